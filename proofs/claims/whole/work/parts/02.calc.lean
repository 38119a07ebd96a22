/-! THE CALCULUS: a small machine of our own, over typed memory; no JVM in it. A value: an int, a long, or a reference (class tag, number) or null -/
abbrev xm_V : Type := Int32 ⊕ Int64 ⊕ Option (Nat × Nat)
abbrev xm_i (x : Int32) : xm_V := .inl x
abbrev xm_l (x : Int64) : xm_V := .inr (.inl x)
abbrev xm_r (c i : Nat) : xm_V := .inr (.inr (some (c, i)))
abbrev xm_n : xm_V := .inr (.inr none)
/-- memory: ints, longs, references by class tag, field (or place), object; lengths; which objects there are, in the order of their making -/
abbrev xm_M : Type := (Nat → Nat → Nat → Int32) × (Nat → Nat → Nat → Int64) × (Nat → Nat → Nat → Option (Nat × Nat)) × (Nat → Nat → Nat) × List (Nat × Nat)
def xm_up {α : Type} (f : Nat → Nat → Nat → α) (c k i : Nat) (v : α) : Nat → Nat → Nat → α := fun c' k' i' => if c' = c then (if k' = k then (if i' = i then v else f c' k' i') else f c' k' i') else f c' k' i'
abbrev xm_L : Type := List (Nat × xm_V)
abbrev xm_S : Type := xm_L × List xm_V × xm_M × Nat × Nat
/-- category of a value -/
def xm_cat (v : xm_V) : Nat := match v with
  | .inl _ => 1
  | .inr (.inl _) => 2
  | .inr (.inr _) => 1
def xm_ld (lv : xm_L) (i : Nat) : Option xm_V := match lv with
  | [] => none
  | q :: r => if q.1 = i then some q.2 else xm_ld r i
def xm_sf1 (lv : xm_L) (i : Nat) (v : xm_V) : xm_L := (i, v) :: lv.filter (fun q => !(q.1 == i) && !(q.1 + 1 == i && xm_cat q.2 == 2))
def xm_sf2 (lv : xm_L) (i : Nat) (v : xm_V) : xm_L := (i, v) :: lv.filter (fun q => !(q.1 == i) && (!(q.1 == i + 1) && !(q.1 + 1 == i && xm_cat q.2 == 2)))
/-- locals are kept in the order of their numbers -/
def xm_ins (q : Nat × xm_V) : xm_L → xm_L
  | [] => [q]
  | r :: rs => if q.1 ≤ r.1 then q :: r :: rs else r :: xm_ins q rs
def xm_srt : xm_L → xm_L
  | [] => []
  | q :: r => xm_ins q r
def xm_st1 (lv : xm_L) (i : Nat) (v : xm_V) : xm_L := xm_srt (xm_sf1 lv i v)
def xm_st2 (lv : xm_L) (i : Nat) (v : xm_V) : xm_L := xm_srt (xm_sf2 lv i v)
theorem xm_ins_mem {q x : Nat × xm_V} {l : xm_L} : x ∈ xm_ins q l → x ∈ q :: l := by
  induction l with
  | nil => exact id
  | cons r rs ih =>
    unfold xm_ins
    split
    · exact id
    · intro h
      rcases List.mem_cons.mp h with h | h
      · rw [h]; exact List.mem_cons_of_mem _ List.mem_cons_self
      · rcases List.mem_cons.mp (ih h) with h | h
        · rw [h]; exact List.mem_cons_self
        · exact List.mem_cons_of_mem _ (List.mem_cons_of_mem _ h)
theorem xm_srt_mem {x : Nat × xm_V} {l : xm_L} (h : x ∈ xm_srt l) : x ∈ l := by
  cases l with
  | nil => exact h
  | cons q r => exact xm_ins_mem h
abbrev xm_F : Type := xm_S → Option (Nat × xm_S)
/-- an entry of a method's table: a step; a call (method, how many arguments, the receiver's tag + 1 or 0); a stop (kind) -/
abbrev xm_E : Type := xm_F ⊕ (Nat × Nat × Nat) ⊕ Nat
abbrev xm_T : Type := List (Nat × xm_E)
def xm_at : xm_T → Nat → Option xm_E
  | [], _ => none
  | (q, e) :: r, pc => if q = pc then some e else xm_at r pc
abbrev xm_Cal : Type := Nat → List xm_V → xm_M → Option xm_V → xm_M → Nat → Nat → Prop
/-- the receiver is of the class that the call names -/
def xm_rc (t : Nat) (as : List xm_V) : Prop := t = 0 ∨ ∃ i r, as = xm_r (t - 1) i :: r
/-- n steps from (pc, S) come to the stop (pc', S') -/
def xm_Rn (cal : xm_Cal) (tb : xm_T) : Nat → Nat → xm_S → Nat → xm_S → Prop
  | 0, pc, S, pc', S' => pc = pc' ∧ S = S' ∧ ∃ k, xm_at tb pc = some (.inr (.inr k))
  | n + 1, pc, S, pc', S' => (∃ f pc1 S1, xm_at tb pc = some (.inl f) ∧ f S = some (pc1, S1) ∧ xm_Rn cal tb n pc1 S1 pc' S') ∨
      (∃ mi k t lv as rest M kc ks v M1 mc ms, xm_at tb pc = some (.inr (.inl (mi, k, t))) ∧ S = (lv, as.reverse ++ rest, M, kc, ks) ∧ as.length = k ∧ xm_rc t as ∧ (rest.map xm_cat).sum ≤ 8 ∧ cal mi as M v M1 mc ms ∧ xm_Rn cal tb n (pc + 3) (lv, v.toList ++ rest, M1, kc + mc, ks + ms) pc' S')
def xm_R (cal : xm_Cal) (tb : xm_T) (pc : Nat) (S : xm_S) (pc' : Nat) (S' : xm_S) : Prop := ∃ n, xm_Rn cal tb n pc S pc' S'
theorem xm_R.stop {cal : xm_Cal} {tb : xm_T} {pc : Nat} {S : xm_S} {k : Nat} (h : xm_at tb pc = some (.inr (.inr k))) : xm_R cal tb pc S pc S := ⟨0, rfl, rfl, k, h⟩
theorem xm_R.step {cal : xm_Cal} {tb : xm_T} {pc pc' pc1 : Nat} {S S' S1 : xm_S} {f : xm_F} (h : xm_at tb pc = some (.inl f)) (hf : f S = some (pc1, S1)) (k : xm_R cal tb pc1 S1 pc' S') : xm_R cal tb pc S pc' S' := by
  obtain ⟨n, k⟩ := k
  exact ⟨n + 1, Or.inl ⟨f, pc1, S1, h, hf, k⟩⟩
theorem xm_R.ite {cal : xm_Cal} {tb : xm_T} {pc pc' : Nat} {S S' : xm_S} {f : xm_F} {p : Prop} [Decidable p] {a b : Nat × xm_S} (h : xm_at tb pc = some (.inl f)) (hf : f S = some (if p then a else b)) (k1 : p → xm_R cal tb a.1 a.2 pc' S') (k2 : ¬ p → xm_R cal tb b.1 b.2 pc' S') : xm_R cal tb pc S pc' S' := by
  by_cases hp : p
  · rw [if_pos hp] at hf
    exact xm_R.step h hf (k1 hp)
  · rw [if_neg hp] at hf
    exact xm_R.step h hf (k2 hp)
theorem xm_R.call {cal : xm_Cal} {tb : xm_T} {pc pc' : Nat} {S' : xm_S} {mi k t : Nat} {lv : xm_L} {st : List xm_V} (as rest : List xm_V) {M M1 : xm_M} {kc ks mc ms : Nat} {v : Option xm_V} (h : xm_at tb pc = some (.inr (.inl (mi, k, t)))) (hs : st = as.reverse ++ rest) (hk : as.length = k) (ht : xm_rc t as) (hr : (rest.map xm_cat).sum ≤ 8) (hc : cal mi as M v M1 mc ms) (kk : xm_R cal tb (pc + 3) (lv, v.toList ++ rest, M1, kc + mc, ks + ms) pc' S') : xm_R cal tb pc (lv, st, M, kc, ks) pc' S' := by
  obtain ⟨n, kk⟩ := kk
  subst hs
  exact ⟨n + 1, Or.inr ⟨mi, k, t, lv, as, rest, M, kc, ks, v, M1, mc, ms, h, rfl, hk, ht, hr, hc, kk⟩⟩
/-- k straight steps -/
def xm_run (tb : xm_T) : Nat → Nat → xm_S → Option (Nat × xm_S)
  | 0, pc, S => some (pc, S)
  | k + 1, pc, S => match xm_at tb pc with
    | some (.inl f) => match f S with
      | some q => xm_run tb k q.1 q.2
      | none => none
    | _ => none
theorem xm_R.run {cal : xm_Cal} {tb : xm_T} (k : Nat) : ∀ {pc : Nat} {S : xm_S} {q : Nat × xm_S} {pc' : Nat} {S' : xm_S}, xm_run tb k pc S = some q → xm_R cal tb q.1 q.2 pc' S' → xm_R cal tb pc S pc' S' := by
  induction k with
  | zero =>
    intro pc S q pc' S' h kk
    cases h
    exact kk
  | succ k ih =>
    intro pc S q pc' S' h kk
    unfold xm_run at h
    cases ha : xm_at tb pc with
    | none => rw [ha] at h; cases h
    | some e =>
      rw [ha] at h
      cases e with
      | inr _ => cases h
      | inl f =>
        dsimp only at h
        cases hf : f S with
        | none => rw [hf] at h; cases h
        | some q1 =>
          rw [hf] at h
          exact xm_R.step ha hf (ih h kk)
/-- what stands on the stack at a stop of that kind: nothing (0), an int (1), a long (2), a reference (3), a boolean (4) -/
def xm_ret (k : Nat) (st : List xm_V) (v : Option xm_V) : Prop := match k with
  | 0 => st = [] ∧ v = none
  | 1 => ∃ x, st = [xm_i x] ∧ v = some (xm_i x)
  | 2 => ∃ x, st = [xm_l x] ∧ v = some (xm_l x)
  | 3 => ∃ c i, st = [xm_r c i] ∧ v = some (xm_r c i)
  | 4 => ∃ x, (x = 0 ∨ x = 1) ∧ st = [xm_i x] ∧ v = some (xm_i x)
  | _ => False
/-- arguments as locals: a long takes two places -/
def xm_en : Nat → List xm_V → xm_L
  | _, [] => []
  | k, v :: r => (k, v) :: xm_en (k + xm_cat v) r
/-- calls to a depth: method mi of the program (how many locals, its table), its arguments, memory; answer, memory, cells and slots made -/
def xm_Do (pg : Nat → Nat × xm_T) : Nat → xm_Cal
  | 0 => fun _ _ _ _ _ _ _ => False
  | d + 1 => fun mi as M v M' mc ms => (as.map xm_cat).sum ≤ (pg mi).1 ∧ ∃ pc lv st k, xm_R (xm_Do pg d) (pg mi).2 0 (xm_en 0 as, [], M, 0, 0) pc (lv, st, M', mc, ms) ∧ xm_at (pg mi).2 pc = some (.inr (.inr k)) ∧ xm_ret k st v
