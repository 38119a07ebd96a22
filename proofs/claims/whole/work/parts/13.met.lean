/-! A METHOD's TABLE GIVES ITS CONTRACT; all methods at once, by the depth of calls -/
def xm_Stop (cc : ByteArray) (ret : Option FieldType) (pc k : Nat) : Prop := match k with
  | 0 => decode cc pc = .ok (.return_, 1) ∧ ret = none
  | 1 => decode cc pc = .ok (.ireturn, 1) ∧ ret = some .int
  | 2 => decode cc pc = .ok (.lreturn, 1) ∧ ret = some .long
  | 3 => decode cc pc = .ok (.areturn, 1) ∧ ∃ n, ret = some (.object n)
  | 4 => decode cc pc = .ok (.ireturn, 1) ∧ ret = some .boolean
  | _ => True
abbrev xm_PM : Type := Nat → MethodName × ByteArray × Nat × Option FieldType
abbrev xm_wm (pm : xm_PM) (mi : Nat) : List Cond := Cond.code (pm mi).1 (pm mi).2.1 (pm mi).2.2.1 (pm mi).2.2.2 :: xm_W
/-- the contracts of all methods, to a depth -/
def xm_All (pg : Nat → Nat × xm_T) (pm : xm_PM) (l : Launch) (cA : Nat → ClassId) (D : va_G) (tS : Nat → Nat) (d : Nat) : Prop := ∀ mi as M v M1 mc ms, xm_Do pg d mi as M v M1 mc ms → ∀ (ad : xm_A) (sz : Nat), xm_Ok M [] as → xm_St ad tS → Met l (pm mi).1 (xm_wm pm mi) (xm_room d mc ms) (xm_Pc cA D tS ad M as sz) (xm_Qc cA D tS ad M sz v M1) mc ms (va_A (xm_ws cA ad M) sz)
def xm_Ent (R : Room) (G : Nat → xm_S → Prop) (cal : xm_Cal) (pc : Nat) (e : xm_E) : Prop := match e with
  | .inl f => xm_Snd R G pc f
  | .inr (.inl (mi, k, t)) => xm_SndC R G cal pc mi k t
  | .inr (.inr _) => True
def xm_Oks (P : Nat → xm_E → Prop) : xm_T → Prop
  | [] => True
  | q :: r => P q.1 q.2 ∧ xm_Oks P r
theorem xm_Oks.of {P : Nat → xm_E → Prop} : ∀ {tb : xm_T} {pc : Nat} {e : xm_E}, xm_Oks P tb → xm_at tb pc = some e → P pc e := by
  intro tb
  induction tb with
  | nil => intro pc e _ h; cases h
  | cons q r ih =>
    intro pc e h h1
    obtain ⟨q1, q2⟩ := q
    unfold xm_at at h1
    split at h1
    · rename_i h2
      cases h1
      subst h2
      exact h.1
    · exact ih h.2 h1
/-- what is to be shown of each method's table -/
def xm_MOk (pg : Nat → Nat × xm_T) (pm : xm_PM) (mi : Nat) : Prop := plainName (pm mi).1.cls = true ∧ (pg mi).1 = (pm mi).2.2.1 ∧ xm_Oks (fun pc e => match e with | .inr (.inr k) => xm_Stop (pm mi).2.1 (pm mi).2.2.2 pc k | _ => True) (pg mi).2 ∧
  ∀ (d mc ms : Nat) (p : Program) (l : Launch) (e : Env) (s : State) (m : MethodId) (args : Array Value) (below : List Frame) (meth : Method) (c : Code) (Q : State → Prop) (cA : Nat → ClassId) (D : va_G) (A : Nat → Prop) (tS : Nat → Nat) (ad0 : xm_A) (o0 : List (Nat × Nat)) (G : Nat → xm_S → Prop), xm_IsG p l e (xm_room (d + 1) mc ms) s m args below meth c Q cA D A tS (pm mi).2.2.1 ad0 o0 G → xm_Cx p s m args c (pm mi).2.1 (pm mi).2.2.1 (pm mi).1.cls (xm_wm pm mi) cA D A tS → meth.name = (pm mi).1.name → xm_All pg pm l cA D tS d → xm_Oks (xm_Ent (xm_room (d + 1) mc ms) G (xm_Do pg d)) (pg mi).2
theorem xm_narZ {v : Int32} (h : v = 0 ∨ v = 1) : narrow .boolean (.int v) = .int v := by
  rcases h with rfl | rfl <;> rfl
theorem xm_all {pg : Nat → Nat × xm_T} {pm : xm_PM} (hok : ∀ mi, xm_MOk pg pm mi) (l : Launch) (cA : Nat → ClassId) (D : va_G) (tS : Nat → Nat) : ∀ d, xm_All pg pm l cA D tS d := by
  intro d
  induction d with
  | zero =>
    intro mi as M v M1 mc ms h
    exact h.elim
  | succ d ih =>
    intro mi as M v M1 mc ms h ad sz hokA hst
    obtain ⟨hlen, pc, lv, st, k, ⟨n, hRn⟩, hstop, hret⟩ := h
    obtain ⟨hy, hnl, hstops, htab⟩ := hok mi
    have hS9 := hstops.of hstop
    dsimp only at hS9
    refine Met.ofW (cc := (pm mi).2.1) (maxL := (pm mi).2.2.1) (ret := (pm mi).2.2.2) hy rfl ?_
    intro p e s m args below meth c s₁ B hml hv
    obtain ⟨rfl, hsz, hP, hK, hD0, hSx, hNx⟩ := hv
    have hx := B.exec
    have hb := B.bytes
    have hr := B.returns
    have hts := atoms_spec (ws := xm_wm pm mi) B.pre
    have hown : s.vm.findClass (pm mi).1.cls = some m.cls := findClass_of_methodNamed B.named
    have hlocks := B.notSynchronized
    have hin : meth.name = (pm mi).1.name := (name_of_methodNamed B.named B.method).1
    subst hsz
    have hD := hD0.self (sz := s.heap.size)
    obtain ⟨A, hAe⟩ : ∃ A, A = va_A (xm_ws cA ad M) s.heap.size := ⟨_, rfl⟩
    rw [← hAe] at hD hSx ⊢
    have hA : ∀ q : Nat, s.heap.size ≤ q → A q := fun q h => by rw [hAe]; exact Or.inr h
    have hS : va_S A s.heap s.heap [] := va_S.rf
    have hl := lv_entry (as.map (xm_rv ad)) (n := (pm mi).2.2.1) (by rw [xm_sl, ← hnl]; exact hlen)
    rw [lg_entry_eq]
    generalize (lg_sl (as.map (xm_rv ad)) ++ List.replicate ((pm mi).2.2.1 - (lg_sl (as.map (xm_rv ad))).length) Slot.unset).toArray = ls at hl ⊢
    rw [xm_args] at hl
    have hC : xm_Cx p s m (as.map (xm_rv ad)).toArray c (pm mi).2.1 (pm mi).2.2.1 (pm mi).1.cls (xm_wm pm mi) cA D A tS := ⟨hx, hb, hml, hown, hts, hK, hA, hSx, hNx⟩
    obtain ⟨G, hG⟩ : ∃ G : Nat → xm_S → Prop, xm_IsG p l e (xm_room (d + 1) mc ms) s m (as.map (xm_rv ad)).toArray below meth c (MQ below (xm_Qc cA D tS ad M s.heap.size v M1) (as.map (xm_rv ad)).toArray s mc ms A) cA D A tS (pm mi).2.2.1 ad (xm_o M) G := ⟨_, fun pc S => Iff.rfl⟩
    have hT := htab d mc ms p l e s m _ below meth c _ cA D A tS ad (xm_o M) G hG hC hin ih
    have key := (xm_sound (R := xm_room (d + 1) mc ms) (G := G) (cal := xm_Do pg d) (tb := (pg mi).2) (fun pc f h9 => hT.of h9) (fun pc mi' k t h9 => hT.of h9) n 0 _ pc _ hRn (Nat.le_refl _) (Nat.le_refl _)).2
    have hend : G pc (lv, st, M1, mc, ms) := by
      refine (hG _ _).mpr fun ad' H locs ls hA9 => ?_
      obtain ⟨q1, q2, q3, q4, q5, q6, q7⟩ := hA9
      have hq9 : ∀ (w : Option xm_V), xm_Ok M1 [] w.toList → ∀ t : State, t.heap = H → s.WarmedH t.vm → v = w → xm_Qc cA D tS ad M s.heap.size v M1 (as.map (xm_rv ad)).toArray s (.returned (w.map (xm_rv ad'))) t := by
        intro w hw t ht hW e9
        subst e9
        exact ⟨⟨ad', rfl, by rw [ht]; exact q1, by rw [← hAe]; exact q2, q7, q6, hw⟩, by rw [← hAe]; exact q3.F ht⟩
      have hok1 : ∀ w, w ∈ st → xm_Ok M1 [] [w] := fun w hw => ⟨(fun x hx => by cases hx), (fun x hx => by rw [List.mem_singleton.mp hx]; exact q5.2.1 w hw), q5.2.2⟩
      have hok0 : xm_Ok M1 [] [] := ⟨(fun x hx => by cases hx), (fun x hx => by cases hx), q5.2.2⟩
      unfold xm_ret at hret
      split at hret
      · obtain ⟨rfl, hv⟩ := hret
        exact W.vret hx hb (hr.trans hS9.2) (fun t ht hW => hq9 none hok0 t ht hW hv) q3.2.2 hS9.1
      · obtain ⟨x, rfl, hv⟩ := hret
        exact W.iret hx hb (hr.trans hS9.2) (fun t ht hW => hq9 (some (xm_i x)) (hok1 _ List.mem_cons_self) t ht hW hv) q3.2.2 hS9.1
      · obtain ⟨x, rfl, hv⟩ := hret
        exact W.lret hx hb (hr.trans hS9.2) (fun t ht hW => hq9 (some (xm_l x)) (hok1 _ List.mem_cons_self) t ht hW hv) q3.2.2 hS9.1
      · obtain ⟨c9, i9, rfl, hv⟩ := hret
        obtain ⟨h8, n9, h7⟩ := hS9
        exact W.aret hx hb (hr.trans h7) (Or.inl ⟨n9, rfl⟩) (Or.inr ⟨ad' (c9, i9), rfl⟩) (fun t ht hW => hq9 (some (xm_r c9 i9)) (hok1 _ List.mem_cons_self) t ht hW hv) q3.2.2 h8
      · obtain ⟨x, hx01, rfl, hv⟩ := hret
        exact W.zret hx hb (hr.trans hS9.2) (xm_narZ hx01) (fun t ht hW => hq9 (some (xm_i x)) (hok1 _ List.mem_cons_self) t ht hW hv) q3.2.2 hS9.1
      · exact hret.elim
    exact (hG _ _).mp (key hend) ad s.heap [] ls ⟨hP, hD, hS, hl, ⟨xm_en_ok _ _ hokA.2.1, (fun x hx => by cases hx), hokA.2.2⟩, hst, fun q hq => ⟨rfl, hq⟩⟩
