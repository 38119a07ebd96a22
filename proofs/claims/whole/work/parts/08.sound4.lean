/-! THE MACHINE KEEPS THE STEPS (4): arrays, tables, new cells -/
theorem xm_kd_lt {c : Nat} (h : (xm_kd c).1 ≠ 6) : c < 21 := by
  apply Classical.byContradiction
  intro h9
  apply h
  unfold xm_kd
  split <;> first | rfl | omega
theorem xm_arrI {cA : Nat → ClassId} {ad : xm_A} {M : xm_M} {q : Nat × Nat} (h : (xm_kd q.1).1 = 1) : xm_cell cA ad M q = .inl (cA 1, M.2.2.2.1 q.1 q.2, .inl (fun j => M.1 q.1 j q.2)) := by
  unfold xm_cell
  rw [h]
  rfl
theorem xm_arrZ {cA : Nat → ClassId} {ad : xm_A} {M : xm_M} {q : Nat × Nat} (h : (xm_kd q.1).1 = 3) : xm_cell cA ad M q = .inl (cA 3, M.2.2.2.1 q.1 q.2, .inl (fun j => M.1 q.1 j q.2)) := by
  unfold xm_cell
  rw [h]
  rfl
theorem xm_arrL {cA : Nat → ClassId} {ad : xm_A} {M : xm_M} {q : Nat × Nat} (h : (xm_kd q.1).1 = 2) : xm_cell cA ad M q = .inl (cA 2, M.2.2.2.1 q.1 q.2, .inr (.inl (fun j => M.2.1 q.1 j q.2))) := by
  unfold xm_cell
  rw [h]
  rfl
theorem xm_arrR {cA : Nat → ClassId} {ad : xm_A} {M : xm_M} {q : Nat × Nat} {t : Nat} (h : (xm_kd q.1).1 = t) (ht : t = 4 ∨ t = 5) : xm_cell cA ad M q = .inl (cA t, M.2.2.2.1 q.1 q.2, .inr (.inr (.inr (.inr (fun j => (M.2.2.1 q.1 j q.2).map ad))))) := by
  unfold xm_cell
  rw [h]
  rcases ht with rfl | rfl <;> rfl
theorem xm_arr {cA : Nat → ClassId} {ad : xm_A} {M : xm_M} {q : Nat × Nat} {t : Nat} (h : (xm_kd q.1).1 = t) (h0 : t ≠ 0) (h6 : t ≠ 6) : ∃ z, xm_cell cA ad M q = .inl (cA t, M.2.2.2.1 q.1 q.2, z) ∧ 1 ≤ t ∧ t ≤ 5 := by
  have ht : t = 1 ∨ t = 2 ∨ t = 3 ∨ t = 4 ∨ t = 5 := by
    subst h
    unfold xm_kd at h0 h6 ⊢
    split at h0 <;> simp_all
  unfold xm_cell
  rw [h]
  rcases ht with rfl | rfl | rfl | rfl | rfl <;> exact ⟨_, rfl, by omega, by omega⟩
section XG4
variable {p : Program} {l : Launch} {e : Env} {R : Room} {s : State} {m : MethodId} {args : Array Value} {below : List Frame} {meth : Method} {c : Code} {Q : State → Prop}
variable {cc : ByteArray} {nL : Nat} {own : String} {Ts : List Cond} {cA : Nat → ClassId} {D : va_G} {A : Nat → Prop} {tS : Nat → Nat} {ad0 : xm_A} {o0 : List (Nat × Nat)} {G : Nat → xm_S → Prop}
theorem xm_q {M : xm_M} {q : Nat × Nat} (h : xm_vok M (.inr (.inr (some q)))) (hk : (xm_kd q.1).1 ≠ 6) : q ∈ xm_o M := by
  rcases h with h | h
  · exact h
  · exact absurd (xm_kd_lt hk) (Nat.not_lt.mpr h)
/-- reading an array of the world -/
theorem sn_ald (hG : xm_IsG p l e R s m args below meth c Q cA D A tS nL ad0 o0 G) {pc n : Nat} {f : xm_F}
    (inv : ∀ {S pc1 S1}, f S = some (pc1, S1) → ∃ q x r v, S.2.1 = .inl x :: .inr (.inr (some q)) :: r ∧ pc1 = n ∧ S1 = (S.1, v :: r, S.2.2) ∧ (xm_kd q.1).1 ≠ 6 ∧ (∀ z, v = .inr (.inr (some z)) → ∃ j, S.2.2.1.2.2.1 q.1 j q.2 = some z) ∧
      ∀ (ad : xm_A) (H : Heap) (locs : List Loc) (cells slots : Nat) (ls : Array Slot) (rest : List Value) (q0 : Nat) (ws : va_W), va_P D vwCl ws H → ws[q0]? = some (ad q, xm_cell cA ad S.2.2.1 q) → W p l e R s m args below meth c H locs cells slots Q (F0 m n ls (xm_rv ad v :: rest)) → W p l e R s m args below meth c H locs cells slots Q (F0 m pc ls (.int x :: .ref (ad q) :: rest))) : xm_Snd R G pc f := by
  intro S pc1 S1 h
  obtain ⟨q, x, r, v, h1, rfl, rfl, h6, hv, row⟩ := inv h
  obtain ⟨lv, st, M, kc, ks⟩ := S
  dsimp only at h1 hv row ⊢
  subst h1
  refine ⟨⟨Nat.le_refl _, Nat.le_refl _⟩, fun _ _ kk => (hG _ _).mpr fun ad H locs ls hA => ?_⟩
  obtain ⟨q1, q2, q3, q4, q5, q6, q7⟩ := id hA
  have hq : q ∈ xm_o M := xm_q (q5.2.1 _ (List.mem_cons_of_mem _ List.mem_cons_self)) h6
  obtain ⟨j, hj, hw⟩ := xm_in (cA := cA) (ad := ad) hq
  refine row ad H locs _ _ ls _ j _ q1 hw ((hG _ _).mp kk ad H locs ls ⟨q1, q2, q3, q4, ⟨q5.1, fun w hw => ?_, q5.2.2⟩, q6, q7⟩)
  rcases List.mem_cons.mp hw with rfl | hw
  · rcases w with x9 | x9 | r9
    · trivial
    · trivial
    · cases r9 with
      | none => trivial
      | some z =>
        obtain ⟨j9, h9⟩ := hv z rfl
        exact Or.inl (q5.2.2 _ hq j9 z h9)
  · exact q5.2.1 w (List.mem_cons_of_mem _ (List.mem_cons_of_mem _ hw))
theorem sn_iald (hG : xm_IsG p l e R s m args below meth c Q cA D A tS nL ad0 o0 G) {pc n : Nat}
    (row : ∀ (H : Heap) (locs : List Loc) (cells slots : Nat) (ls : Array Slot) (rest : List Value) (q0 : Nat) (ws : va_W) (a N : Nat) (f : Nat → Int32) (x : Int32), va_P D vwCl ws H → ws[q0]? = some (a, .inl (cA 1, N, .inl f)) → vp_in x N → W p l e R s m args below meth c H locs cells slots Q (F0 m n ls (.int (f x.toNatClampNeg) :: rest)) → W p l e R s m args below meth c H locs cells slots Q (F0 m pc ls (.int x :: .ref a :: rest))) : xm_Snd R G pc (xs_iald n) := by
  refine sn_ald hG (n := n) fun {S pc1 S1} h => ?_
  unfold xs_iald at h
  split at h
  · rename_i x q r h1
    split at h
    · rename_i hk
      split at h
      · rename_i hin
        cases h
        refine ⟨q, x, r, _, h1, rfl, rfl, (by rw [hk]; decide), (fun z h9 => by cases h9), fun ad H locs cells slots ls rest q0 ws hP hw k => ?_⟩
        rw [xm_arrI hk] at hw
        exact row H locs cells slots ls rest q0 ws _ _ _ x hP hw (vp_in_iff.mpr hin) k
      · cases h
    · cases h
  · cases h
theorem sn_zald (hG : xm_IsG p l e R s m args below meth c Q cA D A tS nL ad0 o0 G) {pc n : Nat}
    (row : ∀ (H : Heap) (locs : List Loc) (cells slots : Nat) (ls : Array Slot) (rest : List Value) (q0 : Nat) (ws : va_W) (a N : Nat) (f : Nat → Int32) (x : Int32), va_P D vwCl ws H → ws[q0]? = some (a, .inl (cA 3, N, .inl f)) → vp_in x N → W p l e R s m args below meth c H locs cells slots Q (F0 m n ls (.int (f x.toNatClampNeg) :: rest)) → W p l e R s m args below meth c H locs cells slots Q (F0 m pc ls (.int x :: .ref a :: rest))) : xm_Snd R G pc (xs_zald n) := by
  refine sn_ald hG (n := n) fun {S pc1 S1} h => ?_
  unfold xs_zald at h
  split at h
  · rename_i x q r h1
    split at h
    · rename_i hk
      split at h
      · rename_i hin
        cases h
        refine ⟨q, x, r, _, h1, rfl, rfl, (by rw [hk]; decide), (fun z h9 => by cases h9), fun ad H locs cells slots ls rest q0 ws hP hw k => ?_⟩
        rw [xm_arrZ hk] at hw
        exact row H locs cells slots ls rest q0 ws _ _ _ x hP hw (vp_in_iff.mpr hin) k
      · cases h
    · cases h
  · cases h
theorem sn_lald (hG : xm_IsG p l e R s m args below meth c Q cA D A tS nL ad0 o0 G) {pc n : Nat}
    (row : ∀ (H : Heap) (locs : List Loc) (cells slots : Nat) (ls : Array Slot) (rest : List Value) (q0 : Nat) (ws : va_W) (a N : Nat) (f : Nat → Int64) (x : Int32), va_P D vwCl ws H → ws[q0]? = some (a, .inl (cA 2, N, .inr (.inl f))) → vp_in x N → W p l e R s m args below meth c H locs cells slots Q (F0 m n ls (.long (f x.toNatClampNeg) :: rest)) → W p l e R s m args below meth c H locs cells slots Q (F0 m pc ls (.int x :: .ref a :: rest))) : xm_Snd R G pc (xs_lald n) := by
  refine sn_ald hG (n := n) fun {S pc1 S1} h => ?_
  unfold xs_lald at h
  split at h
  · rename_i x q r h1
    split at h
    · rename_i hk
      split at h
      · rename_i hin
        cases h
        refine ⟨q, x, r, _, h1, rfl, rfl, (by rw [hk]; decide), (fun z h9 => by cases h9), fun ad H locs cells slots ls rest q0 ws hP hw k => ?_⟩
        rw [xm_arrL hk] at hw
        exact row H locs cells slots ls rest q0 ws _ _ _ x hP hw (vp_in_iff.mpr hin) k
      · cases h
    · cases h
  · cases h
theorem sn_aald (hG : xm_IsG p l e R s m args below meth c Q cA D A tS nL ad0 o0 G) {pc n t : Nat} (ht : t = 4 ∨ t = 5)
    (row : ∀ (H : Heap) (locs : List Loc) (cells slots : Nat) (ls : Array Slot) (rest : List Value) (q0 : Nat) (ws : va_W) (a N : Nat) (f : Nat → Option Nat) (x : Int32), va_P D vwCl ws H → ws[q0]? = some (a, .inl (cA t, N, .inr (.inr (.inr (.inr f))))) → vp_in x N → W p l e R s m args below meth c H locs cells slots Q (F0 m n ls (va_rf (f x.toNatClampNeg) :: rest)) → W p l e R s m args below meth c H locs cells slots Q (F0 m pc ls (.int x :: .ref a :: rest))) : xm_Snd R G pc (xs_aald n t) := by
  refine sn_ald hG (n := n) fun {S pc1 S1} h => ?_
  unfold xs_aald at h
  split at h
  · rename_i x q r h1
    split at h
    · rename_i hk
      split at h
      · rename_i z hz
        cases h
        refine ⟨q, x, r, _, h1, rfl, rfl, (by rw [hk.1]; omega), (fun z h9 => by cases h9; exact ⟨_, hz⟩), fun ad H locs cells slots ls rest q0 ws hP hw k => ?_⟩
        rw [xm_arrR hk.1 ht] at hw
        refine row H locs cells slots ls rest q0 ws _ _ _ x hP hw (vp_in_iff.mpr hk.2) ?_
        rw [hz]
        exact k
      · cases h
    · cases h
  · cases h
/-- writing an array of the world -/
theorem sn_ast (hG : xm_IsG p l e R s m args below meth c Q cA D A tS nL ad0 o0 G) {pc n : Nat} {f : xm_F}
    (inv : ∀ {S pc1 S1}, f S = some (pc1, S1) → ∃ q x r v M', S.2.1 = v :: .inl x :: .inr (.inr (some q)) :: r ∧ pc1 = n ∧ S1 = (S.1, r, M', S.2.2.2) ∧ (xm_kd q.1).1 ≠ 6 ∧ xm_o M' = xm_o S.2.2.1 ∧ (∀ ad q', q' ≠ q → xm_cell cA ad M' q' = xm_cell cA ad S.2.2.1 q') ∧ (∀ (y : Nat × Nat) (k' : Nat) (q' : Nat × Nat), M'.2.2.1 y.1 k' y.2 = some q' → S.2.2.1.2.2.1 y.1 k' y.2 = some q' ∨ v = .inr (.inr (some q'))) ∧ (∀ z, v = .inr (.inr (some z)) → (xm_kd z.1).1 ≠ 6) ∧
      ∀ (ad : xm_A) (H : Heap) (locs : List Loc) (cells slots : Nat) (ls : Array Slot) (rest : List Value) (q0 : Nat) (ws : va_W), va_P D vwCl ws H → va_D A ws → va_S A s.heap H locs → ws[q0]? = some (ad q, xm_cell cA ad S.2.2.1 q) → (∀ z, v = .inr (.inr (some z)) → ∃ k : Nat, ws[k]? = some (ad z, xm_cell cA ad S.2.2.1 z)) → (∀ (H1 : Heap) (locs1 : List Loc), va_P D vwCl (ws.set q0 (ad q, xm_cell cA ad M' q)) H1 → va_D A (ws.set q0 (ad q, xm_cell cA ad M' q)) → va_S A s.heap H1 locs1 → W p l e R s m args below meth c H1 locs1 cells slots Q (F0 m n ls rest)) → W p l e R s m args below meth c H locs cells slots Q (F0 m pc ls (xm_rv ad v :: .int x :: .ref (ad q) :: rest))) : xm_Snd R G pc f := by
  intro S pc1 S1 h
  obtain ⟨q, x, r, v, M', h1, rfl, rfl, h6, ho, hcell, hR, hv6, row⟩ := inv h
  obtain ⟨lv, st, M, kc, ks⟩ := S
  dsimp only at h1 ho hcell hR row ⊢
  subst h1
  refine ⟨⟨Nat.le_refl _, Nat.le_refl _⟩, fun _ _ kk => (hG _ _).mpr fun ad H locs ls hA => ?_⟩
  obtain ⟨q1, q2, q3, q4, q5, q6, q7⟩ := id hA
  have hq : q ∈ xm_o M := xm_q (q5.2.1 _ (List.mem_cons_of_mem _ (List.mem_cons_of_mem _ List.mem_cons_self))) h6
  obtain ⟨j, hj, hw⟩ := xm_in (cA := cA) (ad := ad) hq
  have hz : ∀ z, v = .inr (.inr (some z)) → (xm_kd z.1).1 ≠ 6 → z ∈ xm_o M := fun z h9 h8 => xm_q (h9 ▸ q5.2.1 v List.mem_cons_self) h8
  refine row ad H locs _ _ ls _ j _ q1 q2 q3 hw (fun z h9 => ?_) fun H1 locs1 p1 p2 p3 => ?_
  · obtain ⟨k, -, h8⟩ := xm_in (cA := cA) (ad := ad) (hz z h9 (hv6 z h9))
    exact ⟨k, h8⟩
  · rw [xm_set q2 hj ho (hcell ad)] at p1 p2
    exact (hG _ _).mp kk ad H1 locs1 ls (xm_Sd_put hA ho (fun w hw => List.mem_cons_of_mem _ (List.mem_cons_of_mem _ (List.mem_cons_of_mem _ hw))) (fun y hy k' q' h9 => (hR y k' q' h9).imp id fun h8 => hz q' h8 (hv6 q' h8)) p1 p2 p3)
end XG4
