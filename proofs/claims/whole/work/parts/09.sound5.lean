/-! THE MACHINE KEEPS THE STEPS (5): writing arrays, lengths, tables, new cells -/
theorem xm_kd_ge {c : Nat} (h : (xm_kd c).1 = 6) : 21 ≤ c := by
  apply Classical.byContradiction
  intro h9
  have h8 : c < 21 := by omega
  have key : ∀ c, c < 21 → (xm_kd c).1 ≠ 6 := by decide
  exact key c h8 h
section XG5
variable {p : Program} {l : Launch} {e : Env} {R : Room} {s : State} {m : MethodId} {args : Array Value} {below : List Frame} {meth : Method} {c : Code} {Q : State → Prop}
variable {cc : ByteArray} {nL : Nat} {own : String} {Ts : List Cond} {cA : Nat → ClassId} {D : va_G} {A : Nat → Prop} {tS : Nat → Nat} {ad0 : xm_A} {o0 : List (Nat × Nat)} {G : Nat → xm_S → Prop}
theorem xm_updI {f : Nat → Nat → Nat → Int32} {c0 k i : Nat} {v : Int32} : (fun j => xm_up f c0 k i v c0 j i) = upd (fun j => f c0 j i) k v := by
  funext j
  rw [xm_up_at]
  by_cases h : j = k
  · subst h; rw [if_pos rfl, pk_us]
  · rw [if_neg h, pk_un h]
theorem xm_updL {f : Nat → Nat → Nat → Int64} {c0 k i : Nat} {v : Int64} : (fun j => xm_up f c0 k i v c0 j i) = vp_updL (fun j => f c0 j i) k v := by
  funext j
  rw [xm_up_at]
  by_cases h : j = k
  · subst h; rw [if_pos rfl, pk_uLs]
  · rw [if_neg h, pk_uLn h]
theorem xm_updR {ad : xm_A} {f : Nat → Nat → Nat → Option (Nat × Nat)} {c0 k i : Nat} {v : Option (Nat × Nat)} : (fun j => (xm_up f c0 k i v c0 j i).map ad) = va_up (fun j => (f c0 j i).map ad) k (v.map ad) := by
  funext j
  rw [xm_up_at]
  by_cases h : j = k
  · subst h; rw [if_pos rfl, va_up_self]
  · rw [if_neg h, va_up_ne _ _ h]
theorem sn_iast (hG : xm_IsG p l e R s m args below meth c Q cA D A tS nL ad0 o0 G) {pc n : Nat}
    (row : ∀ (H : Heap) (locs : List Loc) (cells slots : Nat) (ls : Array Slot) (rest : List Value) (q0 : Nat) (ws : va_W) (a N : Nat) (f : Nat → Int32) (x v : Int32), va_P D vwCl ws H → va_D A ws → va_S A s.heap H locs → ws[q0]? = some (a, .inl (cA 1, N, .inl f)) → vp_in x N → (∀ (H1 : Heap) (locs1 : List Loc), va_P D vwCl (ws.set q0 (a, .inl (cA 1, N, .inl (upd f x.toNatClampNeg v)))) H1 → va_D A (ws.set q0 (a, .inl (cA 1, N, .inl (upd f x.toNatClampNeg v)))) → va_S A s.heap H1 locs1 → W p l e R s m args below meth c H1 locs1 cells slots Q (F0 m n ls rest)) → W p l e R s m args below meth c H locs cells slots Q (F0 m pc ls (.int v :: .int x :: .ref a :: rest))) : xm_Snd R G pc (xs_iast n) := by
  refine sn_ast hG (n := n) fun {S pc1 S1} h => ?_
  unfold xs_iast at h
  split at h
  · rename_i v x q r h1
    split at h
    · rename_i hk
      cases h
      refine ⟨q, x, r, _, _, h1, rfl, rfl, (by rw [hk.1]; decide), rfl, fun ad q' hq => xm_wI_cell hq, fun _ _ _ h9 => Or.inl h9, (fun z h9 => by cases h9), fun ad H locs cells slots ls rest q0 ws hP hD hS hw _ k => ?_⟩
      rw [xm_arrI hk.1] at hw
      refine row H locs cells slots ls rest q0 ws _ _ _ x v hP hD hS hw (vp_in_iff.mpr hk.2) ?_
      have e9 : xm_cell cA ad (xm_wI S.2.2.1 q.1 x.toNatClampNeg q.2 v) q = .inl (cA 1, S.2.2.1.2.2.2.1 q.1 q.2, .inl (upd (fun j => S.2.2.1.1 q.1 j q.2) x.toNatClampNeg v)) := by
        rw [xm_arrI hk.1, ← xm_updI]
        rfl
      rw [e9] at k
      exact k
    · cases h
  · cases h
theorem vp_narZ {v : Int32} (h : v = 0 ∨ v = 1) : vp_nar .boolean v = v := by
  rcases h with rfl | rfl <;> rfl
theorem sn_zast (hG : xm_IsG p l e R s m args below meth c Q cA D A tS nL ad0 o0 G) {pc n : Nat}
    (row : ∀ (H : Heap) (locs : List Loc) (cells slots : Nat) (ls : Array Slot) (rest : List Value) (q0 : Nat) (ws : va_W) (a N : Nat) (f : Nat → Int32) (x v : Int32), va_P D vwCl ws H → va_D A ws → va_S A s.heap H locs → ws[q0]? = some (a, .inl (cA 3, N, .inl f)) → vp_in x N → (∀ (H1 : Heap) (locs1 : List Loc), va_P D vwCl (ws.set q0 (a, .inl (cA 3, N, .inl (upd f x.toNatClampNeg (vp_nar .boolean v))))) H1 → va_D A (ws.set q0 (a, .inl (cA 3, N, .inl (upd f x.toNatClampNeg (vp_nar .boolean v))))) → va_S A s.heap H1 locs1 → W p l e R s m args below meth c H1 locs1 cells slots Q (F0 m n ls rest)) → W p l e R s m args below meth c H locs cells slots Q (F0 m pc ls (.int v :: .int x :: .ref a :: rest))) : xm_Snd R G pc (xs_zast n) := by
  refine sn_ast hG (n := n) fun {S pc1 S1} h => ?_
  unfold xs_zast at h
  split at h
  · rename_i v x q r h1
    split at h
    · rename_i hk
      cases h
      refine ⟨q, x, r, _, _, h1, rfl, rfl, (by rw [hk.1]; decide), rfl, fun ad q' hq => xm_wI_cell hq, fun _ _ _ h9 => Or.inl h9, (fun z h9 => by cases h9), fun ad H locs cells slots ls rest q0 ws hP hD hS hw _ k => ?_⟩
      rw [xm_arrZ hk.1] at hw
      refine row H locs cells slots ls rest q0 ws _ _ _ x v hP hD hS hw (vp_in_iff.mpr hk.2.2) ?_
      have e9 : xm_cell cA ad (xm_wI S.2.2.1 q.1 x.toNatClampNeg q.2 v) q = .inl (cA 3, S.2.2.1.2.2.2.1 q.1 q.2, .inl (upd (fun j => S.2.2.1.1 q.1 j q.2) x.toNatClampNeg v)) := by
        rw [xm_arrZ hk.1, ← xm_updI]
        rfl
      rw [e9] at k
      rw [vp_narZ hk.2.1]
      exact k
    · cases h
  · cases h
theorem sn_last (hG : xm_IsG p l e R s m args below meth c Q cA D A tS nL ad0 o0 G) {pc n : Nat}
    (row : ∀ (H : Heap) (locs : List Loc) (cells slots : Nat) (ls : Array Slot) (rest : List Value) (q0 : Nat) (ws : va_W) (a N : Nat) (f : Nat → Int64) (x : Int32) (v : Int64), va_P D vwCl ws H → va_D A ws → va_S A s.heap H locs → ws[q0]? = some (a, .inl (cA 2, N, .inr (.inl f))) → vp_in x N → (∀ (H1 : Heap) (locs1 : List Loc), va_P D vwCl (ws.set q0 (a, .inl (cA 2, N, .inr (.inl (vp_updL f x.toNatClampNeg v))))) H1 → va_D A (ws.set q0 (a, .inl (cA 2, N, .inr (.inl (vp_updL f x.toNatClampNeg v))))) → va_S A s.heap H1 locs1 → W p l e R s m args below meth c H1 locs1 cells slots Q (F0 m n ls rest)) → W p l e R s m args below meth c H locs cells slots Q (F0 m pc ls (.long v :: .int x :: .ref a :: rest))) : xm_Snd R G pc (xs_last n) := by
  refine sn_ast hG (n := n) fun {S pc1 S1} h => ?_
  unfold xs_last at h
  split at h
  · rename_i v x q r h1
    split at h
    · rename_i hk
      cases h
      refine ⟨q, x, r, _, _, h1, rfl, rfl, (by rw [hk.1]; decide), rfl, fun ad q' hq => xm_wL_cell hq, fun _ _ _ h9 => Or.inl h9, (fun z h9 => by cases h9), fun ad H locs cells slots ls rest q0 ws hP hD hS hw _ k => ?_⟩
      rw [xm_arrL hk.1] at hw
      refine row H locs cells slots ls rest q0 ws _ _ _ x v hP hD hS hw (vp_in_iff.mpr hk.2) ?_
      have e9 : xm_cell cA ad (xm_wL S.2.2.1 q.1 x.toNatClampNeg q.2 v) q = .inl (cA 2, S.2.2.1.2.2.2.1 q.1 q.2, .inr (.inl (vp_updL (fun j => S.2.2.1.2.1 q.1 j q.2) x.toNatClampNeg v))) := by
        rw [xm_arrL hk.1, ← xm_updL]
        rfl
      rw [e9] at k
      exact k
    · cases h
  · cases h
theorem sn_aast (hG : xm_IsG p l e R s m args below meth c Q cA D A tS nL ad0 o0 G) {pc n a0 t ci : Nat} {ts : List Nat} (ha : a0 = 4 ∨ a0 = 5) (hkt : xm_kd t = (0, ci, ts))
    (row : ∀ (H : Heap) (locs : List Loc) (cells slots : Nat) (ls : Array Slot) (rest : List Value) (q0 qk : Nat) (ws : va_W) (a N v : Nat) (vs : List Value) (f : Nat → Option Nat) (x : Int32), va_P D vwCl ws H → va_D A ws → va_S A s.heap H locs → ws[q0]? = some (a, .inl (cA a0, N, .inr (.inr (.inr (.inr f))))) → ws[qk]? = some (v, .inr (ci, vs)) → vp_in x N → (∀ (H1 : Heap) (locs1 : List Loc), va_P D vwCl (ws.set q0 (a, .inl (cA a0, N, .inr (.inr (.inr (.inr (va_up f x.toNatClampNeg (some v)))))))) H1 → va_D A (ws.set q0 (a, .inl (cA a0, N, .inr (.inr (.inr (.inr (va_up f x.toNatClampNeg (some v)))))))) → va_S A s.heap H1 locs1 → W p l e R s m args below meth c H1 locs1 cells slots Q (F0 m n ls rest)) → W p l e R s m args below meth c H locs cells slots Q (F0 m pc ls (.ref v :: .int x :: .ref a :: rest))) : xm_Snd R G pc (xs_aast n a0 t) := by
  refine sn_ast hG (n := n) fun {S pc1 S1} h => ?_
  unfold xs_aast at h
  split at h
  · rename_i z x q r h1
    split at h
    · rename_i hk
      cases h
      obtain ⟨z1, z2⟩ := z
      obtain ⟨hk1, hk2, hk3⟩ := hk
      dsimp only at hk2
      subst hk2
      refine ⟨q, x, r, _, _, h1, rfl, rfl, (by rw [hk1]; omega), rfl, fun ad q' hq => xm_wR_cell hq, fun y k' q' h9 => ?_, (fun z h9 => by cases h9; show (xm_kd z1).1 ≠ 6; rw [hkt]; show (0 : Nat) ≠ 6; decide), fun ad H locs cells slots ls rest q0 ws hP hD hS hw hz k => ?_⟩
      · have h8 : xm_up S.2.2.1.2.2.1 q.1 x.toNatClampNeg q.2 (some (z1, z2)) y.1 k' y.2 = some q' := h9
        by_cases e1 : y.1 = q.1 ∧ y.2 = q.2
        · by_cases e2 : k' = x.toNatClampNeg
          · rw [e1.1, e1.2, e2, xm_up_s] at h8
            cases h8
            exact Or.inr rfl
          · rw [xm_up_k e2] at h8
            exact Or.inl h8
        · rw [xm_up_o e1] at h8
          exact Or.inl h8
      · rw [xm_arrR hk1 ha] at hw
        obtain ⟨qk, hqk⟩ := hz (z1, z2) rfl
        rw [xm_obj (q := (z1, z2)) hkt] at hqk
        refine row H locs cells slots ls rest q0 qk ws _ _ _ _ _ x hP hD hS hw hqk (vp_in_iff.mpr hk3) ?_
        have e9 : xm_cell cA ad (xm_wR S.2.2.1 q.1 x.toNatClampNeg q.2 (some (z1, z2))) q = .inl (cA a0, S.2.2.1.2.2.2.1 q.1 q.2, .inr (.inr (.inr (.inr (va_up (fun j => (S.2.2.1.2.2.1 q.1 j q.2).map ad) x.toNatClampNeg (some (ad (z1, z2)))))))) := by
          rw [xm_arrR hk1 ha, show some (ad (z1, z2)) = (some (z1, z2)).map ad from rfl, ← xm_updR]
          rfl
        rw [e9] at k
        exact k
    · cases h
  · cases h
theorem sn_alen (hG : xm_IsG p l e R s m args below meth c Q cA D A tS nL ad0 o0 G) (hC : xm_Cx p s m args c cc nL own Ts cA D A tS) {pc n : Nat}
    (row : ∀ (H : Heap) (locs : List Loc) (cells slots : Nat) (ls : Array Slot) (rest : List Value) (q0 t : Nat) (ws : va_W) (a N : Nat) (z : (Nat → Int32) ⊕ (Nat → Int64) ⊕ (Nat → UInt32) ⊕ (Nat → UInt64) ⊕ (Nat → Option Nat)), va_P D vwCl ws H → ws[q0]? = some (a, .inl (cA t, N, z)) → 1 ≤ t → t ≤ 5 → W p l e R s m args below meth c H locs cells slots Q (F0 m n ls (.int (Int32.ofNat N) :: rest)) → W p l e R s m args below meth c H locs cells slots Q (F0 m pc ls (.ref a :: rest)))
    (rowT : ∀ (H : Heap) (locs : List Loc) (cells slots : Nat) (ls : Array Slot) (rest : List Value) (t k : Nat), xm_Tb t k A s s.heap → va_S A s.heap H locs → W p l e R s m args below meth c H locs cells slots Q (F0 m n ls (.int 7 :: rest)) → W p l e R s m args below meth c H locs cells slots Q (F0 m pc ls (.ref t :: rest))) : xm_Snd R G pc (xs_alen n) := by
  intro S pc1 S1 h
  unfold xs_alen at h
  split at h
  · rename_i q r h1
    obtain ⟨lv, st, M, kc, ks⟩ := S
    dsimp only at h1 h
    subst h1
    split at h
    · cases h
    · rename_i hk
      split at h
      case isFalse => cases h
      rename_i hq9
      cases h
      obtain ⟨k, hk3, rfl⟩ : ∃ k, k < 3 ∧ q = (21 + k, 0) := by
        have h21 := xm_kd_ge hk
        exact ⟨q.1 - 21, by omega, Prod.ext (by show q.1 = 21 + (q.1 - 21); omega) hq9.1⟩
      refine ⟨⟨Nat.le_refl _, Nat.le_refl _⟩, fun _ _ kk => (hG _ _).mpr fun ad H locs ls hA => ?_⟩
      obtain ⟨q1, q2, q3, q4, q5, q6, q7⟩ := id hA
      have e9 : (List.map (xm_rv ad) (.inr (.inr (some (21 + k, 0))) :: r)) = .ref (tS k) :: r.map (xm_rv ad) := by
        rw [List.map_cons, ← q6.k k]; rfl
      rw [e9]
      refine rowT H locs _ _ ls _ (tS k) k (hC.2.2.2.2.2.2.2.1.1 k hk3).2 q3 ((hG _ _).mp kk ad H locs ls ⟨q1, q2, q3, q4, ⟨q5.1, fun w hw => ?_, q5.2.2⟩, q6, q7⟩)
      rcases List.mem_cons.mp hw with rfl | hw
      · trivial
      · exact q5.2.1 w (List.mem_cons_of_mem _ hw)
    · rename_i t h0 h6
      cases h
      refine ⟨⟨Nat.le_refl _, Nat.le_refl _⟩, fun _ _ kk => (hG _ _).mpr fun ad H locs ls hA => ?_⟩
      obtain ⟨q1, q2, q3, q4, q5, q6, q7⟩ := id hA
      have hq : q ∈ xm_o M := xm_q (q5.2.1 _ List.mem_cons_self) h6
      obtain ⟨j, hj, hw⟩ := xm_in (cA := cA) (ad := ad) hq
      obtain ⟨z, hz1, hz2, hz3⟩ := xm_arr (cA := cA) (ad := ad) (M := M) (q := q) rfl h0 h6
      rw [hz1] at hw
      refine row H locs _ _ ls _ j _ _ (ad q) _ z q1 hw hz2 hz3 ((hG _ _).mp kk ad H locs ls ⟨q1, q2, q3, q4, ⟨q5.1, fun w hw => ?_, q5.2.2⟩, q6, q7⟩)
      rcases List.mem_cons.mp hw with rfl | hw
      · trivial
      · exact q5.2.1 w (List.mem_cons_of_mem _ hw)
  · cases h
theorem sn_gst (hG : xm_IsG p l e R s m args below meth c Q cA D A tS nL ad0 o0 G) (hC : xm_Cx p s m args c cc nL own Ts cA D A tS) {pc n k : Nat} (hk : k < 3)
    (row : ∀ (H : Heap) (locs : List Loc) (cells slots : Nat) (ls : Array Slot) (rest : List Value) (t : Nat), va_Z RX2 (xm_nm k) "[I" (.ref t) A s s.heap → va_S A s.heap H locs → W p l e R s m args below meth c H locs cells slots Q (F0 m n ls (.ref t :: rest)) → W p l e R s m args below meth c H locs cells slots Q (F0 m pc ls rest)) : xm_Snd R G pc (xs_gst n k) := by
  intro S pc1 S1 h
  cases h
  refine ⟨⟨Nat.le_refl _, Nat.le_refl _⟩, fun _ _ kk => (hG _ _).mpr fun ad H locs ls hA => ?_⟩
  obtain ⟨q1, q2, q3, q4, q5, q6, q7⟩ := id hA
  refine row H locs _ _ ls _ (tS k) (hC.2.2.2.2.2.2.2.1.1 k hk).1 q3 ?_
  rw [← q6.k k]
  refine (hG _ _).mp kk ad H locs ls ⟨q1, q2, q3, q4, ⟨q5.1, fun w hw => ?_, q5.2.2⟩, q6, q7⟩
  rcases List.mem_cons.mp hw with rfl | hw
  · exact Or.inr (Nat.le_add_right 21 k)
  · exact q5.2.1 w hw
theorem sn_tald (hG : xm_IsG p l e R s m args below meth c Q cA D A tS nL ad0 o0 G) (hC : xm_Cx p s m args c cc nL own Ts cA D A tS) {pc n k : Nat} (hk : k < 3)
    (row : ∀ (H : Heap) (locs : List Loc) (cells slots : Nat) (ls : Array Slot) (rest : List Value) (t : Nat) (x : Int32), xm_Tb t k A s s.heap → va_S A s.heap H locs → vp_in x 7 → W p l e R s m args below meth c H locs cells slots Q (F0 m n ls (.int (xm_tb k x.toNatClampNeg) :: rest)) → W p l e R s m args below meth c H locs cells slots Q (F0 m pc ls (.int x :: .ref t :: rest))) : xm_Snd R G pc (xs_tald n k) := by
  intro S pc1 S1 h
  unfold xs_tald at h
  split at h
  · rename_i x q r h1
    split at h
    · rename_i h2
      obtain ⟨rfl, hin⟩ := h2
      obtain ⟨lv, st, M, kc, ks⟩ := S
      dsimp only at h1 h
      subst h1
      cases h
      refine ⟨⟨Nat.le_refl _, Nat.le_refl _⟩, fun _ _ kk => (hG _ _).mpr fun ad H locs ls hA => ?_⟩
      obtain ⟨q1, q2, q3, q4, q5, q6, q7⟩ := id hA
      have e9 : (List.map (xm_rv ad) (.inl x :: .inr (.inr (some (21 + k, 0))) :: r)) = .int x :: .ref (tS k) :: r.map (xm_rv ad) := by
        rw [List.map_cons, List.map_cons, ← q6.k k]; rfl
      rw [e9]
      refine row H locs _ _ ls _ (tS k) x (hC.2.2.2.2.2.2.2.1.1 k hk).2 q3 (vp_in_iff.mpr hin) ((hG _ _).mp kk ad H locs ls ⟨q1, q2, q3, q4, ⟨q5.1, fun w hw => ?_, q5.2.2⟩, q6, q7⟩)
      rcases List.mem_cons.mp hw with rfl | hw
      · trivial
      · exact q5.2.1 w (List.mem_cons_of_mem _ (List.mem_cons_of_mem _ hw))
    · cases h
  · cases h
end XG5
