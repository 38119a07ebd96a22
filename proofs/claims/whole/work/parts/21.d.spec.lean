/-! WHAT METHODS COMPUTE (by program) -/
theorem xh_num' {I : xh_I} {L : xh_L} {a : Int32} (h : ¬ xf_X4_isThere I L a = 0) : xh_ix a a.toNatClampNeg 6 ∧ a.toNatClampNeg < 6 := by
  unfold xf_X4_isThere at h
  split at h
  · exact absurd rfl h
  · rename_i h1
    exact xh_num h1
theorem xh_allow {I : xh_I} {L : xh_L} {a b : Int32} (h : ¬ xf_X2_allows I L a b = 0) : xh_ix a a.toNatClampNeg 7 := by
  unfold xf_X2_allows at h
  by_cases h0 : a < 0
  · rw [if_pos h0] at h; exact absurd rfl h
  · by_cases h1 : (7 : Int32) ≤ a
    · rw [if_neg h0, if_pos h1] at h; exact absurd rfl h
    · exact (xh_ix_p (b := 7) (by decide) h0 h1).1
theorem xh_case {a : Int32} {n : Nat} (hn : n < 1000) (h0 : ¬ a < 0) (h1 : ¬ nI n < a) : ∃ k : Nat, k ≤ n ∧ a = nI k := by
  have e0 : 0 ≤ a.toInt := by
    rw [Int32.lt_iff_toInt_lt, Int32.toInt_zero] at h0
    omega
  have e1 : a.toInt ≤ n := by
    rw [Int32.lt_iff_toInt_lt, nI_toInt (by omega)] at h1
    omega
  refine ⟨a.toInt.toNat, by omega, ?_⟩
  apply Int32.toInt_inj.mp
  rw [nI_toInt (by omega)]
  omega
theorem xh_c6 {a : Int32} (h0 : ¬ a < 0) (h1 : ¬ (6 : Int32) < a) : a = 0 ∨ a = 1 ∨ a = 2 ∨ a = 3 ∨ a = 4 ∨ a = 5 ∨ a = 6 := by
  obtain ⟨k, hk, rfl⟩ := xh_case (n := 6) (by decide) h0 h1
  revert k
  decide
theorem xh_c4 {a : Int32} (h0 : ¬ a < 0) (h1 : ¬ (4 : Int32) < a) : a = 0 ∨ a = 1 ∨ a = 2 ∨ a = 3 ∨ a = 4 := by
  obtain ⟨k, hk, rfl⟩ := xh_case (n := 4) (by decide) h0 h1
  revert k
  decide
theorem xh_c10 {a : Int32} (h0 : ¬ a < 0) (h1 : ¬ (10 : Int32) < a) : a = 0 ∨ a = 1 ∨ a = 2 ∨ a = 3 ∨ a = 4 ∨ a = 5 ∨ a = 6 ∨ a = 7 ∨ a = 8 ∨ a = 9 ∨ a = 10 := by
  obtain ⟨k, hk, rfl⟩ := xh_case (n := 10) (by decide) h0 h1
  rcases (show k = 0 ∨ k = 1 ∨ k = 2 ∨ k = 3 ∨ k = 4 ∨ k = 5 ∨ k = 6 ∨ k = 7 ∨ k = 8 ∨ k = 9 ∨ k = 10 by omega) with rfl | rfl | rfl | rfl | rfl | rfl | rfl | rfl | rfl | rfl | rfl
  · exact Or.inl rfl
  · exact Or.inr (Or.inl rfl)
  · exact Or.inr (Or.inr (Or.inl rfl))
  · exact Or.inr (Or.inr (Or.inr (Or.inl rfl)))
  · exact Or.inr (Or.inr (Or.inr (Or.inr (Or.inl rfl))))
  · exact Or.inr (Or.inr (Or.inr (Or.inr (Or.inr (Or.inl rfl)))))
  · exact Or.inr (Or.inr (Or.inr (Or.inr (Or.inr (Or.inr (Or.inl rfl))))))
  · exact Or.inr (Or.inr (Or.inr (Or.inr (Or.inr (Or.inr (Or.inr (Or.inl rfl)))))))
  · exact Or.inr (Or.inr (Or.inr (Or.inr (Or.inr (Or.inr (Or.inr (Or.inr (Or.inl rfl))))))))
  · exact Or.inr (Or.inr (Or.inr (Or.inr (Or.inr (Or.inr (Or.inr (Or.inr (Or.inr (Or.inl rfl)))))))))
  · exact Or.inr (Or.inr (Or.inr (Or.inr (Or.inr (Or.inr (Or.inr (Or.inr (Or.inr (Or.inr rfl)))))))))
/-- the pair of two numbers -/
def xh_pn (i j : Nat) : Nat := if i < j then i * (11 - i) / 2 + j - i - 1 else j * (11 - j) / 2 + i - j - 1
theorem xh_ix_eq {a : Int32} {j N : Nat} (h : xh_ix a j N) (hN : N < 1000) : a = nI j ∧ j < N := by
  obtain ⟨h1, h2, h3⟩ := h
  have e1 : (j : Int) = a.toInt := by
    rw [← h1, Int32.toNatClampNeg]
    omega
  refine ⟨?_, by omega⟩
  apply Int32.toInt_inj.mp
  rw [nI_toInt (by omega)]
  exact e1.symm
theorem xh_pn_ix {I : xh_I} {L : xh_L} : ∀ i, i < 6 → ∀ j, j < 6 → i ≠ j → xh_ix (xf_X4_pairNumber I L (xo_min (nI i) (nI j)) (xo_max (nI i) (nI j))) (xh_pn i j) 15 ∧ xh_pn i j < 15 := by
  unfold xf_X4_pairNumber
  decide
theorem xh_pn_ix' {I : xh_I} {L : xh_L} {a b : Int32} (ha : xh_ix a a.toNatClampNeg 6) (hb : xh_ix b b.toNatClampNeg 6) (hn : ¬ a = b) : xh_ix (xf_X4_pairNumber I L (xo_min a b) (xo_max a b)) (xh_pn a.toNatClampNeg b.toNatClampNeg) 15 ∧ xh_pn a.toNatClampNeg b.toNatClampNeg < 15 := by
  obtain ⟨e1, l1⟩ := xh_ix_eq ha (by decide)
  obtain ⟨e2, l2⟩ := xh_ix_eq hb (by decide)
  have h9 := xh_pn_ix (I := I) (L := L) _ l1 _ l2 (fun h => hn (by rw [e1, e2, h]))
  rw [← e1, ← e2] at h9
  exact h9
theorem xh_St_pairs : ∀ (n j : Nat) (I : xh_I) (L : xh_L), xh_St I → xh_St (xg_pairs n j I L).1
  | 0, _, _, _, h => h
  | n + 1, j, I, L, h => by
    rw [xg_pairs]
    split
    · exact xh_St_pairs n _ _ _ h
    · exact xh_St_pairs n _ _ _ (xh_St_review (fun q h9 => h q h9))
theorem xh_St_pass {I : xh_I} {L : xh_L} (h : xh_St I) : xh_St (xfI_X4_passSecond I L) := by
  have h1 := xh_St_pairs 15 0 _ ((xg_heeds 6 0 (xg_move 6 0 I L).1 (xg_move 6 0 I L).2).2) (xh_St_heeds 6 0 _ (xg_move 6 0 I L).2 (xh_St_move 6 0 I L h))
  exact fun q h9 => h1 q h9
def xg_secs : Nat → xh_I → xh_L → xh_I × xh_L
  | 0, I, L => (I, L)
  | n + 1, I, L => xg_secs n (xfI_X4_passSecond I L) (xfL_X4_passSecond I L)
theorem xh_St_secs : ∀ (n : Nat) (I : xh_I) (L : xh_L), xh_St I → xh_St (xg_secs n I L).1
  | 0, _, _, h => h
  | n + 1, _, _, h => xh_St_secs n _ _ (xh_St_pass h)

theorem xl_secs (d : Nat) {E : Nat → xm_S → Prop} : ∀ (n j N : Nat), j + n = N → N ≤ 300 → ∀ (I : xh_I) (L : xh_L), xh_St I → xK (d + 6) xt_X4_step 38 ([(0, xm_r 4 0), (1, xm_i (nI N)), (2, xm_i (nI N))], [], xh_M (xg_secs n I L).1 (xg_secs n I L).2, 0, 0) E → xK (d + 6) xt_X4_step 23 ([(0, xm_r 4 0), (1, xm_i (nI N)), (2, xm_i (nI j))], [], xh_M I L, 0, 0) E := by
  intro n
  induction n with
  | zero =>
    intro j N hj hN I L hs hk
    have e9 : j = N := by omega
    subst e9
    refine xK.run (q := (25, ([(0, xm_r 4 0), (1, xm_i (nI j)), (2, xm_i (nI j))], [xm_i (nI j), xm_i (nI j)], xh_M I L, 0, 0))) 2 rfl ?_
    exact xK.icmp rfl (fun _ => hk) (fun h9 => absurd (Int32.le_refl _) h9)
  | succ n ih =>
    intro j N hj hN I L hs hk
    refine xK.run (q := (25, ([(0, xm_r 4 0), (1, xm_i (nI N)), (2, xm_i (nI j))], [xm_i (nI N), xm_i (nI j)], xh_M I L, 0, 0))) 2 rfl ?_
    refine xK.icmp rfl (fun h9 => absurd h9 (nI_ge (b := N) (by omega) (by omega))) (fun _ => ?_)
    refine xK.run (q := (29, ([(0, xm_r 4 0), (1, xm_i (nI N)), (2, xm_i (nI j))], [xm_r 4 0], xh_M I L, 0, 0))) 1 rfl ?_
    refine xK.call [xm_r 4 0] (xd_X4_passSecond d I L hs) rfl rfl rfl (Or.inr ⟨_, _, rfl⟩) (Nat.le_of_ble_eq_true rfl) ?_
    refine xK.run (q := (23, ([(0, xm_r 4 0), (1, xm_i (nI N)), (2, xm_i (nI j + 1))], [], xh_M (xfI_X4_passSecond I L) (xfL_X4_passSecond I L), 0, 0))) 2 rfl ?_
    rw [nI_1 j]
    exact ih (j + 1) N (by omega) hN _ _ (xh_St_pass hs) hk
theorem xl_secs' (d : Nat) {E : Nat → xm_S → Prop} {a : Int32} (h0 : ¬ a < 0) (h1 : a ≤ 300) (I : xh_I) (L : xh_L) (hs : xh_St I) (hk : xK (d + 6) xt_X4_step 38 ([(0, xm_r 4 0), (1, xm_i a), (2, xm_i a)], [], xh_M (xg_secs a.toNatClampNeg I L).1 (xg_secs a.toNatClampNeg I L).2, 0, 0) E) : xK (d + 6) xt_X4_step 23 ([(0, xm_r 4 0), (1, xm_i a), (2, xm_i 0)], [], xh_M I L, 0, 0) E := by
  obtain ⟨N, hN, rfl⟩ := xh_case (n := 300) (by decide) h0 (fun h9 => absurd h1 (Int32.not_le.mpr h9))
  rw [nI_clamp (by omega)] at hk
  exact xl_secs d N 0 N (Nat.zero_add N) hN _ _ hs hk
set_option linter.unusedVariables false in
def xf_X2_exch (I : xh_I) (L : xh_L) (a : Int32) (b : Int32) : Int32 := I 6 a.toNatClampNeg 0
set_option linter.unusedVariables false in
def xfI_X2_exch (I : xh_I) (L : xh_L) (a : Int32) (b : Int32) : xh_I := (xm_up I 6 a.toNatClampNeg 0 b)
set_option maxHeartbeats 4000000 in
set_option maxRecDepth 100000 in
theorem xd_X2_exch (d : Nat) (I : xh_I) (L : xh_L) (a : Int32) (ha : xh_ix a a.toNatClampNeg 7) (b : Int32) : xm_Do xp_pg (d + 1) 43 [xm_r 2 0, xm_i a, xm_i b] (xh_M I L) (some (xm_i (xf_X2_exch I L a b))) (xh_M (xfI_X2_exch I L a b) L) 0 0 := by
  refine xK.of (Nat.le_of_ble_eq_true rfl) rfl ?_
  refine xK.run (q := (5, [(0, xm_r 2 0), (1, xm_i a), (2, xm_i b)], [xm_i a, xm_r 6 0], xh_M I L, 0, 0)) 3 rfl ?_
  refine xK.iald rfl rfl ha ?_
  refine xK.run (q := (13, [(0, xm_r 2 0), (1, xm_i a), (2, xm_i b), (3, xm_i (I 6 a.toNatClampNeg 0))], [xm_i b, xm_i a, xm_r 6 0], xh_M I L, 0, 0)) 5 rfl ?_
  refine xK.iast rfl rfl ha ?_
  refine xK.run (q := (15, [(0, xm_r 2 0), (1, xm_i a), (2, xm_i b), (3, xm_i (I 6 a.toNatClampNeg 0))], [xm_i (I 6 a.toNatClampNeg 0)], xh_M (xm_up I 6 a.toNatClampNeg 0 b) L, 0, 0)) 1 rfl ?_
  exact xK.ret rfl ⟨_, rfl, rfl⟩
set_option linter.unusedVariables false in
def xf_X4_set (I : xh_I) (L : xh_L) (a : Int32) (b : Int32) : Int32 := if (xf_X2_allows I L a b) = 0 then 0 else (xf_X2_exch I L a b)
set_option linter.unusedVariables false in
def xfI_X4_set (I : xh_I) (L : xh_L) (a : Int32) (b : Int32) : xh_I := if (xf_X2_allows I L a b) = 0 then I else (xfI_X2_exch I L a b)
set_option linter.unusedVariables false in
def xe_X4_set (I : xh_I) (L : xh_L) (a : Int32) (b : Int32) : Int32 := if (xf_X2_allows I L a b) = 0 then 1 else 0
set_option maxHeartbeats 4000000 in
set_option maxRecDepth 100000 in
theorem xd_X4_set (d : Nat) (I : xh_I) (L : xh_L) (a : Int32) (b : Int32) (he : xe_X4_set I L a b = 0) : xm_Do xp_pg (d + 2) 54 [xm_r 4 0, xm_i a, xm_i b] (xh_M I L) (some (xm_i (xf_X4_set I L a b))) (xh_M (xfI_X4_set I L a b) L) 0 0 := by
  refine xK.of (Nat.le_of_ble_eq_true rfl) rfl ?_
  refine xK.run (q := (2, [(0, xm_r 4 0), (1, xm_i a), (2, xm_i b)], [xm_i b, xm_i a], xh_M I L, 0, 0)) 2 rfl ?_
  refine xK.call [xm_i a, xm_i b] (xd_X2_allows d I L a b) rfl rfl rfl (Or.inl rfl) (Nat.le_of_ble_eq_true rfl) ?_
  refine xK.ifN rfl (fun h1 => ?_) (fun h1 => ?_)
  · skip
    exact absurd ((show xe_X4_set I L a b = 1 from by unfold xe_X4_set; rw [if_pos h1]).symm.trans he) (by decide)
  · skip
    refine xK.run (q := (24, [(0, xm_r 4 0), (1, xm_i a), (2, xm_i b)], [xm_i b, xm_i a, xm_r 2 0], xh_M I L, 0, 0)) 4 rfl ?_
    refine xK.call [xm_r 2 0, xm_i a, xm_i b] (xd_X2_exch d I L a (xh_allow h1) b) rfl rfl rfl (Or.inr ⟨_, _, rfl⟩) (Nat.le_of_ble_eq_true rfl) ?_
    rw [show xf_X4_set I L a b = (xf_X2_exch I L a b) from by unfold xf_X4_set; rw [if_neg h1]]
    rw [show xfI_X4_set I L a b = (xfI_X2_exch I L a b) from by unfold xfI_X4_set; rw [if_neg h1]]
    exact xK.ret rfl ⟨_, rfl, rfl⟩
set_option maxHeartbeats 4000000 in
set_option maxRecDepth 100000 in
theorem xt_X4_set_thr (d : Nat) (I : xh_I) (L : xh_L) (a : Int32) (b : Int32) (he : xe_X4_set I L a b = 1) : xK (d + 1) xt_X4_set 0 ([(0, xm_r 4 0), (1, xm_i a), (2, xm_i b)], [], xh_M I L, 0, 0) (xT xt_X4_set (xh_M I L) 0 0 8) := by
  refine xK.run (q := (2, [(0, xm_r 4 0), (1, xm_i a), (2, xm_i b)], [xm_i b, xm_i a], xh_M I L, 0, 0)) 2 rfl ?_
  refine xK.call [xm_i a, xm_i b] (xd_X2_allows d I L a b) rfl rfl rfl (Or.inl rfl) (Nat.le_of_ble_eq_true rfl) ?_
  refine xK.ifN rfl (fun h1 => ?_) (fun h1 => ?_)
  · skip
    exact xK.thr rfl
  · skip
    refine xK.run (q := (24, [(0, xm_r 4 0), (1, xm_i a), (2, xm_i b)], [xm_i b, xm_i a, xm_r 2 0], xh_M I L, 0, 0)) 4 rfl ?_
    refine xK.call [xm_r 2 0, xm_i a, xm_i b] (xd_X2_exch d I L a (xh_allow h1) b) rfl rfl rfl (Or.inr ⟨_, _, rfl⟩) (Nat.le_of_ble_eq_true rfl) ?_
    exact absurd ((show xe_X4_set I L a b = 0 from by unfold xe_X4_set; rw [if_neg h1]).symm.trans he) (by decide)
set_option linter.unusedVariables false in
def xfI_X4_place (I : xh_I) (L : xh_L) (a : Int32) (b : Int32) (c : Int32) (e : Int32) : xh_I := if (xf_X4_isNumber I L a) = 0 then I else (if (xf_X0_isPlace I L b c e) = 0 then I else (xfI_X4_restartLeastOf (xfI_X4_dropAdviceOf (xfI_X0_putAt I L a.toNatClampNeg b c e) L a.toNatClampNeg) (xfL_X4_dropAdviceOf (xfI_X0_putAt I L a.toNatClampNeg b c e) L a.toNatClampNeg) a.toNatClampNeg))
set_option linter.unusedVariables false in
def xfL_X4_place (I : xh_I) (L : xh_L) (a : Int32) (b : Int32) (c : Int32) (e : Int32) : xh_L := if (xf_X4_isNumber I L a) = 0 then L else (if (xf_X0_isPlace I L b c e) = 0 then L else (xfL_X4_restartLeastOf (xfI_X4_dropAdviceOf (xfI_X0_putAt I L a.toNatClampNeg b c e) L a.toNatClampNeg) (xfL_X4_dropAdviceOf (xfI_X0_putAt I L a.toNatClampNeg b c e) L a.toNatClampNeg) a.toNatClampNeg))
set_option linter.unusedVariables false in
def xe_X4_place (I : xh_I) (L : xh_L) (a : Int32) (b : Int32) (c : Int32) (e : Int32) : Int32 := if (xf_X4_isNumber I L a) = 0 then 1 else (if (xf_X0_isPlace I L b c e) = 0 then 1 else 0)
set_option maxHeartbeats 4000000 in
set_option maxRecDepth 100000 in
theorem xd_X4_place (d : Nat) (I : xh_I) (L : xh_L) (a : Int32) (b : Int32) (c : Int32) (e : Int32) (he : xe_X4_place I L a b c e = 0) : xm_Do xp_pg (d + 4) 55 [xm_r 4 0, xm_i a, xm_i b, xm_i c, xm_i e] (xh_M I L) none (xh_M (xfI_X4_place I L a b c e) (xfL_X4_place I L a b c e)) 0 0 := by
  refine xK.of (Nat.le_of_ble_eq_true rfl) rfl ?_
  refine xK.run (q := (1, [(0, xm_r 4 0), (1, xm_i a), (2, xm_i b), (3, xm_i c), (4, xm_i e)], [xm_i a], xh_M I L, 0, 0)) 1 rfl ?_
  refine xK.call [xm_i a] (xd_X4_isNumber (d + 2) I L a) rfl rfl rfl (Or.inl rfl) (Nat.le_of_ble_eq_true rfl) ?_
  refine xK.ifI rfl (fun h1 => ?_) (fun h1 => ?_)
  · skip
    exact absurd ((show xe_X4_place I L a b c e = 1 from by unfold xe_X4_place; rw [if_pos h1]).symm.trans he) (by decide)
  · skip
    refine xK.run (q := (11, [(0, xm_r 4 0), (1, xm_i a), (2, xm_i b), (3, xm_i c), (4, xm_i e)], [xm_i e, xm_i c, xm_i b], xh_M I L, 0, 0)) 3 rfl ?_
    refine xK.call [xm_i b, xm_i c, xm_i e] (xd_X0_isPlace (d + 1) I L b c e) rfl rfl rfl (Or.inl rfl) (Nat.le_of_ble_eq_true rfl) ?_
    refine xK.ifN rfl (fun h2 => ?_) (fun h2 => ?_)
    · skip
      exact absurd ((show xe_X4_place I L a b c e = 1 from by unfold xe_X4_place; rw [if_neg h1, if_pos h2]).symm.trans he) (by decide)
    · skip
      refine xK.run (q := (32, [(0, xm_r 4 0), (1, xm_i a), (2, xm_i b), (3, xm_i c), (4, xm_i e)], [xm_i a, xm_r 18 0], xh_M I L, 0, 0)) 3 rfl ?_
      refine xK.aald rfl rfl (xh_num h1).1 (xh_R18 (xh_num h1).2) ?_
      refine xK.run (q := (41, [(0, xm_r 4 0), (1, xm_i a), (2, xm_i b), (3, xm_i c), (4, xm_i e), (5, xm_r 0 a.toNatClampNeg)], [xm_i e, xm_i c, xm_i b, xm_r 0 a.toNatClampNeg], xh_M I L, 0, 0)) 5 rfl ?_
      refine xK.call [xm_r 0 a.toNatClampNeg, xm_i b, xm_i c, xm_i e] (xd_X0_putAt (d + 1) I L a.toNatClampNeg b c e) rfl rfl rfl (Or.inr ⟨_, _, rfl⟩) (Nat.le_of_ble_eq_true rfl) ?_
      refine xK.run (q := (47, [(0, xm_r 4 0), (1, xm_i a), (2, xm_i b), (3, xm_i c), (4, xm_i e), (5, xm_r 0 a.toNatClampNeg)], [xm_r 0 a.toNatClampNeg, xm_r 4 0], xh_M (xfI_X0_putAt I L a.toNatClampNeg b c e) L, 0, 0)) 2 rfl ?_
      refine xK.call [xm_r 4 0, xm_r 0 a.toNatClampNeg] (xd_X4_dropAdviceOf (d + 1) (xfI_X0_putAt I L a.toNatClampNeg b c e) L a.toNatClampNeg) rfl rfl rfl (Or.inr ⟨_, _, rfl⟩) (Nat.le_of_ble_eq_true rfl) ?_
      refine xK.run (q := (53, [(0, xm_r 4 0), (1, xm_i a), (2, xm_i b), (3, xm_i c), (4, xm_i e), (5, xm_r 0 a.toNatClampNeg)], [xm_r 0 a.toNatClampNeg, xm_r 4 0], xh_M (xfI_X4_dropAdviceOf (xfI_X0_putAt I L a.toNatClampNeg b c e) L a.toNatClampNeg) (xfL_X4_dropAdviceOf (xfI_X0_putAt I L a.toNatClampNeg b c e) L a.toNatClampNeg), 0, 0)) 2 rfl ?_
      refine xK.call [xm_r 4 0, xm_r 0 a.toNatClampNeg] (xd_X4_restartLeastOf d (xfI_X4_dropAdviceOf (xfI_X0_putAt I L a.toNatClampNeg b c e) L a.toNatClampNeg) (xfL_X4_dropAdviceOf (xfI_X0_putAt I L a.toNatClampNeg b c e) L a.toNatClampNeg) a.toNatClampNeg) rfl rfl rfl (Or.inr ⟨_, _, rfl⟩) (Nat.le_of_ble_eq_true rfl) ?_
      rw [show xfI_X4_place I L a b c e = (xfI_X4_restartLeastOf (xfI_X4_dropAdviceOf (xfI_X0_putAt I L a.toNatClampNeg b c e) L a.toNatClampNeg) (xfL_X4_dropAdviceOf (xfI_X0_putAt I L a.toNatClampNeg b c e) L a.toNatClampNeg) a.toNatClampNeg) from by unfold xfI_X4_place; rw [if_neg h1, if_neg h2]]
      rw [show xfL_X4_place I L a b c e = (xfL_X4_restartLeastOf (xfI_X4_dropAdviceOf (xfI_X0_putAt I L a.toNatClampNeg b c e) L a.toNatClampNeg) (xfL_X4_dropAdviceOf (xfI_X0_putAt I L a.toNatClampNeg b c e) L a.toNatClampNeg) a.toNatClampNeg) from by unfold xfL_X4_place; rw [if_neg h1, if_neg h2]]
      exact xK.ret rfl ⟨rfl, rfl⟩
set_option maxHeartbeats 4000000 in
set_option maxRecDepth 100000 in
theorem xt_X4_place_thr (d : Nat) (I : xh_I) (L : xh_L) (a : Int32) (b : Int32) (c : Int32) (e : Int32) (he : xe_X4_place I L a b c e = 1) : xK (d + 3) xt_X4_place 0 ([(0, xm_r 4 0), (1, xm_i a), (2, xm_i b), (3, xm_i c), (4, xm_i e)], [], xh_M I L, 0, 0) (xT xt_X4_place (xh_M I L) 0 0 17) := by
  refine xK.run (q := (1, [(0, xm_r 4 0), (1, xm_i a), (2, xm_i b), (3, xm_i c), (4, xm_i e)], [xm_i a], xh_M I L, 0, 0)) 1 rfl ?_
  refine xK.call [xm_i a] (xd_X4_isNumber (d + 2) I L a) rfl rfl rfl (Or.inl rfl) (Nat.le_of_ble_eq_true rfl) ?_
  refine xK.ifI rfl (fun h1 => ?_) (fun h1 => ?_)
  · skip
    exact xK.thr rfl
  · skip
    refine xK.run (q := (11, [(0, xm_r 4 0), (1, xm_i a), (2, xm_i b), (3, xm_i c), (4, xm_i e)], [xm_i e, xm_i c, xm_i b], xh_M I L, 0, 0)) 3 rfl ?_
    refine xK.call [xm_i b, xm_i c, xm_i e] (xd_X0_isPlace (d + 1) I L b c e) rfl rfl rfl (Or.inl rfl) (Nat.le_of_ble_eq_true rfl) ?_
    refine xK.ifN rfl (fun h2 => ?_) (fun h2 => ?_)
    · skip
      exact xK.thr rfl
    · skip
      refine xK.run (q := (32, [(0, xm_r 4 0), (1, xm_i a), (2, xm_i b), (3, xm_i c), (4, xm_i e)], [xm_i a, xm_r 18 0], xh_M I L, 0, 0)) 3 rfl ?_
      refine xK.aald rfl rfl (xh_num h1).1 (xh_R18 (xh_num h1).2) ?_
      refine xK.run (q := (41, [(0, xm_r 4 0), (1, xm_i a), (2, xm_i b), (3, xm_i c), (4, xm_i e), (5, xm_r 0 a.toNatClampNeg)], [xm_i e, xm_i c, xm_i b, xm_r 0 a.toNatClampNeg], xh_M I L, 0, 0)) 5 rfl ?_
      refine xK.call [xm_r 0 a.toNatClampNeg, xm_i b, xm_i c, xm_i e] (xd_X0_putAt (d + 1) I L a.toNatClampNeg b c e) rfl rfl rfl (Or.inr ⟨_, _, rfl⟩) (Nat.le_of_ble_eq_true rfl) ?_
      refine xK.run (q := (47, [(0, xm_r 4 0), (1, xm_i a), (2, xm_i b), (3, xm_i c), (4, xm_i e), (5, xm_r 0 a.toNatClampNeg)], [xm_r 0 a.toNatClampNeg, xm_r 4 0], xh_M (xfI_X0_putAt I L a.toNatClampNeg b c e) L, 0, 0)) 2 rfl ?_
      refine xK.call [xm_r 4 0, xm_r 0 a.toNatClampNeg] (xd_X4_dropAdviceOf (d + 1) (xfI_X0_putAt I L a.toNatClampNeg b c e) L a.toNatClampNeg) rfl rfl rfl (Or.inr ⟨_, _, rfl⟩) (Nat.le_of_ble_eq_true rfl) ?_
      refine xK.run (q := (53, [(0, xm_r 4 0), (1, xm_i a), (2, xm_i b), (3, xm_i c), (4, xm_i e), (5, xm_r 0 a.toNatClampNeg)], [xm_r 0 a.toNatClampNeg, xm_r 4 0], xh_M (xfI_X4_dropAdviceOf (xfI_X0_putAt I L a.toNatClampNeg b c e) L a.toNatClampNeg) (xfL_X4_dropAdviceOf (xfI_X0_putAt I L a.toNatClampNeg b c e) L a.toNatClampNeg), 0, 0)) 2 rfl ?_
      refine xK.call [xm_r 4 0, xm_r 0 a.toNatClampNeg] (xd_X4_restartLeastOf d (xfI_X4_dropAdviceOf (xfI_X0_putAt I L a.toNatClampNeg b c e) L a.toNatClampNeg) (xfL_X4_dropAdviceOf (xfI_X0_putAt I L a.toNatClampNeg b c e) L a.toNatClampNeg) a.toNatClampNeg) rfl rfl rfl (Or.inr ⟨_, _, rfl⟩) (Nat.le_of_ble_eq_true rfl) ?_
      exact absurd ((show xe_X4_place I L a b c e = 0 from by unfold xe_X4_place; rw [if_neg h1, if_neg h2]).symm.trans he) (by decide)
set_option linter.unusedVariables false in
def xfI_X4_speed (I : xh_I) (L : xh_L) (a : Int32) (b : Int32) (c : Int32) (e : Int32) : xh_I := if (xf_X4_isThere I L a) = 0 then I else (if (xf_X0_isSpeed I L b c e) = 0 then I else (xfI_X4_dropAdviceOf (xfI_X0_flyWith I L a.toNatClampNeg b c e) L a.toNatClampNeg))
set_option linter.unusedVariables false in
def xfL_X4_speed (I : xh_I) (L : xh_L) (a : Int32) (b : Int32) (c : Int32) (e : Int32) : xh_L := if (xf_X4_isThere I L a) = 0 then L else (if (xf_X0_isSpeed I L b c e) = 0 then L else (xfL_X4_dropAdviceOf (xfI_X0_flyWith I L a.toNatClampNeg b c e) L a.toNatClampNeg))
set_option linter.unusedVariables false in
def xe_X4_speed (I : xh_I) (L : xh_L) (a : Int32) (b : Int32) (c : Int32) (e : Int32) : Int32 := if (xf_X4_isThere I L a) = 0 then 1 else (if (xf_X0_isSpeed I L b c e) = 0 then 1 else 0)
set_option maxHeartbeats 4000000 in
set_option maxRecDepth 100000 in
theorem xd_X4_speed (d : Nat) (I : xh_I) (L : xh_L) (a : Int32) (b : Int32) (c : Int32) (e : Int32) (he : xe_X4_speed I L a b c e = 0) : xm_Do xp_pg (d + 3) 56 [xm_r 4 0, xm_i a, xm_i b, xm_i c, xm_i e] (xh_M I L) none (xh_M (xfI_X4_speed I L a b c e) (xfL_X4_speed I L a b c e)) 0 0 := by
  refine xK.of (Nat.le_of_ble_eq_true rfl) rfl ?_
  refine xK.run (q := (2, [(0, xm_r 4 0), (1, xm_i a), (2, xm_i b), (3, xm_i c), (4, xm_i e)], [xm_i a, xm_r 4 0], xh_M I L, 0, 0)) 2 rfl ?_
  refine xK.call [xm_r 4 0, xm_i a] (xd_X4_isThere d I L a) rfl rfl rfl (Or.inr ⟨_, _, rfl⟩) (Nat.le_of_ble_eq_true rfl) ?_
  refine xK.ifI rfl (fun h1 => ?_) (fun h1 => ?_)
  · skip
    exact absurd ((show xe_X4_speed I L a b c e = 1 from by unfold xe_X4_speed; rw [if_pos h1]).symm.trans he) (by decide)
  · skip
    refine xK.run (q := (12, [(0, xm_r 4 0), (1, xm_i a), (2, xm_i b), (3, xm_i c), (4, xm_i e)], [xm_i e, xm_i c, xm_i b], xh_M I L, 0, 0)) 3 rfl ?_
    refine xK.call [xm_i b, xm_i c, xm_i e] (xd_X0_isSpeed d I L b c e) rfl rfl rfl (Or.inl rfl) (Nat.le_of_ble_eq_true rfl) ?_
    refine xK.ifN rfl (fun h2 => ?_) (fun h2 => ?_)
    · skip
      exact absurd ((show xe_X4_speed I L a b c e = 1 from by unfold xe_X4_speed; rw [if_neg h1, if_pos h2]).symm.trans he) (by decide)
    · skip
      refine xK.run (q := (33, [(0, xm_r 4 0), (1, xm_i a), (2, xm_i b), (3, xm_i c), (4, xm_i e)], [xm_i a, xm_r 18 0], xh_M I L, 0, 0)) 3 rfl ?_
      refine xK.aald rfl rfl (xh_num' h1).1 (xh_R18 (xh_num' h1).2) ?_
      refine xK.run (q := (42, [(0, xm_r 4 0), (1, xm_i a), (2, xm_i b), (3, xm_i c), (4, xm_i e), (5, xm_r 0 a.toNatClampNeg)], [xm_i e, xm_i c, xm_i b, xm_r 0 a.toNatClampNeg], xh_M I L, 0, 0)) 5 rfl ?_
      refine xK.call [xm_r 0 a.toNatClampNeg, xm_i b, xm_i c, xm_i e] (xd_X0_flyWith (d + 1) I L a.toNatClampNeg b c e) rfl rfl rfl (Or.inr ⟨_, _, rfl⟩) (Nat.le_of_ble_eq_true rfl) ?_
      refine xK.run (q := (48, [(0, xm_r 4 0), (1, xm_i a), (2, xm_i b), (3, xm_i c), (4, xm_i e), (5, xm_r 0 a.toNatClampNeg)], [xm_r 0 a.toNatClampNeg, xm_r 4 0], xh_M (xfI_X0_flyWith I L a.toNatClampNeg b c e) L, 0, 0)) 2 rfl ?_
      refine xK.call [xm_r 4 0, xm_r 0 a.toNatClampNeg] (xd_X4_dropAdviceOf d (xfI_X0_flyWith I L a.toNatClampNeg b c e) L a.toNatClampNeg) rfl rfl rfl (Or.inr ⟨_, _, rfl⟩) (Nat.le_of_ble_eq_true rfl) ?_
      rw [show xfI_X4_speed I L a b c e = (xfI_X4_dropAdviceOf (xfI_X0_flyWith I L a.toNatClampNeg b c e) L a.toNatClampNeg) from by unfold xfI_X4_speed; rw [if_neg h1, if_neg h2]]
      rw [show xfL_X4_speed I L a b c e = (xfL_X4_dropAdviceOf (xfI_X0_flyWith I L a.toNatClampNeg b c e) L a.toNatClampNeg) from by unfold xfL_X4_speed; rw [if_neg h1, if_neg h2]]
      exact xK.ret rfl ⟨rfl, rfl⟩
set_option maxHeartbeats 4000000 in
set_option maxRecDepth 100000 in
theorem xt_X4_speed_thr (d : Nat) (I : xh_I) (L : xh_L) (a : Int32) (b : Int32) (c : Int32) (e : Int32) (he : xe_X4_speed I L a b c e = 1) : xK (d + 2) xt_X4_speed 0 ([(0, xm_r 4 0), (1, xm_i a), (2, xm_i b), (3, xm_i c), (4, xm_i e)], [], xh_M I L, 0, 0) (xT xt_X4_speed (xh_M I L) 0 0 18) := by
  refine xK.run (q := (2, [(0, xm_r 4 0), (1, xm_i a), (2, xm_i b), (3, xm_i c), (4, xm_i e)], [xm_i a, xm_r 4 0], xh_M I L, 0, 0)) 2 rfl ?_
  refine xK.call [xm_r 4 0, xm_i a] (xd_X4_isThere d I L a) rfl rfl rfl (Or.inr ⟨_, _, rfl⟩) (Nat.le_of_ble_eq_true rfl) ?_
  refine xK.ifI rfl (fun h1 => ?_) (fun h1 => ?_)
  · skip
    exact xK.thr rfl
  · skip
    refine xK.run (q := (12, [(0, xm_r 4 0), (1, xm_i a), (2, xm_i b), (3, xm_i c), (4, xm_i e)], [xm_i e, xm_i c, xm_i b], xh_M I L, 0, 0)) 3 rfl ?_
    refine xK.call [xm_i b, xm_i c, xm_i e] (xd_X0_isSpeed d I L b c e) rfl rfl rfl (Or.inl rfl) (Nat.le_of_ble_eq_true rfl) ?_
    refine xK.ifN rfl (fun h2 => ?_) (fun h2 => ?_)
    · skip
      exact xK.thr rfl
    · skip
      refine xK.run (q := (33, [(0, xm_r 4 0), (1, xm_i a), (2, xm_i b), (3, xm_i c), (4, xm_i e)], [xm_i a, xm_r 18 0], xh_M I L, 0, 0)) 3 rfl ?_
      refine xK.aald rfl rfl (xh_num' h1).1 (xh_R18 (xh_num' h1).2) ?_
      refine xK.run (q := (42, [(0, xm_r 4 0), (1, xm_i a), (2, xm_i b), (3, xm_i c), (4, xm_i e), (5, xm_r 0 a.toNatClampNeg)], [xm_i e, xm_i c, xm_i b, xm_r 0 a.toNatClampNeg], xh_M I L, 0, 0)) 5 rfl ?_
      refine xK.call [xm_r 0 a.toNatClampNeg, xm_i b, xm_i c, xm_i e] (xd_X0_flyWith (d + 1) I L a.toNatClampNeg b c e) rfl rfl rfl (Or.inr ⟨_, _, rfl⟩) (Nat.le_of_ble_eq_true rfl) ?_
      refine xK.run (q := (48, [(0, xm_r 4 0), (1, xm_i a), (2, xm_i b), (3, xm_i c), (4, xm_i e), (5, xm_r 0 a.toNatClampNeg)], [xm_r 0 a.toNatClampNeg, xm_r 4 0], xh_M (xfI_X0_flyWith I L a.toNatClampNeg b c e) L, 0, 0)) 2 rfl ?_
      refine xK.call [xm_r 4 0, xm_r 0 a.toNatClampNeg] (xd_X4_dropAdviceOf d (xfI_X0_flyWith I L a.toNatClampNeg b c e) L a.toNatClampNeg) rfl rfl rfl (Or.inr ⟨_, _, rfl⟩) (Nat.le_of_ble_eq_true rfl) ?_
      exact absurd ((show xe_X4_speed I L a b c e = 0 from by unfold xe_X4_speed; rw [if_neg h1, if_neg h2]).symm.trans he) (by decide)
set_option linter.unusedVariables false in
def xfI_X4_follow (I : xh_I) (L : xh_L) (a : Int32) (b : Int32) : xh_I := if (xf_X4_isThere I L a) = 0 then I else (xm_up I 0 1 a.toNatClampNeg b)
set_option linter.unusedVariables false in
def xe_X4_follow (I : xh_I) (L : xh_L) (a : Int32) (b : Int32) : Int32 := if (xf_X4_isThere I L a) = 0 then 1 else 0
set_option maxHeartbeats 4000000 in
set_option maxRecDepth 100000 in
theorem xd_X4_follow (d : Nat) (I : xh_I) (L : xh_L) (a : Int32) (b : Int32) (hzb : b = 0 ∨ b = 1) (he : xe_X4_follow I L a b = 0) : xm_Do xp_pg (d + 3) 57 [xm_r 4 0, xm_i a, xm_i b] (xh_M I L) none (xh_M (xfI_X4_follow I L a b) L) 0 0 := by
  refine xK.of (Nat.le_of_ble_eq_true rfl) rfl ?_
  refine xK.run (q := (2, [(0, xm_r 4 0), (1, xm_i a), (2, xm_i b)], [xm_i a, xm_r 4 0], xh_M I L, 0, 0)) 2 rfl ?_
  refine xK.call [xm_r 4 0, xm_i a] (xd_X4_isThere d I L a) rfl rfl rfl (Or.inr ⟨_, _, rfl⟩) (Nat.le_of_ble_eq_true rfl) ?_
  refine xK.ifN rfl (fun h1 => ?_) (fun h1 => ?_)
  · skip
    exact absurd ((show xe_X4_follow I L a b = 1 from by unfold xe_X4_follow; rw [if_pos h1]).symm.trans he) (by decide)
  · skip
    refine xK.run (q := (23, [(0, xm_r 4 0), (1, xm_i a), (2, xm_i b)], [xm_i a, xm_r 18 0], xh_M I L, 0, 0)) 3 rfl ?_
    refine xK.aald rfl rfl (xh_num' h1).1 (xh_R18 (xh_num' h1).2) ?_
    refine xK.run (q := (25, [(0, xm_r 4 0), (1, xm_i a), (2, xm_i b)], [xm_i b, xm_r 0 a.toNatClampNeg], xh_M I L, 0, 0)) 1 rfl ?_
    refine xK.putZ rfl hzb ?_
    rw [show xfI_X4_follow I L a b = (xm_up I 0 1 a.toNatClampNeg b) from by unfold xfI_X4_follow; rw [if_neg h1]]
    exact xK.ret rfl ⟨rfl, rfl⟩
set_option maxHeartbeats 4000000 in
set_option maxRecDepth 100000 in
theorem xt_X4_follow_thr (d : Nat) (I : xh_I) (L : xh_L) (a : Int32) (b : Int32) (hzb : b = 0 ∨ b = 1) (he : xe_X4_follow I L a b = 1) : xK (d + 2) xt_X4_follow 0 ([(0, xm_r 4 0), (1, xm_i a), (2, xm_i b)], [], xh_M I L, 0, 0) (xT xt_X4_follow (xh_M I L) 0 0 8) := by
  refine xK.run (q := (2, [(0, xm_r 4 0), (1, xm_i a), (2, xm_i b)], [xm_i a, xm_r 4 0], xh_M I L, 0, 0)) 2 rfl ?_
  refine xK.call [xm_r 4 0, xm_i a] (xd_X4_isThere d I L a) rfl rfl rfl (Or.inr ⟨_, _, rfl⟩) (Nat.le_of_ble_eq_true rfl) ?_
  refine xK.ifN rfl (fun h1 => ?_) (fun h1 => ?_)
  · skip
    exact xK.thr rfl
  · skip
    refine xK.run (q := (23, [(0, xm_r 4 0), (1, xm_i a), (2, xm_i b)], [xm_i a, xm_r 18 0], xh_M I L, 0, 0)) 3 rfl ?_
    refine xK.aald rfl rfl (xh_num' h1).1 (xh_R18 (xh_num' h1).2) ?_
    refine xK.run (q := (25, [(0, xm_r 4 0), (1, xm_i a), (2, xm_i b)], [xm_i b, xm_r 0 a.toNatClampNeg], xh_M I L, 0, 0)) 1 rfl ?_
    refine xK.putZ rfl hzb ?_
    exact absurd ((show xe_X4_follow I L a b = 0 from by unfold xe_X4_follow; rw [if_neg h1]).symm.trans he) (by decide)
set_option linter.unusedVariables false in
def xfI_X4_leave (I : xh_I) (L : xh_L) (a : Int32) : xh_I := if (xf_X4_isThere I L a) = 0 then I else (xfI_X4_dropAdviceOf (xm_up I 0 0 a.toNatClampNeg 0) L a.toNatClampNeg)
set_option linter.unusedVariables false in
def xfL_X4_leave (I : xh_I) (L : xh_L) (a : Int32) : xh_L := if (xf_X4_isThere I L a) = 0 then L else (xfL_X4_dropAdviceOf (xm_up I 0 0 a.toNatClampNeg 0) L a.toNatClampNeg)
set_option linter.unusedVariables false in
def xe_X4_leave (I : xh_I) (L : xh_L) (a : Int32) : Int32 := if (xf_X4_isThere I L a) = 0 then 1 else 0
set_option maxHeartbeats 4000000 in
set_option maxRecDepth 100000 in
theorem xd_X4_leave (d : Nat) (I : xh_I) (L : xh_L) (a : Int32) (he : xe_X4_leave I L a = 0) : xm_Do xp_pg (d + 3) 58 [xm_r 4 0, xm_i a] (xh_M I L) none (xh_M (xfI_X4_leave I L a) (xfL_X4_leave I L a)) 0 0 := by
  refine xK.of (Nat.le_of_ble_eq_true rfl) rfl ?_
  refine xK.run (q := (2, [(0, xm_r 4 0), (1, xm_i a)], [xm_i a, xm_r 4 0], xh_M I L, 0, 0)) 2 rfl ?_
  refine xK.call [xm_r 4 0, xm_i a] (xd_X4_isThere d I L a) rfl rfl rfl (Or.inr ⟨_, _, rfl⟩) (Nat.le_of_ble_eq_true rfl) ?_
  refine xK.ifN rfl (fun h1 => ?_) (fun h1 => ?_)
  · skip
    exact absurd ((show xe_X4_leave I L a = 1 from by unfold xe_X4_leave; rw [if_pos h1]).symm.trans he) (by decide)
  · skip
    refine xK.run (q := (23, [(0, xm_r 4 0), (1, xm_i a)], [xm_i a, xm_r 18 0], xh_M I L, 0, 0)) 3 rfl ?_
    refine xK.aald rfl rfl (xh_num' h1).1 (xh_R18 (xh_num' h1).2) ?_
    refine xK.run (q := (27, [(0, xm_r 4 0), (1, xm_i a), (2, xm_r 0 a.toNatClampNeg)], [xm_i 0, xm_r 0 a.toNatClampNeg], xh_M I L, 0, 0)) 3 rfl ?_
    refine xK.putZ rfl (Or.inl rfl) ?_
    refine xK.run (q := (32, [(0, xm_r 4 0), (1, xm_i a), (2, xm_r 0 a.toNatClampNeg)], [xm_r 0 a.toNatClampNeg, xm_r 4 0], xh_M (xm_up I 0 0 a.toNatClampNeg 0) L, 0, 0)) 2 rfl ?_
    refine xK.call [xm_r 4 0, xm_r 0 a.toNatClampNeg] (xd_X4_dropAdviceOf d (xm_up I 0 0 a.toNatClampNeg 0) L a.toNatClampNeg) rfl rfl rfl (Or.inr ⟨_, _, rfl⟩) (Nat.le_of_ble_eq_true rfl) ?_
    rw [show xfI_X4_leave I L a = (xfI_X4_dropAdviceOf (xm_up I 0 0 a.toNatClampNeg 0) L a.toNatClampNeg) from by unfold xfI_X4_leave; rw [if_neg h1]]
    rw [show xfL_X4_leave I L a = (xfL_X4_dropAdviceOf (xm_up I 0 0 a.toNatClampNeg 0) L a.toNatClampNeg) from by unfold xfL_X4_leave; rw [if_neg h1]]
    exact xK.ret rfl ⟨rfl, rfl⟩
set_option maxHeartbeats 4000000 in
set_option maxRecDepth 100000 in
theorem xt_X4_leave_thr (d : Nat) (I : xh_I) (L : xh_L) (a : Int32) (he : xe_X4_leave I L a = 1) : xK (d + 2) xt_X4_leave 0 ([(0, xm_r 4 0), (1, xm_i a)], [], xh_M I L, 0, 0) (xT xt_X4_leave (xh_M I L) 0 0 8) := by
  refine xK.run (q := (2, [(0, xm_r 4 0), (1, xm_i a)], [xm_i a, xm_r 4 0], xh_M I L, 0, 0)) 2 rfl ?_
  refine xK.call [xm_r 4 0, xm_i a] (xd_X4_isThere d I L a) rfl rfl rfl (Or.inr ⟨_, _, rfl⟩) (Nat.le_of_ble_eq_true rfl) ?_
  refine xK.ifN rfl (fun h1 => ?_) (fun h1 => ?_)
  · skip
    exact xK.thr rfl
  · skip
    refine xK.run (q := (23, [(0, xm_r 4 0), (1, xm_i a)], [xm_i a, xm_r 18 0], xh_M I L, 0, 0)) 3 rfl ?_
    refine xK.aald rfl rfl (xh_num' h1).1 (xh_R18 (xh_num' h1).2) ?_
    refine xK.run (q := (27, [(0, xm_r 4 0), (1, xm_i a), (2, xm_r 0 a.toNatClampNeg)], [xm_i 0, xm_r 0 a.toNatClampNeg], xh_M I L, 0, 0)) 3 rfl ?_
    refine xK.putZ rfl (Or.inl rfl) ?_
    refine xK.run (q := (32, [(0, xm_r 4 0), (1, xm_i a), (2, xm_r 0 a.toNatClampNeg)], [xm_r 0 a.toNatClampNeg, xm_r 4 0], xh_M (xm_up I 0 0 a.toNatClampNeg 0) L, 0, 0)) 2 rfl ?_
    refine xK.call [xm_r 4 0, xm_r 0 a.toNatClampNeg] (xd_X4_dropAdviceOf d (xm_up I 0 0 a.toNatClampNeg 0) L a.toNatClampNeg) rfl rfl rfl (Or.inr ⟨_, _, rfl⟩) (Nat.le_of_ble_eq_true rfl) ?_
    exact absurd ((show xe_X4_leave I L a = 0 from by unfold xe_X4_leave; rw [if_neg h1]).symm.trans he) (by decide)
set_option linter.unusedVariables false in
def xf_X4_step (I : xh_I) (L : xh_L) (a : Int32) : Int32 := if a < 0 then 0 else (if a ≤ 300 then (xf_X4_countAdvised ((xg_secs (a.toNatClampNeg) I L).1) ((xg_secs (a.toNatClampNeg) I L).2)) else 0)
set_option linter.unusedVariables false in
def xfI_X4_step (I : xh_I) (L : xh_L) (a : Int32) : xh_I := if a < 0 then I else (if a ≤ 300 then (xfI_X4_countAdvised ((xg_secs (a.toNatClampNeg) I L).1) ((xg_secs (a.toNatClampNeg) I L).2)) else I)
set_option linter.unusedVariables false in
def xfL_X4_step (I : xh_I) (L : xh_L) (a : Int32) : xh_L := if a < 0 then L else (if a ≤ 300 then (xfL_X4_countAdvised ((xg_secs (a.toNatClampNeg) I L).1) ((xg_secs (a.toNatClampNeg) I L).2)) else L)
set_option linter.unusedVariables false in
def xe_X4_step (I : xh_I) (L : xh_L) (a : Int32) : Int32 := if a < 0 then 1 else (if a ≤ 300 then 0 else 1)
set_option maxHeartbeats 4000000 in
set_option maxRecDepth 100000 in
theorem xd_X4_step (d : Nat) (I : xh_I) (L : xh_L) (a : Int32) (hs : xh_St I) (he : xe_X4_step I L a = 0) : xm_Do xp_pg (d + 7) 59 [xm_r 4 0, xm_i a] (xh_M I L) (some (xm_i (xf_X4_step I L a))) (xh_M (xfI_X4_step I L a) (xfL_X4_step I L a)) 0 0 := by
  refine xK.of (Nat.le_of_ble_eq_true rfl) rfl ?_
  refine xK.run (q := (1, [(0, xm_r 4 0), (1, xm_i a)], [xm_i a], xh_M I L, 0, 0)) 1 rfl ?_
  refine xK.ifI rfl (fun h1 => ?_) (fun h1 => ?_)
  · skip
    exact absurd ((show xe_X4_step I L a = 1 from by unfold xe_X4_step; rw [if_pos h1]).symm.trans he) (by decide)
  · skip
    refine xK.run (q := (8, [(0, xm_r 4 0), (1, xm_i a)], [xm_i 300, xm_i a], xh_M I L, 0, 0)) 2 rfl ?_
    refine xK.icmp rfl (fun h2 => ?_) (fun h2 => ?_)
    · skip
      refine xK.run (q := (23, [(0, xm_r 4 0), (1, xm_i a), (2, xm_i 0)], [], xh_M I L, 0, 0)) 2 rfl ?_
      refine xl_secs' d h1 h2 _ _ hs ?_
      refine xK.run (q := (39, [(0, xm_r 4 0), (1, xm_i a), (2, xm_i a)], [xm_r 4 0], xh_M ((xg_secs (a.toNatClampNeg) I L).1) ((xg_secs (a.toNatClampNeg) I L).2), 0, 0)) 1 rfl ?_
      refine xK.call [xm_r 4 0] (xd_X4_countAdvised (d + 5) ((xg_secs (a.toNatClampNeg) I L).1) ((xg_secs (a.toNatClampNeg) I L).2)) rfl rfl rfl (Or.inr ⟨_, _, rfl⟩) (Nat.le_of_ble_eq_true rfl) ?_
      rw [show xf_X4_step I L a = (xf_X4_countAdvised ((xg_secs (a.toNatClampNeg) I L).1) ((xg_secs (a.toNatClampNeg) I L).2)) from by unfold xf_X4_step; rw [if_neg h1, if_pos h2]]
      rw [show xfI_X4_step I L a = (xfI_X4_countAdvised ((xg_secs (a.toNatClampNeg) I L).1) ((xg_secs (a.toNatClampNeg) I L).2)) from by unfold xfI_X4_step; rw [if_neg h1, if_pos h2]]
      rw [show xfL_X4_step I L a = (xfL_X4_countAdvised ((xg_secs (a.toNatClampNeg) I L).1) ((xg_secs (a.toNatClampNeg) I L).2)) from by unfold xfL_X4_step; rw [if_neg h1, if_pos h2]]
      exact xK.ret rfl ⟨_, rfl, rfl⟩
    · skip
      exact absurd ((show xe_X4_step I L a = 1 from by unfold xe_X4_step; rw [if_neg h1, if_neg h2]).symm.trans he) (by decide)
set_option maxHeartbeats 4000000 in
set_option maxRecDepth 100000 in
theorem xt_X4_step_thr (d : Nat) (I : xh_I) (L : xh_L) (a : Int32) (hs : xh_St I) (he : xe_X4_step I L a = 1) : xK (d + 6) xt_X4_step 0 ([(0, xm_r 4 0), (1, xm_i a)], [], xh_M I L, 0, 0) (xT xt_X4_step (xh_M I L) 0 0 11) := by
  refine xK.run (q := (1, [(0, xm_r 4 0), (1, xm_i a)], [xm_i a], xh_M I L, 0, 0)) 1 rfl ?_
  refine xK.ifI rfl (fun h1 => ?_) (fun h1 => ?_)
  · skip
    exact xK.thr rfl
  · skip
    refine xK.run (q := (8, [(0, xm_r 4 0), (1, xm_i a)], [xm_i 300, xm_i a], xh_M I L, 0, 0)) 2 rfl ?_
    refine xK.icmp rfl (fun h2 => ?_) (fun h2 => ?_)
    · skip
      refine xK.run (q := (23, [(0, xm_r 4 0), (1, xm_i a), (2, xm_i 0)], [], xh_M I L, 0, 0)) 2 rfl ?_
      refine xl_secs' d h1 h2 _ _ hs ?_
      refine xK.run (q := (39, [(0, xm_r 4 0), (1, xm_i a), (2, xm_i a)], [xm_r 4 0], xh_M ((xg_secs (a.toNatClampNeg) I L).1) ((xg_secs (a.toNatClampNeg) I L).2), 0, 0)) 1 rfl ?_
      refine xK.call [xm_r 4 0] (xd_X4_countAdvised (d + 5) ((xg_secs (a.toNatClampNeg) I L).1) ((xg_secs (a.toNatClampNeg) I L).2)) rfl rfl rfl (Or.inr ⟨_, _, rfl⟩) (Nat.le_of_ble_eq_true rfl) ?_
      exact absurd ((show xe_X4_step I L a = 0 from by unfold xe_X4_step; rw [if_neg h1, if_pos h2]).symm.trans he) (by decide)
    · skip
      exact xK.thr rfl
set_option linter.unusedVariables false in
def xf_X4_told (I : xh_I) (L : xh_L) (a : Int32) (b : Int32) : Int32 := if (xf_X4_isThere I L a) = 0 then 0 else (if b < 0 then 0 else (if b ≤ 6 then (xf_X0_answer I L a.toNatClampNeg b) else 0))
set_option linter.unusedVariables false in
def xe_X4_told (I : xh_I) (L : xh_L) (a : Int32) (b : Int32) : Int32 := if (xf_X4_isThere I L a) = 0 then 1 else (if b < 0 then 1 else (if b ≤ 6 then 0 else 1))
set_option maxHeartbeats 4000000 in
set_option maxRecDepth 100000 in
theorem xd_X4_told (d : Nat) (I : xh_I) (L : xh_L) (a : Int32) (b : Int32) (he : xe_X4_told I L a b = 0) : xm_Do xp_pg (d + 3) 60 [xm_r 4 0, xm_i a, xm_i b] (xh_M I L) (some (xm_i (xf_X4_told I L a b))) (xh_M I L) 0 0 := by
  refine xK.of (Nat.le_of_ble_eq_true rfl) rfl ?_
  refine xK.run (q := (2, [(0, xm_r 4 0), (1, xm_i a), (2, xm_i b)], [xm_i a, xm_r 4 0], xh_M I L, 0, 0)) 2 rfl ?_
  refine xK.call [xm_r 4 0, xm_i a] (xd_X4_isThere d I L a) rfl rfl rfl (Or.inr ⟨_, _, rfl⟩) (Nat.le_of_ble_eq_true rfl) ?_
  refine xK.ifI rfl (fun h1 => ?_) (fun h1 => ?_)
  · skip
    exact absurd ((show xe_X4_told I L a b = 1 from by unfold xe_X4_told; rw [if_pos h1]).symm.trans he) (by decide)
  · skip
    refine xK.run (q := (9, [(0, xm_r 4 0), (1, xm_i a), (2, xm_i b)], [xm_i b], xh_M I L, 0, 0)) 1 rfl ?_
    refine xK.ifI rfl (fun h2 => ?_) (fun h2 => ?_)
    · skip
      exact absurd ((show xe_X4_told I L a b = 1 from by unfold xe_X4_told; rw [if_neg h1, if_pos h2]).symm.trans he) (by decide)
    · skip
      refine xK.run (q := (15, [(0, xm_r 4 0), (1, xm_i a), (2, xm_i b)], [xm_i 6, xm_i b], xh_M I L, 0, 0)) 2 rfl ?_
      refine xK.icmp rfl (fun h3 => ?_) (fun h3 => ?_)
      · skip
        refine xK.run (q := (33, [(0, xm_r 4 0), (1, xm_i a), (2, xm_i b)], [xm_i a, xm_r 18 0], xh_M I L, 0, 0)) 3 rfl ?_
        refine xK.aald rfl rfl (xh_num' h1).1 (xh_R18 (xh_num' h1).2) ?_
        refine xK.run (q := (35, [(0, xm_r 4 0), (1, xm_i a), (2, xm_i b)], [xm_i b, xm_r 0 a.toNatClampNeg], xh_M I L, 0, 0)) 1 rfl ?_
        refine xK.call [xm_r 0 a.toNatClampNeg, xm_i b] (xd_X0_answer (d + 1) I L a.toNatClampNeg b (xh_c6 h2 (Int32.not_lt.mpr h3))) rfl rfl rfl (Or.inr ⟨_, _, rfl⟩) (Nat.le_of_ble_eq_true rfl) ?_
        rw [show xf_X4_told I L a b = (xf_X0_answer I L a.toNatClampNeg b) from by unfold xf_X4_told; rw [if_neg h1, if_neg h2, if_pos h3]]
        exact xK.ret rfl ⟨_, rfl, rfl⟩
      · skip
        exact absurd ((show xe_X4_told I L a b = 1 from by unfold xe_X4_told; rw [if_neg h1, if_neg h2, if_neg h3]).symm.trans he) (by decide)
set_option maxHeartbeats 4000000 in
set_option maxRecDepth 100000 in
theorem xt_X4_told_thr (d : Nat) (I : xh_I) (L : xh_L) (a : Int32) (b : Int32) (he : xe_X4_told I L a b = 1) : xK (d + 2) xt_X4_told 0 ([(0, xm_r 4 0), (1, xm_i a), (2, xm_i b)], [], xh_M I L, 0, 0) (xT xt_X4_told (xh_M I L) 0 0 18) := by
  refine xK.run (q := (2, [(0, xm_r 4 0), (1, xm_i a), (2, xm_i b)], [xm_i a, xm_r 4 0], xh_M I L, 0, 0)) 2 rfl ?_
  refine xK.call [xm_r 4 0, xm_i a] (xd_X4_isThere d I L a) rfl rfl rfl (Or.inr ⟨_, _, rfl⟩) (Nat.le_of_ble_eq_true rfl) ?_
  refine xK.ifI rfl (fun h1 => ?_) (fun h1 => ?_)
  · skip
    exact xK.thr rfl
  · skip
    refine xK.run (q := (9, [(0, xm_r 4 0), (1, xm_i a), (2, xm_i b)], [xm_i b], xh_M I L, 0, 0)) 1 rfl ?_
    refine xK.ifI rfl (fun h2 => ?_) (fun h2 => ?_)
    · skip
      exact xK.thr rfl
    · skip
      refine xK.run (q := (15, [(0, xm_r 4 0), (1, xm_i a), (2, xm_i b)], [xm_i 6, xm_i b], xh_M I L, 0, 0)) 2 rfl ?_
      refine xK.icmp rfl (fun h3 => ?_) (fun h3 => ?_)
      · skip
        refine xK.run (q := (33, [(0, xm_r 4 0), (1, xm_i a), (2, xm_i b)], [xm_i a, xm_r 18 0], xh_M I L, 0, 0)) 3 rfl ?_
        refine xK.aald rfl rfl (xh_num' h1).1 (xh_R18 (xh_num' h1).2) ?_
        refine xK.run (q := (35, [(0, xm_r 4 0), (1, xm_i a), (2, xm_i b)], [xm_i b, xm_r 0 a.toNatClampNeg], xh_M I L, 0, 0)) 1 rfl ?_
        refine xK.call [xm_r 0 a.toNatClampNeg, xm_i b] (xd_X0_answer (d + 1) I L a.toNatClampNeg b (xh_c6 h2 (Int32.not_lt.mpr h3))) rfl rfl rfl (Or.inr ⟨_, _, rfl⟩) (Nat.le_of_ble_eq_true rfl) ?_
        exact absurd ((show xe_X4_told I L a b = 0 from by unfold xe_X4_told; rw [if_neg h1, if_neg h2, if_pos h3]).symm.trans he) (by decide)
      · skip
        exact xK.thr rfl
set_option linter.unusedVariables false in
def xf_X4_pair (I : xh_I) (L : xh_L) (a : Int32) (b : Int32) (c : Int32) : Int32 := if a = b then 0 else (if (xf_X4_isThere I L a) = 0 then 0 else (if (xf_X4_isThere I L b) = 0 then 0 else (if c < 0 then 0 else (if c ≤ 10 then (if b ≤ a then (xf_X1_answer I L (xh_pn a.toNatClampNeg b.toNatClampNeg) 0 c) else (xf_X1_answer I L (xh_pn a.toNatClampNeg b.toNatClampNeg) 1 c)) else 0))))
set_option linter.unusedVariables false in
def xe_X4_pair (I : xh_I) (L : xh_L) (a : Int32) (b : Int32) (c : Int32) : Int32 := if a = b then 1 else (if (xf_X4_isThere I L a) = 0 then 1 else (if (xf_X4_isThere I L b) = 0 then 1 else (if c < 0 then 1 else (if c ≤ 10 then (if b ≤ a then 0 else 0) else 1))))
set_option maxHeartbeats 4000000 in
set_option maxRecDepth 100000 in
theorem xd_X4_pair (d : Nat) (I : xh_I) (L : xh_L) (a : Int32) (b : Int32) (c : Int32) (he : xe_X4_pair I L a b c = 0) : xm_Do xp_pg (d + 7) 61 [xm_r 4 0, xm_i a, xm_i b, xm_i c] (xh_M I L) (some (xm_i (xf_X4_pair I L a b c))) (xh_M I L) 0 0 := by
  refine xK.of (Nat.le_of_ble_eq_true rfl) rfl ?_
  refine xK.run (q := (2, [(0, xm_r 4 0), (1, xm_i a), (2, xm_i b), (3, xm_i c)], [xm_i b, xm_i a], xh_M I L, 0, 0)) 2 rfl ?_
  refine xK.icmp rfl (fun h1 => ?_) (fun h1 => ?_)
  · skip
    exact absurd ((show xe_X4_pair I L a b c = 1 from by unfold xe_X4_pair; rw [if_pos h1]).symm.trans he) (by decide)
  · skip
    refine xK.run (q := (7, [(0, xm_r 4 0), (1, xm_i a), (2, xm_i b), (3, xm_i c)], [xm_i a, xm_r 4 0], xh_M I L, 0, 0)) 2 rfl ?_
    refine xK.call [xm_r 4 0, xm_i a] (xd_X4_isThere (d + 4) I L a) rfl rfl rfl (Or.inr ⟨_, _, rfl⟩) (Nat.le_of_ble_eq_true rfl) ?_
    refine xK.ifI rfl (fun h2 => ?_) (fun h2 => ?_)
    · skip
      exact absurd ((show xe_X4_pair I L a b c = 1 from by unfold xe_X4_pair; rw [if_neg h1, if_pos h2]).symm.trans he) (by decide)
    · skip
      refine xK.run (q := (15, [(0, xm_r 4 0), (1, xm_i a), (2, xm_i b), (3, xm_i c)], [xm_i b, xm_r 4 0], xh_M I L, 0, 0)) 2 rfl ?_
      refine xK.call [xm_r 4 0, xm_i b] (xd_X4_isThere (d + 4) I L b) rfl rfl rfl (Or.inr ⟨_, _, rfl⟩) (Nat.le_of_ble_eq_true rfl) ?_
      refine xK.ifI rfl (fun h3 => ?_) (fun h3 => ?_)
      · skip
        exact absurd ((show xe_X4_pair I L a b c = 1 from by unfold xe_X4_pair; rw [if_neg h1, if_neg h2, if_pos h3]).symm.trans he) (by decide)
      · skip
        refine xK.run (q := (22, [(0, xm_r 4 0), (1, xm_i a), (2, xm_i b), (3, xm_i c)], [xm_i c], xh_M I L, 0, 0)) 1 rfl ?_
        refine xK.ifI rfl (fun h4 => ?_) (fun h4 => ?_)
        · skip
          exact absurd ((show xe_X4_pair I L a b c = 1 from by unfold xe_X4_pair; rw [if_neg h1, if_neg h2, if_neg h3, if_pos h4]).symm.trans he) (by decide)
        · skip
          refine xK.run (q := (28, [(0, xm_r 4 0), (1, xm_i a), (2, xm_i b), (3, xm_i c)], [xm_i 10, xm_i c], xh_M I L, 0, 0)) 2 rfl ?_
          refine xK.icmp rfl (fun h5 => ?_) (fun h5 => ?_)
          · skip
            refine xK.run (q := (55, [(0, xm_r 4 0), (1, xm_i a), (2, xm_i b), (3, xm_i c)], [xm_i (xo_max a b), xm_i (xo_min a b), xm_r 19 0], xh_M I L, 0, 0)) 8 rfl ?_
            refine xK.call [xm_i (xo_min a b), xm_i (xo_max a b)] (xd_X4_pairNumber (d + 5) I L (xo_min a b) (xo_max a b)) rfl rfl rfl (Or.inl rfl) (Nat.le_of_ble_eq_true rfl) ?_
            refine xK.aald rfl rfl (xh_pn_ix' (xh_num' h2).1 (xh_num' h3).1 h1).1 (xh_R19 (xh_pn_ix' (I := I) (L := L) (xh_num' h2).1 (xh_num' h3).1 h1).2) ?_
            refine xK.run (q := (62, [(0, xm_r 4 0), (1, xm_i a), (2, xm_i b), (3, xm_i c)], [xm_i b, xm_i a, xm_i c, xm_r 1 (xh_pn a.toNatClampNeg b.toNatClampNeg)], xh_M I L, 0, 0)) 3 rfl ?_
            refine xK.icmp rfl (fun h6 => ?_) (fun h6 => ?_)
            · skip
              refine xK.run (q := (70, [(0, xm_r 4 0), (1, xm_i a), (2, xm_i b), (3, xm_i c)], [xm_i 0, xm_i c, xm_r 1 (xh_pn a.toNatClampNeg b.toNatClampNeg)], xh_M I L, 0, 0)) 1 rfl ?_
              refine xK.call [xm_r 1 (xh_pn a.toNatClampNeg b.toNatClampNeg), xm_i c, xm_i 0] (xd_X1_answer d I L (xh_pn a.toNatClampNeg b.toNatClampNeg) 0 c (xh_c10 h4 (Int32.not_lt.mpr h5))) rfl rfl rfl (Or.inr ⟨_, _, rfl⟩) (Nat.le_of_ble_eq_true rfl) ?_
              rw [show xf_X4_pair I L a b c = (xf_X1_answer I L (xh_pn a.toNatClampNeg b.toNatClampNeg) 0 c) from by unfold xf_X4_pair; rw [if_neg h1, if_neg h2, if_neg h3, if_neg h4, if_pos h5, if_pos h6]]
              exact xK.ret rfl ⟨_, rfl, rfl⟩
            · skip
              refine xK.run (q := (70, [(0, xm_r 4 0), (1, xm_i a), (2, xm_i b), (3, xm_i c)], [xm_i 1, xm_i c, xm_r 1 (xh_pn a.toNatClampNeg b.toNatClampNeg)], xh_M I L, 0, 0)) 2 rfl ?_
              refine xK.call [xm_r 1 (xh_pn a.toNatClampNeg b.toNatClampNeg), xm_i c, xm_i 1] (xd_X1_answer d I L (xh_pn a.toNatClampNeg b.toNatClampNeg) 1 c (xh_c10 h4 (Int32.not_lt.mpr h5))) rfl rfl rfl (Or.inr ⟨_, _, rfl⟩) (Nat.le_of_ble_eq_true rfl) ?_
              rw [show xf_X4_pair I L a b c = (xf_X1_answer I L (xh_pn a.toNatClampNeg b.toNatClampNeg) 1 c) from by unfold xf_X4_pair; rw [if_neg h1, if_neg h2, if_neg h3, if_neg h4, if_pos h5, if_neg h6]]
              exact xK.ret rfl ⟨_, rfl, rfl⟩
          · skip
            exact absurd ((show xe_X4_pair I L a b c = 1 from by unfold xe_X4_pair; rw [if_neg h1, if_neg h2, if_neg h3, if_neg h4, if_neg h5]).symm.trans he) (by decide)
set_option maxHeartbeats 4000000 in
set_option maxRecDepth 100000 in
theorem xt_X4_pair_thr (d : Nat) (I : xh_I) (L : xh_L) (a : Int32) (b : Int32) (c : Int32) (he : xe_X4_pair I L a b c = 1) : xK (d + 6) xt_X4_pair 0 ([(0, xm_r 4 0), (1, xm_i a), (2, xm_i b), (3, xm_i c)], [], xh_M I L, 0, 0) (xT xt_X4_pair (xh_M I L) 0 0 31) := by
  refine xK.run (q := (2, [(0, xm_r 4 0), (1, xm_i a), (2, xm_i b), (3, xm_i c)], [xm_i b, xm_i a], xh_M I L, 0, 0)) 2 rfl ?_
  refine xK.icmp rfl (fun h1 => ?_) (fun h1 => ?_)
  · skip
    exact xK.thr rfl
  · skip
    refine xK.run (q := (7, [(0, xm_r 4 0), (1, xm_i a), (2, xm_i b), (3, xm_i c)], [xm_i a, xm_r 4 0], xh_M I L, 0, 0)) 2 rfl ?_
    refine xK.call [xm_r 4 0, xm_i a] (xd_X4_isThere (d + 4) I L a) rfl rfl rfl (Or.inr ⟨_, _, rfl⟩) (Nat.le_of_ble_eq_true rfl) ?_
    refine xK.ifI rfl (fun h2 => ?_) (fun h2 => ?_)
    · skip
      exact xK.thr rfl
    · skip
      refine xK.run (q := (15, [(0, xm_r 4 0), (1, xm_i a), (2, xm_i b), (3, xm_i c)], [xm_i b, xm_r 4 0], xh_M I L, 0, 0)) 2 rfl ?_
      refine xK.call [xm_r 4 0, xm_i b] (xd_X4_isThere (d + 4) I L b) rfl rfl rfl (Or.inr ⟨_, _, rfl⟩) (Nat.le_of_ble_eq_true rfl) ?_
      refine xK.ifI rfl (fun h3 => ?_) (fun h3 => ?_)
      · skip
        exact xK.thr rfl
      · skip
        refine xK.run (q := (22, [(0, xm_r 4 0), (1, xm_i a), (2, xm_i b), (3, xm_i c)], [xm_i c], xh_M I L, 0, 0)) 1 rfl ?_
        refine xK.ifI rfl (fun h4 => ?_) (fun h4 => ?_)
        · skip
          exact xK.thr rfl
        · skip
          refine xK.run (q := (28, [(0, xm_r 4 0), (1, xm_i a), (2, xm_i b), (3, xm_i c)], [xm_i 10, xm_i c], xh_M I L, 0, 0)) 2 rfl ?_
          refine xK.icmp rfl (fun h5 => ?_) (fun h5 => ?_)
          · skip
            refine xK.run (q := (55, [(0, xm_r 4 0), (1, xm_i a), (2, xm_i b), (3, xm_i c)], [xm_i (xo_max a b), xm_i (xo_min a b), xm_r 19 0], xh_M I L, 0, 0)) 8 rfl ?_
            refine xK.call [xm_i (xo_min a b), xm_i (xo_max a b)] (xd_X4_pairNumber (d + 5) I L (xo_min a b) (xo_max a b)) rfl rfl rfl (Or.inl rfl) (Nat.le_of_ble_eq_true rfl) ?_
            refine xK.aald rfl rfl (xh_pn_ix' (xh_num' h2).1 (xh_num' h3).1 h1).1 (xh_R19 (xh_pn_ix' (I := I) (L := L) (xh_num' h2).1 (xh_num' h3).1 h1).2) ?_
            refine xK.run (q := (62, [(0, xm_r 4 0), (1, xm_i a), (2, xm_i b), (3, xm_i c)], [xm_i b, xm_i a, xm_i c, xm_r 1 (xh_pn a.toNatClampNeg b.toNatClampNeg)], xh_M I L, 0, 0)) 3 rfl ?_
            refine xK.icmp rfl (fun h6 => ?_) (fun h6 => ?_)
            · skip
              refine xK.run (q := (70, [(0, xm_r 4 0), (1, xm_i a), (2, xm_i b), (3, xm_i c)], [xm_i 0, xm_i c, xm_r 1 (xh_pn a.toNatClampNeg b.toNatClampNeg)], xh_M I L, 0, 0)) 1 rfl ?_
              refine xK.call [xm_r 1 (xh_pn a.toNatClampNeg b.toNatClampNeg), xm_i c, xm_i 0] (xd_X1_answer d I L (xh_pn a.toNatClampNeg b.toNatClampNeg) 0 c (xh_c10 h4 (Int32.not_lt.mpr h5))) rfl rfl rfl (Or.inr ⟨_, _, rfl⟩) (Nat.le_of_ble_eq_true rfl) ?_
              exact absurd ((show xe_X4_pair I L a b c = 0 from by unfold xe_X4_pair; rw [if_neg h1, if_neg h2, if_neg h3, if_neg h4, if_pos h5, if_pos h6]).symm.trans he) (by decide)
            · skip
              refine xK.run (q := (70, [(0, xm_r 4 0), (1, xm_i a), (2, xm_i b), (3, xm_i c)], [xm_i 1, xm_i c, xm_r 1 (xh_pn a.toNatClampNeg b.toNatClampNeg)], xh_M I L, 0, 0)) 2 rfl ?_
              refine xK.call [xm_r 1 (xh_pn a.toNatClampNeg b.toNatClampNeg), xm_i c, xm_i 1] (xd_X1_answer d I L (xh_pn a.toNatClampNeg b.toNatClampNeg) 1 c (xh_c10 h4 (Int32.not_lt.mpr h5))) rfl rfl rfl (Or.inr ⟨_, _, rfl⟩) (Nat.le_of_ble_eq_true rfl) ?_
              exact absurd ((show xe_X4_pair I L a b c = 0 from by unfold xe_X4_pair; rw [if_neg h1, if_neg h2, if_neg h3, if_neg h4, if_pos h5, if_neg h6]).symm.trans he) (by decide)
          · skip
            exact xK.thr rfl
set_option linter.unusedVariables false in
def xf_X4_all (I : xh_I) (L : xh_L) (a : Int32) : Int32 := if a < 0 then 0 else (if a ≤ 4 then (xf_X3_answer I L a) else 0)
set_option linter.unusedVariables false in
def xe_X4_all (I : xh_I) (L : xh_L) (a : Int32) : Int32 := if a < 0 then 1 else (if a ≤ 4 then 0 else 1)
set_option maxHeartbeats 4000000 in
set_option maxRecDepth 100000 in
theorem xd_X4_all (d : Nat) (I : xh_I) (L : xh_L) (a : Int32) (he : xe_X4_all I L a = 0) : xm_Do xp_pg (d + 2) 62 [xm_r 4 0, xm_i a] (xh_M I L) (some (xm_i (xf_X4_all I L a))) (xh_M I L) 0 0 := by
  refine xK.of (Nat.le_of_ble_eq_true rfl) rfl ?_
  refine xK.run (q := (1, [(0, xm_r 4 0), (1, xm_i a)], [xm_i a], xh_M I L, 0, 0)) 1 rfl ?_
  refine xK.ifI rfl (fun h1 => ?_) (fun h1 => ?_)
  · skip
    exact absurd ((show xe_X4_all I L a = 1 from by unfold xe_X4_all; rw [if_pos h1]).symm.trans he) (by decide)
  · skip
    refine xK.run (q := (6, [(0, xm_r 4 0), (1, xm_i a)], [xm_i 4, xm_i a], xh_M I L, 0, 0)) 2 rfl ?_
    refine xK.icmp rfl (fun h2 => ?_) (fun h2 => ?_)
    · skip
      refine xK.run (q := (24, [(0, xm_r 4 0), (1, xm_i a)], [xm_i a, xm_r 3 0], xh_M I L, 0, 0)) 3 rfl ?_
      refine xK.call [xm_r 3 0, xm_i a] (xd_X3_answer d I L a (xh_c4 h1 (Int32.not_lt.mpr h2))) rfl rfl rfl (Or.inr ⟨_, _, rfl⟩) (Nat.le_of_ble_eq_true rfl) ?_
      rw [show xf_X4_all I L a = (xf_X3_answer I L a) from by unfold xf_X4_all; rw [if_neg h1, if_pos h2]]
      exact xK.ret rfl ⟨_, rfl, rfl⟩
    · skip
      exact absurd ((show xe_X4_all I L a = 1 from by unfold xe_X4_all; rw [if_neg h1, if_neg h2]).symm.trans he) (by decide)
set_option maxHeartbeats 4000000 in
set_option maxRecDepth 100000 in
theorem xt_X4_all_thr (d : Nat) (I : xh_I) (L : xh_L) (a : Int32) (he : xe_X4_all I L a = 1) : xK (d + 1) xt_X4_all 0 ([(0, xm_r 4 0), (1, xm_i a)], [], xh_M I L, 0, 0) (xT xt_X4_all (xh_M I L) 0 0 9) := by
  refine xK.run (q := (1, [(0, xm_r 4 0), (1, xm_i a)], [xm_i a], xh_M I L, 0, 0)) 1 rfl ?_
  refine xK.ifI rfl (fun h1 => ?_) (fun h1 => ?_)
  · skip
    exact xK.thr rfl
  · skip
    refine xK.run (q := (6, [(0, xm_r 4 0), (1, xm_i a)], [xm_i 4, xm_i a], xh_M I L, 0, 0)) 2 rfl ?_
    refine xK.icmp rfl (fun h2 => ?_) (fun h2 => ?_)
    · skip
      refine xK.run (q := (24, [(0, xm_r 4 0), (1, xm_i a)], [xm_i a, xm_r 3 0], xh_M I L, 0, 0)) 3 rfl ?_
      refine xK.call [xm_r 3 0, xm_i a] (xd_X3_answer d I L a (xh_c4 h1 (Int32.not_lt.mpr h2))) rfl rfl rfl (Or.inr ⟨_, _, rfl⟩) (Nat.le_of_ble_eq_true rfl) ?_
      exact absurd ((show xe_X4_all I L a = 0 from by unfold xe_X4_all; rw [if_neg h1, if_pos h2]).symm.trans he) (by decide)
    · skip
      exact xK.thr rfl
