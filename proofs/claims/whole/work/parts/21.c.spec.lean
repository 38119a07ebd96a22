/-! WHAT METHODS COMPUTE (by program) -/
set_option linter.unusedVariables false in
def xg_move  : Nat → Nat → xh_I → xh_L → xh_I × xh_L
  | 0, j, I, L => (I, L)
  | n + 1, j, I, L => if (I 0 0 j) = 0 then (xg_move  n (j + 1) I L) else (xg_move  n (j + 1) (xfI_X0_move I L j) L)
set_option maxHeartbeats 4000000 in
set_option maxRecDepth 100000 in
theorem xl_move_B (d : Nat)   {E : Nat → xm_S → Prop} : ∀ (n j : Nat), j + n = 6 → 1 ≤ j → ∀ (I : xh_I) (L : xh_L) , xK (d + 2) xt_X4_passSecond 39 ([(0, xm_r 4 0), (1, xm_r 18 0), (2, xm_i 6), (3, xm_i 6), (4, xm_r 0 5)], [], xh_M (xg_move  n j I L ).1 (xg_move  n j I L ).2, 0, 0) E → xK (d + 2) xt_X4_passSecond 10 ([(0, xm_r 4 0), (1, xm_r 18 0), (2, xm_i 6), (3, xm_i (nI j)), (4, xm_r 0 (j - 1))], [], xh_M I L, 0, 0) E := by
  intro n
  induction n with
  | zero =>
    intro j hj h1 I L  hk
    have hjN : j = 6 := by omega
    subst hjN
    refine xK.run (q := (12, ([(0, xm_r 4 0), (1, xm_r 18 0), (2, xm_i 6), (3, xm_i (nI 6)), (4, xm_r 0 (6 - 1))], [xm_i 6, xm_i (nI 6)], xh_M I L, 0, 0))) 2 rfl ?_
    exact xK.icmp rfl (fun _ => hk) (fun h9 => absurd (by decide) h9)
  | succ n ih =>
    intro j hj hj1 I L  hk
    have hj8 : j < 6 := by omega
    have hj9 : ¬ (6 : Int32) ≤ nI j := nI_ge (b := 6) hj8 (by decide)
    refine xK.run (q := (12, [(0, xm_r 4 0), (1, xm_r 18 0), (2, xm_i 6), (3, xm_i (nI j)), (4, xm_r 0 (j - 1))], [xm_i 6, xm_i (nI j)], xh_M I L, 0, 0)) 2 rfl ?_
    refine xK.icmp rfl (fun h9 => absurd h9 hj9) (fun _ => ?_)
    refine xK.run (q := (17, [(0, xm_r 4 0), (1, xm_r 18 0), (2, xm_i 6), (3, xm_i (nI j)), (4, xm_r 0 (j - 1))], [xm_i (nI j), xm_r 18 0], xh_M I L, 0, 0)) 2 rfl ?_
    refine xK.aald rfl rfl (xh_ix_nI (N := 6) hj8 (by decide)) (xh_R18 hj8) ?_
    refine xK.run (q := (25, [(0, xm_r 4 0), (1, xm_r 18 0), (2, xm_i 6), (3, xm_i (nI j)), (4, xm_r 0 j)], [xm_i (I 0 0 j)], xh_M I L, 0, 0)) 3 rfl ?_
    refine xK.ifI rfl (fun h1 => ?_) (fun h1 => ?_)
    · skip
      refine xK.run (q := (10, [(0, xm_r 4 0), (1, xm_r 18 0), (2, xm_i 6), (3, xm_i ((nI j) + 1)), (4, xm_r 0 j)], [], xh_M I L, 0, 0)) 2 rfl ?_
      rw [nI_1 j]
      refine ih (j + 1) (by omega) (by omega) I L ?_
      rw [show xg_move  (n + 1) j I L  = xg_move  n (j + 1) I L from by rw [xg_move]; rw [if_pos h1]] at hk
      exact hk
    · skip
      refine xK.run (q := (30, [(0, xm_r 4 0), (1, xm_r 18 0), (2, xm_i 6), (3, xm_i (nI j)), (4, xm_r 0 j)], [xm_r 0 j], xh_M I L, 0, 0)) 1 rfl ?_
      refine xK.call [xm_r 0 j] (xd_X0_move d I L j) rfl rfl rfl (Or.inr ⟨_, _, rfl⟩) (Nat.le_of_ble_eq_true rfl) ?_
      refine xK.run (q := (10, [(0, xm_r 4 0), (1, xm_r 18 0), (2, xm_i 6), (3, xm_i ((nI j) + 1)), (4, xm_r 0 j)], [], xh_M (xfI_X0_move I L j) L, 0, 0)) 2 rfl ?_
      rw [nI_1 j]
      refine ih (j + 1) (by omega) (by omega) (xfI_X0_move I L j) L ?_
      rw [show xg_move  (n + 1) j I L  = xg_move  n (j + 1) (xfI_X0_move I L j) L from by rw [xg_move]; rw [if_neg h1]] at hk
      exact hk
set_option maxHeartbeats 4000000 in
set_option maxRecDepth 100000 in
theorem xl_move_A (d : Nat)   {E : Nat → xm_S → Prop} (I : xh_I) (L : xh_L)  (hk : xK (d + 2) xt_X4_passSecond 39 ([(0, xm_r 4 0), (1, xm_r 18 0), (2, xm_i 6), (3, xm_i 6), (4, xm_r 0 5)], [], xh_M (xg_move  6 0 I L ).1 (xg_move  6 0 I L ).2, 0, 0) E) : xK (d + 2) xt_X4_passSecond 10 ([(0, xm_r 4 0), (1, xm_r 18 0), (2, xm_i 6), (3, xm_i 0)], [], xh_M I L, 0, 0) E := by
  refine xK.run (q := (12, [(0, xm_r 4 0), (1, xm_r 18 0), (2, xm_i 6), (3, xm_i 0)], [xm_i 6, xm_i 0], xh_M I L, 0, 0)) 2 rfl ?_
  refine xK.icmp rfl (fun h9 => absurd h9 (by decide)) (fun _ => ?_)
  refine xK.run (q := (17, [(0, xm_r 4 0), (1, xm_r 18 0), (2, xm_i 6), (3, xm_i 0)], [xm_i 0, xm_r 18 0], xh_M I L, 0, 0)) 2 rfl ?_
  refine xK.aald rfl rfl (show xh_ix 0 0 6 by decide) rfl ?_
  refine xK.run (q := (25, [(0, xm_r 4 0), (1, xm_r 18 0), (2, xm_i 6), (3, xm_i 0), (4, xm_r 0 0)], [xm_i (I 0 0 0)], xh_M I L, 0, 0)) 3 rfl ?_
  refine xK.ifI rfl (fun h1 => ?_) (fun h1 => ?_)
  · skip
    refine xK.run (q := (10, [(0, xm_r 4 0), (1, xm_r 18 0), (2, xm_i 6), (3, xm_i 1), (4, xm_r 0 0)], [], xh_M I L, 0, 0)) 2 rfl ?_
    refine xl_move_B d   5 1 (by decide) (by decide) I L ?_
    rw [show xg_move  6 0 I L  = xg_move  5 1 I L from by rw [show (6 : Nat) = 5 + 1 from rfl, xg_move]; rw [if_pos h1]] at hk
    exact hk
  · skip
    refine xK.run (q := (30, [(0, xm_r 4 0), (1, xm_r 18 0), (2, xm_i 6), (3, xm_i 0), (4, xm_r 0 0)], [xm_r 0 0], xh_M I L, 0, 0)) 1 rfl ?_
    refine xK.call [xm_r 0 0] (xd_X0_move d I L 0) rfl rfl rfl (Or.inr ⟨_, _, rfl⟩) (Nat.le_of_ble_eq_true rfl) ?_
    refine xK.run (q := (10, [(0, xm_r 4 0), (1, xm_r 18 0), (2, xm_i 6), (3, xm_i 1), (4, xm_r 0 0)], [], xh_M (xfI_X0_move I L 0) L, 0, 0)) 2 rfl ?_
    refine xl_move_B d   5 1 (by decide) (by decide) (xfI_X0_move I L 0) L ?_
    rw [show xg_move  6 0 I L  = xg_move  5 1 (xfI_X0_move I L 0) L from by rw [show (6 : Nat) = 5 + 1 from rfl, xg_move]; rw [if_neg h1]] at hk
    exact hk
set_option linter.unusedVariables false in
def xg_heeds  : Nat → Nat → xh_I → xh_L → xh_I × xh_L
  | 0, j, I, L => (I, L)
  | n + 1, j, I, L => if (I 0 0 j) = 0 then (xg_heeds  n (j + 1) I L) else (if (I 0 1 j) = 0 then (xg_heeds  n (j + 1) I L) else (xg_heeds  n (j + 1) (xfI_X4_heedAdvice I L j) (xfL_X4_heedAdvice I L j)))
set_option maxHeartbeats 4000000 in
set_option maxRecDepth 100000 in
theorem xl_heeds_B (d : Nat)   {E : Nat → xm_S → Prop} : ∀ (n j : Nat), j + n = 6 → 1 ≤ j → ∀ (I : xh_I) (L : xh_L) , xK (d + 3) xt_X4_passSecond 87 ([(0, xm_r 4 0), (1, xm_r 18 0), (2, xm_i 6), (3, xm_i 6), (4, xm_r 0 5)], [], xh_M (xg_heeds  n j I L ).1 (xg_heeds  n j I L ).2, 0, 0) E → xK (d + 3) xt_X4_passSecond 49 ([(0, xm_r 4 0), (1, xm_r 18 0), (2, xm_i 6), (3, xm_i (nI j)), (4, xm_r 0 (j - 1))], [], xh_M I L, 0, 0) E := by
  intro n
  induction n with
  | zero =>
    intro j hj h1 I L  hk
    have hjN : j = 6 := by omega
    subst hjN
    refine xK.run (q := (51, ([(0, xm_r 4 0), (1, xm_r 18 0), (2, xm_i 6), (3, xm_i (nI 6)), (4, xm_r 0 (6 - 1))], [xm_i 6, xm_i (nI 6)], xh_M I L, 0, 0))) 2 rfl ?_
    exact xK.icmp rfl (fun _ => hk) (fun h9 => absurd (by decide) h9)
  | succ n ih =>
    intro j hj hj1 I L  hk
    have hj8 : j < 6 := by omega
    have hj9 : ¬ (6 : Int32) ≤ nI j := nI_ge (b := 6) hj8 (by decide)
    refine xK.run (q := (51, [(0, xm_r 4 0), (1, xm_r 18 0), (2, xm_i 6), (3, xm_i (nI j)), (4, xm_r 0 (j - 1))], [xm_i 6, xm_i (nI j)], xh_M I L, 0, 0)) 2 rfl ?_
    refine xK.icmp rfl (fun h9 => absurd h9 hj9) (fun _ => ?_)
    refine xK.run (q := (56, [(0, xm_r 4 0), (1, xm_r 18 0), (2, xm_i 6), (3, xm_i (nI j)), (4, xm_r 0 (j - 1))], [xm_i (nI j), xm_r 18 0], xh_M I L, 0, 0)) 2 rfl ?_
    refine xK.aald rfl rfl (xh_ix_nI (N := 6) hj8 (by decide)) (xh_R18 hj8) ?_
    refine xK.run (q := (64, [(0, xm_r 4 0), (1, xm_r 18 0), (2, xm_i 6), (3, xm_i (nI j)), (4, xm_r 0 j)], [xm_i (I 0 0 j)], xh_M I L, 0, 0)) 3 rfl ?_
    refine xK.ifI rfl (fun h1 => ?_) (fun h1 => ?_)
    · skip
      refine xK.run (q := (49, [(0, xm_r 4 0), (1, xm_r 18 0), (2, xm_i 6), (3, xm_i ((nI j) + 1)), (4, xm_r 0 j)], [], xh_M I L, 0, 0)) 2 rfl ?_
      rw [nI_1 j]
      refine ih (j + 1) (by omega) (by omega) I L ?_
      rw [show xg_heeds  (n + 1) j I L  = xg_heeds  n (j + 1) I L from by rw [xg_heeds]; rw [if_pos h1]] at hk
      exact hk
    · skip
      refine xK.run (q := (72, [(0, xm_r 4 0), (1, xm_r 18 0), (2, xm_i 6), (3, xm_i (nI j)), (4, xm_r 0 j)], [xm_i (I 0 1 j)], xh_M I L, 0, 0)) 2 rfl ?_
      refine xK.ifI rfl (fun h2 => ?_) (fun h2 => ?_)
      · skip
        refine xK.run (q := (49, [(0, xm_r 4 0), (1, xm_r 18 0), (2, xm_i 6), (3, xm_i ((nI j) + 1)), (4, xm_r 0 j)], [], xh_M I L, 0, 0)) 2 rfl ?_
        rw [nI_1 j]
        refine ih (j + 1) (by omega) (by omega) I L ?_
        rw [show xg_heeds  (n + 1) j I L  = xg_heeds  n (j + 1) I L from by rw [xg_heeds]; rw [if_neg h1, if_pos h2]] at hk
        exact hk
      · skip
        refine xK.run (q := (78, [(0, xm_r 4 0), (1, xm_r 18 0), (2, xm_i 6), (3, xm_i (nI j)), (4, xm_r 0 j)], [xm_r 0 j, xm_r 4 0], xh_M I L, 0, 0)) 2 rfl ?_
        refine xK.call [xm_r 4 0, xm_r 0 j] (xd_X4_heedAdvice d I L j) rfl rfl rfl (Or.inr ⟨_, _, rfl⟩) (Nat.le_of_ble_eq_true rfl) ?_
        refine xK.run (q := (49, [(0, xm_r 4 0), (1, xm_r 18 0), (2, xm_i 6), (3, xm_i ((nI j) + 1)), (4, xm_r 0 j)], [], xh_M (xfI_X4_heedAdvice I L j) (xfL_X4_heedAdvice I L j), 0, 0)) 2 rfl ?_
        rw [nI_1 j]
        refine ih (j + 1) (by omega) (by omega) (xfI_X4_heedAdvice I L j) (xfL_X4_heedAdvice I L j) ?_
        rw [show xg_heeds  (n + 1) j I L  = xg_heeds  n (j + 1) (xfI_X4_heedAdvice I L j) (xfL_X4_heedAdvice I L j) from by rw [xg_heeds]; rw [if_neg h1, if_neg h2]] at hk
        exact hk
set_option maxHeartbeats 4000000 in
set_option maxRecDepth 100000 in
theorem xl_heeds_A (d : Nat)   {E : Nat → xm_S → Prop} (I : xh_I) (L : xh_L)  (hk : xK (d + 3) xt_X4_passSecond 87 ([(0, xm_r 4 0), (1, xm_r 18 0), (2, xm_i 6), (3, xm_i 6), (4, xm_r 0 5)], [], xh_M (xg_heeds  6 0 I L ).1 (xg_heeds  6 0 I L ).2, 0, 0) E) : xK (d + 3) xt_X4_passSecond 49 ([(0, xm_r 4 0), (1, xm_r 18 0), (2, xm_i 6), (3, xm_i 0), (4, xm_r 0 5)], [], xh_M I L, 0, 0) E := by
  refine xK.run (q := (51, [(0, xm_r 4 0), (1, xm_r 18 0), (2, xm_i 6), (3, xm_i 0), (4, xm_r 0 5)], [xm_i 6, xm_i 0], xh_M I L, 0, 0)) 2 rfl ?_
  refine xK.icmp rfl (fun h9 => absurd h9 (by decide)) (fun _ => ?_)
  refine xK.run (q := (56, [(0, xm_r 4 0), (1, xm_r 18 0), (2, xm_i 6), (3, xm_i 0), (4, xm_r 0 5)], [xm_i 0, xm_r 18 0], xh_M I L, 0, 0)) 2 rfl ?_
  refine xK.aald rfl rfl (show xh_ix 0 0 6 by decide) rfl ?_
  refine xK.run (q := (64, [(0, xm_r 4 0), (1, xm_r 18 0), (2, xm_i 6), (3, xm_i 0), (4, xm_r 0 0)], [xm_i (I 0 0 0)], xh_M I L, 0, 0)) 3 rfl ?_
  refine xK.ifI rfl (fun h1 => ?_) (fun h1 => ?_)
  · skip
    refine xK.run (q := (49, [(0, xm_r 4 0), (1, xm_r 18 0), (2, xm_i 6), (3, xm_i 1), (4, xm_r 0 0)], [], xh_M I L, 0, 0)) 2 rfl ?_
    refine xl_heeds_B d   5 1 (by decide) (by decide) I L ?_
    rw [show xg_heeds  6 0 I L  = xg_heeds  5 1 I L from by rw [show (6 : Nat) = 5 + 1 from rfl, xg_heeds]; rw [if_pos h1]] at hk
    exact hk
  · skip
    refine xK.run (q := (72, [(0, xm_r 4 0), (1, xm_r 18 0), (2, xm_i 6), (3, xm_i 0), (4, xm_r 0 0)], [xm_i (I 0 1 0)], xh_M I L, 0, 0)) 2 rfl ?_
    refine xK.ifI rfl (fun h2 => ?_) (fun h2 => ?_)
    · skip
      refine xK.run (q := (49, [(0, xm_r 4 0), (1, xm_r 18 0), (2, xm_i 6), (3, xm_i 1), (4, xm_r 0 0)], [], xh_M I L, 0, 0)) 2 rfl ?_
      refine xl_heeds_B d   5 1 (by decide) (by decide) I L ?_
      rw [show xg_heeds  6 0 I L  = xg_heeds  5 1 I L from by rw [show (6 : Nat) = 5 + 1 from rfl, xg_heeds]; rw [if_neg h1, if_pos h2]] at hk
      exact hk
    · skip
      refine xK.run (q := (78, [(0, xm_r 4 0), (1, xm_r 18 0), (2, xm_i 6), (3, xm_i 0), (4, xm_r 0 0)], [xm_r 0 0, xm_r 4 0], xh_M I L, 0, 0)) 2 rfl ?_
      refine xK.call [xm_r 4 0, xm_r 0 0] (xd_X4_heedAdvice d I L 0) rfl rfl rfl (Or.inr ⟨_, _, rfl⟩) (Nat.le_of_ble_eq_true rfl) ?_
      refine xK.run (q := (49, [(0, xm_r 4 0), (1, xm_r 18 0), (2, xm_i 6), (3, xm_i 1), (4, xm_r 0 0)], [], xh_M (xfI_X4_heedAdvice I L 0) (xfL_X4_heedAdvice I L 0), 0, 0)) 2 rfl ?_
      refine xl_heeds_B d   5 1 (by decide) (by decide) (xfI_X4_heedAdvice I L 0) (xfL_X4_heedAdvice I L 0) ?_
      rw [show xg_heeds  6 0 I L  = xg_heeds  5 1 (xfI_X4_heedAdvice I L 0) (xfL_X4_heedAdvice I L 0) from by rw [show (6 : Nat) = 5 + 1 from rfl, xg_heeds]; rw [if_neg h1, if_neg h2]] at hk
      exact hk
set_option linter.unusedVariables false in
def xg_pairs  : Nat → Nat → xh_I → xh_L → xh_I × xh_L
  | 0, j, I, L => (I, L)
  | n + 1, j, I, L => if (xf_X1_isThere I L j) = 0 then (xg_pairs  n (j + 1) I L) else (xg_pairs  n (j + 1) (xfI_X1_review (xfI_X1_lookAtLeast I L j) (xfL_X1_lookAtLeast I L j) j) (xfL_X1_lookAtLeast I L j))
set_option maxHeartbeats 4000000 in
set_option maxRecDepth 100000 in
theorem xl_pairs_B (d : Nat)   {E : Nat → xm_S → Prop} : ∀ (n j : Nat), j + n = 15 → 1 ≤ j → ∀ (I : xh_I) (L : xh_L) , xh_St I → xK (d + 5) xt_X4_passSecond 131 ([(0, xm_r 4 0), (1, xm_r 19 0), (2, xm_i 15), (3, xm_i 15), (4, xm_r 1 14)], [], xh_M (xg_pairs  n j I L ).1 (xg_pairs  n j I L ).2, 0, 0) E → xK (d + 5) xt_X4_passSecond 97 ([(0, xm_r 4 0), (1, xm_r 19 0), (2, xm_i 15), (3, xm_i (nI j)), (4, xm_r 1 (j - 1))], [], xh_M I L, 0, 0) E := by
  intro n
  induction n with
  | zero =>
    intro j hj h1 I L  hv hk
    have hjN : j = 15 := by omega
    subst hjN
    refine xK.run (q := (99, ([(0, xm_r 4 0), (1, xm_r 19 0), (2, xm_i 15), (3, xm_i (nI 15)), (4, xm_r 1 (15 - 1))], [xm_i 15, xm_i (nI 15)], xh_M I L, 0, 0))) 2 rfl ?_
    exact xK.icmp rfl (fun _ => hk) (fun h9 => absurd (by decide) h9)
  | succ n ih =>
    intro j hj hj1 I L  hv hk
    have hj8 : j < 15 := by omega
    have hj9 : ¬ (15 : Int32) ≤ nI j := nI_ge (b := 15) hj8 (by decide)
    refine xK.run (q := (99, [(0, xm_r 4 0), (1, xm_r 19 0), (2, xm_i 15), (3, xm_i (nI j)), (4, xm_r 1 (j - 1))], [xm_i 15, xm_i (nI j)], xh_M I L, 0, 0)) 2 rfl ?_
    refine xK.icmp rfl (fun h9 => absurd h9 hj9) (fun _ => ?_)
    refine xK.run (q := (104, [(0, xm_r 4 0), (1, xm_r 19 0), (2, xm_i 15), (3, xm_i (nI j)), (4, xm_r 1 (j - 1))], [xm_i (nI j), xm_r 19 0], xh_M I L, 0, 0)) 2 rfl ?_
    refine xK.aald rfl rfl (xh_ix_nI (N := 15) hj8 (by decide)) (xh_R19 hj8) ?_
    refine xK.run (q := (109, [(0, xm_r 4 0), (1, xm_r 19 0), (2, xm_i 15), (3, xm_i (nI j)), (4, xm_r 1 j)], [xm_r 1 j], xh_M I L, 0, 0)) 2 rfl ?_
    refine xK.call [xm_r 1 j] (xd_X1_isThere (d + 4) I L j) rfl rfl rfl (Or.inr ⟨_, _, rfl⟩) (Nat.le_of_ble_eq_true rfl) ?_
    refine xK.ifI rfl (fun h1 => ?_) (fun h1 => ?_)
    · skip
      refine xK.run (q := (97, [(0, xm_r 4 0), (1, xm_r 19 0), (2, xm_i 15), (3, xm_i ((nI j) + 1)), (4, xm_r 1 j)], [], xh_M I L, 0, 0)) 2 rfl ?_
      rw [nI_1 j]
      refine ih (j + 1) (by omega) (by omega) I L hv ?_
      rw [show xg_pairs  (n + 1) j I L  = xg_pairs  n (j + 1) I L from by rw [xg_pairs]; rw [if_pos h1]] at hk
      exact hk
    · skip
      refine xK.run (q := (117, [(0, xm_r 4 0), (1, xm_r 19 0), (2, xm_i 15), (3, xm_i (nI j)), (4, xm_r 1 j)], [xm_r 1 j], xh_M I L, 0, 0)) 1 rfl ?_
      refine xK.call [xm_r 1 j] (xd_X1_lookAtLeast (d + 3) I L j) rfl rfl rfl (Or.inr ⟨_, _, rfl⟩) (Nat.le_of_ble_eq_true rfl) ?_
      refine xK.run (q := (122, [(0, xm_r 4 0), (1, xm_r 19 0), (2, xm_i 15), (3, xm_i (nI j)), (4, xm_r 1 j)], [xm_r 1 j], xh_M (xfI_X1_lookAtLeast I L j) (xfL_X1_lookAtLeast I L j), 0, 0)) 1 rfl ?_
      refine xK.call [xm_r 1 j] (xd_X1_review d (xfI_X1_lookAtLeast I L j) (xfL_X1_lookAtLeast I L j) j (hv j)) rfl rfl rfl (Or.inr ⟨_, _, rfl⟩) (Nat.le_of_ble_eq_true rfl) ?_
      refine xK.run (q := (97, [(0, xm_r 4 0), (1, xm_r 19 0), (2, xm_i 15), (3, xm_i ((nI j) + 1)), (4, xm_r 1 j)], [], xh_M (xfI_X1_review (xfI_X1_lookAtLeast I L j) (xfL_X1_lookAtLeast I L j) j) (xfL_X1_lookAtLeast I L j), 0, 0)) 2 rfl ?_
      rw [nI_1 j]
      refine ih (j + 1) (by omega) (by omega) (xfI_X1_review (xfI_X1_lookAtLeast I L j) (xfL_X1_lookAtLeast I L j) j) (xfL_X1_lookAtLeast I L j) (xh_St_review (fun q h9 => hv q h9)) ?_
      rw [show xg_pairs  (n + 1) j I L  = xg_pairs  n (j + 1) (xfI_X1_review (xfI_X1_lookAtLeast I L j) (xfL_X1_lookAtLeast I L j) j) (xfL_X1_lookAtLeast I L j) from by rw [xg_pairs]; rw [if_neg h1]] at hk
      exact hk
set_option maxHeartbeats 4000000 in
set_option maxRecDepth 100000 in
theorem xl_pairs_A (d : Nat)   {E : Nat → xm_S → Prop} (I : xh_I) (L : xh_L)  (hv : xh_St I) (hk : xK (d + 5) xt_X4_passSecond 131 ([(0, xm_r 4 0), (1, xm_r 19 0), (2, xm_i 15), (3, xm_i 15), (4, xm_r 1 14)], [], xh_M (xg_pairs  15 0 I L ).1 (xg_pairs  15 0 I L ).2, 0, 0) E) : xK (d + 5) xt_X4_passSecond 97 ([(0, xm_r 4 0), (1, xm_r 19 0), (2, xm_i 15), (3, xm_i 0), (4, xm_r 0 5)], [], xh_M I L, 0, 0) E := by
  refine xK.run (q := (99, [(0, xm_r 4 0), (1, xm_r 19 0), (2, xm_i 15), (3, xm_i 0), (4, xm_r 0 5)], [xm_i 15, xm_i 0], xh_M I L, 0, 0)) 2 rfl ?_
  refine xK.icmp rfl (fun h9 => absurd h9 (by decide)) (fun _ => ?_)
  refine xK.run (q := (104, [(0, xm_r 4 0), (1, xm_r 19 0), (2, xm_i 15), (3, xm_i 0), (4, xm_r 0 5)], [xm_i 0, xm_r 19 0], xh_M I L, 0, 0)) 2 rfl ?_
  refine xK.aald rfl rfl (show xh_ix 0 0 15 by decide) rfl ?_
  refine xK.run (q := (109, [(0, xm_r 4 0), (1, xm_r 19 0), (2, xm_i 15), (3, xm_i 0), (4, xm_r 1 0)], [xm_r 1 0], xh_M I L, 0, 0)) 2 rfl ?_
  refine xK.call [xm_r 1 0] (xd_X1_isThere (d + 4) I L 0) rfl rfl rfl (Or.inr ⟨_, _, rfl⟩) (Nat.le_of_ble_eq_true rfl) ?_
  refine xK.ifI rfl (fun h1 => ?_) (fun h1 => ?_)
  · skip
    refine xK.run (q := (97, [(0, xm_r 4 0), (1, xm_r 19 0), (2, xm_i 15), (3, xm_i 1), (4, xm_r 1 0)], [], xh_M I L, 0, 0)) 2 rfl ?_
    refine xl_pairs_B d   14 1 (by decide) (by decide) I L hv ?_
    rw [show xg_pairs  15 0 I L  = xg_pairs  14 1 I L from by rw [show (15 : Nat) = 14 + 1 from rfl, xg_pairs]; rw [if_pos h1]] at hk
    exact hk
  · skip
    refine xK.run (q := (117, [(0, xm_r 4 0), (1, xm_r 19 0), (2, xm_i 15), (3, xm_i 0), (4, xm_r 1 0)], [xm_r 1 0], xh_M I L, 0, 0)) 1 rfl ?_
    refine xK.call [xm_r 1 0] (xd_X1_lookAtLeast (d + 3) I L 0) rfl rfl rfl (Or.inr ⟨_, _, rfl⟩) (Nat.le_of_ble_eq_true rfl) ?_
    refine xK.run (q := (122, [(0, xm_r 4 0), (1, xm_r 19 0), (2, xm_i 15), (3, xm_i 0), (4, xm_r 1 0)], [xm_r 1 0], xh_M (xfI_X1_lookAtLeast I L 0) (xfL_X1_lookAtLeast I L 0), 0, 0)) 1 rfl ?_
    refine xK.call [xm_r 1 0] (xd_X1_review d (xfI_X1_lookAtLeast I L 0) (xfL_X1_lookAtLeast I L 0) 0 (hv 0)) rfl rfl rfl (Or.inr ⟨_, _, rfl⟩) (Nat.le_of_ble_eq_true rfl) ?_
    refine xK.run (q := (97, [(0, xm_r 4 0), (1, xm_r 19 0), (2, xm_i 15), (3, xm_i 1), (4, xm_r 1 0)], [], xh_M (xfI_X1_review (xfI_X1_lookAtLeast I L 0) (xfL_X1_lookAtLeast I L 0) 0) (xfL_X1_lookAtLeast I L 0), 0, 0)) 2 rfl ?_
    refine xl_pairs_B d   14 1 (by decide) (by decide) (xfI_X1_review (xfI_X1_lookAtLeast I L 0) (xfL_X1_lookAtLeast I L 0) 0) (xfL_X1_lookAtLeast I L 0) (xh_St_review (fun q h9 => hv q h9)) ?_
    rw [show xg_pairs  15 0 I L  = xg_pairs  14 1 (xfI_X1_review (xfI_X1_lookAtLeast I L 0) (xfL_X1_lookAtLeast I L 0) 0) (xfL_X1_lookAtLeast I L 0) from by rw [show (15 : Nat) = 14 + 1 from rfl, xg_pairs]; rw [if_neg h1]] at hk
    exact hk
theorem xh_St_move : ∀ (n j : Nat) (I : xh_I) (L : xh_L), xh_St I → xh_St (xg_move n j I L).1
  | 0, _, _, _, h => h
  | n + 1, j, I, L, h => by
    rw [xg_move]
    split
    · exact xh_St_move n _ _ _ h
    · exact xh_St_move n _ _ _ (fun q h9 => h q h9)
theorem xh_St_heed {I : xh_I} {L : xh_L} {i : Nat} (h : xh_St I) : xh_St (xfI_X4_heedAdvice I L i) := by
  have hp : ∀ (I : xh_I) (a b c : Int32), xh_St I → xh_St (xfI_X0_pull I L i a b c) := by
    intro I a b c h
    unfold xfI_X0_pull xfI_X0_levelOff
    (repeat' split) <;> exact fun q h9 => h q h9
  have hq : ∀ (n j : Nat) (a b : Int32), (xg_heed i n j I L a b).2.2.1 = I := by
    intro n
    induction n with
    | zero => intro j a b; rfl
    | succ n ih =>
      intro j a b
      rw [xg_heed]
      (repeat' split) <;> exact ih _ _ _
  unfold xfI_X4_heedAdvice
  refine hp _ _ _ _ ?_
  rw [hq]
  exact h
theorem xh_St_heeds : ∀ (n j : Nat) (I : xh_I) (L : xh_L), xh_St I → xh_St (xg_heeds n j I L).1
  | 0, _, _, _, h => h
  | n + 1, j, I, L, h => by
    rw [xg_heeds]
    split
    · exact xh_St_heeds n _ _ _ h
    · split
      · exact xh_St_heeds n _ _ _ h
      · exact xh_St_heeds n _ _ _ (xh_St_heed h)
set_option linter.unusedVariables false in
def xfI_X4_passSecond (I : xh_I) (L : xh_L)  : xh_I := (xm_up (xg_pairs  15 0 ((xg_heeds  6 0 ((xg_move  6 0 I L).1) ((xg_move  6 0 I L).2)).1) ((xg_heeds  6 0 ((xg_move  6 0 I L).1) ((xg_move  6 0 I L).2)).2)).1 3 4 0 (((xg_pairs  15 0 ((xg_heeds  6 0 ((xg_move  6 0 I L).1) ((xg_move  6 0 I L).2)).1) ((xg_heeds  6 0 ((xg_move  6 0 I L).1) ((xg_move  6 0 I L).2)).2)).1 3 4 0) + 1))
set_option linter.unusedVariables false in
def xfL_X4_passSecond (I : xh_I) (L : xh_L)  : xh_L := (xg_pairs  15 0 ((xg_heeds  6 0 ((xg_move  6 0 I L).1) ((xg_move  6 0 I L).2)).1) ((xg_heeds  6 0 ((xg_move  6 0 I L).1) ((xg_move  6 0 I L).2)).2)).2
set_option maxHeartbeats 4000000 in
set_option maxRecDepth 100000 in
theorem xd_X4_passSecond (d : Nat) (I : xh_I) (L : xh_L) (hs : xh_St I) : xm_Do xp_pg (d + 6) 68 [xm_r 4 0] (xh_M I L) none (xh_M (xfI_X4_passSecond I L) (xfL_X4_passSecond I L)) 0 0 := by
  refine xK.of (Nat.le_of_ble_eq_true rfl) rfl ?_
  refine xK.run (q := (10, [(0, xm_r 4 0), (1, xm_r 18 0), (2, xm_i 6), (3, xm_i 0)], [], xh_M I L, 0, 0)) 8 rfl ?_
  refine xl_move_A (d + 3)   I L   ?_
  refine xK.run (q := (49, [(0, xm_r 4 0), (1, xm_r 18 0), (2, xm_i 6), (3, xm_i 0), (4, xm_r 0 5)], [], xh_M ((xg_move  6 0 I L).1) ((xg_move  6 0 I L).2), 0, 0)) 8 rfl ?_
  refine xl_heeds_A (d + 2)   ((xg_move  6 0 I L).1) ((xg_move  6 0 I L).2)   ?_
  refine xK.run (q := (97, [(0, xm_r 4 0), (1, xm_r 19 0), (2, xm_i 15), (3, xm_i 0), (4, xm_r 0 5)], [], xh_M ((xg_heeds  6 0 ((xg_move  6 0 I L).1) ((xg_move  6 0 I L).2)).1) ((xg_heeds  6 0 ((xg_move  6 0 I L).1) ((xg_move  6 0 I L).2)).2), 0, 0)) 8 rfl ?_
  refine xl_pairs_A d   ((xg_heeds  6 0 ((xg_move  6 0 I L).1) ((xg_move  6 0 I L).2)).1) ((xg_heeds  6 0 ((xg_move  6 0 I L).1) ((xg_move  6 0 I L).2)).2)  (xh_St_heeds _ _ _ _ (xh_St_move _ _ _ _ hs)) ?_
  refine xK.run (q := (144, [(0, xm_r 4 0), (1, xm_r 19 0), (2, xm_i 15), (3, xm_i 15), (4, xm_r 1 14)], [], xh_M (xm_up (xg_pairs  15 0 ((xg_heeds  6 0 ((xg_move  6 0 I L).1) ((xg_move  6 0 I L).2)).1) ((xg_heeds  6 0 ((xg_move  6 0 I L).1) ((xg_move  6 0 I L).2)).2)).1 3 4 0 (((xg_pairs  15 0 ((xg_heeds  6 0 ((xg_move  6 0 I L).1) ((xg_move  6 0 I L).2)).1) ((xg_heeds  6 0 ((xg_move  6 0 I L).1) ((xg_move  6 0 I L).2)).2)).1 3 4 0) + 1)) ((xg_pairs  15 0 ((xg_heeds  6 0 ((xg_move  6 0 I L).1) ((xg_move  6 0 I L).2)).1) ((xg_heeds  6 0 ((xg_move  6 0 I L).1) ((xg_move  6 0 I L).2)).2)).2), 0, 0)) 7 rfl ?_
  exact xK.ret rfl ⟨rfl, rfl⟩
