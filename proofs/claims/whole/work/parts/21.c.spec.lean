/-! WHAT METHODS COMPUTE (by program) -/
set_option linter.unusedVariables false in
def xg_move  : Nat → Nat → xh_I → xh_L → xh_I × xh_L
  | 0, j, I, L => (I, L)
  | n + 1, j, I, L => if (I 0 0 j) = 0 then (xg_move  n (j + 1) I L) else (xg_move  n (j + 1) (xfI_X0_move I L j) L)
set_option maxHeartbeats 4000000 in
set_option maxRecDepth 100000 in
theorem xl_move_B (d : Nat)   {E : Nat → xm_S → Prop} : ∀ (n j : Nat), j + n = 6 → 1 ≤ j → ∀ (I : xh_I) (L : xh_L) , xK (d + 2) xt_X4_passSecond 39 ([(0, xm_r 4 0), (1, xm_r 18 0), (2, xm_i 6), (3, xm_i 6), (4, xm_r 0 5)], [], xh_M (xg_move  n j I L ).1 (xg_move  n j I L ).2, 0, 0) E → xK (d + 2) xt_X4_passSecond 10 ([(0, xm_r 4 0), (1, xm_r 18 0), (2, xm_i 6), (3, xm_i (nI j)), (4, xm_r 0 (j - 1))], [], xh_M I L, 0, 0) E := by
  intro n
  induction n with
  | zero =>
    intro j hj h1 I L  hk
    have hjN : j = 6 := by omega
    subst hjN
    refine xK.run (q := (12, ([(0, xm_r 4 0), (1, xm_r 18 0), (2, xm_i 6), (3, xm_i (nI 6)), (4, xm_r 0 (6 - 1))], [xm_i 6, xm_i (nI 6)], xh_M I L, 0, 0))) 2 rfl ?_
    exact xK.icmp rfl (fun _ => hk) (fun h9 => absurd (by decide) h9)
  | succ n ih =>
    intro j hj hj1 I L  hk
    have hj8 : j < 6 := by omega
    have hj9 : ¬ (6 : Int32) ≤ nI j := nI_ge (b := 6) hj8 (by decide)
    refine xK.run (q := (12, [(0, xm_r 4 0), (1, xm_r 18 0), (2, xm_i 6), (3, xm_i (nI j)), (4, xm_r 0 (j - 1))], [xm_i 6, xm_i (nI j)], xh_M I L, 0, 0)) 2 rfl ?_
    refine xK.icmp rfl (fun h9 => absurd h9 hj9) (fun _ => ?_)
    refine xK.run (q := (17, [(0, xm_r 4 0), (1, xm_r 18 0), (2, xm_i 6), (3, xm_i (nI j)), (4, xm_r 0 (j - 1))], [xm_i (nI j), xm_r 18 0], xh_M I L, 0, 0)) 2 rfl ?_
    refine xK.aald rfl rfl (xh_ix_nI (N := 6) hj8 (by decide)) (xh_R18 hj8) ?_
    refine xK.run (q := (25, [(0, xm_r 4 0), (1, xm_r 18 0), (2, xm_i 6), (3, xm_i (nI j)), (4, xm_r 0 j)], [xm_i (I 0 0 j)], xh_M I L, 0, 0)) 3 rfl ?_
    refine xK.ifI rfl (fun h1 => ?_) (fun h1 => ?_)
    · skip
      refine xK.run (q := (10, [(0, xm_r 4 0), (1, xm_r 18 0), (2, xm_i 6), (3, xm_i ((nI j) + 1)), (4, xm_r 0 j)], [], xh_M I L, 0, 0)) 2 rfl ?_
      rw [nI_1 j]
      refine ih (j + 1) (by omega) (by omega) I L ?_
      rw [show xg_move  (n + 1) j I L  = xg_move  n (j + 1) I L from by rw [xg_move]; rw [if_pos h1]] at hk
      exact hk
    · skip
      refine xK.run (q := (30, [(0, xm_r 4 0), (1, xm_r 18 0), (2, xm_i 6), (3, xm_i (nI j)), (4, xm_r 0 j)], [xm_r 0 j], xh_M I L, 0, 0)) 1 rfl ?_
      refine xK.call [xm_r 0 j] (xd_X0_move d I L j) rfl rfl rfl (Or.inr ⟨_, _, rfl⟩) (Nat.le_of_ble_eq_true rfl) ?_
      refine xK.run (q := (10, [(0, xm_r 4 0), (1, xm_r 18 0), (2, xm_i 6), (3, xm_i ((nI j) + 1)), (4, xm_r 0 j)], [], xh_M (xfI_X0_move I L j) L, 0, 0)) 2 rfl ?_
      rw [nI_1 j]
      refine ih (j + 1) (by omega) (by omega) (xfI_X0_move I L j) L ?_
      rw [show xg_move  (n + 1) j I L  = xg_move  n (j + 1) (xfI_X0_move I L j) L from by rw [xg_move]; rw [if_neg h1]] at hk
      exact hk
set_option maxHeartbeats 4000000 in
set_option maxRecDepth 100000 in
theorem xl_move_A (d : Nat)   {E : Nat → xm_S → Prop} (I : xh_I) (L : xh_L)  (hk : xK (d + 2) xt_X4_passSecond 39 ([(0, xm_r 4 0), (1, xm_r 18 0), (2, xm_i 6), (3, xm_i 6), (4, xm_r 0 5)], [], xh_M (xg_move  6 0 I L ).1 (xg_move  6 0 I L ).2, 0, 0) E) : xK (d + 2) xt_X4_passSecond 10 ([(0, xm_r 4 0), (1, xm_r 18 0), (2, xm_i 6), (3, xm_i 0)], [], xh_M I L, 0, 0) E := by
  refine xK.run (q := (12, [(0, xm_r 4 0), (1, xm_r 18 0), (2, xm_i 6), (3, xm_i 0)], [xm_i 6, xm_i 0], xh_M I L, 0, 0)) 2 rfl ?_
  refine xK.icmp rfl (fun h9 => absurd h9 (by decide)) (fun _ => ?_)
  refine xK.run (q := (17, [(0, xm_r 4 0), (1, xm_r 18 0), (2, xm_i 6), (3, xm_i 0)], [xm_i 0, xm_r 18 0], xh_M I L, 0, 0)) 2 rfl ?_
  refine xK.aald rfl rfl (show xh_ix 0 0 6 by decide) rfl ?_
  refine xK.run (q := (25, [(0, xm_r 4 0), (1, xm_r 18 0), (2, xm_i 6), (3, xm_i 0), (4, xm_r 0 0)], [xm_i (I 0 0 0)], xh_M I L, 0, 0)) 3 rfl ?_
  refine xK.ifI rfl (fun h1 => ?_) (fun h1 => ?_)
  · skip
    refine xK.run (q := (10, [(0, xm_r 4 0), (1, xm_r 18 0), (2, xm_i 6), (3, xm_i 1), (4, xm_r 0 0)], [], xh_M I L, 0, 0)) 2 rfl ?_
    refine xl_move_B d   5 1 (by decide) (by decide) I L ?_
    rw [show xg_move  6 0 I L  = xg_move  5 1 I L from by rw [show (6 : Nat) = 5 + 1 from rfl, xg_move]; rw [if_pos h1]] at hk
    exact hk
  · skip
    refine xK.run (q := (30, [(0, xm_r 4 0), (1, xm_r 18 0), (2, xm_i 6), (3, xm_i 0), (4, xm_r 0 0)], [xm_r 0 0], xh_M I L, 0, 0)) 1 rfl ?_
    refine xK.call [xm_r 0 0] (xd_X0_move d I L 0) rfl rfl rfl (Or.inr ⟨_, _, rfl⟩) (Nat.le_of_ble_eq_true rfl) ?_
    refine xK.run (q := (10, [(0, xm_r 4 0), (1, xm_r 18 0), (2, xm_i 6), (3, xm_i 1), (4, xm_r 0 0)], [], xh_M (xfI_X0_move I L 0) L, 0, 0)) 2 rfl ?_
    refine xl_move_B d   5 1 (by decide) (by decide) (xfI_X0_move I L 0) L ?_
    rw [show xg_move  6 0 I L  = xg_move  5 1 (xfI_X0_move I L 0) L from by rw [show (6 : Nat) = 5 + 1 from rfl, xg_move]; rw [if_neg h1]] at hk
    exact hk
