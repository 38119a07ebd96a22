/-! WHAT METHODS COMPUTE (by program) -/
set_option linter.unusedVariables false in
def xg_drop (i : Nat) : Nat → Nat → xh_I → xh_L → xh_I × xh_L
  | 0, j, I, L => (I, L)
  | n + 1, j, I, L => if (xf_X1_has I L j i) = 0 then (xg_drop i n (j + 1) I L) else (xg_drop i n (j + 1) (xfI_X1_dropAdvice I L j) L)
set_option maxHeartbeats 4000000 in
set_option maxRecDepth 100000 in
theorem xl_drop_B (d : Nat) (i : Nat)  {E : Nat → xm_S → Prop} : ∀ (n j : Nat), j + n = 15 → 1 ≤ j → ∀ (I : xh_I) (L : xh_L) , xK (d + 1) xt_X4_dropAdviceOf 43 ([(0, xm_r 4 0), (1, xm_r 0 i), (2, xm_r 19 0), (3, xm_i 15), (4, xm_i 15), (5, xm_r 1 14)], [], xh_M (xg_drop i n j I L ).1 (xg_drop i n j I L ).2, 0, 0) E → xK (d + 1) xt_X4_dropAdviceOf 11 ([(0, xm_r 4 0), (1, xm_r 0 i), (2, xm_r 19 0), (3, xm_i 15), (4, xm_i (nI j)), (5, xm_r 1 (j - 1))], [], xh_M I L, 0, 0) E := by
  intro n
  induction n with
  | zero =>
    intro j hj h1 I L  hk
    have hjN : j = 15 := by omega
    subst hjN
    refine xK.run (q := (14, ([(0, xm_r 4 0), (1, xm_r 0 i), (2, xm_r 19 0), (3, xm_i 15), (4, xm_i (nI 15)), (5, xm_r 1 (15 - 1))], [xm_i 15, xm_i (nI 15)], xh_M I L, 0, 0))) 2 rfl ?_
    exact xK.icmp rfl (fun _ => hk) (fun h9 => absurd (by decide) h9)
  | succ n ih =>
    intro j hj hj1 I L  hk
    have hj8 : j < 15 := by omega
    have hj9 : ¬ (15 : Int32) ≤ nI j := nI_ge (b := 15) hj8 (by decide)
    refine xK.run (q := (14, [(0, xm_r 4 0), (1, xm_r 0 i), (2, xm_r 19 0), (3, xm_i 15), (4, xm_i (nI j)), (5, xm_r 1 (j - 1))], [xm_i 15, xm_i (nI j)], xh_M I L, 0, 0)) 2 rfl ?_
    refine xK.icmp rfl (fun h9 => absurd h9 hj9) (fun _ => ?_)
    refine xK.run (q := (20, [(0, xm_r 4 0), (1, xm_r 0 i), (2, xm_r 19 0), (3, xm_i 15), (4, xm_i (nI j)), (5, xm_r 1 (j - 1))], [xm_i (nI j), xm_r 19 0], xh_M I L, 0, 0)) 2 rfl ?_
    refine xK.aald rfl rfl (xh_ix_nI (N := 15) hj8 (by decide)) (xh_R19 hj8) ?_
    refine xK.run (q := (26, [(0, xm_r 4 0), (1, xm_r 0 i), (2, xm_r 19 0), (3, xm_i 15), (4, xm_i (nI j)), (5, xm_r 1 j)], [xm_r 0 i, xm_r 1 j], xh_M I L, 0, 0)) 3 rfl ?_
    refine xK.call [xm_r 1 j, xm_r 0 i] (xd_X1_has d I L j i) rfl rfl rfl (Or.inr ⟨_, _, rfl⟩) (Nat.le_of_ble_eq_true rfl) ?_
    refine xK.ifI rfl (fun h1 => ?_) (fun h1 => ?_)
    · skip
      refine xK.run (q := (11, [(0, xm_r 4 0), (1, xm_r 0 i), (2, xm_r 19 0), (3, xm_i 15), (4, xm_i ((nI j) + 1)), (5, xm_r 1 j)], [], xh_M I L, 0, 0)) 2 rfl ?_
      rw [nI_1 j]
      refine ih (j + 1) (by omega) (by omega) I L ?_
      rw [show xg_drop i (n + 1) j I L  = xg_drop i n (j + 1) I L from by rw [xg_drop]; rw [if_pos h1]] at hk
      exact hk
    · skip
      refine xK.run (q := (34, [(0, xm_r 4 0), (1, xm_r 0 i), (2, xm_r 19 0), (3, xm_i 15), (4, xm_i (nI j)), (5, xm_r 1 j)], [xm_r 1 j], xh_M I L, 0, 0)) 1 rfl ?_
      refine xK.call [xm_r 1 j] (xd_X1_dropAdvice d I L j) rfl rfl rfl (Or.inr ⟨_, _, rfl⟩) (Nat.le_of_ble_eq_true rfl) ?_
      refine xK.run (q := (11, [(0, xm_r 4 0), (1, xm_r 0 i), (2, xm_r 19 0), (3, xm_i 15), (4, xm_i ((nI j) + 1)), (5, xm_r 1 j)], [], xh_M (xfI_X1_dropAdvice I L j) L, 0, 0)) 2 rfl ?_
      rw [nI_1 j]
      refine ih (j + 1) (by omega) (by omega) (xfI_X1_dropAdvice I L j) L ?_
      rw [show xg_drop i (n + 1) j I L  = xg_drop i n (j + 1) (xfI_X1_dropAdvice I L j) L from by rw [xg_drop]; rw [if_neg h1]] at hk
      exact hk
set_option maxHeartbeats 4000000 in
set_option maxRecDepth 100000 in
theorem xl_drop_A (d : Nat) (i : Nat)  {E : Nat → xm_S → Prop} (I : xh_I) (L : xh_L)  (hk : xK (d + 1) xt_X4_dropAdviceOf 43 ([(0, xm_r 4 0), (1, xm_r 0 i), (2, xm_r 19 0), (3, xm_i 15), (4, xm_i 15), (5, xm_r 1 14)], [], xh_M (xg_drop i 15 0 I L ).1 (xg_drop i 15 0 I L ).2, 0, 0) E) : xK (d + 1) xt_X4_dropAdviceOf 11 ([(0, xm_r 4 0), (1, xm_r 0 i), (2, xm_r 19 0), (3, xm_i 15), (4, xm_i 0)], [], xh_M I L, 0, 0) E := by
  refine xK.run (q := (14, [(0, xm_r 4 0), (1, xm_r 0 i), (2, xm_r 19 0), (3, xm_i 15), (4, xm_i 0)], [xm_i 15, xm_i 0], xh_M I L, 0, 0)) 2 rfl ?_
  refine xK.icmp rfl (fun h9 => absurd h9 (by decide)) (fun _ => ?_)
  refine xK.run (q := (20, [(0, xm_r 4 0), (1, xm_r 0 i), (2, xm_r 19 0), (3, xm_i 15), (4, xm_i 0)], [xm_i 0, xm_r 19 0], xh_M I L, 0, 0)) 2 rfl ?_
  refine xK.aald rfl rfl (show xh_ix 0 0 15 by decide) rfl ?_
  refine xK.run (q := (26, [(0, xm_r 4 0), (1, xm_r 0 i), (2, xm_r 19 0), (3, xm_i 15), (4, xm_i 0), (5, xm_r 1 0)], [xm_r 0 i, xm_r 1 0], xh_M I L, 0, 0)) 3 rfl ?_
  refine xK.call [xm_r 1 0, xm_r 0 i] (xd_X1_has d I L 0 i) rfl rfl rfl (Or.inr ⟨_, _, rfl⟩) (Nat.le_of_ble_eq_true rfl) ?_
  refine xK.ifI rfl (fun h1 => ?_) (fun h1 => ?_)
  · skip
    refine xK.run (q := (11, [(0, xm_r 4 0), (1, xm_r 0 i), (2, xm_r 19 0), (3, xm_i 15), (4, xm_i 1), (5, xm_r 1 0)], [], xh_M I L, 0, 0)) 2 rfl ?_
    refine xl_drop_B d i  14 1 (by decide) (by decide) I L ?_
    rw [show xg_drop i 15 0 I L  = xg_drop i 14 1 I L from by rw [show (15 : Nat) = 14 + 1 from rfl, xg_drop]; rw [if_pos h1]] at hk
    exact hk
  · skip
    refine xK.run (q := (34, [(0, xm_r 4 0), (1, xm_r 0 i), (2, xm_r 19 0), (3, xm_i 15), (4, xm_i 0), (5, xm_r 1 0)], [xm_r 1 0], xh_M I L, 0, 0)) 1 rfl ?_
    refine xK.call [xm_r 1 0] (xd_X1_dropAdvice d I L 0) rfl rfl rfl (Or.inr ⟨_, _, rfl⟩) (Nat.le_of_ble_eq_true rfl) ?_
    refine xK.run (q := (11, [(0, xm_r 4 0), (1, xm_r 0 i), (2, xm_r 19 0), (3, xm_i 15), (4, xm_i 1), (5, xm_r 1 0)], [], xh_M (xfI_X1_dropAdvice I L 0) L, 0, 0)) 2 rfl ?_
    refine xl_drop_B d i  14 1 (by decide) (by decide) (xfI_X1_dropAdvice I L 0) L ?_
    rw [show xg_drop i 15 0 I L  = xg_drop i 14 1 (xfI_X1_dropAdvice I L 0) L from by rw [show (15 : Nat) = 14 + 1 from rfl, xg_drop]; rw [if_neg h1]] at hk
    exact hk
set_option linter.unusedVariables false in
def xfI_X4_dropAdviceOf (I : xh_I) (L : xh_L) (i : Nat) : xh_I := (xg_drop i 15 0 I L).1
set_option linter.unusedVariables false in
def xfL_X4_dropAdviceOf (I : xh_I) (L : xh_L) (i : Nat) : xh_L := (xg_drop i 15 0 I L).2
set_option maxHeartbeats 4000000 in
set_option maxRecDepth 100000 in
theorem xd_X4_dropAdviceOf (d : Nat) (I : xh_I) (L : xh_L) (i : Nat) : xm_Do xp_pg (d + 2) 66 [xm_r 4 0, xm_r 0 i] (xh_M I L) none (xh_M (xfI_X4_dropAdviceOf I L i) (xfL_X4_dropAdviceOf I L i)) 0 0 := by
  refine xK.of (Nat.le_of_ble_eq_true rfl) rfl ?_
  refine xK.run (q := (11, [(0, xm_r 4 0), (1, xm_r 0 i), (2, xm_r 19 0), (3, xm_i 15), (4, xm_i 0)], [], xh_M I L, 0, 0)) 8 rfl ?_
  refine xl_drop_A d i  I L   ?_
  exact xK.ret rfl ⟨rfl, rfl⟩
set_option linter.unusedVariables false in
def xg_rest (i : Nat) : Nat → Nat → xh_I → xh_L → xh_I × xh_L
  | 0, j, I, L => (I, L)
  | n + 1, j, I, L => if (xf_X1_has I L j i) = 0 then (xg_rest i n (j + 1) I L) else (xg_rest i n (j + 1) (xfI_X1_restartLeast I L j) (xfL_X1_restartLeast I L j))
set_option maxHeartbeats 4000000 in
set_option maxRecDepth 100000 in
theorem xl_rest_B (d : Nat) (i : Nat)  {E : Nat → xm_S → Prop} : ∀ (n j : Nat), j + n = 15 → 1 ≤ j → ∀ (I : xh_I) (L : xh_L) , xK (d + 2) xt_X4_restartLeastOf 43 ([(0, xm_r 4 0), (1, xm_r 0 i), (2, xm_r 19 0), (3, xm_i 15), (4, xm_i 15), (5, xm_r 1 14)], [], xh_M (xg_rest i n j I L ).1 (xg_rest i n j I L ).2, 0, 0) E → xK (d + 2) xt_X4_restartLeastOf 11 ([(0, xm_r 4 0), (1, xm_r 0 i), (2, xm_r 19 0), (3, xm_i 15), (4, xm_i (nI j)), (5, xm_r 1 (j - 1))], [], xh_M I L, 0, 0) E := by
  intro n
  induction n with
  | zero =>
    intro j hj h1 I L  hk
    have hjN : j = 15 := by omega
    subst hjN
    refine xK.run (q := (14, ([(0, xm_r 4 0), (1, xm_r 0 i), (2, xm_r 19 0), (3, xm_i 15), (4, xm_i (nI 15)), (5, xm_r 1 (15 - 1))], [xm_i 15, xm_i (nI 15)], xh_M I L, 0, 0))) 2 rfl ?_
    exact xK.icmp rfl (fun _ => hk) (fun h9 => absurd (by decide) h9)
  | succ n ih =>
    intro j hj hj1 I L  hk
    have hj8 : j < 15 := by omega
    have hj9 : ¬ (15 : Int32) ≤ nI j := nI_ge (b := 15) hj8 (by decide)
    refine xK.run (q := (14, [(0, xm_r 4 0), (1, xm_r 0 i), (2, xm_r 19 0), (3, xm_i 15), (4, xm_i (nI j)), (5, xm_r 1 (j - 1))], [xm_i 15, xm_i (nI j)], xh_M I L, 0, 0)) 2 rfl ?_
    refine xK.icmp rfl (fun h9 => absurd h9 hj9) (fun _ => ?_)
    refine xK.run (q := (20, [(0, xm_r 4 0), (1, xm_r 0 i), (2, xm_r 19 0), (3, xm_i 15), (4, xm_i (nI j)), (5, xm_r 1 (j - 1))], [xm_i (nI j), xm_r 19 0], xh_M I L, 0, 0)) 2 rfl ?_
    refine xK.aald rfl rfl (xh_ix_nI (N := 15) hj8 (by decide)) (xh_R19 hj8) ?_
    refine xK.run (q := (26, [(0, xm_r 4 0), (1, xm_r 0 i), (2, xm_r 19 0), (3, xm_i 15), (4, xm_i (nI j)), (5, xm_r 1 j)], [xm_r 0 i, xm_r 1 j], xh_M I L, 0, 0)) 3 rfl ?_
    refine xK.call [xm_r 1 j, xm_r 0 i] (xd_X1_has (d + 1) I L j i) rfl rfl rfl (Or.inr ⟨_, _, rfl⟩) (Nat.le_of_ble_eq_true rfl) ?_
    refine xK.ifI rfl (fun h1 => ?_) (fun h1 => ?_)
    · skip
      refine xK.run (q := (11, [(0, xm_r 4 0), (1, xm_r 0 i), (2, xm_r 19 0), (3, xm_i 15), (4, xm_i ((nI j) + 1)), (5, xm_r 1 j)], [], xh_M I L, 0, 0)) 2 rfl ?_
      rw [nI_1 j]
      refine ih (j + 1) (by omega) (by omega) I L ?_
      rw [show xg_rest i (n + 1) j I L  = xg_rest i n (j + 1) I L from by rw [xg_rest]; rw [if_pos h1]] at hk
      exact hk
    · skip
      refine xK.run (q := (34, [(0, xm_r 4 0), (1, xm_r 0 i), (2, xm_r 19 0), (3, xm_i 15), (4, xm_i (nI j)), (5, xm_r 1 j)], [xm_r 1 j], xh_M I L, 0, 0)) 1 rfl ?_
      refine xK.call [xm_r 1 j] (xd_X1_restartLeast d I L j) rfl rfl rfl (Or.inr ⟨_, _, rfl⟩) (Nat.le_of_ble_eq_true rfl) ?_
      refine xK.run (q := (11, [(0, xm_r 4 0), (1, xm_r 0 i), (2, xm_r 19 0), (3, xm_i 15), (4, xm_i ((nI j) + 1)), (5, xm_r 1 j)], [], xh_M (xfI_X1_restartLeast I L j) (xfL_X1_restartLeast I L j), 0, 0)) 2 rfl ?_
      rw [nI_1 j]
      refine ih (j + 1) (by omega) (by omega) (xfI_X1_restartLeast I L j) (xfL_X1_restartLeast I L j) ?_
      rw [show xg_rest i (n + 1) j I L  = xg_rest i n (j + 1) (xfI_X1_restartLeast I L j) (xfL_X1_restartLeast I L j) from by rw [xg_rest]; rw [if_neg h1]] at hk
      exact hk
set_option maxHeartbeats 4000000 in
set_option maxRecDepth 100000 in
theorem xl_rest_A (d : Nat) (i : Nat)  {E : Nat → xm_S → Prop} (I : xh_I) (L : xh_L)  (hk : xK (d + 2) xt_X4_restartLeastOf 43 ([(0, xm_r 4 0), (1, xm_r 0 i), (2, xm_r 19 0), (3, xm_i 15), (4, xm_i 15), (5, xm_r 1 14)], [], xh_M (xg_rest i 15 0 I L ).1 (xg_rest i 15 0 I L ).2, 0, 0) E) : xK (d + 2) xt_X4_restartLeastOf 11 ([(0, xm_r 4 0), (1, xm_r 0 i), (2, xm_r 19 0), (3, xm_i 15), (4, xm_i 0)], [], xh_M I L, 0, 0) E := by
  refine xK.run (q := (14, [(0, xm_r 4 0), (1, xm_r 0 i), (2, xm_r 19 0), (3, xm_i 15), (4, xm_i 0)], [xm_i 15, xm_i 0], xh_M I L, 0, 0)) 2 rfl ?_
  refine xK.icmp rfl (fun h9 => absurd h9 (by decide)) (fun _ => ?_)
  refine xK.run (q := (20, [(0, xm_r 4 0), (1, xm_r 0 i), (2, xm_r 19 0), (3, xm_i 15), (4, xm_i 0)], [xm_i 0, xm_r 19 0], xh_M I L, 0, 0)) 2 rfl ?_
  refine xK.aald rfl rfl (show xh_ix 0 0 15 by decide) rfl ?_
  refine xK.run (q := (26, [(0, xm_r 4 0), (1, xm_r 0 i), (2, xm_r 19 0), (3, xm_i 15), (4, xm_i 0), (5, xm_r 1 0)], [xm_r 0 i, xm_r 1 0], xh_M I L, 0, 0)) 3 rfl ?_
  refine xK.call [xm_r 1 0, xm_r 0 i] (xd_X1_has (d + 1) I L 0 i) rfl rfl rfl (Or.inr ⟨_, _, rfl⟩) (Nat.le_of_ble_eq_true rfl) ?_
  refine xK.ifI rfl (fun h1 => ?_) (fun h1 => ?_)
  · skip
    refine xK.run (q := (11, [(0, xm_r 4 0), (1, xm_r 0 i), (2, xm_r 19 0), (3, xm_i 15), (4, xm_i 1), (5, xm_r 1 0)], [], xh_M I L, 0, 0)) 2 rfl ?_
    refine xl_rest_B d i  14 1 (by decide) (by decide) I L ?_
    rw [show xg_rest i 15 0 I L  = xg_rest i 14 1 I L from by rw [show (15 : Nat) = 14 + 1 from rfl, xg_rest]; rw [if_pos h1]] at hk
    exact hk
  · skip
    refine xK.run (q := (34, [(0, xm_r 4 0), (1, xm_r 0 i), (2, xm_r 19 0), (3, xm_i 15), (4, xm_i 0), (5, xm_r 1 0)], [xm_r 1 0], xh_M I L, 0, 0)) 1 rfl ?_
    refine xK.call [xm_r 1 0] (xd_X1_restartLeast d I L 0) rfl rfl rfl (Or.inr ⟨_, _, rfl⟩) (Nat.le_of_ble_eq_true rfl) ?_
    refine xK.run (q := (11, [(0, xm_r 4 0), (1, xm_r 0 i), (2, xm_r 19 0), (3, xm_i 15), (4, xm_i 1), (5, xm_r 1 0)], [], xh_M (xfI_X1_restartLeast I L 0) (xfL_X1_restartLeast I L 0), 0, 0)) 2 rfl ?_
    refine xl_rest_B d i  14 1 (by decide) (by decide) (xfI_X1_restartLeast I L 0) (xfL_X1_restartLeast I L 0) ?_
    rw [show xg_rest i 15 0 I L  = xg_rest i 14 1 (xfI_X1_restartLeast I L 0) (xfL_X1_restartLeast I L 0) from by rw [show (15 : Nat) = 14 + 1 from rfl, xg_rest]; rw [if_neg h1]] at hk
    exact hk
set_option linter.unusedVariables false in
def xfI_X4_restartLeastOf (I : xh_I) (L : xh_L) (i : Nat) : xh_I := (xg_rest i 15 0 I L).1
set_option linter.unusedVariables false in
def xfL_X4_restartLeastOf (I : xh_I) (L : xh_L) (i : Nat) : xh_L := (xg_rest i 15 0 I L).2
set_option maxHeartbeats 4000000 in
set_option maxRecDepth 100000 in
theorem xd_X4_restartLeastOf (d : Nat) (I : xh_I) (L : xh_L) (i : Nat) : xm_Do xp_pg (d + 3) 67 [xm_r 4 0, xm_r 0 i] (xh_M I L) none (xh_M (xfI_X4_restartLeastOf I L i) (xfL_X4_restartLeastOf I L i)) 0 0 := by
  refine xK.of (Nat.le_of_ble_eq_true rfl) rfl ?_
  refine xK.run (q := (11, [(0, xm_r 4 0), (1, xm_r 0 i), (2, xm_r 19 0), (3, xm_i 15), (4, xm_i 0)], [], xh_M I L, 0, 0)) 8 rfl ?_
  refine xl_rest_A d i  I L   ?_
  exact xK.ret rfl ⟨rfl, rfl⟩
set_option linter.unusedVariables false in
def xg_count  : Nat → Nat → xh_I → xh_L → Int32 → Int32 × xh_I × xh_L
  | 0, j, I, L, a => (a, I, L)
  | n + 1, j, I, L, a => if (I 1 9 j) = 0 then (xg_count  n (j + 1) I L a) else (xg_count  n (j + 1) I L (a + 1))
set_option maxHeartbeats 4000000 in
set_option maxRecDepth 100000 in
theorem xl_count_B (d : Nat)   {E : Nat → xm_S → Prop} : ∀ (n j : Nat), j + n = 15 → 1 ≤ j → ∀ (I : xh_I) (L : xh_L) (a : Int32), xK (d + 0) xt_X4_countAdvised 42 ([(0, xm_r 4 0), (1, xm_i ((xg_count  n j I L a).1)), (2, xm_r 19 0), (3, xm_i 15), (4, xm_i 15), (5, xm_r 1 14)], [], xh_M (xg_count  n j I L a).2.1 (xg_count  n j I L a).2.2, 0, 0) E → xK (d + 0) xt_X4_countAdvised 13 ([(0, xm_r 4 0), (1, xm_i a), (2, xm_r 19 0), (3, xm_i 15), (4, xm_i (nI j)), (5, xm_r 1 (j - 1))], [], xh_M I L, 0, 0) E := by
  intro n
  induction n with
  | zero =>
    intro j hj h1 I L a hk
    have hjN : j = 15 := by omega
    subst hjN
    refine xK.run (q := (16, ([(0, xm_r 4 0), (1, xm_i a), (2, xm_r 19 0), (3, xm_i 15), (4, xm_i (nI 15)), (5, xm_r 1 (15 - 1))], [xm_i 15, xm_i (nI 15)], xh_M I L, 0, 0))) 2 rfl ?_
    exact xK.icmp rfl (fun _ => hk) (fun h9 => absurd (by decide) h9)
  | succ n ih =>
    intro j hj hj1 I L a hk
    have hj8 : j < 15 := by omega
    have hj9 : ¬ (15 : Int32) ≤ nI j := nI_ge (b := 15) hj8 (by decide)
    refine xK.run (q := (16, [(0, xm_r 4 0), (1, xm_i a), (2, xm_r 19 0), (3, xm_i 15), (4, xm_i (nI j)), (5, xm_r 1 (j - 1))], [xm_i 15, xm_i (nI j)], xh_M I L, 0, 0)) 2 rfl ?_
    refine xK.icmp rfl (fun h9 => absurd h9 hj9) (fun _ => ?_)
    refine xK.run (q := (22, [(0, xm_r 4 0), (1, xm_i a), (2, xm_r 19 0), (3, xm_i 15), (4, xm_i (nI j)), (5, xm_r 1 (j - 1))], [xm_i (nI j), xm_r 19 0], xh_M I L, 0, 0)) 2 rfl ?_
    refine xK.aald rfl rfl (xh_ix_nI (N := 15) hj8 (by decide)) (xh_R19 hj8) ?_
    refine xK.run (q := (30, [(0, xm_r 4 0), (1, xm_i a), (2, xm_r 19 0), (3, xm_i 15), (4, xm_i (nI j)), (5, xm_r 1 j)], [xm_i (I 1 9 j)], xh_M I L, 0, 0)) 3 rfl ?_
    refine xK.ifI rfl (fun h1 => ?_) (fun h1 => ?_)
    · skip
      refine xK.run (q := (13, [(0, xm_r 4 0), (1, xm_i a), (2, xm_r 19 0), (3, xm_i 15), (4, xm_i ((nI j) + 1)), (5, xm_r 1 j)], [], xh_M I L, 0, 0)) 2 rfl ?_
      rw [nI_1 j]
      refine ih (j + 1) (by omega) (by omega) I L a ?_
      rw [show xg_count  (n + 1) j I L a = xg_count  n (j + 1) I L a from by rw [xg_count]; rw [if_pos h1]] at hk
      exact hk
    · skip
      refine xK.run (q := (13, [(0, xm_r 4 0), (1, xm_i (a + 1)), (2, xm_r 19 0), (3, xm_i 15), (4, xm_i ((nI j) + 1)), (5, xm_r 1 j)], [], xh_M I L, 0, 0)) 3 rfl ?_
      rw [nI_1 j]
      refine ih (j + 1) (by omega) (by omega) I L (a + 1) ?_
      rw [show xg_count  (n + 1) j I L a = xg_count  n (j + 1) I L (a + 1) from by rw [xg_count]; rw [if_neg h1]] at hk
      exact hk
set_option maxHeartbeats 4000000 in
set_option maxRecDepth 100000 in
theorem xl_count_A (d : Nat)   {E : Nat → xm_S → Prop} (I : xh_I) (L : xh_L) (a : Int32) (hk : xK (d + 0) xt_X4_countAdvised 42 ([(0, xm_r 4 0), (1, xm_i ((xg_count  15 0 I L a).1)), (2, xm_r 19 0), (3, xm_i 15), (4, xm_i 15), (5, xm_r 1 14)], [], xh_M (xg_count  15 0 I L a).2.1 (xg_count  15 0 I L a).2.2, 0, 0) E) : xK (d + 0) xt_X4_countAdvised 13 ([(0, xm_r 4 0), (1, xm_i a), (2, xm_r 19 0), (3, xm_i 15), (4, xm_i 0)], [], xh_M I L, 0, 0) E := by
  refine xK.run (q := (16, [(0, xm_r 4 0), (1, xm_i a), (2, xm_r 19 0), (3, xm_i 15), (4, xm_i 0)], [xm_i 15, xm_i 0], xh_M I L, 0, 0)) 2 rfl ?_
  refine xK.icmp rfl (fun h9 => absurd h9 (by decide)) (fun _ => ?_)
  refine xK.run (q := (22, [(0, xm_r 4 0), (1, xm_i a), (2, xm_r 19 0), (3, xm_i 15), (4, xm_i 0)], [xm_i 0, xm_r 19 0], xh_M I L, 0, 0)) 2 rfl ?_
  refine xK.aald rfl rfl (show xh_ix 0 0 15 by decide) rfl ?_
  refine xK.run (q := (30, [(0, xm_r 4 0), (1, xm_i a), (2, xm_r 19 0), (3, xm_i 15), (4, xm_i 0), (5, xm_r 1 0)], [xm_i (I 1 9 0)], xh_M I L, 0, 0)) 3 rfl ?_
  refine xK.ifI rfl (fun h1 => ?_) (fun h1 => ?_)
  · skip
    refine xK.run (q := (13, [(0, xm_r 4 0), (1, xm_i a), (2, xm_r 19 0), (3, xm_i 15), (4, xm_i 1), (5, xm_r 1 0)], [], xh_M I L, 0, 0)) 2 rfl ?_
    refine xl_count_B d   14 1 (by decide) (by decide) I L a ?_
    rw [show xg_count  15 0 I L a = xg_count  14 1 I L a from by rw [show (15 : Nat) = 14 + 1 from rfl, xg_count]; rw [if_pos h1]] at hk
    exact hk
  · skip
    refine xK.run (q := (13, [(0, xm_r 4 0), (1, xm_i (a + 1)), (2, xm_r 19 0), (3, xm_i 15), (4, xm_i 1), (5, xm_r 1 0)], [], xh_M I L, 0, 0)) 3 rfl ?_
    refine xl_count_B d   14 1 (by decide) (by decide) I L (a + 1) ?_
    rw [show xg_count  15 0 I L a = xg_count  14 1 I L (a + 1) from by rw [show (15 : Nat) = 14 + 1 from rfl, xg_count]; rw [if_neg h1]] at hk
    exact hk
set_option linter.unusedVariables false in
def xf_X4_countAdvised (I : xh_I) (L : xh_L)  : Int32 := (xg_count  15 0 I L 0).1
set_option linter.unusedVariables false in
def xfI_X4_countAdvised (I : xh_I) (L : xh_L)  : xh_I := (xg_count  15 0 I L 0).2.1
set_option linter.unusedVariables false in
def xfL_X4_countAdvised (I : xh_I) (L : xh_L)  : xh_L := (xg_count  15 0 I L 0).2.2
set_option maxHeartbeats 4000000 in
set_option maxRecDepth 100000 in
theorem xd_X4_countAdvised (d : Nat) (I : xh_I) (L : xh_L) : xm_Do xp_pg (d + 1) 70 [xm_r 4 0] (xh_M I L) (some (xm_i (xf_X4_countAdvised I L))) (xh_M (xfI_X4_countAdvised I L) (xfL_X4_countAdvised I L)) 0 0 := by
  refine xK.of (Nat.le_of_ble_eq_true rfl) rfl ?_
  refine xK.run (q := (13, [(0, xm_r 4 0), (1, xm_i 0), (2, xm_r 19 0), (3, xm_i 15), (4, xm_i 0)], [], xh_M I L, 0, 0)) 10 rfl ?_
  refine xl_count_A d   I L 0  ?_
  refine xK.run (q := (43, [(0, xm_r 4 0), (1, xm_i ((xg_count  15 0 I L 0).1)), (2, xm_r 19 0), (3, xm_i 15), (4, xm_i 15), (5, xm_r 1 14)], [xm_i ((xg_count  15 0 I L 0).1)], xh_M ((xg_count  15 0 I L 0).2.1) ((xg_count  15 0 I L 0).2.2), 0, 0)) 1 rfl ?_
  exact xK.ret rfl ⟨_, rfl, rfl⟩
set_option linter.unusedVariables false in
def xg_heed (i : Nat) : Nat → Nat → xh_I → xh_L → Int32 → Int32 → Int32 × Int32 × xh_I × xh_L
  | 0, j, I, L, a, b => (a, b, I, L)
  | n + 1, j, I, L, a, b => if (xf_X1_has I L j i) = 0 then (xg_heed i n (j + 1) I L a b) else (if (xf_X1_isHeeded I L j) = 0 then (xg_heed i n (j + 1) I L a b) else (if (xf_X1_sendsUp I L j i) = 0 then (xg_heed i n (j + 1) I L a (xo_max b (I 1 10 j))) else (xg_heed i n (j + 1) I L (xo_max a (I 1 10 j)) b)))
set_option maxHeartbeats 4000000 in
set_option maxRecDepth 100000 in
theorem xl_heed_B (d : Nat) (i : Nat)  {E : Nat → xm_S → Prop} : ∀ (n j : Nat), j + n = 15 → 1 ≤ j → ∀ (I : xh_I) (L : xh_L) (a : Int32) (b : Int32), xK (d + 2) xt_X4_heedAdvice 87 ([(0, xm_r 4 0), (1, xm_r 0 i), (2, xm_i ((xg_heed i n j I L a b).1)), (3, xm_i ((xg_heed i n j I L a b).2.1)), (4, xm_r 19 0), (5, xm_i 15), (6, xm_i 15), (7, xm_r 1 14)], [], xh_M (xg_heed i n j I L a b).2.2.1 (xg_heed i n j I L a b).2.2.2, 0, 0) E → xK (d + 2) xt_X4_heedAdvice 18 ([(0, xm_r 4 0), (1, xm_r 0 i), (2, xm_i a), (3, xm_i b), (4, xm_r 19 0), (5, xm_i 15), (6, xm_i (nI j)), (7, xm_r 1 (j - 1))], [], xh_M I L, 0, 0) E := by
  intro n
  induction n with
  | zero =>
    intro j hj h1 I L a b hk
    have hjN : j = 15 := by omega
    subst hjN
    refine xK.run (q := (22, ([(0, xm_r 4 0), (1, xm_r 0 i), (2, xm_i a), (3, xm_i b), (4, xm_r 19 0), (5, xm_i 15), (6, xm_i (nI 15)), (7, xm_r 1 (15 - 1))], [xm_i 15, xm_i (nI 15)], xh_M I L, 0, 0))) 2 rfl ?_
    exact xK.icmp rfl (fun _ => hk) (fun h9 => absurd (by decide) h9)
  | succ n ih =>
    intro j hj hj1 I L a b hk
    have hj8 : j < 15 := by omega
    have hj9 : ¬ (15 : Int32) ≤ nI j := nI_ge (b := 15) hj8 (by decide)
    refine xK.run (q := (22, [(0, xm_r 4 0), (1, xm_r 0 i), (2, xm_i a), (3, xm_i b), (4, xm_r 19 0), (5, xm_i 15), (6, xm_i (nI j)), (7, xm_r 1 (j - 1))], [xm_i 15, xm_i (nI j)], xh_M I L, 0, 0)) 2 rfl ?_
    refine xK.icmp rfl (fun h9 => absurd h9 hj9) (fun _ => ?_)
    refine xK.run (q := (29, [(0, xm_r 4 0), (1, xm_r 0 i), (2, xm_i a), (3, xm_i b), (4, xm_r 19 0), (5, xm_i 15), (6, xm_i (nI j)), (7, xm_r 1 (j - 1))], [xm_i (nI j), xm_r 19 0], xh_M I L, 0, 0)) 2 rfl ?_
    refine xK.aald rfl rfl (xh_ix_nI (N := 15) hj8 (by decide)) (xh_R19 hj8) ?_
    refine xK.run (q := (35, [(0, xm_r 4 0), (1, xm_r 0 i), (2, xm_i a), (3, xm_i b), (4, xm_r 19 0), (5, xm_i 15), (6, xm_i (nI j)), (7, xm_r 1 j)], [xm_r 0 i, xm_r 1 j], xh_M I L, 0, 0)) 3 rfl ?_
    refine xK.call [xm_r 1 j, xm_r 0 i] (xd_X1_has (d + 1) I L j i) rfl rfl rfl (Or.inr ⟨_, _, rfl⟩) (Nat.le_of_ble_eq_true rfl) ?_
    refine xK.ifI rfl (fun h1 => ?_) (fun h1 => ?_)
    · skip
      refine xK.run (q := (18, [(0, xm_r 4 0), (1, xm_r 0 i), (2, xm_i a), (3, xm_i b), (4, xm_r 19 0), (5, xm_i 15), (6, xm_i ((nI j) + 1)), (7, xm_r 1 j)], [], xh_M I L, 0, 0)) 2 rfl ?_
      rw [nI_1 j]
      refine ih (j + 1) (by omega) (by omega) I L a b ?_
      rw [show xg_heed i (n + 1) j I L a b = xg_heed i n (j + 1) I L a b from by rw [xg_heed]; rw [if_pos h1]] at hk
      exact hk
    · skip
      refine xK.run (q := (43, [(0, xm_r 4 0), (1, xm_r 0 i), (2, xm_i a), (3, xm_i b), (4, xm_r 19 0), (5, xm_i 15), (6, xm_i (nI j)), (7, xm_r 1 j)], [xm_r 1 j], xh_M I L, 0, 0)) 1 rfl ?_
      refine xK.call [xm_r 1 j] (xd_X1_isHeeded d I L j) rfl rfl rfl (Or.inr ⟨_, _, rfl⟩) (Nat.le_of_ble_eq_true rfl) ?_
      refine xK.ifI rfl (fun h2 => ?_) (fun h2 => ?_)
      · skip
        refine xK.run (q := (18, [(0, xm_r 4 0), (1, xm_r 0 i), (2, xm_i a), (3, xm_i b), (4, xm_r 19 0), (5, xm_i 15), (6, xm_i ((nI j) + 1)), (7, xm_r 1 j)], [], xh_M I L, 0, 0)) 2 rfl ?_
        rw [nI_1 j]
        refine ih (j + 1) (by omega) (by omega) I L a b ?_
        rw [show xg_heed i (n + 1) j I L a b = xg_heed i n (j + 1) I L a b from by rw [xg_heed]; rw [if_neg h1, if_pos h2]] at hk
        exact hk
      · skip
        refine xK.run (q := (52, [(0, xm_r 4 0), (1, xm_r 0 i), (2, xm_i a), (3, xm_i b), (4, xm_r 19 0), (5, xm_i 15), (6, xm_i (nI j)), (7, xm_r 1 j)], [xm_r 0 i, xm_r 1 j], xh_M I L, 0, 0)) 2 rfl ?_
        refine xK.call [xm_r 1 j, xm_r 0 i] (xd_X1_sendsUp (d + 1) I L j i) rfl rfl rfl (Or.inr ⟨_, _, rfl⟩) (Nat.le_of_ble_eq_true rfl) ?_
        refine xK.ifI rfl (fun h3 => ?_) (fun h3 => ?_)
        · skip
          refine xK.run (q := (18, [(0, xm_r 4 0), (1, xm_r 0 i), (2, xm_i a), (3, xm_i (xo_max b (I 1 10 j))), (4, xm_r 19 0), (5, xm_i 15), (6, xm_i ((nI j) + 1)), (7, xm_r 1 j)], [], xh_M I L, 0, 0)) 7 rfl ?_
          rw [nI_1 j]
          refine ih (j + 1) (by omega) (by omega) I L a (xo_max b (I 1 10 j)) ?_
          rw [show xg_heed i (n + 1) j I L a b = xg_heed i n (j + 1) I L a (xo_max b (I 1 10 j)) from by rw [xg_heed]; rw [if_neg h1, if_neg h2, if_pos h3]] at hk
          exact hk
        · skip
          refine xK.run (q := (18, [(0, xm_r 4 0), (1, xm_r 0 i), (2, xm_i (xo_max a (I 1 10 j))), (3, xm_i b), (4, xm_r 19 0), (5, xm_i 15), (6, xm_i ((nI j) + 1)), (7, xm_r 1 j)], [], xh_M I L, 0, 0)) 8 rfl ?_
          rw [nI_1 j]
          refine ih (j + 1) (by omega) (by omega) I L (xo_max a (I 1 10 j)) b ?_
          rw [show xg_heed i (n + 1) j I L a b = xg_heed i n (j + 1) I L (xo_max a (I 1 10 j)) b from by rw [xg_heed]; rw [if_neg h1, if_neg h2, if_neg h3]] at hk
          exact hk
set_option maxHeartbeats 4000000 in
set_option maxRecDepth 100000 in
theorem xl_heed_A (d : Nat) (i : Nat)  {E : Nat → xm_S → Prop} (I : xh_I) (L : xh_L) (a : Int32) (b : Int32) (hk : xK (d + 2) xt_X4_heedAdvice 87 ([(0, xm_r 4 0), (1, xm_r 0 i), (2, xm_i ((xg_heed i 15 0 I L a b).1)), (3, xm_i ((xg_heed i 15 0 I L a b).2.1)), (4, xm_r 19 0), (5, xm_i 15), (6, xm_i 15), (7, xm_r 1 14)], [], xh_M (xg_heed i 15 0 I L a b).2.2.1 (xg_heed i 15 0 I L a b).2.2.2, 0, 0) E) : xK (d + 2) xt_X4_heedAdvice 18 ([(0, xm_r 4 0), (1, xm_r 0 i), (2, xm_i a), (3, xm_i b), (4, xm_r 19 0), (5, xm_i 15), (6, xm_i 0)], [], xh_M I L, 0, 0) E := by
  refine xK.run (q := (22, [(0, xm_r 4 0), (1, xm_r 0 i), (2, xm_i a), (3, xm_i b), (4, xm_r 19 0), (5, xm_i 15), (6, xm_i 0)], [xm_i 15, xm_i 0], xh_M I L, 0, 0)) 2 rfl ?_
  refine xK.icmp rfl (fun h9 => absurd h9 (by decide)) (fun _ => ?_)
  refine xK.run (q := (29, [(0, xm_r 4 0), (1, xm_r 0 i), (2, xm_i a), (3, xm_i b), (4, xm_r 19 0), (5, xm_i 15), (6, xm_i 0)], [xm_i 0, xm_r 19 0], xh_M I L, 0, 0)) 2 rfl ?_
  refine xK.aald rfl rfl (show xh_ix 0 0 15 by decide) rfl ?_
  refine xK.run (q := (35, [(0, xm_r 4 0), (1, xm_r 0 i), (2, xm_i a), (3, xm_i b), (4, xm_r 19 0), (5, xm_i 15), (6, xm_i 0), (7, xm_r 1 0)], [xm_r 0 i, xm_r 1 0], xh_M I L, 0, 0)) 3 rfl ?_
  refine xK.call [xm_r 1 0, xm_r 0 i] (xd_X1_has (d + 1) I L 0 i) rfl rfl rfl (Or.inr ⟨_, _, rfl⟩) (Nat.le_of_ble_eq_true rfl) ?_
  refine xK.ifI rfl (fun h1 => ?_) (fun h1 => ?_)
  · skip
    refine xK.run (q := (18, [(0, xm_r 4 0), (1, xm_r 0 i), (2, xm_i a), (3, xm_i b), (4, xm_r 19 0), (5, xm_i 15), (6, xm_i 1), (7, xm_r 1 0)], [], xh_M I L, 0, 0)) 2 rfl ?_
    refine xl_heed_B d i  14 1 (by decide) (by decide) I L a b ?_
    rw [show xg_heed i 15 0 I L a b = xg_heed i 14 1 I L a b from by rw [show (15 : Nat) = 14 + 1 from rfl, xg_heed]; rw [if_pos h1]] at hk
    exact hk
  · skip
    refine xK.run (q := (43, [(0, xm_r 4 0), (1, xm_r 0 i), (2, xm_i a), (3, xm_i b), (4, xm_r 19 0), (5, xm_i 15), (6, xm_i 0), (7, xm_r 1 0)], [xm_r 1 0], xh_M I L, 0, 0)) 1 rfl ?_
    refine xK.call [xm_r 1 0] (xd_X1_isHeeded d I L 0) rfl rfl rfl (Or.inr ⟨_, _, rfl⟩) (Nat.le_of_ble_eq_true rfl) ?_
    refine xK.ifI rfl (fun h2 => ?_) (fun h2 => ?_)
    · skip
      refine xK.run (q := (18, [(0, xm_r 4 0), (1, xm_r 0 i), (2, xm_i a), (3, xm_i b), (4, xm_r 19 0), (5, xm_i 15), (6, xm_i 1), (7, xm_r 1 0)], [], xh_M I L, 0, 0)) 2 rfl ?_
      refine xl_heed_B d i  14 1 (by decide) (by decide) I L a b ?_
      rw [show xg_heed i 15 0 I L a b = xg_heed i 14 1 I L a b from by rw [show (15 : Nat) = 14 + 1 from rfl, xg_heed]; rw [if_neg h1, if_pos h2]] at hk
      exact hk
    · skip
      refine xK.run (q := (52, [(0, xm_r 4 0), (1, xm_r 0 i), (2, xm_i a), (3, xm_i b), (4, xm_r 19 0), (5, xm_i 15), (6, xm_i 0), (7, xm_r 1 0)], [xm_r 0 i, xm_r 1 0], xh_M I L, 0, 0)) 2 rfl ?_
      refine xK.call [xm_r 1 0, xm_r 0 i] (xd_X1_sendsUp (d + 1) I L 0 i) rfl rfl rfl (Or.inr ⟨_, _, rfl⟩) (Nat.le_of_ble_eq_true rfl) ?_
      refine xK.ifI rfl (fun h3 => ?_) (fun h3 => ?_)
      · skip
        refine xK.run (q := (18, [(0, xm_r 4 0), (1, xm_r 0 i), (2, xm_i a), (3, xm_i (xo_max b (I 1 10 0))), (4, xm_r 19 0), (5, xm_i 15), (6, xm_i 1), (7, xm_r 1 0)], [], xh_M I L, 0, 0)) 7 rfl ?_
        refine xl_heed_B d i  14 1 (by decide) (by decide) I L a (xo_max b (I 1 10 0)) ?_
        rw [show xg_heed i 15 0 I L a b = xg_heed i 14 1 I L a (xo_max b (I 1 10 0)) from by rw [show (15 : Nat) = 14 + 1 from rfl, xg_heed]; rw [if_neg h1, if_neg h2, if_pos h3]] at hk
        exact hk
      · skip
        refine xK.run (q := (18, [(0, xm_r 4 0), (1, xm_r 0 i), (2, xm_i (xo_max a (I 1 10 0))), (3, xm_i b), (4, xm_r 19 0), (5, xm_i 15), (6, xm_i 1), (7, xm_r 1 0)], [], xh_M I L, 0, 0)) 8 rfl ?_
        refine xl_heed_B d i  14 1 (by decide) (by decide) I L (xo_max a (I 1 10 0)) b ?_
        rw [show xg_heed i 15 0 I L a b = xg_heed i 14 1 I L (xo_max a (I 1 10 0)) b from by rw [show (15 : Nat) = 14 + 1 from rfl, xg_heed]; rw [if_neg h1, if_neg h2, if_neg h3]] at hk
        exact hk
set_option linter.unusedVariables false in
def xfI_X4_heedAdvice (I : xh_I) (L : xh_L) (i : Nat) : xh_I := (xfI_X0_pull ((xg_heed i 15 0 I L 0 0).2.2.1) ((xg_heed i 15 0 I L 0 0).2.2.2) i ((xg_heed i 15 0 I L 0 0).1) ((xg_heed i 15 0 I L 0 0).2.1) (xf_X2_pull ((xg_heed i 15 0 I L 0 0).2.2.1) ((xg_heed i 15 0 I L 0 0).2.2.2)))
set_option linter.unusedVariables false in
def xfL_X4_heedAdvice (I : xh_I) (L : xh_L) (i : Nat) : xh_L := (xg_heed i 15 0 I L 0 0).2.2.2
set_option maxHeartbeats 4000000 in
set_option maxRecDepth 100000 in
theorem xd_X4_heedAdvice (d : Nat) (I : xh_I) (L : xh_L) (i : Nat) : xm_Do xp_pg (d + 3) 69 [xm_r 4 0, xm_r 0 i] (xh_M I L) none (xh_M (xfI_X4_heedAdvice I L i) (xfL_X4_heedAdvice I L i)) 0 0 := by
  refine xK.of (Nat.le_of_ble_eq_true rfl) rfl ?_
  refine xK.run (q := (18, [(0, xm_r 4 0), (1, xm_r 0 i), (2, xm_i 0), (3, xm_i 0), (4, xm_r 19 0), (5, xm_i 15), (6, xm_i 0)], [], xh_M I L, 0, 0)) 12 rfl ?_
  refine xl_heed_A d i  I L 0 0  ?_
  refine xK.run (q := (94, [(0, xm_r 4 0), (1, xm_r 0 i), (2, xm_i ((xg_heed i 15 0 I L 0 0).1)), (3, xm_i ((xg_heed i 15 0 I L 0 0).2.1)), (4, xm_r 19 0), (5, xm_i 15), (6, xm_i 15), (7, xm_r 1 14)], [xm_r 2 0, xm_i ((xg_heed i 15 0 I L 0 0).2.1), xm_i ((xg_heed i 15 0 I L 0 0).1), xm_r 0 i], xh_M ((xg_heed i 15 0 I L 0 0).2.2.1) ((xg_heed i 15 0 I L 0 0).2.2.2), 0, 0)) 5 rfl ?_
  refine xK.call [xm_r 2 0] (xd_X2_pull (d + 1) ((xg_heed i 15 0 I L 0 0).2.2.1) ((xg_heed i 15 0 I L 0 0).2.2.2)) rfl rfl rfl (Or.inr ⟨_, _, rfl⟩) (Nat.le_of_ble_eq_true rfl) ?_
  refine xK.call [xm_r 0 i, xm_i ((xg_heed i 15 0 I L 0 0).1), xm_i ((xg_heed i 15 0 I L 0 0).2.1), xm_i (xf_X2_pull ((xg_heed i 15 0 I L 0 0).2.2.1) ((xg_heed i 15 0 I L 0 0).2.2.2))] (xd_X0_pull d ((xg_heed i 15 0 I L 0 0).2.2.1) ((xg_heed i 15 0 I L 0 0).2.2.2) i ((xg_heed i 15 0 I L 0 0).1) ((xg_heed i 15 0 I L 0 0).2.1) (xf_X2_pull ((xg_heed i 15 0 I L 0 0).2.2.1) ((xg_heed i 15 0 I L 0 0).2.2.2))) rfl rfl rfl (Or.inr ⟨_, _, rfl⟩) (Nat.le_of_ble_eq_true rfl) ?_
  exact xK.ret rfl ⟨rfl, rfl⟩
