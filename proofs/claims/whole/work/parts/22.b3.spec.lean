/-! WHAT THE REFERENCE COMPUTES (by program) -/
theorem xmt_X5_alerts : xm_moT xt_X5_alerts := by
  unfold xt_X5_alerts
  refine xm_moT.s xmo_ldR ?_
  refine xm_moT.s xmo_getL ?_
  refine xm_moT.s xmo_ldR ?_
  refine xm_moT.s xmo_getL ?_
  refine xm_moT.s xmo_lift ?_
  refine xm_moT.s xmo_ldR ?_
  refine xm_moT.s xmo_getL ?_
  refine xm_moT.s xmo_ldR ?_
  refine xm_moT.s xmo_getL ?_
  refine xm_moT.s xmo_lift ?_
  refine xm_moT.s xmo_lift ?_
  refine xm_moT.s xmo_stL ?_
  refine xm_moT.s xmo_ldR ?_
  refine xm_moT.s xmo_getR ?_
  refine xm_moT.s xmo_lift ?_
  refine xm_moT.s xmo_iald ?_
  refine xm_moT.s xmo_lift ?_
  refine xm_moT.s xmo_ldR ?_
  refine xm_moT.s xmo_getR ?_
  refine xm_moT.s xmo_lift ?_
  refine xm_moT.s xmo_iald ?_
  refine xm_moT.s xmo_lift ?_
  refine xm_moT.s xmo_lift ?_
  refine xm_moT.s xmo_stL ?_
  refine xm_moT.s xmo_ldL ?_
  refine xm_moT.s xmo_ldL ?_
  refine xm_moT.s xmo_lift ?_
  refine xm_moT.s xmo_if ?_
  refine xm_moT.s xmo_ldR ?_
  refine xm_moT.s xmo_getL ?_
  refine xm_moT.s xmo_lift ?_
  refine xm_moT.s xmo_lift ?_
  refine xm_moT.s xmo_if ?_
  refine xm_moT.s xmo_ldL ?_
  refine xm_moT.s xmo_ldL ?_
  refine xm_moT.s xmo_lift ?_
  refine xm_moT.s xmo_ldR ?_
  refine xm_moT.s xmo_getR ?_
  refine xm_moT.s xmo_lift ?_
  refine xm_moT.s xmo_iald ?_
  refine xm_moT.s xmo_lift ?_
  refine xm_moT.s xmo_ldR ?_
  refine xm_moT.s xmo_getL ?_
  refine xm_moT.s xmo_lift ?_
  refine xm_moT.s xmo_lift ?_
  refine xm_moT.s xmo_lift ?_
  refine xm_moT.s xmo_if ?_
  refine xm_moT.s xmo_lift ?_
  refine xm_moT.c ?_
  refine xm_moT.s xmo_ldR ?_
  refine xm_moT.s xmo_getL ?_
  refine xm_moT.s xmo_ldR ?_
  refine xm_moT.s xmo_getL ?_
  refine xm_moT.s xmo_lift ?_
  refine xm_moT.s xmo_ldR ?_
  refine xm_moT.s xmo_getL ?_
  refine xm_moT.s xmo_ldR ?_
  refine xm_moT.s xmo_getL ?_
  refine xm_moT.s xmo_lift ?_
  refine xm_moT.s xmo_lift ?_
  refine xm_moT.s xmo_stL ?_
  refine xm_moT.s xmo_ldL ?_
  refine xm_moT.s xmo_ldL ?_
  refine xm_moT.s xmo_lift ?_
  refine xm_moT.s xmo_ldR ?_
  refine xm_moT.s xmo_getR ?_
  refine xm_moT.s xmo_lift ?_
  refine xm_moT.s xmo_iald ?_
  refine xm_moT.s xmo_lift ?_
  refine xm_moT.s xmo_ldR ?_
  refine xm_moT.s xmo_getR ?_
  refine xm_moT.s xmo_lift ?_
  refine xm_moT.s xmo_iald ?_
  refine xm_moT.s xmo_lift ?_
  refine xm_moT.s xmo_lift ?_
  refine xm_moT.s xmo_ldR ?_
  refine xm_moT.s xmo_getL ?_
  refine xm_moT.s xmo_ldR ?_
  refine xm_moT.s xmo_getL ?_
  refine xm_moT.s xmo_lift ?_
  refine xm_moT.s xmo_ldR ?_
  refine xm_moT.s xmo_getL ?_
  refine xm_moT.s xmo_ldR ?_
  refine xm_moT.s xmo_getL ?_
  refine xm_moT.s xmo_lift ?_
  refine xm_moT.s xmo_lift ?_
  refine xm_moT.s xmo_lift ?_
  refine xm_moT.s xmo_lift ?_
  refine xm_moT.s xmo_if ?_
  refine xm_moT.s xmo_lift ?_
  refine xm_moT.c ?_
  refine xm_moT.s xmo_ldR ?_
  refine xm_moT.s xmo_getL ?_
  refine xm_moT.s xmo_lift ?_
  refine xm_moT.s xmo_lift ?_
  refine xm_moT.s xmo_if ?_
  refine xm_moT.s xmo_ldR ?_
  refine xm_moT.s xmo_getL ?_
  refine xm_moT.s xmo_lift ?_
  refine xm_moT.s xmo_lift ?_
  refine xm_moT.s xmo_if ?_
  refine xm_moT.s xmo_ldR ?_
  refine xm_moT.s xmo_getL ?_
  refine xm_moT.s xmo_lift ?_
  refine xm_moT.s xmo_lift ?_
  refine xm_moT.s xmo_if ?_
  refine xm_moT.s xmo_ldR ?_
  refine xm_moT.s xmo_getL ?_
  refine xm_moT.s xmo_lift ?_
  refine xm_moT.s xmo_lift ?_
  refine xm_moT.s xmo_if ?_
  refine xm_moT.s xmo_lift ?_
  refine xm_moT.s xmo_goto ?_
  refine xm_moT.s xmo_lift ?_
  refine xm_moT.s xmo_stI ?_
  refine xm_moT.s xmo_ldR ?_
  refine xm_moT.s xmo_getL ?_
  refine xm_moT.c ?_
  refine xm_moT.s xmo_ldR ?_
  refine xm_moT.s xmo_getR ?_
  refine xm_moT.s xmo_lift ?_
  refine xm_moT.s xmo_iald ?_
  refine xm_moT.s xmo_lift ?_
  refine xm_moT.s xmo_lift ?_
  refine xm_moT.s xmo_if ?_
  refine xm_moT.s xmo_ldI ?_
  refine xm_moT.s xmo_if ?_
  refine xm_moT.s xmo_ldR ?_
  refine xm_moT.s xmo_getL ?_
  refine xm_moT.c ?_
  refine xm_moT.s xmo_ldR ?_
  refine xm_moT.s xmo_getR ?_
  refine xm_moT.s xmo_lift ?_
  refine xm_moT.s xmo_iald ?_
  refine xm_moT.s xmo_lift ?_
  refine xm_moT.s xmo_ldR ?_
  refine xm_moT.s xmo_getL ?_
  refine xm_moT.c ?_
  refine xm_moT.s xmo_lift ?_
  refine xm_moT.s xmo_lift ?_
  refine xm_moT.s xmo_if ?_
  refine xm_moT.s xmo_lift ?_
  refine xm_moT.s xmo_goto ?_
  refine xm_moT.s xmo_lift ?_
  refine xm_moT.c ?_
  trivial
set_option linter.unusedVariables false in
def xf_alK (I : xh_I) (L : xh_L) (o : Int32) : Int32 := if (lg_cmp (xf_X5_plain (L 5 16 0)) ((I 7 3 0).toInt64)) ≤ 0 then 1 else (if o = 0 then 0 else (if 0 < (lg_cmp (xf_X5_plain (L 5 16 0)) (((I 7 0 0).toInt64) * (xf_X5_plain (L 5 19 0)))) then 0 else 1))
set_option maxHeartbeats 4000000 in
set_option maxRecDepth 100000 in
theorem xq_alK (d : Nat) (I : xh_I) (L : xh_L) (o : Int32) : xK (d + 1) xt_X5_alerts 183 ([(0, xm_r 5 0), (5, xm_i o)], [], xh_M I L, 0, 0) (xE xt_X5_alerts (some (xm_i (xf_alK I L o))) (xh_M I L) 0 0) := by
  refine xK.run (q := (187, [(0, xm_r 5 0), (5, xm_i o)], [xm_l (L 5 16 0)], xh_M I L, 0, 0)) 2 rfl ?_
  refine xK.call [xm_l (L 5 16 0)] (xd_X5_plain d I L (L 5 16 0)) rfl rfl rfl (Or.inl rfl) (Nat.le_of_ble_eq_true rfl) ?_
  refine xK.run (q := (195, [(0, xm_r 5 0), (5, xm_i o)], [xm_i 3, xm_r 7 0, xm_l (xf_X5_plain (L 5 16 0))], xh_M I L, 0, 0)) 3 rfl ?_
  refine xK.iald' rfl rfl (show xh_ix 3 3 7 by decide) ?_
  refine xK.run (q := (198, [(0, xm_r 5 0), (5, xm_i o)], [xm_i (lg_cmp (xf_X5_plain (L 5 16 0)) ((I 7 3 0).toInt64))], xh_M I L, 0, 0)) 2 rfl ?_
  refine xK.ifI rfl (fun (h1 : (lg_cmp (xf_X5_plain (L 5 16 0)) ((I 7 3 0).toInt64)) ≤ 0) => ?_) (fun (h1 : ¬ (lg_cmp (xf_X5_plain (L 5 16 0)) ((I 7 3 0).toInt64)) ≤ 0) => ?_)
  · skip
    refine xK.run (q := (237, [(0, xm_r 5 0), (5, xm_i o)], [xm_i 1], xh_M I L, 0, 0)) 2 rfl ?_
    rw [show xf_alK I L o = 1 from by unfold xf_alK; rw [if_pos h1]]
    exact xK.ret rfl ⟨_, (Or.inr rfl), rfl, rfl⟩
  · skip
    refine xK.run (q := (203, [(0, xm_r 5 0), (5, xm_i o)], [xm_i o], xh_M I L, 0, 0)) 1 rfl ?_
    refine xK.ifI rfl (fun (h2 : o = 0) => ?_) (fun (h2 : ¬ o = 0) => ?_)
    · skip
      refine xK.run (q := (237, [(0, xm_r 5 0), (5, xm_i o)], [xm_i 0], xh_M I L, 0, 0)) 1 rfl ?_
      rw [show xf_alK I L o = 0 from by unfold xf_alK; rw [if_neg h1, if_pos h2]]
      exact xK.ret rfl ⟨_, (Or.inl rfl), rfl, rfl⟩
    · skip
      refine xK.run (q := (210, [(0, xm_r 5 0), (5, xm_i o)], [xm_l (L 5 16 0)], xh_M I L, 0, 0)) 2 rfl ?_
      refine xK.call [xm_l (L 5 16 0)] (xd_X5_plain d I L (L 5 16 0)) rfl rfl rfl (Or.inl rfl) (Nat.le_of_ble_eq_true rfl) ?_
      refine xK.run (q := (218, [(0, xm_r 5 0), (5, xm_i o)], [xm_i 0, xm_r 7 0, xm_l (xf_X5_plain (L 5 16 0))], xh_M I L, 0, 0)) 3 rfl ?_
      refine xK.iald' rfl rfl (show xh_ix 0 0 7 by decide) ?_
      refine xK.run (q := (224, [(0, xm_r 5 0), (5, xm_i o)], [xm_l (L 5 19 0), xm_l ((I 7 0 0).toInt64), xm_l (xf_X5_plain (L 5 16 0))], xh_M I L, 0, 0)) 3 rfl ?_
      refine xK.call [xm_l (L 5 19 0)] (xd_X5_plain d I L (L 5 19 0)) rfl rfl rfl (Or.inl rfl) (Nat.le_of_ble_eq_true rfl) ?_
      refine xK.run (q := (229, [(0, xm_r 5 0), (5, xm_i o)], [xm_i (lg_cmp (xf_X5_plain (L 5 16 0)) (((I 7 0 0).toInt64) * (xf_X5_plain (L 5 19 0))))], xh_M I L, 0, 0)) 2 rfl ?_
      refine xK.ifI rfl (fun (h3 : 0 < (lg_cmp (xf_X5_plain (L 5 16 0)) (((I 7 0 0).toInt64) * (xf_X5_plain (L 5 19 0))))) => ?_) (fun (h3 : ¬ 0 < (lg_cmp (xf_X5_plain (L 5 16 0)) (((I 7 0 0).toInt64) * (xf_X5_plain (L 5 19 0))))) => ?_)
      · skip
        refine xK.run (q := (237, [(0, xm_r 5 0), (5, xm_i o)], [xm_i 0], xh_M I L, 0, 0)) 1 rfl ?_
        rw [show xf_alK I L o = 0 from by unfold xf_alK; rw [if_neg h1, if_neg h2, if_pos h3]]
        exact xK.ret rfl ⟨_, (Or.inl rfl), rfl, rfl⟩
      · skip
        refine xK.run (q := (237, [(0, xm_r 5 0), (5, xm_i o)], [xm_i 1], xh_M I L, 0, 0)) 2 rfl ?_
        rw [show xf_alK I L o = 1 from by unfold xf_alK; rw [if_neg h1, if_neg h2, if_neg h3]]
        exact xK.ret rfl ⟨_, (Or.inr rfl), rfl, rfl⟩
theorem xz_alK (I : xh_I) (L : xh_L) (o : Int32) : xf_alK I L o = 0 ∨ xf_alK I L o = 1 := by
  unfold xf_alK
  (repeat' split) <;> first | exact Or.inl rfl | exact Or.inr rfl
set_option linter.unusedVariables false in
def xf_alH (I : xh_I) (L : xh_L)  : Int32 := if (lg_cmp (L 5 16 0) 0) ≤ 0 then (if 0 ≤ (lg_cmp (L 5 16 0) 0) then (xf_alK I L 0) else (if (lg_cmp (L 5 19 0) 0) ≤ 0 then (xf_alK I L 0) else (xf_alK I L 1))) else (if (lg_cmp (L 5 19 0) 0) < 0 then (xf_alK I L 1) else (if 0 ≤ (lg_cmp (L 5 16 0) 0) then (xf_alK I L 0) else (if (lg_cmp (L 5 19 0) 0) ≤ 0 then (xf_alK I L 0) else (xf_alK I L 1))))
set_option maxHeartbeats 4000000 in
set_option maxRecDepth 100000 in
theorem xq_alH (d : Nat) (I : xh_I) (L : xh_L) : xK (d + 1) xt_X5_alerts 140 ([(0, xm_r 5 0)], [], xh_M I L, 0, 0) (xE xt_X5_alerts (some (xm_i (xf_alH I L))) (xh_M I L) 0 0) := by
  refine xK.run (q := (146, [(0, xm_r 5 0)], [xm_i (lg_cmp (L 5 16 0) 0)], xh_M I L, 0, 0)) 4 rfl ?_
  refine xK.ifI rfl (fun (h1 : (lg_cmp (L 5 16 0) 0) ≤ 0) => ?_) (fun (h1 : ¬ (lg_cmp (L 5 16 0) 0) ≤ 0) => ?_)
  · skip
    refine xK.run (q := (164, [(0, xm_r 5 0)], [xm_i (lg_cmp (L 5 16 0) 0)], xh_M I L, 0, 0)) 4 rfl ?_
    refine xK.ifI rfl (fun (h2 : 0 ≤ (lg_cmp (L 5 16 0) 0)) => ?_) (fun (h2 : ¬ 0 ≤ (lg_cmp (L 5 16 0) 0)) => ?_)
    · skip
      refine xK.run (q := (183, [(0, xm_r 5 0), (5, xm_i 0)], [], xh_M I L, 0, 0)) 2 rfl ?_
      rw [show xf_alH I L = (xf_alK I L 0) from by unfold xf_alH; rw [if_pos h1, if_pos h2]]
      exact xq_alK d I L 0
    · skip
      refine xK.run (q := (173, [(0, xm_r 5 0)], [xm_i (lg_cmp (L 5 19 0) 0)], xh_M I L, 0, 0)) 4 rfl ?_
      refine xK.ifI rfl (fun (h3 : (lg_cmp (L 5 19 0) 0) ≤ 0) => ?_) (fun (h3 : ¬ (lg_cmp (L 5 19 0) 0) ≤ 0) => ?_)
      · skip
        refine xK.run (q := (183, [(0, xm_r 5 0), (5, xm_i 0)], [], xh_M I L, 0, 0)) 2 rfl ?_
        rw [show xf_alH I L = (xf_alK I L 0) from by unfold xf_alH; rw [if_pos h1, if_neg h2, if_pos h3]]
        exact xq_alK d I L 0
      · skip
        refine xK.run (q := (183, [(0, xm_r 5 0), (5, xm_i 1)], [], xh_M I L, 0, 0)) 3 rfl ?_
        rw [show xf_alH I L = (xf_alK I L 1) from by unfold xf_alH; rw [if_pos h1, if_neg h2, if_neg h3]]
        exact xq_alK d I L 1
  · skip
    refine xK.run (q := (155, [(0, xm_r 5 0)], [xm_i (lg_cmp (L 5 19 0) 0)], xh_M I L, 0, 0)) 4 rfl ?_
    refine xK.ifI rfl (fun (h4 : (lg_cmp (L 5 19 0) 0) < 0) => ?_) (fun (h4 : ¬ (lg_cmp (L 5 19 0) 0) < 0) => ?_)
    · skip
      refine xK.run (q := (183, [(0, xm_r 5 0), (5, xm_i 1)], [], xh_M I L, 0, 0)) 3 rfl ?_
      rw [show xf_alH I L = (xf_alK I L 1) from by unfold xf_alH; rw [if_neg h1, if_pos h4]]
      exact xq_alK d I L 1
    · skip
      refine xK.run (q := (164, [(0, xm_r 5 0)], [xm_i (lg_cmp (L 5 16 0) 0)], xh_M I L, 0, 0)) 4 rfl ?_
      refine xK.ifI rfl (fun (h5 : 0 ≤ (lg_cmp (L 5 16 0) 0)) => ?_) (fun (h5 : ¬ 0 ≤ (lg_cmp (L 5 16 0) 0)) => ?_)
      · skip
        refine xK.run (q := (183, [(0, xm_r 5 0), (5, xm_i 0)], [], xh_M I L, 0, 0)) 2 rfl ?_
        rw [show xf_alH I L = (xf_alK I L 0) from by unfold xf_alH; rw [if_neg h1, if_neg h4, if_pos h5]]
        exact xq_alK d I L 0
      · skip
        refine xK.run (q := (173, [(0, xm_r 5 0)], [xm_i (lg_cmp (L 5 19 0) 0)], xh_M I L, 0, 0)) 4 rfl ?_
        refine xK.ifI rfl (fun (h6 : (lg_cmp (L 5 19 0) 0) ≤ 0) => ?_) (fun (h6 : ¬ (lg_cmp (L 5 19 0) 0) ≤ 0) => ?_)
        · skip
          refine xK.run (q := (183, [(0, xm_r 5 0), (5, xm_i 0)], [], xh_M I L, 0, 0)) 2 rfl ?_
          rw [show xf_alH I L = (xf_alK I L 0) from by unfold xf_alH; rw [if_neg h1, if_neg h4, if_neg h5, if_pos h6]]
          exact xq_alK d I L 0
        · skip
          refine xK.run (q := (183, [(0, xm_r 5 0), (5, xm_i 1)], [], xh_M I L, 0, 0)) 3 rfl ?_
          rw [show xf_alH I L = (xf_alK I L 1) from by unfold xf_alH; rw [if_neg h1, if_neg h4, if_neg h5, if_neg h6]]
          exact xq_alK d I L 1
theorem xz_alH (I : xh_I) (L : xh_L)  : xf_alH I L = 0 ∨ xf_alH I L = 1 := by
  unfold xf_alH
  (repeat' split) <;> first | exact xz_alK _ _ _ | exact Or.inl rfl | exact Or.inr rfl
set_option linter.unusedVariables false in
def xf_X5_alerts (I : xh_I) (L : xh_L)  : Int32 := if (lg_cmp (((L 5 14 0) * (L 5 14 0)) + ((L 5 15 0) * (L 5 15 0))) (((I 7 1 0).toInt64) * ((I 7 1 0).toInt64))) ≤ 0 then (xf_alH I L) else (if 0 ≤ (lg_cmp (L 5 20 0) 0) then 0 else (if (lg_cmp ((((L 5 14 0) * (L 5 14 0)) + ((L 5 15 0) * (L 5 15 0))) - (((I 7 1 0).toInt64) * ((I 7 1 0).toInt64))) (((I 7 0 0).toInt64) * (-(L 5 20 0)))) ≤ 0 then (if (lg_cmp ((((L 5 14 0) * (L 5 18 0)) - ((L 5 15 0) * (L 5 17 0))) * (((L 5 14 0) * (L 5 18 0)) - ((L 5 15 0) * (L 5 17 0)))) ((((I 7 2 0).toInt64) * ((I 7 2 0).toInt64)) * (((L 5 17 0) * (L 5 17 0)) + ((L 5 18 0) * (L 5 18 0))))) ≤ 0 then (xf_alH I L) else 0) else 0))
set_option maxHeartbeats 4000000 in
set_option maxRecDepth 100000 in
theorem xd_X5_alerts (d : Nat) (I : xh_I) (L : xh_L) : xm_Do xp_pg (d + 2) 86 [xm_r 5 0] (xh_M I L) (some (xm_i (xf_X5_alerts I L))) (xh_M I L) 0 0 := by
  refine xK.of (Nat.le_of_ble_eq_true rfl) rfl ?_
  refine xK.run (q := (25, [(0, xm_r 5 0), (1, xm_l (((L 5 14 0) * (L 5 14 0)) + ((L 5 15 0) * (L 5 15 0))))], [xm_i 1, xm_r 7 0], xh_M I L, 0, 0)) 15 rfl ?_
  refine xK.iald' rfl rfl (show xh_ix 1 1 7 by decide) ?_
  refine xK.run (q := (32, [(0, xm_r 5 0), (1, xm_l (((L 5 14 0) * (L 5 14 0)) + ((L 5 15 0) * (L 5 15 0))))], [xm_i 1, xm_r 7 0, xm_l ((I 7 1 0).toInt64)], xh_M I L, 0, 0)) 4 rfl ?_
  refine xK.iald' rfl rfl (show xh_ix 1 1 7 by decide) ?_
  refine xK.run (q := (39, [(0, xm_r 5 0), (1, xm_l (((L 5 14 0) * (L 5 14 0)) + ((L 5 15 0) * (L 5 15 0)))), (3, xm_l (((I 7 1 0).toInt64) * ((I 7 1 0).toInt64)))], [xm_i (lg_cmp (((L 5 14 0) * (L 5 14 0)) + ((L 5 15 0) * (L 5 15 0))) (((I 7 1 0).toInt64) * ((I 7 1 0).toInt64)))], xh_M I L, 0, 0)) 6 rfl ?_
  refine xK.ifI rfl (fun (h1 : (lg_cmp (((L 5 14 0) * (L 5 14 0)) + ((L 5 15 0) * (L 5 15 0))) (((I 7 1 0).toInt64) * ((I 7 1 0).toInt64))) ≤ 0) => ?_) (fun (h1 : ¬ (lg_cmp (((L 5 14 0) * (L 5 14 0)) + ((L 5 15 0) * (L 5 15 0))) (((I 7 1 0).toInt64) * ((I 7 1 0).toInt64))) ≤ 0) => ?_)
  · skip
    refine xK.forget (a := [(0, xm_r 5 0)]) xmt_X5_alerts xm_Ei_E (of_decide_eq_true rfl) ⟨rfl, trivial⟩ ?_
    rw [show xf_X5_alerts I L = (xf_alH I L) from by unfold xf_X5_alerts; rw [if_pos h1]]
    exact xq_alH d I L
  · skip
    refine xK.run (q := (48, [(0, xm_r 5 0), (1, xm_l (((L 5 14 0) * (L 5 14 0)) + ((L 5 15 0) * (L 5 15 0)))), (3, xm_l (((I 7 1 0).toInt64) * ((I 7 1 0).toInt64)))], [xm_i (lg_cmp (L 5 20 0) 0)], xh_M I L, 0, 0)) 4 rfl ?_
    refine xK.ifI rfl (fun (h2 : 0 ≤ (lg_cmp (L 5 20 0) 0)) => ?_) (fun (h2 : ¬ 0 ≤ (lg_cmp (L 5 20 0) 0)) => ?_)
    · skip
      refine xK.run (q := (72, [(0, xm_r 5 0), (1, xm_l (((L 5 14 0) * (L 5 14 0)) + ((L 5 15 0) * (L 5 15 0)))), (3, xm_l (((I 7 1 0).toInt64) * ((I 7 1 0).toInt64)))], [xm_i 0], xh_M I L, 0, 0)) 1 rfl ?_
      rw [show xf_X5_alerts I L = 0 from by unfold xf_X5_alerts; rw [if_neg h1, if_pos h2]]
      exact xK.ret rfl ⟨_, (Or.inl rfl), rfl, rfl⟩
    · skip
      refine xK.run (q := (59, [(0, xm_r 5 0), (1, xm_l (((L 5 14 0) * (L 5 14 0)) + ((L 5 15 0) * (L 5 15 0)))), (3, xm_l (((I 7 1 0).toInt64) * ((I 7 1 0).toInt64)))], [xm_i 0, xm_r 7 0, xm_l ((((L 5 14 0) * (L 5 14 0)) + ((L 5 15 0) * (L 5 15 0))) - (((I 7 1 0).toInt64) * ((I 7 1 0).toInt64)))], xh_M I L, 0, 0)) 6 rfl ?_
      refine xK.iald' rfl rfl (show xh_ix 0 0 7 by decide) ?_
      refine xK.run (q := (68, [(0, xm_r 5 0), (1, xm_l (((L 5 14 0) * (L 5 14 0)) + ((L 5 15 0) * (L 5 15 0)))), (3, xm_l (((I 7 1 0).toInt64) * ((I 7 1 0).toInt64)))], [xm_i (lg_cmp ((((L 5 14 0) * (L 5 14 0)) + ((L 5 15 0) * (L 5 15 0))) - (((I 7 1 0).toInt64) * ((I 7 1 0).toInt64))) (((I 7 0 0).toInt64) * (-(L 5 20 0))))], xh_M I L, 0, 0)) 6 rfl ?_
      refine xK.ifI rfl (fun (h3 : (lg_cmp ((((L 5 14 0) * (L 5 14 0)) + ((L 5 15 0) * (L 5 15 0))) - (((I 7 1 0).toInt64) * ((I 7 1 0).toInt64))) (((I 7 0 0).toInt64) * (-(L 5 20 0)))) ≤ 0) => ?_) (fun (h3 : ¬ (lg_cmp ((((L 5 14 0) * (L 5 14 0)) + ((L 5 15 0) * (L 5 15 0))) - (((I 7 1 0).toInt64) * ((I 7 1 0).toInt64))) (((I 7 0 0).toInt64) * (-(L 5 20 0)))) ≤ 0) => ?_)
      · skip
        refine xK.run (q := (104, [(0, xm_r 5 0), (1, xm_l (((L 5 14 0) * (L 5 14 0)) + ((L 5 15 0) * (L 5 15 0)))), (3, xm_l (((I 7 1 0).toInt64) * ((I 7 1 0).toInt64))), (5, xm_l (((L 5 14 0) * (L 5 18 0)) - ((L 5 15 0) * (L 5 17 0))))], [xm_i 2, xm_r 7 0, xm_l ((((L 5 14 0) * (L 5 18 0)) - ((L 5 15 0) * (L 5 17 0))) * (((L 5 14 0) * (L 5 18 0)) - ((L 5 15 0) * (L 5 17 0))))], xh_M I L, 0, 0)) 18 rfl ?_
        refine xK.iald' rfl rfl (show xh_ix 2 2 7 by decide) ?_
        refine xK.run (q := (111, [(0, xm_r 5 0), (1, xm_l (((L 5 14 0) * (L 5 14 0)) + ((L 5 15 0) * (L 5 15 0)))), (3, xm_l (((I 7 1 0).toInt64) * ((I 7 1 0).toInt64))), (5, xm_l (((L 5 14 0) * (L 5 18 0)) - ((L 5 15 0) * (L 5 17 0))))], [xm_i 2, xm_r 7 0, xm_l ((I 7 2 0).toInt64), xm_l ((((L 5 14 0) * (L 5 18 0)) - ((L 5 15 0) * (L 5 17 0))) * (((L 5 14 0) * (L 5 18 0)) - ((L 5 15 0) * (L 5 17 0))))], xh_M I L, 0, 0)) 4 rfl ?_
        refine xK.iald' rfl rfl (show xh_ix 2 2 7 by decide) ?_
        refine xK.run (q := (135, [(0, xm_r 5 0), (1, xm_l (((L 5 14 0) * (L 5 14 0)) + ((L 5 15 0) * (L 5 15 0)))), (3, xm_l (((I 7 1 0).toInt64) * ((I 7 1 0).toInt64))), (5, xm_l (((L 5 14 0) * (L 5 18 0)) - ((L 5 15 0) * (L 5 17 0))))], [xm_i (lg_cmp ((((L 5 14 0) * (L 5 18 0)) - ((L 5 15 0) * (L 5 17 0))) * (((L 5 14 0) * (L 5 18 0)) - ((L 5 15 0) * (L 5 17 0)))) ((((I 7 2 0).toInt64) * ((I 7 2 0).toInt64)) * (((L 5 17 0) * (L 5 17 0)) + ((L 5 18 0) * (L 5 18 0)))))], xh_M I L, 0, 0)) 15 rfl ?_
        refine xK.ifI rfl (fun (h4 : (lg_cmp ((((L 5 14 0) * (L 5 18 0)) - ((L 5 15 0) * (L 5 17 0))) * (((L 5 14 0) * (L 5 18 0)) - ((L 5 15 0) * (L 5 17 0)))) ((((I 7 2 0).toInt64) * ((I 7 2 0).toInt64)) * (((L 5 17 0) * (L 5 17 0)) + ((L 5 18 0) * (L 5 18 0))))) ≤ 0) => ?_) (fun (h4 : ¬ (lg_cmp ((((L 5 14 0) * (L 5 18 0)) - ((L 5 15 0) * (L 5 17 0))) * (((L 5 14 0) * (L 5 18 0)) - ((L 5 15 0) * (L 5 17 0)))) ((((I 7 2 0).toInt64) * ((I 7 2 0).toInt64)) * (((L 5 17 0) * (L 5 17 0)) + ((L 5 18 0) * (L 5 18 0))))) ≤ 0) => ?_)
        · skip
          refine xK.forget (a := [(0, xm_r 5 0)]) xmt_X5_alerts xm_Ei_E (of_decide_eq_true rfl) ⟨rfl, trivial⟩ ?_
          rw [show xf_X5_alerts I L = (xf_alH I L) from by unfold xf_X5_alerts; rw [if_neg h1, if_neg h2, if_pos h3, if_pos h4]]
          exact xq_alH d I L
        · skip
          refine xK.run (q := (139, [(0, xm_r 5 0), (1, xm_l (((L 5 14 0) * (L 5 14 0)) + ((L 5 15 0) * (L 5 15 0)))), (3, xm_l (((I 7 1 0).toInt64) * ((I 7 1 0).toInt64))), (5, xm_l (((L 5 14 0) * (L 5 18 0)) - ((L 5 15 0) * (L 5 17 0))))], [xm_i 0], xh_M I L, 0, 0)) 1 rfl ?_
          rw [show xf_X5_alerts I L = 0 from by unfold xf_X5_alerts; rw [if_neg h1, if_neg h2, if_pos h3, if_neg h4]]
          exact xK.ret rfl ⟨_, (Or.inl rfl), rfl, rfl⟩
      · skip
        refine xK.run (q := (72, [(0, xm_r 5 0), (1, xm_l (((L 5 14 0) * (L 5 14 0)) + ((L 5 15 0) * (L 5 15 0)))), (3, xm_l (((I 7 1 0).toInt64) * ((I 7 1 0).toInt64)))], [xm_i 0], xh_M I L, 0, 0)) 1 rfl ?_
        rw [show xf_X5_alerts I L = 0 from by unfold xf_X5_alerts; rw [if_neg h1, if_neg h2, if_neg h3]]
        exact xK.ret rfl ⟨_, (Or.inl rfl), rfl, rfl⟩
theorem xz_X5_alerts (I : xh_I) (L : xh_L)  : xf_X5_alerts I L = 0 ∨ xf_X5_alerts I L = 1 := by
  unfold xf_X5_alerts
  (repeat' split) <;> first | exact xz_alH _ _ | exact Or.inl rfl | exact Or.inr rfl
set_option linter.unusedVariables false in
def xf_X5_height (I : xh_I) (L : xh_L) (a : Int32) (u : Int32) (s : Int32) (t : Int32) : Int64 := if 0 ≤ (lg_cmp (L 5 21 0) ((I 7 5 0).toInt64)) then (if 0 ≤ (lg_cmp (((I 7 5 0).toInt64) - t.toInt64) 0) then (if u = 0 then (if 0 ≤ (lg_cmp ((I 10 (6 * a.toNatClampNeg + 5) 0).toInt64) ((-12) * s.toInt64)) then ((((I 10 (6 * a.toNatClampNeg + 2) 0).toInt64) + (((I 10 (6 * a.toNatClampNeg + 5) 0).toInt64) * (((I 7 5 0).toInt64) - t.toInt64))) + (((-12) * s.toInt64) * ((L 5 21 0) - (((I 7 5 0).toInt64) - t.toInt64)))) else ((((I 10 (6 * a.toNatClampNeg + 2) 0).toInt64) + (((I 10 (6 * a.toNatClampNeg + 5) 0).toInt64) * (((I 7 5 0).toInt64) - t.toInt64))) + (((I 10 (6 * a.toNatClampNeg + 5) 0).toInt64) * ((L 5 21 0) - (((I 7 5 0).toInt64) - t.toInt64))))) else (if (lg_cmp ((I 10 (6 * a.toNatClampNeg + 5) 0).toInt64) (12 * s.toInt64)) ≤ 0 then ((((I 10 (6 * a.toNatClampNeg + 2) 0).toInt64) + (((I 10 (6 * a.toNatClampNeg + 5) 0).toInt64) * (((I 7 5 0).toInt64) - t.toInt64))) + ((12 * s.toInt64) * ((L 5 21 0) - (((I 7 5 0).toInt64) - t.toInt64)))) else ((((I 10 (6 * a.toNatClampNeg + 2) 0).toInt64) + (((I 10 (6 * a.toNatClampNeg + 5) 0).toInt64) * (((I 7 5 0).toInt64) - t.toInt64))) + (((I 10 (6 * a.toNatClampNeg + 5) 0).toInt64) * ((L 5 21 0) - (((I 7 5 0).toInt64) - t.toInt64)))))) else (if u = 0 then (if 0 ≤ (lg_cmp ((I 10 (6 * a.toNatClampNeg + 5) 0).toInt64) ((-12) * s.toInt64)) then ((((I 10 (6 * a.toNatClampNeg + 2) 0).toInt64) + (((I 10 (6 * a.toNatClampNeg + 5) 0).toInt64) * 0)) + (((-12) * s.toInt64) * ((L 5 21 0) - 0))) else ((((I 10 (6 * a.toNatClampNeg + 2) 0).toInt64) + (((I 10 (6 * a.toNatClampNeg + 5) 0).toInt64) * 0)) + (((I 10 (6 * a.toNatClampNeg + 5) 0).toInt64) * ((L 5 21 0) - 0)))) else (if (lg_cmp ((I 10 (6 * a.toNatClampNeg + 5) 0).toInt64) (12 * s.toInt64)) ≤ 0 then ((((I 10 (6 * a.toNatClampNeg + 2) 0).toInt64) + (((I 10 (6 * a.toNatClampNeg + 5) 0).toInt64) * 0)) + ((12 * s.toInt64) * ((L 5 21 0) - 0))) else ((((I 10 (6 * a.toNatClampNeg + 2) 0).toInt64) + (((I 10 (6 * a.toNatClampNeg + 5) 0).toInt64) * 0)) + (((I 10 (6 * a.toNatClampNeg + 5) 0).toInt64) * ((L 5 21 0) - 0)))))) else (if 0 ≤ (lg_cmp ((L 5 21 0) - t.toInt64) 0) then (if u = 0 then (if 0 ≤ (lg_cmp ((I 10 (6 * a.toNatClampNeg + 5) 0).toInt64) ((-12) * s.toInt64)) then ((((I 10 (6 * a.toNatClampNeg + 2) 0).toInt64) + (((I 10 (6 * a.toNatClampNeg + 5) 0).toInt64) * ((L 5 21 0) - t.toInt64))) + (((-12) * s.toInt64) * ((L 5 21 0) - ((L 5 21 0) - t.toInt64)))) else ((((I 10 (6 * a.toNatClampNeg + 2) 0).toInt64) + (((I 10 (6 * a.toNatClampNeg + 5) 0).toInt64) * ((L 5 21 0) - t.toInt64))) + (((I 10 (6 * a.toNatClampNeg + 5) 0).toInt64) * ((L 5 21 0) - ((L 5 21 0) - t.toInt64))))) else (if (lg_cmp ((I 10 (6 * a.toNatClampNeg + 5) 0).toInt64) (12 * s.toInt64)) ≤ 0 then ((((I 10 (6 * a.toNatClampNeg + 2) 0).toInt64) + (((I 10 (6 * a.toNatClampNeg + 5) 0).toInt64) * ((L 5 21 0) - t.toInt64))) + ((12 * s.toInt64) * ((L 5 21 0) - ((L 5 21 0) - t.toInt64)))) else ((((I 10 (6 * a.toNatClampNeg + 2) 0).toInt64) + (((I 10 (6 * a.toNatClampNeg + 5) 0).toInt64) * ((L 5 21 0) - t.toInt64))) + (((I 10 (6 * a.toNatClampNeg + 5) 0).toInt64) * ((L 5 21 0) - ((L 5 21 0) - t.toInt64)))))) else (if u = 0 then (if 0 ≤ (lg_cmp ((I 10 (6 * a.toNatClampNeg + 5) 0).toInt64) ((-12) * s.toInt64)) then ((((I 10 (6 * a.toNatClampNeg + 2) 0).toInt64) + (((I 10 (6 * a.toNatClampNeg + 5) 0).toInt64) * 0)) + (((-12) * s.toInt64) * ((L 5 21 0) - 0))) else ((((I 10 (6 * a.toNatClampNeg + 2) 0).toInt64) + (((I 10 (6 * a.toNatClampNeg + 5) 0).toInt64) * 0)) + (((I 10 (6 * a.toNatClampNeg + 5) 0).toInt64) * ((L 5 21 0) - 0)))) else (if (lg_cmp ((I 10 (6 * a.toNatClampNeg + 5) 0).toInt64) (12 * s.toInt64)) ≤ 0 then ((((I 10 (6 * a.toNatClampNeg + 2) 0).toInt64) + (((I 10 (6 * a.toNatClampNeg + 5) 0).toInt64) * 0)) + ((12 * s.toInt64) * ((L 5 21 0) - 0))) else ((((I 10 (6 * a.toNatClampNeg + 2) 0).toInt64) + (((I 10 (6 * a.toNatClampNeg + 5) 0).toInt64) * 0)) + (((I 10 (6 * a.toNatClampNeg + 5) 0).toInt64) * ((L 5 21 0) - 0))))))
set_option maxHeartbeats 4000000 in
set_option maxRecDepth 100000 in
theorem xd_X5_height (d : Nat) (I : xh_I) (L : xh_L) (a : Int32) (ha : xh_ix a a.toNatClampNeg 6) (u : Int32) (s : Int32) (t : Int32) : xm_Do xp_pg (d + 1) 87 [xm_r 5 0, xm_i a, xm_i u, xm_i s, xm_i t] (xh_M I L) (some (xm_l (xf_X5_height I L a u s t))) (xh_M I L) 0 0 := by
  refine xK.of (Nat.le_of_ble_eq_true rfl) rfl ?_
  refine xK.run (q := (9, [(0, xm_r 5 0), (1, xm_i a), (2, xm_i u), (3, xm_i s), (4, xm_i t)], [xm_i 5, xm_r 7 0, xm_l (L 5 21 0)], xh_M I L, 0, 0)) 5 rfl ?_
  refine xK.iald' rfl rfl (show xh_ix 5 5 7 by decide) ?_
  refine xK.run (q := (12, [(0, xm_r 5 0), (1, xm_i a), (2, xm_i u), (3, xm_i s), (4, xm_i t)], [xm_i (lg_cmp (L 5 21 0) ((I 7 5 0).toInt64))], xh_M I L, 0, 0)) 2 rfl ?_
  refine xK.ifI rfl (fun (h1 : 0 ≤ (lg_cmp (L 5 21 0) ((I 7 5 0).toInt64))) => ?_) (fun (h1 : ¬ 0 ≤ (lg_cmp (L 5 21 0) ((I 7 5 0).toInt64))) => ?_)
  · skip
    refine xK.run (q := (27, [(0, xm_r 5 0), (1, xm_i a), (2, xm_i u), (3, xm_i s), (4, xm_i t)], [xm_i 5, xm_r 7 0], xh_M I L, 0, 0)) 3 rfl ?_
    refine xK.iald' rfl rfl (show xh_ix 5 5 7 by decide) ?_
    refine xK.run (q := (39, [(0, xm_r 5 0), (1, xm_i a), (2, xm_i u), (3, xm_i s), (4, xm_i t), (5, xm_l (((I 7 5 0).toInt64) - t.toInt64))], [xm_i (lg_cmp (((I 7 5 0).toInt64) - t.toInt64) 0)], xh_M I L, 0, 0)) 8 rfl ?_
    refine xK.ifI rfl (fun (h2 : 0 ≤ (lg_cmp (((I 7 5 0).toInt64) - t.toInt64) 0)) => ?_) (fun (h2 : ¬ 0 ≤ (lg_cmp (((I 7 5 0).toInt64) - t.toInt64) 0)) => ?_)
    · skip
      refine xK.run (q := (60, [(0, xm_r 5 0), (1, xm_i a), (2, xm_i u), (3, xm_i s), (4, xm_i t), (5, xm_l (((I 7 5 0).toInt64) - t.toInt64))], [xm_i ((6 * a) + 5), xm_r 10 0], xh_M I L, 0, 0)) 9 rfl ?_
      refine xK.iald' rfl rfl (xh_ix6' ha (c := 5) (by decide)) ?_
      refine xK.run (q := (65, [(0, xm_r 5 0), (1, xm_i a), (2, xm_i u), (3, xm_i s), (4, xm_i t), (5, xm_l (((I 7 5 0).toInt64) - t.toInt64)), (7, xm_l ((I 10 (6 * a.toNatClampNeg + 5) 0).toInt64))], [xm_i u], xh_M I L, 0, 0)) 3 rfl ?_
      refine xK.ifI rfl (fun (h3 : u = 0) => ?_) (fun (h3 : ¬ u = 0) => ?_)
      · skip
        refine xK.run (q := (86, [(0, xm_r 5 0), (1, xm_i a), (2, xm_i u), (3, xm_i s), (4, xm_i t), (5, xm_l (((I 7 5 0).toInt64) - t.toInt64)), (7, xm_l ((I 10 (6 * a.toNatClampNeg + 5) 0).toInt64)), (9, xm_l ((-12) * s.toInt64))], [xm_i u], xh_M I L, 0, 0)) 6 rfl ?_
        refine xK.ifI rfl (fun _ => ?_) (fun h9 => absurd h3 h9)
        refine xK.run (q := (112, [(0, xm_r 5 0), (1, xm_i a), (2, xm_i u), (3, xm_i s), (4, xm_i t), (5, xm_l (((I 7 5 0).toInt64) - t.toInt64)), (7, xm_l ((I 10 (6 * a.toNatClampNeg + 5) 0).toInt64)), (9, xm_l ((-12) * s.toInt64))], [xm_i (lg_cmp ((I 10 (6 * a.toNatClampNeg + 5) 0).toInt64) ((-12) * s.toInt64))], xh_M I L, 0, 0)) 3 rfl ?_
        refine xK.ifI rfl (fun (h4 : 0 ≤ (lg_cmp ((I 10 (6 * a.toNatClampNeg + 5) 0).toInt64) ((-12) * s.toInt64))) => ?_) (fun (h4 : ¬ 0 ≤ (lg_cmp ((I 10 (6 * a.toNatClampNeg + 5) 0).toInt64) ((-12) * s.toInt64))) => ?_)
        · skip
          refine xK.run (q := (134, [(0, xm_r 5 0), (1, xm_i a), (2, xm_i u), (3, xm_i s), (4, xm_i t), (5, xm_l (((I 7 5 0).toInt64) - t.toInt64)), (7, xm_l ((I 10 (6 * a.toNatClampNeg + 5) 0).toInt64)), (9, xm_l ((-12) * s.toInt64)), (11, xm_l ((-12) * s.toInt64))], [xm_i ((6 * a) + 2), xm_r 10 0], xh_M I L, 0, 0)) 9 rfl ?_
          refine xK.iald' rfl rfl (xh_ix6' ha (c := 2) (by decide)) ?_
          refine xK.run (q := (153, [(0, xm_r 5 0), (1, xm_i a), (2, xm_i u), (3, xm_i s), (4, xm_i t), (5, xm_l (((I 7 5 0).toInt64) - t.toInt64)), (7, xm_l ((I 10 (6 * a.toNatClampNeg + 5) 0).toInt64)), (9, xm_l ((-12) * s.toInt64)), (11, xm_l ((-12) * s.toInt64))], [xm_l ((((I 10 (6 * a.toNatClampNeg + 2) 0).toInt64) + (((I 10 (6 * a.toNatClampNeg + 5) 0).toInt64) * (((I 7 5 0).toInt64) - t.toInt64))) + (((-12) * s.toInt64) * ((L 5 21 0) - (((I 7 5 0).toInt64) - t.toInt64))))], xh_M I L, 0, 0)) 12 rfl ?_
          rw [show xf_X5_height I L a u s t = ((((I 10 (6 * a.toNatClampNeg + 2) 0).toInt64) + (((I 10 (6 * a.toNatClampNeg + 5) 0).toInt64) * (((I 7 5 0).toInt64) - t.toInt64))) + (((-12) * s.toInt64) * ((L 5 21 0) - (((I 7 5 0).toInt64) - t.toInt64)))) from by unfold xf_X5_height; rw [if_pos h1, if_pos h2, if_pos h3, if_pos h4]]
          exact xK.ret rfl ⟨_, rfl, rfl⟩
        · skip
          refine xK.run (q := (134, [(0, xm_r 5 0), (1, xm_i a), (2, xm_i u), (3, xm_i s), (4, xm_i t), (5, xm_l (((I 7 5 0).toInt64) - t.toInt64)), (7, xm_l ((I 10 (6 * a.toNatClampNeg + 5) 0).toInt64)), (9, xm_l ((-12) * s.toInt64)), (11, xm_l ((I 10 (6 * a.toNatClampNeg + 5) 0).toInt64))], [xm_i ((6 * a) + 2), xm_r 10 0], xh_M I L, 0, 0)) 10 rfl ?_
          refine xK.iald' rfl rfl (xh_ix6' ha (c := 2) (by decide)) ?_
          refine xK.run (q := (153, [(0, xm_r 5 0), (1, xm_i a), (2, xm_i u), (3, xm_i s), (4, xm_i t), (5, xm_l (((I 7 5 0).toInt64) - t.toInt64)), (7, xm_l ((I 10 (6 * a.toNatClampNeg + 5) 0).toInt64)), (9, xm_l ((-12) * s.toInt64)), (11, xm_l ((I 10 (6 * a.toNatClampNeg + 5) 0).toInt64))], [xm_l ((((I 10 (6 * a.toNatClampNeg + 2) 0).toInt64) + (((I 10 (6 * a.toNatClampNeg + 5) 0).toInt64) * (((I 7 5 0).toInt64) - t.toInt64))) + (((I 10 (6 * a.toNatClampNeg + 5) 0).toInt64) * ((L 5 21 0) - (((I 7 5 0).toInt64) - t.toInt64))))], xh_M I L, 0, 0)) 12 rfl ?_
          rw [show xf_X5_height I L a u s t = ((((I 10 (6 * a.toNatClampNeg + 2) 0).toInt64) + (((I 10 (6 * a.toNatClampNeg + 5) 0).toInt64) * (((I 7 5 0).toInt64) - t.toInt64))) + (((I 10 (6 * a.toNatClampNeg + 5) 0).toInt64) * ((L 5 21 0) - (((I 7 5 0).toInt64) - t.toInt64)))) from by unfold xf_X5_height; rw [if_pos h1, if_pos h2, if_pos h3, if_neg h4]]
          exact xK.ret rfl ⟨_, rfl, rfl⟩
      · skip
        refine xK.run (q := (86, [(0, xm_r 5 0), (1, xm_i a), (2, xm_i u), (3, xm_i s), (4, xm_i t), (5, xm_l (((I 7 5 0).toInt64) - t.toInt64)), (7, xm_l ((I 10 (6 * a.toNatClampNeg + 5) 0).toInt64)), (9, xm_l (12 * s.toInt64))], [xm_i u], xh_M I L, 0, 0)) 7 rfl ?_
        refine xK.ifI rfl (fun h9 => absurd h9 h3) (fun _ => ?_)
        refine xK.run (q := (94, [(0, xm_r 5 0), (1, xm_i a), (2, xm_i u), (3, xm_i s), (4, xm_i t), (5, xm_l (((I 7 5 0).toInt64) - t.toInt64)), (7, xm_l ((I 10 (6 * a.toNatClampNeg + 5) 0).toInt64)), (9, xm_l (12 * s.toInt64))], [xm_i (lg_cmp ((I 10 (6 * a.toNatClampNeg + 5) 0).toInt64) (12 * s.toInt64))], xh_M I L, 0, 0)) 3 rfl ?_
        refine xK.ifI rfl (fun (h5 : (lg_cmp ((I 10 (6 * a.toNatClampNeg + 5) 0).toInt64) (12 * s.toInt64)) ≤ 0) => ?_) (fun (h5 : ¬ (lg_cmp ((I 10 (6 * a.toNatClampNeg + 5) 0).toInt64) (12 * s.toInt64)) ≤ 0) => ?_)
        · skip
          refine xK.run (q := (134, [(0, xm_r 5 0), (1, xm_i a), (2, xm_i u), (3, xm_i s), (4, xm_i t), (5, xm_l (((I 7 5 0).toInt64) - t.toInt64)), (7, xm_l ((I 10 (6 * a.toNatClampNeg + 5) 0).toInt64)), (9, xm_l (12 * s.toInt64)), (11, xm_l (12 * s.toInt64))], [xm_i ((6 * a) + 2), xm_r 10 0], xh_M I L, 0, 0)) 10 rfl ?_
          refine xK.iald' rfl rfl (xh_ix6' ha (c := 2) (by decide)) ?_
          refine xK.run (q := (153, [(0, xm_r 5 0), (1, xm_i a), (2, xm_i u), (3, xm_i s), (4, xm_i t), (5, xm_l (((I 7 5 0).toInt64) - t.toInt64)), (7, xm_l ((I 10 (6 * a.toNatClampNeg + 5) 0).toInt64)), (9, xm_l (12 * s.toInt64)), (11, xm_l (12 * s.toInt64))], [xm_l ((((I 10 (6 * a.toNatClampNeg + 2) 0).toInt64) + (((I 10 (6 * a.toNatClampNeg + 5) 0).toInt64) * (((I 7 5 0).toInt64) - t.toInt64))) + ((12 * s.toInt64) * ((L 5 21 0) - (((I 7 5 0).toInt64) - t.toInt64))))], xh_M I L, 0, 0)) 12 rfl ?_
          rw [show xf_X5_height I L a u s t = ((((I 10 (6 * a.toNatClampNeg + 2) 0).toInt64) + (((I 10 (6 * a.toNatClampNeg + 5) 0).toInt64) * (((I 7 5 0).toInt64) - t.toInt64))) + ((12 * s.toInt64) * ((L 5 21 0) - (((I 7 5 0).toInt64) - t.toInt64)))) from by unfold xf_X5_height; rw [if_pos h1, if_pos h2, if_neg h3, if_pos h5]]
          exact xK.ret rfl ⟨_, rfl, rfl⟩
        · skip
          refine xK.run (q := (134, [(0, xm_r 5 0), (1, xm_i a), (2, xm_i u), (3, xm_i s), (4, xm_i t), (5, xm_l (((I 7 5 0).toInt64) - t.toInt64)), (7, xm_l ((I 10 (6 * a.toNatClampNeg + 5) 0).toInt64)), (9, xm_l (12 * s.toInt64)), (11, xm_l ((I 10 (6 * a.toNatClampNeg + 5) 0).toInt64))], [xm_i ((6 * a) + 2), xm_r 10 0], xh_M I L, 0, 0)) 10 rfl ?_
          refine xK.iald' rfl rfl (xh_ix6' ha (c := 2) (by decide)) ?_
          refine xK.run (q := (153, [(0, xm_r 5 0), (1, xm_i a), (2, xm_i u), (3, xm_i s), (4, xm_i t), (5, xm_l (((I 7 5 0).toInt64) - t.toInt64)), (7, xm_l ((I 10 (6 * a.toNatClampNeg + 5) 0).toInt64)), (9, xm_l (12 * s.toInt64)), (11, xm_l ((I 10 (6 * a.toNatClampNeg + 5) 0).toInt64))], [xm_l ((((I 10 (6 * a.toNatClampNeg + 2) 0).toInt64) + (((I 10 (6 * a.toNatClampNeg + 5) 0).toInt64) * (((I 7 5 0).toInt64) - t.toInt64))) + (((I 10 (6 * a.toNatClampNeg + 5) 0).toInt64) * ((L 5 21 0) - (((I 7 5 0).toInt64) - t.toInt64))))], xh_M I L, 0, 0)) 12 rfl ?_
          rw [show xf_X5_height I L a u s t = ((((I 10 (6 * a.toNatClampNeg + 2) 0).toInt64) + (((I 10 (6 * a.toNatClampNeg + 5) 0).toInt64) * (((I 7 5 0).toInt64) - t.toInt64))) + (((I 10 (6 * a.toNatClampNeg + 5) 0).toInt64) * ((L 5 21 0) - (((I 7 5 0).toInt64) - t.toInt64)))) from by unfold xf_X5_height; rw [if_pos h1, if_pos h2, if_neg h3, if_neg h5]]
          exact xK.ret rfl ⟨_, rfl, rfl⟩
    · skip
      refine xK.run (q := (60, [(0, xm_r 5 0), (1, xm_i a), (2, xm_i u), (3, xm_i s), (4, xm_i t), (5, xm_l 0)], [xm_i ((6 * a) + 5), xm_r 10 0], xh_M I L, 0, 0)) 10 rfl ?_
      refine xK.iald' rfl rfl (xh_ix6' ha (c := 5) (by decide)) ?_
      refine xK.run (q := (65, [(0, xm_r 5 0), (1, xm_i a), (2, xm_i u), (3, xm_i s), (4, xm_i t), (5, xm_l 0), (7, xm_l ((I 10 (6 * a.toNatClampNeg + 5) 0).toInt64))], [xm_i u], xh_M I L, 0, 0)) 3 rfl ?_
      refine xK.ifI rfl (fun (h6 : u = 0) => ?_) (fun (h6 : ¬ u = 0) => ?_)
      · skip
        refine xK.run (q := (86, [(0, xm_r 5 0), (1, xm_i a), (2, xm_i u), (3, xm_i s), (4, xm_i t), (5, xm_l 0), (7, xm_l ((I 10 (6 * a.toNatClampNeg + 5) 0).toInt64)), (9, xm_l ((-12) * s.toInt64))], [xm_i u], xh_M I L, 0, 0)) 6 rfl ?_
        refine xK.ifI rfl (fun _ => ?_) (fun h9 => absurd h6 h9)
        refine xK.run (q := (112, [(0, xm_r 5 0), (1, xm_i a), (2, xm_i u), (3, xm_i s), (4, xm_i t), (5, xm_l 0), (7, xm_l ((I 10 (6 * a.toNatClampNeg + 5) 0).toInt64)), (9, xm_l ((-12) * s.toInt64))], [xm_i (lg_cmp ((I 10 (6 * a.toNatClampNeg + 5) 0).toInt64) ((-12) * s.toInt64))], xh_M I L, 0, 0)) 3 rfl ?_
        refine xK.ifI rfl (fun (h7 : 0 ≤ (lg_cmp ((I 10 (6 * a.toNatClampNeg + 5) 0).toInt64) ((-12) * s.toInt64))) => ?_) (fun (h7 : ¬ 0 ≤ (lg_cmp ((I 10 (6 * a.toNatClampNeg + 5) 0).toInt64) ((-12) * s.toInt64))) => ?_)
        · skip
          refine xK.run (q := (134, [(0, xm_r 5 0), (1, xm_i a), (2, xm_i u), (3, xm_i s), (4, xm_i t), (5, xm_l 0), (7, xm_l ((I 10 (6 * a.toNatClampNeg + 5) 0).toInt64)), (9, xm_l ((-12) * s.toInt64)), (11, xm_l ((-12) * s.toInt64))], [xm_i ((6 * a) + 2), xm_r 10 0], xh_M I L, 0, 0)) 9 rfl ?_
          refine xK.iald' rfl rfl (xh_ix6' ha (c := 2) (by decide)) ?_
          refine xK.run (q := (153, [(0, xm_r 5 0), (1, xm_i a), (2, xm_i u), (3, xm_i s), (4, xm_i t), (5, xm_l 0), (7, xm_l ((I 10 (6 * a.toNatClampNeg + 5) 0).toInt64)), (9, xm_l ((-12) * s.toInt64)), (11, xm_l ((-12) * s.toInt64))], [xm_l ((((I 10 (6 * a.toNatClampNeg + 2) 0).toInt64) + (((I 10 (6 * a.toNatClampNeg + 5) 0).toInt64) * 0)) + (((-12) * s.toInt64) * ((L 5 21 0) - 0)))], xh_M I L, 0, 0)) 12 rfl ?_
          rw [show xf_X5_height I L a u s t = ((((I 10 (6 * a.toNatClampNeg + 2) 0).toInt64) + (((I 10 (6 * a.toNatClampNeg + 5) 0).toInt64) * 0)) + (((-12) * s.toInt64) * ((L 5 21 0) - 0))) from by unfold xf_X5_height; rw [if_pos h1, if_neg h2, if_pos h6, if_pos h7]]
          exact xK.ret rfl ⟨_, rfl, rfl⟩
        · skip
          refine xK.run (q := (134, [(0, xm_r 5 0), (1, xm_i a), (2, xm_i u), (3, xm_i s), (4, xm_i t), (5, xm_l 0), (7, xm_l ((I 10 (6 * a.toNatClampNeg + 5) 0).toInt64)), (9, xm_l ((-12) * s.toInt64)), (11, xm_l ((I 10 (6 * a.toNatClampNeg + 5) 0).toInt64))], [xm_i ((6 * a) + 2), xm_r 10 0], xh_M I L, 0, 0)) 10 rfl ?_
          refine xK.iald' rfl rfl (xh_ix6' ha (c := 2) (by decide)) ?_
          refine xK.run (q := (153, [(0, xm_r 5 0), (1, xm_i a), (2, xm_i u), (3, xm_i s), (4, xm_i t), (5, xm_l 0), (7, xm_l ((I 10 (6 * a.toNatClampNeg + 5) 0).toInt64)), (9, xm_l ((-12) * s.toInt64)), (11, xm_l ((I 10 (6 * a.toNatClampNeg + 5) 0).toInt64))], [xm_l ((((I 10 (6 * a.toNatClampNeg + 2) 0).toInt64) + (((I 10 (6 * a.toNatClampNeg + 5) 0).toInt64) * 0)) + (((I 10 (6 * a.toNatClampNeg + 5) 0).toInt64) * ((L 5 21 0) - 0)))], xh_M I L, 0, 0)) 12 rfl ?_
          rw [show xf_X5_height I L a u s t = ((((I 10 (6 * a.toNatClampNeg + 2) 0).toInt64) + (((I 10 (6 * a.toNatClampNeg + 5) 0).toInt64) * 0)) + (((I 10 (6 * a.toNatClampNeg + 5) 0).toInt64) * ((L 5 21 0) - 0))) from by unfold xf_X5_height; rw [if_pos h1, if_neg h2, if_pos h6, if_neg h7]]
          exact xK.ret rfl ⟨_, rfl, rfl⟩
      · skip
        refine xK.run (q := (86, [(0, xm_r 5 0), (1, xm_i a), (2, xm_i u), (3, xm_i s), (4, xm_i t), (5, xm_l 0), (7, xm_l ((I 10 (6 * a.toNatClampNeg + 5) 0).toInt64)), (9, xm_l (12 * s.toInt64))], [xm_i u], xh_M I L, 0, 0)) 7 rfl ?_
        refine xK.ifI rfl (fun h9 => absurd h9 h6) (fun _ => ?_)
        refine xK.run (q := (94, [(0, xm_r 5 0), (1, xm_i a), (2, xm_i u), (3, xm_i s), (4, xm_i t), (5, xm_l 0), (7, xm_l ((I 10 (6 * a.toNatClampNeg + 5) 0).toInt64)), (9, xm_l (12 * s.toInt64))], [xm_i (lg_cmp ((I 10 (6 * a.toNatClampNeg + 5) 0).toInt64) (12 * s.toInt64))], xh_M I L, 0, 0)) 3 rfl ?_
        refine xK.ifI rfl (fun (h8 : (lg_cmp ((I 10 (6 * a.toNatClampNeg + 5) 0).toInt64) (12 * s.toInt64)) ≤ 0) => ?_) (fun (h8 : ¬ (lg_cmp ((I 10 (6 * a.toNatClampNeg + 5) 0).toInt64) (12 * s.toInt64)) ≤ 0) => ?_)
        · skip
          refine xK.run (q := (134, [(0, xm_r 5 0), (1, xm_i a), (2, xm_i u), (3, xm_i s), (4, xm_i t), (5, xm_l 0), (7, xm_l ((I 10 (6 * a.toNatClampNeg + 5) 0).toInt64)), (9, xm_l (12 * s.toInt64)), (11, xm_l (12 * s.toInt64))], [xm_i ((6 * a) + 2), xm_r 10 0], xh_M I L, 0, 0)) 10 rfl ?_
          refine xK.iald' rfl rfl (xh_ix6' ha (c := 2) (by decide)) ?_
          refine xK.run (q := (153, [(0, xm_r 5 0), (1, xm_i a), (2, xm_i u), (3, xm_i s), (4, xm_i t), (5, xm_l 0), (7, xm_l ((I 10 (6 * a.toNatClampNeg + 5) 0).toInt64)), (9, xm_l (12 * s.toInt64)), (11, xm_l (12 * s.toInt64))], [xm_l ((((I 10 (6 * a.toNatClampNeg + 2) 0).toInt64) + (((I 10 (6 * a.toNatClampNeg + 5) 0).toInt64) * 0)) + ((12 * s.toInt64) * ((L 5 21 0) - 0)))], xh_M I L, 0, 0)) 12 rfl ?_
          rw [show xf_X5_height I L a u s t = ((((I 10 (6 * a.toNatClampNeg + 2) 0).toInt64) + (((I 10 (6 * a.toNatClampNeg + 5) 0).toInt64) * 0)) + ((12 * s.toInt64) * ((L 5 21 0) - 0))) from by unfold xf_X5_height; rw [if_pos h1, if_neg h2, if_neg h6, if_pos h8]]
          exact xK.ret rfl ⟨_, rfl, rfl⟩
        · skip
          refine xK.run (q := (134, [(0, xm_r 5 0), (1, xm_i a), (2, xm_i u), (3, xm_i s), (4, xm_i t), (5, xm_l 0), (7, xm_l ((I 10 (6 * a.toNatClampNeg + 5) 0).toInt64)), (9, xm_l (12 * s.toInt64)), (11, xm_l ((I 10 (6 * a.toNatClampNeg + 5) 0).toInt64))], [xm_i ((6 * a) + 2), xm_r 10 0], xh_M I L, 0, 0)) 10 rfl ?_
          refine xK.iald' rfl rfl (xh_ix6' ha (c := 2) (by decide)) ?_
          refine xK.run (q := (153, [(0, xm_r 5 0), (1, xm_i a), (2, xm_i u), (3, xm_i s), (4, xm_i t), (5, xm_l 0), (7, xm_l ((I 10 (6 * a.toNatClampNeg + 5) 0).toInt64)), (9, xm_l (12 * s.toInt64)), (11, xm_l ((I 10 (6 * a.toNatClampNeg + 5) 0).toInt64))], [xm_l ((((I 10 (6 * a.toNatClampNeg + 2) 0).toInt64) + (((I 10 (6 * a.toNatClampNeg + 5) 0).toInt64) * 0)) + (((I 10 (6 * a.toNatClampNeg + 5) 0).toInt64) * ((L 5 21 0) - 0)))], xh_M I L, 0, 0)) 12 rfl ?_
          rw [show xf_X5_height I L a u s t = ((((I 10 (6 * a.toNatClampNeg + 2) 0).toInt64) + (((I 10 (6 * a.toNatClampNeg + 5) 0).toInt64) * 0)) + (((I 10 (6 * a.toNatClampNeg + 5) 0).toInt64) * ((L 5 21 0) - 0))) from by unfold xf_X5_height; rw [if_pos h1, if_neg h2, if_neg h6, if_neg h8]]
          exact xK.ret rfl ⟨_, rfl, rfl⟩
  · skip
    refine xK.run (q := (39, [(0, xm_r 5 0), (1, xm_i a), (2, xm_i u), (3, xm_i s), (4, xm_i t), (5, xm_l ((L 5 21 0) - t.toInt64))], [xm_i (lg_cmp ((L 5 21 0) - t.toInt64) 0)], xh_M I L, 0, 0)) 10 rfl ?_
    refine xK.ifI rfl (fun (h9 : 0 ≤ (lg_cmp ((L 5 21 0) - t.toInt64) 0)) => ?_) (fun (h9 : ¬ 0 ≤ (lg_cmp ((L 5 21 0) - t.toInt64) 0)) => ?_)
    · skip
      refine xK.run (q := (60, [(0, xm_r 5 0), (1, xm_i a), (2, xm_i u), (3, xm_i s), (4, xm_i t), (5, xm_l ((L 5 21 0) - t.toInt64))], [xm_i ((6 * a) + 5), xm_r 10 0], xh_M I L, 0, 0)) 9 rfl ?_
      refine xK.iald' rfl rfl (xh_ix6' ha (c := 5) (by decide)) ?_
      refine xK.run (q := (65, [(0, xm_r 5 0), (1, xm_i a), (2, xm_i u), (3, xm_i s), (4, xm_i t), (5, xm_l ((L 5 21 0) - t.toInt64)), (7, xm_l ((I 10 (6 * a.toNatClampNeg + 5) 0).toInt64))], [xm_i u], xh_M I L, 0, 0)) 3 rfl ?_
      refine xK.ifI rfl (fun (h10 : u = 0) => ?_) (fun (h10 : ¬ u = 0) => ?_)
      · skip
        refine xK.run (q := (86, [(0, xm_r 5 0), (1, xm_i a), (2, xm_i u), (3, xm_i s), (4, xm_i t), (5, xm_l ((L 5 21 0) - t.toInt64)), (7, xm_l ((I 10 (6 * a.toNatClampNeg + 5) 0).toInt64)), (9, xm_l ((-12) * s.toInt64))], [xm_i u], xh_M I L, 0, 0)) 6 rfl ?_
        refine xK.ifI rfl (fun _ => ?_) (fun h9 => absurd h10 h9)
        refine xK.run (q := (112, [(0, xm_r 5 0), (1, xm_i a), (2, xm_i u), (3, xm_i s), (4, xm_i t), (5, xm_l ((L 5 21 0) - t.toInt64)), (7, xm_l ((I 10 (6 * a.toNatClampNeg + 5) 0).toInt64)), (9, xm_l ((-12) * s.toInt64))], [xm_i (lg_cmp ((I 10 (6 * a.toNatClampNeg + 5) 0).toInt64) ((-12) * s.toInt64))], xh_M I L, 0, 0)) 3 rfl ?_
        refine xK.ifI rfl (fun (h11 : 0 ≤ (lg_cmp ((I 10 (6 * a.toNatClampNeg + 5) 0).toInt64) ((-12) * s.toInt64))) => ?_) (fun (h11 : ¬ 0 ≤ (lg_cmp ((I 10 (6 * a.toNatClampNeg + 5) 0).toInt64) ((-12) * s.toInt64))) => ?_)
        · skip
          refine xK.run (q := (134, [(0, xm_r 5 0), (1, xm_i a), (2, xm_i u), (3, xm_i s), (4, xm_i t), (5, xm_l ((L 5 21 0) - t.toInt64)), (7, xm_l ((I 10 (6 * a.toNatClampNeg + 5) 0).toInt64)), (9, xm_l ((-12) * s.toInt64)), (11, xm_l ((-12) * s.toInt64))], [xm_i ((6 * a) + 2), xm_r 10 0], xh_M I L, 0, 0)) 9 rfl ?_
          refine xK.iald' rfl rfl (xh_ix6' ha (c := 2) (by decide)) ?_
          refine xK.run (q := (153, [(0, xm_r 5 0), (1, xm_i a), (2, xm_i u), (3, xm_i s), (4, xm_i t), (5, xm_l ((L 5 21 0) - t.toInt64)), (7, xm_l ((I 10 (6 * a.toNatClampNeg + 5) 0).toInt64)), (9, xm_l ((-12) * s.toInt64)), (11, xm_l ((-12) * s.toInt64))], [xm_l ((((I 10 (6 * a.toNatClampNeg + 2) 0).toInt64) + (((I 10 (6 * a.toNatClampNeg + 5) 0).toInt64) * ((L 5 21 0) - t.toInt64))) + (((-12) * s.toInt64) * ((L 5 21 0) - ((L 5 21 0) - t.toInt64))))], xh_M I L, 0, 0)) 12 rfl ?_
          rw [show xf_X5_height I L a u s t = ((((I 10 (6 * a.toNatClampNeg + 2) 0).toInt64) + (((I 10 (6 * a.toNatClampNeg + 5) 0).toInt64) * ((L 5 21 0) - t.toInt64))) + (((-12) * s.toInt64) * ((L 5 21 0) - ((L 5 21 0) - t.toInt64)))) from by unfold xf_X5_height; rw [if_neg h1, if_pos h9, if_pos h10, if_pos h11]]
          exact xK.ret rfl ⟨_, rfl, rfl⟩
        · skip
          refine xK.run (q := (134, [(0, xm_r 5 0), (1, xm_i a), (2, xm_i u), (3, xm_i s), (4, xm_i t), (5, xm_l ((L 5 21 0) - t.toInt64)), (7, xm_l ((I 10 (6 * a.toNatClampNeg + 5) 0).toInt64)), (9, xm_l ((-12) * s.toInt64)), (11, xm_l ((I 10 (6 * a.toNatClampNeg + 5) 0).toInt64))], [xm_i ((6 * a) + 2), xm_r 10 0], xh_M I L, 0, 0)) 10 rfl ?_
          refine xK.iald' rfl rfl (xh_ix6' ha (c := 2) (by decide)) ?_
          refine xK.run (q := (153, [(0, xm_r 5 0), (1, xm_i a), (2, xm_i u), (3, xm_i s), (4, xm_i t), (5, xm_l ((L 5 21 0) - t.toInt64)), (7, xm_l ((I 10 (6 * a.toNatClampNeg + 5) 0).toInt64)), (9, xm_l ((-12) * s.toInt64)), (11, xm_l ((I 10 (6 * a.toNatClampNeg + 5) 0).toInt64))], [xm_l ((((I 10 (6 * a.toNatClampNeg + 2) 0).toInt64) + (((I 10 (6 * a.toNatClampNeg + 5) 0).toInt64) * ((L 5 21 0) - t.toInt64))) + (((I 10 (6 * a.toNatClampNeg + 5) 0).toInt64) * ((L 5 21 0) - ((L 5 21 0) - t.toInt64))))], xh_M I L, 0, 0)) 12 rfl ?_
          rw [show xf_X5_height I L a u s t = ((((I 10 (6 * a.toNatClampNeg + 2) 0).toInt64) + (((I 10 (6 * a.toNatClampNeg + 5) 0).toInt64) * ((L 5 21 0) - t.toInt64))) + (((I 10 (6 * a.toNatClampNeg + 5) 0).toInt64) * ((L 5 21 0) - ((L 5 21 0) - t.toInt64)))) from by unfold xf_X5_height; rw [if_neg h1, if_pos h9, if_pos h10, if_neg h11]]
          exact xK.ret rfl ⟨_, rfl, rfl⟩
      · skip
        refine xK.run (q := (86, [(0, xm_r 5 0), (1, xm_i a), (2, xm_i u), (3, xm_i s), (4, xm_i t), (5, xm_l ((L 5 21 0) - t.toInt64)), (7, xm_l ((I 10 (6 * a.toNatClampNeg + 5) 0).toInt64)), (9, xm_l (12 * s.toInt64))], [xm_i u], xh_M I L, 0, 0)) 7 rfl ?_
        refine xK.ifI rfl (fun h9 => absurd h9 h10) (fun _ => ?_)
        refine xK.run (q := (94, [(0, xm_r 5 0), (1, xm_i a), (2, xm_i u), (3, xm_i s), (4, xm_i t), (5, xm_l ((L 5 21 0) - t.toInt64)), (7, xm_l ((I 10 (6 * a.toNatClampNeg + 5) 0).toInt64)), (9, xm_l (12 * s.toInt64))], [xm_i (lg_cmp ((I 10 (6 * a.toNatClampNeg + 5) 0).toInt64) (12 * s.toInt64))], xh_M I L, 0, 0)) 3 rfl ?_
        refine xK.ifI rfl (fun (h12 : (lg_cmp ((I 10 (6 * a.toNatClampNeg + 5) 0).toInt64) (12 * s.toInt64)) ≤ 0) => ?_) (fun (h12 : ¬ (lg_cmp ((I 10 (6 * a.toNatClampNeg + 5) 0).toInt64) (12 * s.toInt64)) ≤ 0) => ?_)
        · skip
          refine xK.run (q := (134, [(0, xm_r 5 0), (1, xm_i a), (2, xm_i u), (3, xm_i s), (4, xm_i t), (5, xm_l ((L 5 21 0) - t.toInt64)), (7, xm_l ((I 10 (6 * a.toNatClampNeg + 5) 0).toInt64)), (9, xm_l (12 * s.toInt64)), (11, xm_l (12 * s.toInt64))], [xm_i ((6 * a) + 2), xm_r 10 0], xh_M I L, 0, 0)) 10 rfl ?_
          refine xK.iald' rfl rfl (xh_ix6' ha (c := 2) (by decide)) ?_
          refine xK.run (q := (153, [(0, xm_r 5 0), (1, xm_i a), (2, xm_i u), (3, xm_i s), (4, xm_i t), (5, xm_l ((L 5 21 0) - t.toInt64)), (7, xm_l ((I 10 (6 * a.toNatClampNeg + 5) 0).toInt64)), (9, xm_l (12 * s.toInt64)), (11, xm_l (12 * s.toInt64))], [xm_l ((((I 10 (6 * a.toNatClampNeg + 2) 0).toInt64) + (((I 10 (6 * a.toNatClampNeg + 5) 0).toInt64) * ((L 5 21 0) - t.toInt64))) + ((12 * s.toInt64) * ((L 5 21 0) - ((L 5 21 0) - t.toInt64))))], xh_M I L, 0, 0)) 12 rfl ?_
          rw [show xf_X5_height I L a u s t = ((((I 10 (6 * a.toNatClampNeg + 2) 0).toInt64) + (((I 10 (6 * a.toNatClampNeg + 5) 0).toInt64) * ((L 5 21 0) - t.toInt64))) + ((12 * s.toInt64) * ((L 5 21 0) - ((L 5 21 0) - t.toInt64)))) from by unfold xf_X5_height; rw [if_neg h1, if_pos h9, if_neg h10, if_pos h12]]
          exact xK.ret rfl ⟨_, rfl, rfl⟩
        · skip
          refine xK.run (q := (134, [(0, xm_r 5 0), (1, xm_i a), (2, xm_i u), (3, xm_i s), (4, xm_i t), (5, xm_l ((L 5 21 0) - t.toInt64)), (7, xm_l ((I 10 (6 * a.toNatClampNeg + 5) 0).toInt64)), (9, xm_l (12 * s.toInt64)), (11, xm_l ((I 10 (6 * a.toNatClampNeg + 5) 0).toInt64))], [xm_i ((6 * a) + 2), xm_r 10 0], xh_M I L, 0, 0)) 10 rfl ?_
          refine xK.iald' rfl rfl (xh_ix6' ha (c := 2) (by decide)) ?_
          refine xK.run (q := (153, [(0, xm_r 5 0), (1, xm_i a), (2, xm_i u), (3, xm_i s), (4, xm_i t), (5, xm_l ((L 5 21 0) - t.toInt64)), (7, xm_l ((I 10 (6 * a.toNatClampNeg + 5) 0).toInt64)), (9, xm_l (12 * s.toInt64)), (11, xm_l ((I 10 (6 * a.toNatClampNeg + 5) 0).toInt64))], [xm_l ((((I 10 (6 * a.toNatClampNeg + 2) 0).toInt64) + (((I 10 (6 * a.toNatClampNeg + 5) 0).toInt64) * ((L 5 21 0) - t.toInt64))) + (((I 10 (6 * a.toNatClampNeg + 5) 0).toInt64) * ((L 5 21 0) - ((L 5 21 0) - t.toInt64))))], xh_M I L, 0, 0)) 12 rfl ?_
          rw [show xf_X5_height I L a u s t = ((((I 10 (6 * a.toNatClampNeg + 2) 0).toInt64) + (((I 10 (6 * a.toNatClampNeg + 5) 0).toInt64) * ((L 5 21 0) - t.toInt64))) + (((I 10 (6 * a.toNatClampNeg + 5) 0).toInt64) * ((L 5 21 0) - ((L 5 21 0) - t.toInt64)))) from by unfold xf_X5_height; rw [if_neg h1, if_pos h9, if_neg h10, if_neg h12]]
          exact xK.ret rfl ⟨_, rfl, rfl⟩
    · skip
      refine xK.run (q := (60, [(0, xm_r 5 0), (1, xm_i a), (2, xm_i u), (3, xm_i s), (4, xm_i t), (5, xm_l 0)], [xm_i ((6 * a) + 5), xm_r 10 0], xh_M I L, 0, 0)) 10 rfl ?_
      refine xK.iald' rfl rfl (xh_ix6' ha (c := 5) (by decide)) ?_
      refine xK.run (q := (65, [(0, xm_r 5 0), (1, xm_i a), (2, xm_i u), (3, xm_i s), (4, xm_i t), (5, xm_l 0), (7, xm_l ((I 10 (6 * a.toNatClampNeg + 5) 0).toInt64))], [xm_i u], xh_M I L, 0, 0)) 3 rfl ?_
      refine xK.ifI rfl (fun (h13 : u = 0) => ?_) (fun (h13 : ¬ u = 0) => ?_)
      · skip
        refine xK.run (q := (86, [(0, xm_r 5 0), (1, xm_i a), (2, xm_i u), (3, xm_i s), (4, xm_i t), (5, xm_l 0), (7, xm_l ((I 10 (6 * a.toNatClampNeg + 5) 0).toInt64)), (9, xm_l ((-12) * s.toInt64))], [xm_i u], xh_M I L, 0, 0)) 6 rfl ?_
        refine xK.ifI rfl (fun _ => ?_) (fun h9 => absurd h13 h9)
        refine xK.run (q := (112, [(0, xm_r 5 0), (1, xm_i a), (2, xm_i u), (3, xm_i s), (4, xm_i t), (5, xm_l 0), (7, xm_l ((I 10 (6 * a.toNatClampNeg + 5) 0).toInt64)), (9, xm_l ((-12) * s.toInt64))], [xm_i (lg_cmp ((I 10 (6 * a.toNatClampNeg + 5) 0).toInt64) ((-12) * s.toInt64))], xh_M I L, 0, 0)) 3 rfl ?_
        refine xK.ifI rfl (fun (h14 : 0 ≤ (lg_cmp ((I 10 (6 * a.toNatClampNeg + 5) 0).toInt64) ((-12) * s.toInt64))) => ?_) (fun (h14 : ¬ 0 ≤ (lg_cmp ((I 10 (6 * a.toNatClampNeg + 5) 0).toInt64) ((-12) * s.toInt64))) => ?_)
        · skip
          refine xK.run (q := (134, [(0, xm_r 5 0), (1, xm_i a), (2, xm_i u), (3, xm_i s), (4, xm_i t), (5, xm_l 0), (7, xm_l ((I 10 (6 * a.toNatClampNeg + 5) 0).toInt64)), (9, xm_l ((-12) * s.toInt64)), (11, xm_l ((-12) * s.toInt64))], [xm_i ((6 * a) + 2), xm_r 10 0], xh_M I L, 0, 0)) 9 rfl ?_
          refine xK.iald' rfl rfl (xh_ix6' ha (c := 2) (by decide)) ?_
          refine xK.run (q := (153, [(0, xm_r 5 0), (1, xm_i a), (2, xm_i u), (3, xm_i s), (4, xm_i t), (5, xm_l 0), (7, xm_l ((I 10 (6 * a.toNatClampNeg + 5) 0).toInt64)), (9, xm_l ((-12) * s.toInt64)), (11, xm_l ((-12) * s.toInt64))], [xm_l ((((I 10 (6 * a.toNatClampNeg + 2) 0).toInt64) + (((I 10 (6 * a.toNatClampNeg + 5) 0).toInt64) * 0)) + (((-12) * s.toInt64) * ((L 5 21 0) - 0)))], xh_M I L, 0, 0)) 12 rfl ?_
          rw [show xf_X5_height I L a u s t = ((((I 10 (6 * a.toNatClampNeg + 2) 0).toInt64) + (((I 10 (6 * a.toNatClampNeg + 5) 0).toInt64) * 0)) + (((-12) * s.toInt64) * ((L 5 21 0) - 0))) from by unfold xf_X5_height; rw [if_neg h1, if_neg h9, if_pos h13, if_pos h14]]
          exact xK.ret rfl ⟨_, rfl, rfl⟩
        · skip
          refine xK.run (q := (134, [(0, xm_r 5 0), (1, xm_i a), (2, xm_i u), (3, xm_i s), (4, xm_i t), (5, xm_l 0), (7, xm_l ((I 10 (6 * a.toNatClampNeg + 5) 0).toInt64)), (9, xm_l ((-12) * s.toInt64)), (11, xm_l ((I 10 (6 * a.toNatClampNeg + 5) 0).toInt64))], [xm_i ((6 * a) + 2), xm_r 10 0], xh_M I L, 0, 0)) 10 rfl ?_
          refine xK.iald' rfl rfl (xh_ix6' ha (c := 2) (by decide)) ?_
          refine xK.run (q := (153, [(0, xm_r 5 0), (1, xm_i a), (2, xm_i u), (3, xm_i s), (4, xm_i t), (5, xm_l 0), (7, xm_l ((I 10 (6 * a.toNatClampNeg + 5) 0).toInt64)), (9, xm_l ((-12) * s.toInt64)), (11, xm_l ((I 10 (6 * a.toNatClampNeg + 5) 0).toInt64))], [xm_l ((((I 10 (6 * a.toNatClampNeg + 2) 0).toInt64) + (((I 10 (6 * a.toNatClampNeg + 5) 0).toInt64) * 0)) + (((I 10 (6 * a.toNatClampNeg + 5) 0).toInt64) * ((L 5 21 0) - 0)))], xh_M I L, 0, 0)) 12 rfl ?_
          rw [show xf_X5_height I L a u s t = ((((I 10 (6 * a.toNatClampNeg + 2) 0).toInt64) + (((I 10 (6 * a.toNatClampNeg + 5) 0).toInt64) * 0)) + (((I 10 (6 * a.toNatClampNeg + 5) 0).toInt64) * ((L 5 21 0) - 0))) from by unfold xf_X5_height; rw [if_neg h1, if_neg h9, if_pos h13, if_neg h14]]
          exact xK.ret rfl ⟨_, rfl, rfl⟩
      · skip
        refine xK.run (q := (86, [(0, xm_r 5 0), (1, xm_i a), (2, xm_i u), (3, xm_i s), (4, xm_i t), (5, xm_l 0), (7, xm_l ((I 10 (6 * a.toNatClampNeg + 5) 0).toInt64)), (9, xm_l (12 * s.toInt64))], [xm_i u], xh_M I L, 0, 0)) 7 rfl ?_
        refine xK.ifI rfl (fun h9 => absurd h9 h13) (fun _ => ?_)
        refine xK.run (q := (94, [(0, xm_r 5 0), (1, xm_i a), (2, xm_i u), (3, xm_i s), (4, xm_i t), (5, xm_l 0), (7, xm_l ((I 10 (6 * a.toNatClampNeg + 5) 0).toInt64)), (9, xm_l (12 * s.toInt64))], [xm_i (lg_cmp ((I 10 (6 * a.toNatClampNeg + 5) 0).toInt64) (12 * s.toInt64))], xh_M I L, 0, 0)) 3 rfl ?_
        refine xK.ifI rfl (fun (h15 : (lg_cmp ((I 10 (6 * a.toNatClampNeg + 5) 0).toInt64) (12 * s.toInt64)) ≤ 0) => ?_) (fun (h15 : ¬ (lg_cmp ((I 10 (6 * a.toNatClampNeg + 5) 0).toInt64) (12 * s.toInt64)) ≤ 0) => ?_)
        · skip
          refine xK.run (q := (134, [(0, xm_r 5 0), (1, xm_i a), (2, xm_i u), (3, xm_i s), (4, xm_i t), (5, xm_l 0), (7, xm_l ((I 10 (6 * a.toNatClampNeg + 5) 0).toInt64)), (9, xm_l (12 * s.toInt64)), (11, xm_l (12 * s.toInt64))], [xm_i ((6 * a) + 2), xm_r 10 0], xh_M I L, 0, 0)) 10 rfl ?_
          refine xK.iald' rfl rfl (xh_ix6' ha (c := 2) (by decide)) ?_
          refine xK.run (q := (153, [(0, xm_r 5 0), (1, xm_i a), (2, xm_i u), (3, xm_i s), (4, xm_i t), (5, xm_l 0), (7, xm_l ((I 10 (6 * a.toNatClampNeg + 5) 0).toInt64)), (9, xm_l (12 * s.toInt64)), (11, xm_l (12 * s.toInt64))], [xm_l ((((I 10 (6 * a.toNatClampNeg + 2) 0).toInt64) + (((I 10 (6 * a.toNatClampNeg + 5) 0).toInt64) * 0)) + ((12 * s.toInt64) * ((L 5 21 0) - 0)))], xh_M I L, 0, 0)) 12 rfl ?_
          rw [show xf_X5_height I L a u s t = ((((I 10 (6 * a.toNatClampNeg + 2) 0).toInt64) + (((I 10 (6 * a.toNatClampNeg + 5) 0).toInt64) * 0)) + ((12 * s.toInt64) * ((L 5 21 0) - 0))) from by unfold xf_X5_height; rw [if_neg h1, if_neg h9, if_neg h13, if_pos h15]]
          exact xK.ret rfl ⟨_, rfl, rfl⟩
        · skip
          refine xK.run (q := (134, [(0, xm_r 5 0), (1, xm_i a), (2, xm_i u), (3, xm_i s), (4, xm_i t), (5, xm_l 0), (7, xm_l ((I 10 (6 * a.toNatClampNeg + 5) 0).toInt64)), (9, xm_l (12 * s.toInt64)), (11, xm_l ((I 10 (6 * a.toNatClampNeg + 5) 0).toInt64))], [xm_i ((6 * a) + 2), xm_r 10 0], xh_M I L, 0, 0)) 10 rfl ?_
          refine xK.iald' rfl rfl (xh_ix6' ha (c := 2) (by decide)) ?_
          refine xK.run (q := (153, [(0, xm_r 5 0), (1, xm_i a), (2, xm_i u), (3, xm_i s), (4, xm_i t), (5, xm_l 0), (7, xm_l ((I 10 (6 * a.toNatClampNeg + 5) 0).toInt64)), (9, xm_l (12 * s.toInt64)), (11, xm_l ((I 10 (6 * a.toNatClampNeg + 5) 0).toInt64))], [xm_l ((((I 10 (6 * a.toNatClampNeg + 2) 0).toInt64) + (((I 10 (6 * a.toNatClampNeg + 5) 0).toInt64) * 0)) + (((I 10 (6 * a.toNatClampNeg + 5) 0).toInt64) * ((L 5 21 0) - 0)))], xh_M I L, 0, 0)) 12 rfl ?_
          rw [show xf_X5_height I L a u s t = ((((I 10 (6 * a.toNatClampNeg + 2) 0).toInt64) + (((I 10 (6 * a.toNatClampNeg + 5) 0).toInt64) * 0)) + (((I 10 (6 * a.toNatClampNeg + 5) 0).toInt64) * ((L 5 21 0) - 0))) from by unfold xf_X5_height; rw [if_neg h1, if_neg h9, if_neg h13, if_neg h15]]
          exact xK.ret rfl ⟨_, rfl, rfl⟩
