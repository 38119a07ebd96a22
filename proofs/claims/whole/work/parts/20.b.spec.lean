/-! WHAT METHODS COMPUTE (by program) -/
set_option linter.unusedVariables false in
def xf_X1_isThere (I : xh_I) (L : xh_L) (k : Nat) : Int32 := if (I 0 0 (xh_lo k)) = 0 then 0 else (if (I 0 0 (xh_hi k)) = 0 then 0 else 1)
set_option maxHeartbeats 4000000 in
set_option maxRecDepth 100000 in
theorem xd_X1_isThere (d : Nat) (I : xh_I) (L : xh_L) (k : Nat) : xm_Do xp_pg (d + 1) 14 [xm_r 1 k] (xh_M I L) (some (xm_i (xf_X1_isThere I L k))) (xh_M I L) 0 0 := by
  refine xK.of (Nat.le_of_ble_eq_true rfl) rfl ?_
  refine xK.run (q := (7, [(0, xm_r 1 k)], [xm_i (I 0 0 (xh_lo k))], xh_M I L, 0, 0)) 3 rfl ?_
  refine xK.ifI rfl (fun h1 => ?_) (fun h1 => ?_)
  · skip
    refine xK.run (q := (25, [(0, xm_r 1 k)], [xm_i 0], xh_M I L, 0, 0)) 1 rfl ?_
    rw [show xf_X1_isThere I L k = 0 from by unfold xf_X1_isThere; rw [if_pos h1]]
    exact xK.ret rfl ⟨_, (Or.inl rfl), rfl, rfl⟩
  · skip
    refine xK.run (q := (17, [(0, xm_r 1 k)], [xm_i (I 0 0 (xh_hi k))], xh_M I L, 0, 0)) 3 rfl ?_
    refine xK.ifI rfl (fun h2 => ?_) (fun h2 => ?_)
    · skip
      refine xK.run (q := (25, [(0, xm_r 1 k)], [xm_i 0], xh_M I L, 0, 0)) 1 rfl ?_
      rw [show xf_X1_isThere I L k = 0 from by unfold xf_X1_isThere; rw [if_neg h1, if_pos h2]]
      exact xK.ret rfl ⟨_, (Or.inl rfl), rfl, rfl⟩
    · skip
      refine xK.run (q := (25, [(0, xm_r 1 k)], [xm_i 1], xh_M I L, 0, 0)) 2 rfl ?_
      rw [show xf_X1_isThere I L k = 1 from by unfold xf_X1_isThere; rw [if_neg h1, if_neg h2]]
      exact xK.ret rfl ⟨_, (Or.inr rfl), rfl, rfl⟩
theorem xz_X1_isThere (I : xh_I) (L : xh_L) (k : Nat) : xf_X1_isThere I L k = 0 ∨ xf_X1_isThere I L k = 1 := by
  unfold xf_X1_isThere
  (repeat' split) <;> first | exact Or.inl rfl | exact Or.inr rfl
set_option linter.unusedVariables false in
def xf_X1_distanceSquared (I : xh_I) (L : xh_L) (k : Nat) : Int64 := ((((I 0 2 (xh_hi k)) - (I 0 2 (xh_lo k))).toInt64) * (((I 0 2 (xh_hi k)) - (I 0 2 (xh_lo k))).toInt64)) + ((((I 0 3 (xh_hi k)) - (I 0 3 (xh_lo k))).toInt64) * (((I 0 3 (xh_hi k)) - (I 0 3 (xh_lo k))).toInt64))
set_option maxHeartbeats 4000000 in
set_option maxRecDepth 100000 in
theorem xd_X1_distanceSquared (d : Nat) (I : xh_I) (L : xh_L) (k : Nat) : xm_Do xp_pg (d + 1) 33 [xm_r 1 k] (xh_M I L) (some (xm_l (xf_X1_distanceSquared I L k))) (xh_M I L) 0 0 := by
  refine xK.of (Nat.le_of_ble_eq_true rfl) rfl ?_
  refine xK.run (q := (41, [(0, xm_r 1 k), (1, xm_l (((I 0 2 (xh_hi k)) - (I 0 2 (xh_lo k))).toInt64)), (3, xm_l (((I 0 3 (xh_hi k)) - (I 0 3 (xh_lo k))).toInt64))], [xm_l (((((I 0 2 (xh_hi k)) - (I 0 2 (xh_lo k))).toInt64) * (((I 0 2 (xh_hi k)) - (I 0 2 (xh_lo k))).toInt64)) + ((((I 0 3 (xh_hi k)) - (I 0 3 (xh_lo k))).toInt64) * (((I 0 3 (xh_hi k)) - (I 0 3 (xh_lo k))).toInt64)))], xh_M I L, 0, 0)) 25 rfl ?_
  exact xK.ret rfl ⟨_, rfl, rfl⟩
set_option linter.unusedVariables false in
def xf_X1_heightBetween (I : xh_I) (L : xh_L) (k : Nat) : Int32 := xo_abs ((I 0 4 (xh_hi k)) - (I 0 4 (xh_lo k)))
set_option maxHeartbeats 4000000 in
set_option maxRecDepth 100000 in
theorem xd_X1_heightBetween (d : Nat) (I : xh_I) (L : xh_L) (k : Nat) : xm_Do xp_pg (d + 1) 34 [xm_r 1 k] (xh_M I L) (some (xm_i (xf_X1_heightBetween I L k))) (xh_M I L) 0 0 := by
  refine xK.of (Nat.le_of_ble_eq_true rfl) rfl ?_
  refine xK.run (q := (18, [(0, xm_r 1 k)], [xm_i (xo_abs ((I 0 4 (xh_hi k)) - (I 0 4 (xh_lo k))))], xh_M I L, 0, 0)) 8 rfl ?_
  exact xK.ret rfl ⟨_, rfl, rfl⟩
set_option linter.unusedVariables false in
def xf_X1_nearSquared (I : xh_I) (L : xh_L) (k : Nat) : Int64 := ((xf_X2_near I L).toInt64) * ((xf_X2_near I L).toInt64)
set_option maxHeartbeats 4000000 in
set_option maxRecDepth 100000 in
theorem xd_X1_nearSquared (d : Nat) (I : xh_I) (L : xh_L) (k : Nat) : xm_Do xp_pg (d + 2) 32 [xm_r 1 k] (xh_M I L) (some (xm_l (xf_X1_nearSquared I L k))) (xh_M I L) 0 0 := by
  refine xK.of (Nat.le_of_ble_eq_true rfl) rfl ?_
  refine xK.run (q := (4, [(0, xm_r 1 k)], [xm_r 2 0], xh_M I L, 0, 0)) 2 rfl ?_
  refine xK.call [xm_r 2 0] (xd_X2_near d I L) rfl rfl rfl (Or.inr ⟨_, _, rfl⟩) (Nat.le_of_ble_eq_true rfl) ?_
  refine xK.run (q := (12, [(0, xm_r 1 k), (1, xm_l ((xf_X2_near I L).toInt64))], [xm_l (((xf_X2_near I L).toInt64) * ((xf_X2_near I L).toInt64))], xh_M I L, 0, 0)) 5 rfl ?_
  exact xK.ret rfl ⟨_, rfl, rfl⟩
set_option linter.unusedVariables false in
def xf_X1_closing (I : xh_I) (L : xh_L) (k : Nat) : Int64 := ((((I 0 2 (xh_hi k)) - (I 0 2 (xh_lo k))).toInt64) * (((I 0 5 (xh_hi k)) - (I 0 5 (xh_lo k))).toInt64)) + ((((I 0 3 (xh_hi k)) - (I 0 3 (xh_lo k))).toInt64) * (((I 0 6 (xh_hi k)) - (I 0 6 (xh_lo k))).toInt64))
set_option maxHeartbeats 4000000 in
set_option maxRecDepth 100000 in
theorem xd_X1_closing (d : Nat) (I : xh_I) (L : xh_L) (k : Nat) : xm_Do xp_pg (d + 1) 35 [xm_r 1 k] (xh_M I L) (some (xm_l (xf_X1_closing I L k))) (xh_M I L) 0 0 := by
  refine xK.of (Nat.le_of_ble_eq_true rfl) rfl ?_
  refine xK.run (q := (79, [(0, xm_r 1 k), (1, xm_l (((I 0 2 (xh_hi k)) - (I 0 2 (xh_lo k))).toInt64)), (3, xm_l (((I 0 3 (xh_hi k)) - (I 0 3 (xh_lo k))).toInt64)), (5, xm_l (((I 0 5 (xh_hi k)) - (I 0 5 (xh_lo k))).toInt64)), (7, xm_l (((I 0 6 (xh_hi k)) - (I 0 6 (xh_lo k))).toInt64))], [xm_l (((((I 0 2 (xh_hi k)) - (I 0 2 (xh_lo k))).toInt64) * (((I 0 5 (xh_hi k)) - (I 0 5 (xh_lo k))).toInt64)) + ((((I 0 3 (xh_hi k)) - (I 0 3 (xh_lo k))).toInt64) * (((I 0 6 (xh_hi k)) - (I 0 6 (xh_lo k))).toInt64)))], xh_M I L, 0, 0)) 43 rfl ?_
  exact xK.ret rfl ⟨_, rfl, rfl⟩
set_option linter.unusedVariables false in
def xf_X1_isHeeded (I : xh_I) (L : xh_L) (k : Nat) : Int32 := if (I 1 9 k) = 0 then 0 else (if (I 1 7 k) < (xf_X2_delay I L) then 0 else 1)
set_option maxHeartbeats 4000000 in
set_option maxRecDepth 100000 in
theorem xd_X1_isHeeded (d : Nat) (I : xh_I) (L : xh_L) (k : Nat) : xm_Do xp_pg (d + 2) 16 [xm_r 1 k] (xh_M I L) (some (xm_i (xf_X1_isHeeded I L k))) (xh_M I L) 0 0 := by
  refine xK.of (Nat.le_of_ble_eq_true rfl) rfl ?_
  refine xK.run (q := (4, [(0, xm_r 1 k)], [xm_i (I 1 9 k)], xh_M I L, 0, 0)) 2 rfl ?_
  refine xK.ifI rfl (fun h1 => ?_) (fun h1 => ?_)
  · skip
    refine xK.run (q := (26, [(0, xm_r 1 k)], [xm_i 0], xh_M I L, 0, 0)) 1 rfl ?_
    rw [show xf_X1_isHeeded I L k = 0 from by unfold xf_X1_isHeeded; rw [if_pos h1]]
    exact xK.ret rfl ⟨_, (Or.inl rfl), rfl, rfl⟩
  · skip
    refine xK.run (q := (15, [(0, xm_r 1 k)], [xm_r 2 0, xm_i (I 1 7 k)], xh_M I L, 0, 0)) 4 rfl ?_
    refine xK.call [xm_r 2 0] (xd_X2_delay d I L) rfl rfl rfl (Or.inr ⟨_, _, rfl⟩) (Nat.le_of_ble_eq_true rfl) ?_
    refine xK.icmp rfl (fun h2 => ?_) (fun h2 => ?_)
    · skip
      refine xK.run (q := (26, [(0, xm_r 1 k)], [xm_i 0], xh_M I L, 0, 0)) 1 rfl ?_
      rw [show xf_X1_isHeeded I L k = 0 from by unfold xf_X1_isHeeded; rw [if_neg h1, if_pos h2]]
      exact xK.ret rfl ⟨_, (Or.inl rfl), rfl, rfl⟩
    · skip
      refine xK.run (q := (26, [(0, xm_r 1 k)], [xm_i 1], xh_M I L, 0, 0)) 2 rfl ?_
      rw [show xf_X1_isHeeded I L k = 1 from by unfold xf_X1_isHeeded; rw [if_neg h1, if_neg h2]]
      exact xK.ret rfl ⟨_, (Or.inr rfl), rfl, rfl⟩
theorem xz_X1_isHeeded (I : xh_I) (L : xh_L) (k : Nat) : xf_X1_isHeeded I L k = 0 ∨ xf_X1_isHeeded I L k = 1 := by
  unfold xf_X1_isHeeded
  (repeat' split) <;> first | exact Or.inl rfl | exact Or.inr rfl
set_option linter.unusedVariables false in
def xf_X1_isNear (I : xh_I) (L : xh_L) (k : Nat) : Int32 := if 0 < (lg_cmp (xf_X1_distanceSquared I L k) (xf_X1_nearSquared I L k)) then 0 else 1
set_option maxHeartbeats 4000000 in
set_option maxRecDepth 100000 in
theorem xd_X1_isNear (d : Nat) (I : xh_I) (L : xh_L) (k : Nat) : xm_Do xp_pg (d + 3) 28 [xm_r 1 k] (xh_M I L) (some (xm_i (xf_X1_isNear I L k))) (xh_M I L) 0 0 := by
  refine xK.of (Nat.le_of_ble_eq_true rfl) rfl ?_
  refine xK.run (q := (1, [(0, xm_r 1 k)], [xm_r 1 k], xh_M I L, 0, 0)) 1 rfl ?_
  refine xK.call [xm_r 1 k] (xd_X1_distanceSquared (d + 1) I L k) rfl rfl rfl (Or.inr ⟨_, _, rfl⟩) (Nat.le_of_ble_eq_true rfl) ?_
  refine xK.run (q := (5, [(0, xm_r 1 k)], [xm_r 1 k, xm_l (xf_X1_distanceSquared I L k)], xh_M I L, 0, 0)) 1 rfl ?_
  refine xK.call [xm_r 1 k] (xd_X1_nearSquared d I L k) rfl rfl rfl (Or.inr ⟨_, _, rfl⟩) (Nat.le_of_ble_eq_true rfl) ?_
  refine xK.run (q := (9, [(0, xm_r 1 k)], [xm_i (lg_cmp (xf_X1_distanceSquared I L k) (xf_X1_nearSquared I L k))], xh_M I L, 0, 0)) 1 rfl ?_
  refine xK.ifI rfl (fun h1 => ?_) (fun h1 => ?_)
  · skip
    refine xK.run (q := (17, [(0, xm_r 1 k)], [xm_i 0], xh_M I L, 0, 0)) 1 rfl ?_
    rw [show xf_X1_isNear I L k = 0 from by unfold xf_X1_isNear; rw [if_pos h1]]
    exact xK.ret rfl ⟨_, (Or.inl rfl), rfl, rfl⟩
  · skip
    refine xK.run (q := (17, [(0, xm_r 1 k)], [xm_i 1], xh_M I L, 0, 0)) 2 rfl ?_
    rw [show xf_X1_isNear I L k = 1 from by unfold xf_X1_isNear; rw [if_neg h1]]
    exact xK.ret rfl ⟨_, (Or.inr rfl), rfl, rfl⟩
theorem xz_X1_isNear (I : xh_I) (L : xh_L) (k : Nat) : xf_X1_isNear I L k = 0 ∨ xf_X1_isNear I L k = 1 := by
  unfold xf_X1_isNear
  (repeat' split) <;> first | exact Or.inl rfl | exact Or.inr rfl
set_option linter.unusedVariables false in
def xf_X1_comesNearInTime (I : xh_I) (L : xh_L) (k : Nat) : Int32 := if 0 ≤ (lg_cmp (xf_X1_closing I L k) 0) then 0 else (if 0 < (lg_cmp ((xf_X1_distanceSquared I L k) - (xf_X1_nearSquared I L k)) (((xf_X2_time I L).toInt64) * (-(xf_X1_closing I L k)))) then 0 else 1)
set_option maxHeartbeats 4000000 in
set_option maxRecDepth 100000 in
theorem xd_X1_comesNearInTime (d : Nat) (I : xh_I) (L : xh_L) (k : Nat) : xm_Do xp_pg (d + 3) 29 [xm_r 1 k] (xh_M I L) (some (xm_i (xf_X1_comesNearInTime I L k))) (xh_M I L) 0 0 := by
  refine xK.of (Nat.le_of_ble_eq_true rfl) rfl ?_
  refine xK.run (q := (1, [(0, xm_r 1 k)], [xm_r 1 k], xh_M I L, 0, 0)) 1 rfl ?_
  refine xK.call [xm_r 1 k] (xd_X1_closing (d + 1) I L k) rfl rfl rfl (Or.inr ⟨_, _, rfl⟩) (Nat.le_of_ble_eq_true rfl) ?_
  refine xK.run (q := (8, [(0, xm_r 1 k), (1, xm_l (xf_X1_closing I L k))], [xm_i (lg_cmp (xf_X1_closing I L k) 0)], xh_M I L, 0, 0)) 4 rfl ?_
  refine xK.ifI rfl (fun h1 => ?_) (fun h1 => ?_)
  · skip
    refine xK.run (q := (40, [(0, xm_r 1 k), (1, xm_l (xf_X1_closing I L k))], [xm_i 0], xh_M I L, 0, 0)) 1 rfl ?_
    rw [show xf_X1_comesNearInTime I L k = 0 from by unfold xf_X1_comesNearInTime; rw [if_pos h1]]
    exact xK.ret rfl ⟨_, (Or.inl rfl), rfl, rfl⟩
  · skip
    refine xK.run (q := (12, [(0, xm_r 1 k), (1, xm_l (xf_X1_closing I L k))], [xm_r 1 k], xh_M I L, 0, 0)) 1 rfl ?_
    refine xK.call [xm_r 1 k] (xd_X1_distanceSquared (d + 1) I L k) rfl rfl rfl (Or.inr ⟨_, _, rfl⟩) (Nat.le_of_ble_eq_true rfl) ?_
    refine xK.run (q := (16, [(0, xm_r 1 k), (1, xm_l (xf_X1_closing I L k))], [xm_r 1 k, xm_l (xf_X1_distanceSquared I L k)], xh_M I L, 0, 0)) 1 rfl ?_
    refine xK.call [xm_r 1 k] (xd_X1_nearSquared d I L k) rfl rfl rfl (Or.inr ⟨_, _, rfl⟩) (Nat.le_of_ble_eq_true rfl) ?_
    refine xK.run (q := (24, [(0, xm_r 1 k), (1, xm_l (xf_X1_closing I L k))], [xm_r 2 0, xm_l ((xf_X1_distanceSquared I L k) - (xf_X1_nearSquared I L k))], xh_M I L, 0, 0)) 3 rfl ?_
    refine xK.call [xm_r 2 0] (xd_X2_time (d + 1) I L) rfl rfl rfl (Or.inr ⟨_, _, rfl⟩) (Nat.le_of_ble_eq_true rfl) ?_
    refine xK.run (q := (32, [(0, xm_r 1 k), (1, xm_l (xf_X1_closing I L k))], [xm_i (lg_cmp ((xf_X1_distanceSquared I L k) - (xf_X1_nearSquared I L k)) (((xf_X2_time I L).toInt64) * (-(xf_X1_closing I L k))))], xh_M I L, 0, 0)) 5 rfl ?_
    refine xK.ifI rfl (fun h2 => ?_) (fun h2 => ?_)
    · skip
      refine xK.run (q := (40, [(0, xm_r 1 k), (1, xm_l (xf_X1_closing I L k))], [xm_i 0], xh_M I L, 0, 0)) 1 rfl ?_
      rw [show xf_X1_comesNearInTime I L k = 0 from by unfold xf_X1_comesNearInTime; rw [if_neg h1, if_pos h2]]
      exact xK.ret rfl ⟨_, (Or.inl rfl), rfl, rfl⟩
    · skip
      refine xK.run (q := (40, [(0, xm_r 1 k), (1, xm_l (xf_X1_closing I L k))], [xm_i 1], xh_M I L, 0, 0)) 2 rfl ?_
      rw [show xf_X1_comesNearInTime I L k = 1 from by unfold xf_X1_comesNearInTime; rw [if_neg h1, if_neg h2]]
      exact xK.ret rfl ⟨_, (Or.inr rfl), rfl, rfl⟩
theorem xz_X1_comesNearInTime (I : xh_I) (L : xh_L) (k : Nat) : xf_X1_comesNearInTime I L k = 0 ∨ xf_X1_comesNearInTime I L k = 1 := by
  unfold xf_X1_comesNearInTime
  (repeat' split) <;> first | exact Or.inl rfl | exact Or.inr rfl
set_option linter.unusedVariables false in
def xf_X1_passesNear (I : xh_I) (L : xh_L) (k : Nat) : Int32 := if 0 < (lg_cmp ((((((I 0 2 (xh_hi k)) - (I 0 2 (xh_lo k))).toInt64) * (((I 0 6 (xh_hi k)) - (I 0 6 (xh_lo k))).toInt64)) - ((((I 0 3 (xh_hi k)) - (I 0 3 (xh_lo k))).toInt64) * (((I 0 5 (xh_hi k)) - (I 0 5 (xh_lo k))).toInt64))) * (((((I 0 2 (xh_hi k)) - (I 0 2 (xh_lo k))).toInt64) * (((I 0 6 (xh_hi k)) - (I 0 6 (xh_lo k))).toInt64)) - ((((I 0 3 (xh_hi k)) - (I 0 3 (xh_lo k))).toInt64) * (((I 0 5 (xh_hi k)) - (I 0 5 (xh_lo k))).toInt64)))) ((((xf_X2_miss I L).toInt64) * ((xf_X2_miss I L).toInt64)) * (((((I 0 5 (xh_hi k)) - (I 0 5 (xh_lo k))).toInt64) * (((I 0 5 (xh_hi k)) - (I 0 5 (xh_lo k))).toInt64)) + ((((I 0 6 (xh_hi k)) - (I 0 6 (xh_lo k))).toInt64) * (((I 0 6 (xh_hi k)) - (I 0 6 (xh_lo k))).toInt64))))) then 0 else 1
set_option maxHeartbeats 4000000 in
set_option maxRecDepth 100000 in
theorem xd_X1_passesNear (d : Nat) (I : xh_I) (L : xh_L) (k : Nat) : xm_Do xp_pg (d + 2) 30 [xm_r 1 k] (xh_M I L) (some (xm_i (xf_X1_passesNear I L k))) (xh_M I L) 0 0 := by
  refine xK.of (Nat.le_of_ble_eq_true rfl) rfl ?_
  refine xK.run (q := (85, [(0, xm_r 1 k), (1, xm_l (((I 0 2 (xh_hi k)) - (I 0 2 (xh_lo k))).toInt64)), (3, xm_l (((I 0 3 (xh_hi k)) - (I 0 3 (xh_lo k))).toInt64)), (5, xm_l (((I 0 5 (xh_hi k)) - (I 0 5 (xh_lo k))).toInt64)), (7, xm_l (((I 0 6 (xh_hi k)) - (I 0 6 (xh_lo k))).toInt64)), (9, xm_l (((((I 0 2 (xh_hi k)) - (I 0 2 (xh_lo k))).toInt64) * (((I 0 6 (xh_hi k)) - (I 0 6 (xh_lo k))).toInt64)) - ((((I 0 3 (xh_hi k)) - (I 0 3 (xh_lo k))).toInt64) * (((I 0 5 (xh_hi k)) - (I 0 5 (xh_lo k))).toInt64))))], [xm_r 2 0], xh_M I L, 0, 0)) 46 rfl ?_
  refine xK.call [xm_r 2 0] (xd_X2_miss d I L) rfl rfl rfl (Or.inr ⟨_, _, rfl⟩) (Nat.le_of_ble_eq_true rfl) ?_
  refine xK.run (q := (114, [(0, xm_r 1 k), (1, xm_l (((I 0 2 (xh_hi k)) - (I 0 2 (xh_lo k))).toInt64)), (3, xm_l (((I 0 3 (xh_hi k)) - (I 0 3 (xh_lo k))).toInt64)), (5, xm_l (((I 0 5 (xh_hi k)) - (I 0 5 (xh_lo k))).toInt64)), (7, xm_l (((I 0 6 (xh_hi k)) - (I 0 6 (xh_lo k))).toInt64)), (9, xm_l (((((I 0 2 (xh_hi k)) - (I 0 2 (xh_lo k))).toInt64) * (((I 0 6 (xh_hi k)) - (I 0 6 (xh_lo k))).toInt64)) - ((((I 0 3 (xh_hi k)) - (I 0 3 (xh_lo k))).toInt64) * (((I 0 5 (xh_hi k)) - (I 0 5 (xh_lo k))).toInt64)))), (11, xm_l ((xf_X2_miss I L).toInt64))], [xm_i (lg_cmp ((((((I 0 2 (xh_hi k)) - (I 0 2 (xh_lo k))).toInt64) * (((I 0 6 (xh_hi k)) - (I 0 6 (xh_lo k))).toInt64)) - ((((I 0 3 (xh_hi k)) - (I 0 3 (xh_lo k))).toInt64) * (((I 0 5 (xh_hi k)) - (I 0 5 (xh_lo k))).toInt64))) * (((((I 0 2 (xh_hi k)) - (I 0 2 (xh_lo k))).toInt64) * (((I 0 6 (xh_hi k)) - (I 0 6 (xh_lo k))).toInt64)) - ((((I 0 3 (xh_hi k)) - (I 0 3 (xh_lo k))).toInt64) * (((I 0 5 (xh_hi k)) - (I 0 5 (xh_lo k))).toInt64)))) ((((xf_X2_miss I L).toInt64) * ((xf_X2_miss I L).toInt64)) * (((((I 0 5 (xh_hi k)) - (I 0 5 (xh_lo k))).toInt64) * (((I 0 5 (xh_hi k)) - (I 0 5 (xh_lo k))).toInt64)) + ((((I 0 6 (xh_hi k)) - (I 0 6 (xh_lo k))).toInt64) * (((I 0 6 (xh_hi k)) - (I 0 6 (xh_lo k))).toInt64)))))], xh_M I L, 0, 0)) 17 rfl ?_
  refine xK.ifI rfl (fun h1 => ?_) (fun h1 => ?_)
  · skip
    refine xK.run (q := (122, [(0, xm_r 1 k), (1, xm_l (((I 0 2 (xh_hi k)) - (I 0 2 (xh_lo k))).toInt64)), (3, xm_l (((I 0 3 (xh_hi k)) - (I 0 3 (xh_lo k))).toInt64)), (5, xm_l (((I 0 5 (xh_hi k)) - (I 0 5 (xh_lo k))).toInt64)), (7, xm_l (((I 0 6 (xh_hi k)) - (I 0 6 (xh_lo k))).toInt64)), (9, xm_l (((((I 0 2 (xh_hi k)) - (I 0 2 (xh_lo k))).toInt64) * (((I 0 6 (xh_hi k)) - (I 0 6 (xh_lo k))).toInt64)) - ((((I 0 3 (xh_hi k)) - (I 0 3 (xh_lo k))).toInt64) * (((I 0 5 (xh_hi k)) - (I 0 5 (xh_lo k))).toInt64)))), (11, xm_l ((xf_X2_miss I L).toInt64))], [xm_i 0], xh_M I L, 0, 0)) 1 rfl ?_
    rw [show xf_X1_passesNear I L k = 0 from by unfold xf_X1_passesNear; rw [if_pos h1]]
    exact xK.ret rfl ⟨_, (Or.inl rfl), rfl, rfl⟩
  · skip
    refine xK.run (q := (122, [(0, xm_r 1 k), (1, xm_l (((I 0 2 (xh_hi k)) - (I 0 2 (xh_lo k))).toInt64)), (3, xm_l (((I 0 3 (xh_hi k)) - (I 0 3 (xh_lo k))).toInt64)), (5, xm_l (((I 0 5 (xh_hi k)) - (I 0 5 (xh_lo k))).toInt64)), (7, xm_l (((I 0 6 (xh_hi k)) - (I 0 6 (xh_lo k))).toInt64)), (9, xm_l (((((I 0 2 (xh_hi k)) - (I 0 2 (xh_lo k))).toInt64) * (((I 0 6 (xh_hi k)) - (I 0 6 (xh_lo k))).toInt64)) - ((((I 0 3 (xh_hi k)) - (I 0 3 (xh_lo k))).toInt64) * (((I 0 5 (xh_hi k)) - (I 0 5 (xh_lo k))).toInt64)))), (11, xm_l ((xf_X2_miss I L).toInt64))], [xm_i 1], xh_M I L, 0, 0)) 2 rfl ?_
    rw [show xf_X1_passesNear I L k = 1 from by unfold xf_X1_passesNear; rw [if_neg h1]]
    exact xK.ret rfl ⟨_, (Or.inr rfl), rfl, rfl⟩
theorem xz_X1_passesNear (I : xh_I) (L : xh_L) (k : Nat) : xf_X1_passesNear I L k = 0 ∨ xf_X1_passesNear I L k = 1 := by
  unfold xf_X1_passesNear
  (repeat' split) <;> first | exact Or.inl rfl | exact Or.inr rfl
set_option linter.unusedVariables false in
def xf_X1_meetsInHeight (I : xh_I) (L : xh_L) (k : Nat) : Int32 := if (xo_abs ((I 0 4 (xh_hi k)) - (I 0 4 (xh_lo k)))) ≤ (xf_X2_high I L) then 1 else (if 0 ≤ (((I 0 4 (xh_hi k)) - (I 0 4 (xh_lo k))) * ((I 0 7 (xh_hi k)) - (I 0 7 (xh_lo k)))) then 0 else (if ((xf_X2_time I L) * (xo_abs ((I 0 7 (xh_hi k)) - (I 0 7 (xh_lo k))))) < (xo_abs ((I 0 4 (xh_hi k)) - (I 0 4 (xh_lo k)))) then 0 else 1))
set_option maxHeartbeats 4000000 in
set_option maxRecDepth 100000 in
theorem xd_X1_meetsInHeight (d : Nat) (I : xh_I) (L : xh_L) (k : Nat) : xm_Do xp_pg (d + 2) 31 [xm_r 1 k] (xh_M I L) (some (xm_i (xf_X1_meetsInHeight I L k))) (xh_M I L) 0 0 := by
  refine xK.of (Nat.le_of_ble_eq_true rfl) rfl ?_
  refine xK.run (q := (40, [(0, xm_r 1 k), (1, xm_i ((I 0 4 (xh_hi k)) - (I 0 4 (xh_lo k)))), (2, xm_i ((I 0 7 (xh_hi k)) - (I 0 7 (xh_lo k))))], [xm_r 2 0, xm_i (xo_abs ((I 0 4 (xh_hi k)) - (I 0 4 (xh_lo k))))], xh_M I L, 0, 0)) 20 rfl ?_
  refine xK.call [xm_r 2 0] (xd_X2_high d I L) rfl rfl rfl (Or.inr ⟨_, _, rfl⟩) (Nat.le_of_ble_eq_true rfl) ?_
  refine xK.icmp rfl (fun h1 => ?_) (fun h1 => ?_)
  · skip
    refine xK.run (q := (76, [(0, xm_r 1 k), (1, xm_i ((I 0 4 (xh_hi k)) - (I 0 4 (xh_lo k)))), (2, xm_i ((I 0 7 (xh_hi k)) - (I 0 7 (xh_lo k))))], [xm_i 1], xh_M I L, 0, 0)) 2 rfl ?_
    rw [show xf_X1_meetsInHeight I L k = 1 from by unfold xf_X1_meetsInHeight; rw [if_pos h1]]
    exact xK.ret rfl ⟨_, (Or.inr rfl), rfl, rfl⟩
  · skip
    refine xK.run (q := (49, [(0, xm_r 1 k), (1, xm_i ((I 0 4 (xh_hi k)) - (I 0 4 (xh_lo k)))), (2, xm_i ((I 0 7 (xh_hi k)) - (I 0 7 (xh_lo k))))], [xm_i (((I 0 4 (xh_hi k)) - (I 0 4 (xh_lo k))) * ((I 0 7 (xh_hi k)) - (I 0 7 (xh_lo k))))], xh_M I L, 0, 0)) 3 rfl ?_
    refine xK.ifI rfl (fun h2 => ?_) (fun h2 => ?_)
    · skip
      refine xK.run (q := (76, [(0, xm_r 1 k), (1, xm_i ((I 0 4 (xh_hi k)) - (I 0 4 (xh_lo k)))), (2, xm_i ((I 0 7 (xh_hi k)) - (I 0 7 (xh_lo k))))], [xm_i 0], xh_M I L, 0, 0)) 1 rfl ?_
      rw [show xf_X1_meetsInHeight I L k = 0 from by unfold xf_X1_meetsInHeight; rw [if_neg h1, if_pos h2]]
      exact xK.ret rfl ⟨_, (Or.inl rfl), rfl, rfl⟩
    · skip
      refine xK.run (q := (60, [(0, xm_r 1 k), (1, xm_i ((I 0 4 (xh_hi k)) - (I 0 4 (xh_lo k)))), (2, xm_i ((I 0 7 (xh_hi k)) - (I 0 7 (xh_lo k))))], [xm_r 2 0, xm_i (xo_abs ((I 0 4 (xh_hi k)) - (I 0 4 (xh_lo k))))], xh_M I L, 0, 0)) 4 rfl ?_
      refine xK.call [xm_r 2 0] (xd_X2_time d I L) rfl rfl rfl (Or.inr ⟨_, _, rfl⟩) (Nat.le_of_ble_eq_true rfl) ?_
      refine xK.run (q := (68, [(0, xm_r 1 k), (1, xm_i ((I 0 4 (xh_hi k)) - (I 0 4 (xh_lo k)))), (2, xm_i ((I 0 7 (xh_hi k)) - (I 0 7 (xh_lo k))))], [xm_i ((xf_X2_time I L) * (xo_abs ((I 0 7 (xh_hi k)) - (I 0 7 (xh_lo k))))), xm_i (xo_abs ((I 0 4 (xh_hi k)) - (I 0 4 (xh_lo k))))], xh_M I L, 0, 0)) 3 rfl ?_
      refine xK.icmp rfl (fun h3 => ?_) (fun h3 => ?_)
      · skip
        refine xK.run (q := (76, [(0, xm_r 1 k), (1, xm_i ((I 0 4 (xh_hi k)) - (I 0 4 (xh_lo k)))), (2, xm_i ((I 0 7 (xh_hi k)) - (I 0 7 (xh_lo k))))], [xm_i 0], xh_M I L, 0, 0)) 1 rfl ?_
        rw [show xf_X1_meetsInHeight I L k = 0 from by unfold xf_X1_meetsInHeight; rw [if_neg h1, if_neg h2, if_pos h3]]
        exact xK.ret rfl ⟨_, (Or.inl rfl), rfl, rfl⟩
      · skip
        refine xK.run (q := (76, [(0, xm_r 1 k), (1, xm_i ((I 0 4 (xh_hi k)) - (I 0 4 (xh_lo k)))), (2, xm_i ((I 0 7 (xh_hi k)) - (I 0 7 (xh_lo k))))], [xm_i 1], xh_M I L, 0, 0)) 2 rfl ?_
        rw [show xf_X1_meetsInHeight I L k = 1 from by unfold xf_X1_meetsInHeight; rw [if_neg h1, if_neg h2, if_neg h3]]
        exact xK.ret rfl ⟨_, (Or.inr rfl), rfl, rfl⟩
theorem xz_X1_meetsInHeight (I : xh_I) (L : xh_L) (k : Nat) : xf_X1_meetsInHeight I L k = 0 ∨ xf_X1_meetsInHeight I L k = 1 := by
  unfold xf_X1_meetsInHeight
  (repeat' split) <;> first | exact Or.inl rfl | exact Or.inr rfl
set_option linter.unusedVariables false in
def xf_X1_alerts (I : xh_I) (L : xh_L) (k : Nat) : Int32 := if (xf_X1_isNear I L k) = 0 then (if (xf_X1_comesNearInTime I L k) = 0 then 0 else (if (xf_X1_passesNear I L k) = 0 then 0 else (if (xf_X1_meetsInHeight I L k) = 0 then 0 else 1))) else (if (xf_X1_meetsInHeight I L k) = 0 then 0 else 1)
set_option maxHeartbeats 4000000 in
set_option maxRecDepth 100000 in
theorem xd_X1_alerts (d : Nat) (I : xh_I) (L : xh_L) (k : Nat) : xm_Do xp_pg (d + 4) 27 [xm_r 1 k] (xh_M I L) (some (xm_i (xf_X1_alerts I L k))) (xh_M I L) 0 0 := by
  refine xK.of (Nat.le_of_ble_eq_true rfl) rfl ?_
  refine xK.run (q := (1, [(0, xm_r 1 k)], [xm_r 1 k], xh_M I L, 0, 0)) 1 rfl ?_
  refine xK.call [xm_r 1 k] (xd_X1_isNear d I L k) rfl rfl rfl (Or.inr ⟨_, _, rfl⟩) (Nat.le_of_ble_eq_true rfl) ?_
  refine xK.ifN rfl (fun h1 => ?_) (fun h1 => ?_)
  · skip
    refine xK.run (q := (8, [(0, xm_r 1 k)], [xm_r 1 k], xh_M I L, 0, 0)) 1 rfl ?_
    refine xK.call [xm_r 1 k] (xd_X1_comesNearInTime d I L k) rfl rfl rfl (Or.inr ⟨_, _, rfl⟩) (Nat.le_of_ble_eq_true rfl) ?_
    refine xK.ifI rfl (fun h2 => ?_) (fun h2 => ?_)
    · skip
      refine xK.run (q := (33, [(0, xm_r 1 k)], [xm_i 0], xh_M I L, 0, 0)) 1 rfl ?_
      rw [show xf_X1_alerts I L k = 0 from by unfold xf_X1_alerts; rw [if_pos h1, if_pos h2]]
      exact xK.ret rfl ⟨_, (Or.inl rfl), rfl, rfl⟩
    · skip
      refine xK.run (q := (15, [(0, xm_r 1 k)], [xm_r 1 k], xh_M I L, 0, 0)) 1 rfl ?_
      refine xK.call [xm_r 1 k] (xd_X1_passesNear (d + 1) I L k) rfl rfl rfl (Or.inr ⟨_, _, rfl⟩) (Nat.le_of_ble_eq_true rfl) ?_
      refine xK.ifI rfl (fun h3 => ?_) (fun h3 => ?_)
      · skip
        refine xK.run (q := (33, [(0, xm_r 1 k)], [xm_i 0], xh_M I L, 0, 0)) 1 rfl ?_
        rw [show xf_X1_alerts I L k = 0 from by unfold xf_X1_alerts; rw [if_pos h1, if_neg h2, if_pos h3]]
        exact xK.ret rfl ⟨_, (Or.inl rfl), rfl, rfl⟩
      · skip
        refine xK.run (q := (22, [(0, xm_r 1 k)], [xm_r 1 k], xh_M I L, 0, 0)) 1 rfl ?_
        refine xK.call [xm_r 1 k] (xd_X1_meetsInHeight (d + 1) I L k) rfl rfl rfl (Or.inr ⟨_, _, rfl⟩) (Nat.le_of_ble_eq_true rfl) ?_
        refine xK.ifI rfl (fun h4 => ?_) (fun h4 => ?_)
        · skip
          refine xK.run (q := (33, [(0, xm_r 1 k)], [xm_i 0], xh_M I L, 0, 0)) 1 rfl ?_
          rw [show xf_X1_alerts I L k = 0 from by unfold xf_X1_alerts; rw [if_pos h1, if_neg h2, if_neg h3, if_pos h4]]
          exact xK.ret rfl ⟨_, (Or.inl rfl), rfl, rfl⟩
        · skip
          refine xK.run (q := (33, [(0, xm_r 1 k)], [xm_i 1], xh_M I L, 0, 0)) 2 rfl ?_
          rw [show xf_X1_alerts I L k = 1 from by unfold xf_X1_alerts; rw [if_pos h1, if_neg h2, if_neg h3, if_neg h4]]
          exact xK.ret rfl ⟨_, (Or.inr rfl), rfl, rfl⟩
  · skip
    refine xK.run (q := (22, [(0, xm_r 1 k)], [xm_r 1 k], xh_M I L, 0, 0)) 1 rfl ?_
    refine xK.call [xm_r 1 k] (xd_X1_meetsInHeight (d + 1) I L k) rfl rfl rfl (Or.inr ⟨_, _, rfl⟩) (Nat.le_of_ble_eq_true rfl) ?_
    refine xK.ifI rfl (fun h5 => ?_) (fun h5 => ?_)
    · skip
      refine xK.run (q := (33, [(0, xm_r 1 k)], [xm_i 0], xh_M I L, 0, 0)) 1 rfl ?_
      rw [show xf_X1_alerts I L k = 0 from by unfold xf_X1_alerts; rw [if_neg h1, if_pos h5]]
      exact xK.ret rfl ⟨_, (Or.inl rfl), rfl, rfl⟩
    · skip
      refine xK.run (q := (33, [(0, xm_r 1 k)], [xm_i 1], xh_M I L, 0, 0)) 2 rfl ?_
      rw [show xf_X1_alerts I L k = 1 from by unfold xf_X1_alerts; rw [if_neg h1, if_neg h5]]
      exact xK.ret rfl ⟨_, (Or.inr rfl), rfl, rfl⟩
theorem xz_X1_alerts (I : xh_I) (L : xh_L) (k : Nat) : xf_X1_alerts I L k = 0 ∨ xf_X1_alerts I L k = 1 := by
  unfold xf_X1_alerts
  (repeat' split) <;> first | exact Or.inl rfl | exact Or.inr rfl
set_option linter.unusedVariables false in
def xfI_X1_dropAdvice (I : xh_I) (L : xh_L) (k : Nat) : xh_I := (xm_up (xm_up (xm_up (xm_up (xm_up I 1 9 k 0) 1 6 k 0) 1 10 k 0) 1 7 k 0) 1 8 k 0)
set_option maxHeartbeats 4000000 in
set_option maxRecDepth 100000 in
theorem xd_X1_dropAdvice (d : Nat) (I : xh_I) (L : xh_L) (k : Nat) : xm_Do xp_pg (d + 1) 18 [xm_r 1 k] (xh_M I L) none (xh_M (xfI_X1_dropAdvice I L k) L) 0 0 := by
  refine xK.of (Nat.le_of_ble_eq_true rfl) rfl ?_
  refine xK.run (q := (2, [(0, xm_r 1 k)], [xm_i 0, xm_r 1 k], xh_M I L, 0, 0)) 2 rfl ?_
  refine xK.putZ rfl (Or.inl rfl) ?_
  refine xK.run (q := (7, [(0, xm_r 1 k)], [xm_i 0, xm_r 1 k], xh_M (xm_up I 1 9 k 0) L, 0, 0)) 2 rfl ?_
  refine xK.putZ rfl (Or.inl rfl) ?_
  refine xK.run (q := (22, [(0, xm_r 1 k)], [xm_i 0, xm_r 1 k], xh_M (xm_up (xm_up (xm_up (xm_up I 1 9 k 0) 1 6 k 0) 1 10 k 0) 1 7 k 0) L, 0, 0)) 8 rfl ?_
  refine xK.putZ rfl (Or.inl rfl) ?_
  exact xK.ret rfl ⟨rfl, rfl⟩
set_option linter.unusedVariables false in
def xfI_X1_restartLeast (I : xh_I) (L : xh_L) (k : Nat) : xh_I := (xm_up I 1 5 k (xf_X1_heightBetween I (xm_up L 1 4 k (xf_X1_distanceSquared I L k)) k))
set_option linter.unusedVariables false in
def xfL_X1_restartLeast (I : xh_I) (L : xh_L) (k : Nat) : xh_L := (xm_up L 1 4 k (xf_X1_distanceSquared I L k))
set_option maxHeartbeats 4000000 in
set_option maxRecDepth 100000 in
theorem xd_X1_restartLeast (d : Nat) (I : xh_I) (L : xh_L) (k : Nat) : xm_Do xp_pg (d + 2) 19 [xm_r 1 k] (xh_M I L) none (xh_M (xfI_X1_restartLeast I L k) (xfL_X1_restartLeast I L k)) 0 0 := by
  refine xK.of (Nat.le_of_ble_eq_true rfl) rfl ?_
  refine xK.run (q := (2, [(0, xm_r 1 k)], [xm_r 1 k, xm_r 1 k], xh_M I L, 0, 0)) 2 rfl ?_
  refine xK.call [xm_r 1 k] (xd_X1_distanceSquared d I L k) rfl rfl rfl (Or.inr ⟨_, _, rfl⟩) (Nat.le_of_ble_eq_true rfl) ?_
  refine xK.run (q := (10, [(0, xm_r 1 k)], [xm_r 1 k, xm_r 1 k], xh_M I (xm_up L 1 4 k (xf_X1_distanceSquared I L k)), 0, 0)) 3 rfl ?_
  refine xK.call [xm_r 1 k] (xd_X1_heightBetween d I (xm_up L 1 4 k (xf_X1_distanceSquared I L k)) k) rfl rfl rfl (Or.inr ⟨_, _, rfl⟩) (Nat.le_of_ble_eq_true rfl) ?_
  refine xK.run (q := (16, [(0, xm_r 1 k)], [], xh_M (xm_up I 1 5 k (xf_X1_heightBetween I (xm_up L 1 4 k (xf_X1_distanceSquared I L k)) k)) (xm_up L 1 4 k (xf_X1_distanceSquared I L k)), 0, 0)) 1 rfl ?_
  exact xK.ret rfl ⟨rfl, rfl⟩
set_option linter.unusedVariables false in
def xfI_X1_lookAtLeast (I : xh_I) (L : xh_L) (k : Nat) : xh_I := (xm_up I 1 5 k (xo_min (I 1 5 k) (xf_X1_heightBetween I (xm_up L 1 4 k (xo_minL (L 1 4 k) (xf_X1_distanceSquared I L k))) k)))
set_option linter.unusedVariables false in
def xfL_X1_lookAtLeast (I : xh_I) (L : xh_L) (k : Nat) : xh_L := (xm_up L 1 4 k (xo_minL (L 1 4 k) (xf_X1_distanceSquared I L k)))
set_option maxHeartbeats 4000000 in
set_option maxRecDepth 100000 in
theorem xd_X1_lookAtLeast (d : Nat) (I : xh_I) (L : xh_L) (k : Nat) : xm_Do xp_pg (d + 2) 20 [xm_r 1 k] (xh_M I L) none (xh_M (xfI_X1_lookAtLeast I L k) (xfL_X1_lookAtLeast I L k)) 0 0 := by
  refine xK.of (Nat.le_of_ble_eq_true rfl) rfl ?_
  refine xK.run (q := (6, [(0, xm_r 1 k)], [xm_r 1 k, xm_l (L 1 4 k), xm_r 1 k], xh_M I L, 0, 0)) 4 rfl ?_
  refine xK.call [xm_r 1 k] (xd_X1_distanceSquared d I L k) rfl rfl rfl (Or.inr ⟨_, _, rfl⟩) (Nat.le_of_ble_eq_true rfl) ?_
  refine xK.run (q := (21, [(0, xm_r 1 k)], [xm_r 1 k, xm_i (I 1 5 k), xm_r 1 k], xh_M I (xm_up L 1 4 k (xo_minL (L 1 4 k) (xf_X1_distanceSquared I L k))), 0, 0)) 6 rfl ?_
  refine xK.call [xm_r 1 k] (xd_X1_heightBetween d I (xm_up L 1 4 k (xo_minL (L 1 4 k) (xf_X1_distanceSquared I L k))) k) rfl rfl rfl (Or.inr ⟨_, _, rfl⟩) (Nat.le_of_ble_eq_true rfl) ?_
  refine xK.run (q := (30, [(0, xm_r 1 k)], [], xh_M (xm_up I 1 5 k (xo_min (I 1 5 k) (xf_X1_heightBetween I (xm_up L 1 4 k (xo_minL (L 1 4 k) (xf_X1_distanceSquared I L k))) k))) (xm_up L 1 4 k (xo_minL (L 1 4 k) (xf_X1_distanceSquared I L k))), 0, 0)) 2 rfl ?_
  exact xK.ret rfl ⟨rfl, rfl⟩
set_option linter.unusedVariables false in
def xf_X1_timeLeft (I : xh_I) (L : xh_L) (k : Nat) : Int32 := if 0 ≤ (lg_cmp (xf_X1_closing I L k) 0) then 0 else (if (lg_cmp (((((I 0 5 (xh_hi k)) - (I 0 5 (xh_lo k))).toInt64) * (((I 0 5 (xh_hi k)) - (I 0 5 (xh_lo k))).toInt64)) + ((((I 0 6 (xh_hi k)) - (I 0 6 (xh_lo k))).toInt64) * (((I 0 6 (xh_hi k)) - (I 0 6 (xh_lo k))).toInt64))) 0) = 0 then 0 else ((xo_minL ((-(xf_X1_closing I L k)) / (((((I 0 5 (xh_hi k)) - (I 0 5 (xh_lo k))).toInt64) * (((I 0 5 (xh_hi k)) - (I 0 5 (xh_lo k))).toInt64)) + ((((I 0 6 (xh_hi k)) - (I 0 6 (xh_lo k))).toInt64) * (((I 0 6 (xh_hi k)) - (I 0 6 (xh_lo k))).toInt64)))) ((xf_X2_time I L).toInt64)).toInt32))
set_option maxHeartbeats 4000000 in
set_option maxRecDepth 100000 in
theorem xd_X1_timeLeft (d : Nat) (I : xh_I) (L : xh_L) (k : Nat) : xm_Do xp_pg (d + 2) 36 [xm_r 1 k] (xh_M I L) (some (xm_i (xf_X1_timeLeft I L k))) (xh_M I L) 0 0 := by
  refine xK.of (Nat.le_of_ble_eq_true rfl) rfl ?_
  refine xK.run (q := (44, [(0, xm_r 1 k), (1, xm_l (((I 0 5 (xh_hi k)) - (I 0 5 (xh_lo k))).toInt64)), (3, xm_l (((I 0 6 (xh_hi k)) - (I 0 6 (xh_lo k))).toInt64)), (5, xm_l (((((I 0 5 (xh_hi k)) - (I 0 5 (xh_lo k))).toInt64) * (((I 0 5 (xh_hi k)) - (I 0 5 (xh_lo k))).toInt64)) + ((((I 0 6 (xh_hi k)) - (I 0 6 (xh_lo k))).toInt64) * (((I 0 6 (xh_hi k)) - (I 0 6 (xh_lo k))).toInt64))))], [xm_r 1 k], xh_M I L, 0, 0)) 27 rfl ?_
  refine xK.call [xm_r 1 k] (xd_X1_closing d I L k) rfl rfl rfl (Or.inr ⟨_, _, rfl⟩) (Nat.le_of_ble_eq_true rfl) ?_
  refine xK.run (q := (53, [(0, xm_r 1 k), (1, xm_l (((I 0 5 (xh_hi k)) - (I 0 5 (xh_lo k))).toInt64)), (3, xm_l (((I 0 6 (xh_hi k)) - (I 0 6 (xh_lo k))).toInt64)), (5, xm_l (((((I 0 5 (xh_hi k)) - (I 0 5 (xh_lo k))).toInt64) * (((I 0 5 (xh_hi k)) - (I 0 5 (xh_lo k))).toInt64)) + ((((I 0 6 (xh_hi k)) - (I 0 6 (xh_lo k))).toInt64) * (((I 0 6 (xh_hi k)) - (I 0 6 (xh_lo k))).toInt64)))), (7, xm_l (xf_X1_closing I L k))], [xm_i (lg_cmp (xf_X1_closing I L k) 0)], xh_M I L, 0, 0)) 4 rfl ?_
  refine xK.ifI rfl (fun h1 => ?_) (fun h1 => ?_)
  · skip
    refine xK.run (q := (64, [(0, xm_r 1 k), (1, xm_l (((I 0 5 (xh_hi k)) - (I 0 5 (xh_lo k))).toInt64)), (3, xm_l (((I 0 6 (xh_hi k)) - (I 0 6 (xh_lo k))).toInt64)), (5, xm_l (((((I 0 5 (xh_hi k)) - (I 0 5 (xh_lo k))).toInt64) * (((I 0 5 (xh_hi k)) - (I 0 5 (xh_lo k))).toInt64)) + ((((I 0 6 (xh_hi k)) - (I 0 6 (xh_lo k))).toInt64) * (((I 0 6 (xh_hi k)) - (I 0 6 (xh_lo k))).toInt64)))), (7, xm_l (xf_X1_closing I L k))], [xm_i 0], xh_M I L, 0, 0)) 1 rfl ?_
    rw [show xf_X1_timeLeft I L k = 0 from by unfold xf_X1_timeLeft; rw [if_pos h1]]
    exact xK.ret rfl ⟨_, rfl, rfl⟩
  · skip
    refine xK.run (q := (60, [(0, xm_r 1 k), (1, xm_l (((I 0 5 (xh_hi k)) - (I 0 5 (xh_lo k))).toInt64)), (3, xm_l (((I 0 6 (xh_hi k)) - (I 0 6 (xh_lo k))).toInt64)), (5, xm_l (((((I 0 5 (xh_hi k)) - (I 0 5 (xh_lo k))).toInt64) * (((I 0 5 (xh_hi k)) - (I 0 5 (xh_lo k))).toInt64)) + ((((I 0 6 (xh_hi k)) - (I 0 6 (xh_lo k))).toInt64) * (((I 0 6 (xh_hi k)) - (I 0 6 (xh_lo k))).toInt64)))), (7, xm_l (xf_X1_closing I L k))], [xm_i (lg_cmp (((((I 0 5 (xh_hi k)) - (I 0 5 (xh_lo k))).toInt64) * (((I 0 5 (xh_hi k)) - (I 0 5 (xh_lo k))).toInt64)) + ((((I 0 6 (xh_hi k)) - (I 0 6 (xh_lo k))).toInt64) * (((I 0 6 (xh_hi k)) - (I 0 6 (xh_lo k))).toInt64))) 0)], xh_M I L, 0, 0)) 3 rfl ?_
    refine xK.ifN rfl (fun h2 => ?_) (fun h2 => ?_)
    · skip
      refine xK.run (q := (64, [(0, xm_r 1 k), (1, xm_l (((I 0 5 (xh_hi k)) - (I 0 5 (xh_lo k))).toInt64)), (3, xm_l (((I 0 6 (xh_hi k)) - (I 0 6 (xh_lo k))).toInt64)), (5, xm_l (((((I 0 5 (xh_hi k)) - (I 0 5 (xh_lo k))).toInt64) * (((I 0 5 (xh_hi k)) - (I 0 5 (xh_lo k))).toInt64)) + ((((I 0 6 (xh_hi k)) - (I 0 6 (xh_lo k))).toInt64) * (((I 0 6 (xh_hi k)) - (I 0 6 (xh_lo k))).toInt64)))), (7, xm_l (xf_X1_closing I L k))], [xm_i 0], xh_M I L, 0, 0)) 1 rfl ?_
      rw [show xf_X1_timeLeft I L k = 0 from by unfold xf_X1_timeLeft; rw [if_neg h1, if_pos h2]]
      exact xK.ret rfl ⟨_, rfl, rfl⟩
    · skip
      refine xK.run (q := (70, [(0, xm_r 1 k), (1, xm_l (((I 0 5 (xh_hi k)) - (I 0 5 (xh_lo k))).toInt64)), (3, xm_l (((I 0 6 (xh_hi k)) - (I 0 6 (xh_lo k))).toInt64)), (5, xm_l (((((I 0 5 (xh_hi k)) - (I 0 5 (xh_lo k))).toInt64) * (((I 0 5 (xh_hi k)) - (I 0 5 (xh_lo k))).toInt64)) + ((((I 0 6 (xh_hi k)) - (I 0 6 (xh_lo k))).toInt64) * (((I 0 6 (xh_hi k)) - (I 0 6 (xh_lo k))).toInt64)))), (7, xm_l (xf_X1_closing I L k))], [xm_l (((((I 0 5 (xh_hi k)) - (I 0 5 (xh_lo k))).toInt64) * (((I 0 5 (xh_hi k)) - (I 0 5 (xh_lo k))).toInt64)) + ((((I 0 6 (xh_hi k)) - (I 0 6 (xh_lo k))).toInt64) * (((I 0 6 (xh_hi k)) - (I 0 6 (xh_lo k))).toInt64))), xm_l (-(xf_X1_closing I L k))], xh_M I L, 0, 0)) 3 rfl ?_
      refine xK.divL rfl (fun h9 => h2 ((lg_cmp_eq _ _).mpr h9)) ?_
      refine xK.run (q := (75, [(0, xm_r 1 k), (1, xm_l (((I 0 5 (xh_hi k)) - (I 0 5 (xh_lo k))).toInt64)), (3, xm_l (((I 0 6 (xh_hi k)) - (I 0 6 (xh_lo k))).toInt64)), (5, xm_l (((((I 0 5 (xh_hi k)) - (I 0 5 (xh_lo k))).toInt64) * (((I 0 5 (xh_hi k)) - (I 0 5 (xh_lo k))).toInt64)) + ((((I 0 6 (xh_hi k)) - (I 0 6 (xh_lo k))).toInt64) * (((I 0 6 (xh_hi k)) - (I 0 6 (xh_lo k))).toInt64)))), (7, xm_l (xf_X1_closing I L k))], [xm_r 2 0, xm_l ((-(xf_X1_closing I L k)) / (((((I 0 5 (xh_hi k)) - (I 0 5 (xh_lo k))).toInt64) * (((I 0 5 (xh_hi k)) - (I 0 5 (xh_lo k))).toInt64)) + ((((I 0 6 (xh_hi k)) - (I 0 6 (xh_lo k))).toInt64) * (((I 0 6 (xh_hi k)) - (I 0 6 (xh_lo k))).toInt64))))], xh_M I L, 0, 0)) 2 rfl ?_
      refine xK.call [xm_r 2 0] (xd_X2_time d I L) rfl rfl rfl (Or.inr ⟨_, _, rfl⟩) (Nat.le_of_ble_eq_true rfl) ?_
      refine xK.run (q := (83, [(0, xm_r 1 k), (1, xm_l (((I 0 5 (xh_hi k)) - (I 0 5 (xh_lo k))).toInt64)), (3, xm_l (((I 0 6 (xh_hi k)) - (I 0 6 (xh_lo k))).toInt64)), (5, xm_l (((((I 0 5 (xh_hi k)) - (I 0 5 (xh_lo k))).toInt64) * (((I 0 5 (xh_hi k)) - (I 0 5 (xh_lo k))).toInt64)) + ((((I 0 6 (xh_hi k)) - (I 0 6 (xh_lo k))).toInt64) * (((I 0 6 (xh_hi k)) - (I 0 6 (xh_lo k))).toInt64)))), (7, xm_l (xf_X1_closing I L k))], [xm_i ((xo_minL ((-(xf_X1_closing I L k)) / (((((I 0 5 (xh_hi k)) - (I 0 5 (xh_lo k))).toInt64) * (((I 0 5 (xh_hi k)) - (I 0 5 (xh_lo k))).toInt64)) + ((((I 0 6 (xh_hi k)) - (I 0 6 (xh_lo k))).toInt64) * (((I 0 6 (xh_hi k)) - (I 0 6 (xh_lo k))).toInt64)))) ((xf_X2_time I L).toInt64)).toInt32)], xh_M I L, 0, 0)) 3 rfl ?_
      rw [show xf_X1_timeLeft I L k = ((xo_minL ((-(xf_X1_closing I L k)) / (((((I 0 5 (xh_hi k)) - (I 0 5 (xh_lo k))).toInt64) * (((I 0 5 (xh_hi k)) - (I 0 5 (xh_lo k))).toInt64)) + ((((I 0 6 (xh_hi k)) - (I 0 6 (xh_lo k))).toInt64) * (((I 0 6 (xh_hi k)) - (I 0 6 (xh_lo k))).toInt64)))) ((xf_X2_time I L).toInt64)).toInt32) from by unfold xf_X1_timeLeft; rw [if_neg h1, if_neg h2]]
      exact xK.ret rfl ⟨_, rfl, rfl⟩
set_option linter.unusedVariables false in
def xf_X1_has (I : xh_I) (L : xh_L) (k : Nat) (i : Nat) : Int32 := if xh_lo k = i then 1 else (if xh_hi k = i then 1 else 0)
set_option maxHeartbeats 4000000 in
set_option maxRecDepth 100000 in
theorem xd_X1_has (d : Nat) (I : xh_I) (L : xh_L) (k : Nat) (i : Nat) : xm_Do xp_pg (d + 1) 15 [xm_r 1 k, xm_r 0 i] (xh_M I L) (some (xm_i (xf_X1_has I L k i))) (xh_M I L) 0 0 := by
  refine xK.of (Nat.le_of_ble_eq_true rfl) rfl ?_
  refine xK.run (q := (5, [(0, xm_r 1 k), (1, xm_r 0 i)], [xm_r 0 i, xm_r 0 (xh_lo k)], xh_M I L, 0, 0)) 3 rfl ?_
  refine xK.acmp rfl (by decide) (fun h1 => ?_) (fun h1 => ?_)
  · skip
    refine xK.run (q := (21, [(0, xm_r 1 k), (1, xm_r 0 i)], [xm_i 1], xh_M I L, 0, 0)) 2 rfl ?_
    rw [show xf_X1_has I L k i = 1 from by unfold xf_X1_has; rw [if_pos h1]]
    exact xK.ret rfl ⟨_, (Or.inr rfl), rfl, rfl⟩
  · skip
    refine xK.run (q := (13, [(0, xm_r 1 k), (1, xm_r 0 i)], [xm_r 0 i, xm_r 0 (xh_hi k)], xh_M I L, 0, 0)) 3 rfl ?_
    refine xK.acmp rfl (by decide) (fun h2 => ?_) (fun h2 => ?_)
    · skip
      refine xK.run (q := (21, [(0, xm_r 1 k), (1, xm_r 0 i)], [xm_i 1], xh_M I L, 0, 0)) 2 rfl ?_
      rw [show xf_X1_has I L k i = 1 from by unfold xf_X1_has; rw [if_neg h1, if_pos h2]]
      exact xK.ret rfl ⟨_, (Or.inr rfl), rfl, rfl⟩
    · skip
      refine xK.run (q := (21, [(0, xm_r 1 k), (1, xm_r 0 i)], [xm_i 0], xh_M I L, 0, 0)) 1 rfl ?_
      rw [show xf_X1_has I L k i = 0 from by unfold xf_X1_has; rw [if_neg h1, if_neg h2]]
      exact xK.ret rfl ⟨_, (Or.inl rfl), rfl, rfl⟩
theorem xz_X1_has (I : xh_I) (L : xh_L) (k : Nat) (i : Nat) : xf_X1_has I L k i = 0 ∨ xf_X1_has I L k i = 1 := by
  unfold xf_X1_has
  (repeat' split) <;> first | exact Or.inl rfl | exact Or.inr rfl
set_option linter.unusedVariables false in
def xf_X1_sendsUp (I : xh_I) (L : xh_L) (k : Nat) (i : Nat) : Int32 := if xh_lo k = i then (if (I 1 6 k) = 1 then 1 else 0) else (if (I 1 6 k) = 0 then 1 else 0)
set_option maxHeartbeats 4000000 in
set_option maxRecDepth 100000 in
theorem xd_X1_sendsUp (d : Nat) (I : xh_I) (L : xh_L) (k : Nat) (i : Nat) : xm_Do xp_pg (d + 1) 17 [xm_r 1 k, xm_r 0 i] (xh_M I L) (some (xm_i (xf_X1_sendsUp I L k i))) (xh_M I L) 0 0 := by
  refine xK.of (Nat.le_of_ble_eq_true rfl) rfl ?_
  refine xK.run (q := (9, [(0, xm_r 1 k), (1, xm_r 0 i)], [xm_r 0 i, xm_r 0 (xh_lo k), xm_i (I 1 6 k)], xh_M I L, 0, 0)) 5 rfl ?_
  refine xK.acmp rfl (by decide) (fun h1 => ?_) (fun h1 => ?_)
  · skip
    refine xK.run (q := (17, [(0, xm_r 1 k), (1, xm_r 0 i)], [xm_i 1, xm_i (I 1 6 k)], xh_M I L, 0, 0)) 2 rfl ?_
    refine xK.icmpN rfl (fun h2 => ?_) (fun h2 => ?_)
    · skip
      refine xK.run (q := (25, [(0, xm_r 1 k), (1, xm_r 0 i)], [xm_i 1], xh_M I L, 0, 0)) 2 rfl ?_
      rw [show xf_X1_sendsUp I L k i = 1 from by unfold xf_X1_sendsUp; rw [if_pos h1, if_pos h2]]
      exact xK.ret rfl ⟨_, (Or.inr rfl), rfl, rfl⟩
    · skip
      refine xK.run (q := (25, [(0, xm_r 1 k), (1, xm_r 0 i)], [xm_i 0], xh_M I L, 0, 0)) 1 rfl ?_
      rw [show xf_X1_sendsUp I L k i = 0 from by unfold xf_X1_sendsUp; rw [if_pos h1, if_neg h2]]
      exact xK.ret rfl ⟨_, (Or.inl rfl), rfl, rfl⟩
  · skip
    refine xK.run (q := (17, [(0, xm_r 1 k), (1, xm_r 0 i)], [xm_i 0, xm_i (I 1 6 k)], xh_M I L, 0, 0)) 1 rfl ?_
    refine xK.icmpN rfl (fun h3 => ?_) (fun h3 => ?_)
    · skip
      refine xK.run (q := (25, [(0, xm_r 1 k), (1, xm_r 0 i)], [xm_i 1], xh_M I L, 0, 0)) 2 rfl ?_
      rw [show xf_X1_sendsUp I L k i = 1 from by unfold xf_X1_sendsUp; rw [if_neg h1, if_pos h3]]
      exact xK.ret rfl ⟨_, (Or.inr rfl), rfl, rfl⟩
    · skip
      refine xK.run (q := (25, [(0, xm_r 1 k), (1, xm_r 0 i)], [xm_i 0], xh_M I L, 0, 0)) 1 rfl ?_
      rw [show xf_X1_sendsUp I L k i = 0 from by unfold xf_X1_sendsUp; rw [if_neg h1, if_neg h3]]
      exact xK.ret rfl ⟨_, (Or.inl rfl), rfl, rfl⟩
theorem xz_X1_sendsUp (I : xh_I) (L : xh_L) (k : Nat) (i : Nat) : xf_X1_sendsUp I L k i = 0 ∨ xf_X1_sendsUp I L k i = 1 := by
  unfold xf_X1_sendsUp
  (repeat' split) <;> first | exact Or.inl rfl | exact Or.inr rfl
set_option linter.unusedVariables false in
def xf_X1_senseFor (I : xh_I) (L : xh_L) (a : Int32) (b : Int32) : Int32 := if a = b then 1 else 2
set_option maxHeartbeats 4000000 in
set_option maxRecDepth 100000 in
theorem xd_X1_senseFor (d : Nat) (I : xh_I) (L : xh_L) (a : Int32) (b : Int32) : xm_Do xp_pg (d + 1) 26 [xm_i a, xm_i b] (xh_M I L) (some (xm_i (xf_X1_senseFor I L a b))) (xh_M I L) 0 0 := by
  refine xK.of (Nat.le_of_ble_eq_true rfl) rfl ?_
  refine xK.run (q := (2, [(0, xm_i a), (1, xm_i b)], [xm_i b, xm_i a], xh_M I L, 0, 0)) 2 rfl ?_
  refine xK.icmpN rfl (fun h1 => ?_) (fun h1 => ?_)
  · skip
    refine xK.run (q := (10, [(0, xm_i a), (1, xm_i b)], [xm_i 1], xh_M I L, 0, 0)) 2 rfl ?_
    rw [show xf_X1_senseFor I L a b = 1 from by unfold xf_X1_senseFor; rw [if_pos h1]]
    exact xK.ret rfl ⟨_, rfl, rfl⟩
  · skip
    refine xK.run (q := (10, [(0, xm_i a), (1, xm_i b)], [xm_i 2], xh_M I L, 0, 0)) 1 rfl ?_
    rw [show xf_X1_senseFor I L a b = 2 from by unfold xf_X1_senseFor; rw [if_neg h1]]
    exact xK.ret rfl ⟨_, rfl, rfl⟩
set_option linter.unusedVariables false in
def xf_X1_parting (I : xh_I) (L : xh_L) (k : Nat) (u : Int32) (f : Int32) (s : Int32) (t : Int32) : Int32 := if u = 0 then ((xf_X0_heightGoingUp I L (xh_hi k) f (xo_max 0 ((xo_min t (xf_X2_delay I L)) - s)) (t - (xo_max 0 ((xo_min t (xf_X2_delay I L)) - s)))) - (xf_X0_heightGoingDown I L (xh_lo k) f (xo_max 0 ((xo_min t (xf_X2_delay I L)) - s)) (t - (xo_max 0 ((xo_min t (xf_X2_delay I L)) - s))))) else ((xf_X0_heightGoingUp I L (xh_lo k) f (xo_max 0 ((xo_min t (xf_X2_delay I L)) - s)) (t - (xo_max 0 ((xo_min t (xf_X2_delay I L)) - s)))) - (xf_X0_heightGoingDown I L (xh_hi k) f (xo_max 0 ((xo_min t (xf_X2_delay I L)) - s)) (t - (xo_max 0 ((xo_min t (xf_X2_delay I L)) - s)))))
set_option maxHeartbeats 4000000 in
set_option maxRecDepth 100000 in
theorem xd_X1_parting (d : Nat) (I : xh_I) (L : xh_L) (k : Nat) (u : Int32) (f : Int32) (s : Int32) (t : Int32) : xm_Do xp_pg (d + 2) 37 [xm_r 1 k, xm_i u, xm_i f, xm_i s, xm_i t] (xh_M I L) (some (xm_i (xf_X1_parting I L k u f s t))) (xh_M I L) 0 0 := by
  refine xK.of (Nat.le_of_ble_eq_true rfl) rfl ?_
  refine xK.run (q := (7, [(0, xm_r 1 k), (1, xm_i u), (2, xm_i f), (3, xm_i s), (4, xm_i t)], [xm_r 2 0, xm_i t, xm_i 0], xh_M I L, 0, 0)) 4 rfl ?_
  refine xK.call [xm_r 2 0] (xd_X2_delay d I L) rfl rfl rfl (Or.inr ⟨_, _, rfl⟩) (Nat.le_of_ble_eq_true rfl) ?_
  refine xK.run (q := (28, [(0, xm_r 1 k), (1, xm_i u), (2, xm_i f), (3, xm_i s), (4, xm_i t), (5, xm_i (xo_max 0 ((xo_min t (xf_X2_delay I L)) - s))), (6, xm_i (t - (xo_max 0 ((xo_min t (xf_X2_delay I L)) - s))))], [xm_i u], xh_M I L, 0, 0)) 10 rfl ?_
  refine xK.ifI rfl (fun h1 => ?_) (fun h1 => ?_)
  · skip
    refine xK.run (q := (45, [(0, xm_r 1 k), (1, xm_i u), (2, xm_i f), (3, xm_i s), (4, xm_i t), (5, xm_i (xo_max 0 ((xo_min t (xf_X2_delay I L)) - s))), (6, xm_i (t - (xo_max 0 ((xo_min t (xf_X2_delay I L)) - s)))), (7, xm_r 0 (xh_hi k))], [xm_i u], xh_M I L, 0, 0)) 4 rfl ?_
    refine xK.ifI rfl (fun _ => ?_) (fun h9 => absurd h1 h9)
    refine xK.run (q := (68, [(0, xm_r 1 k), (1, xm_i u), (2, xm_i f), (3, xm_i s), (4, xm_i t), (5, xm_i (xo_max 0 ((xo_min t (xf_X2_delay I L)) - s))), (6, xm_i (t - (xo_max 0 ((xo_min t (xf_X2_delay I L)) - s)))), (7, xm_r 0 (xh_hi k)), (8, xm_r 0 (xh_lo k))], [xm_i (t - (xo_max 0 ((xo_min t (xf_X2_delay I L)) - s))), xm_i (xo_max 0 ((xo_min t (xf_X2_delay I L)) - s)), xm_i f, xm_r 0 (xh_hi k)], xh_M I L, 0, 0)) 7 rfl ?_
    refine xK.call [xm_r 0 (xh_hi k), xm_i f, xm_i (xo_max 0 ((xo_min t (xf_X2_delay I L)) - s)), xm_i (t - (xo_max 0 ((xo_min t (xf_X2_delay I L)) - s)))] (xd_X0_heightGoingUp d I L (xh_hi k) f (xo_max 0 ((xo_min t (xf_X2_delay I L)) - s)) (t - (xo_max 0 ((xo_min t (xf_X2_delay I L)) - s)))) rfl rfl rfl (Or.inr ⟨_, _, rfl⟩) (Nat.le_of_ble_eq_true rfl) ?_
    refine xK.run (q := (78, [(0, xm_r 1 k), (1, xm_i u), (2, xm_i f), (3, xm_i s), (4, xm_i t), (5, xm_i (xo_max 0 ((xo_min t (xf_X2_delay I L)) - s))), (6, xm_i (t - (xo_max 0 ((xo_min t (xf_X2_delay I L)) - s)))), (7, xm_r 0 (xh_hi k)), (8, xm_r 0 (xh_lo k))], [xm_i (t - (xo_max 0 ((xo_min t (xf_X2_delay I L)) - s))), xm_i (xo_max 0 ((xo_min t (xf_X2_delay I L)) - s)), xm_i f, xm_r 0 (xh_lo k), xm_i (xf_X0_heightGoingUp I L (xh_hi k) f (xo_max 0 ((xo_min t (xf_X2_delay I L)) - s)) (t - (xo_max 0 ((xo_min t (xf_X2_delay I L)) - s))))], xh_M I L, 0, 0)) 4 rfl ?_
    refine xK.call [xm_r 0 (xh_lo k), xm_i f, xm_i (xo_max 0 ((xo_min t (xf_X2_delay I L)) - s)), xm_i (t - (xo_max 0 ((xo_min t (xf_X2_delay I L)) - s)))] (xd_X0_heightGoingDown d I L (xh_lo k) f (xo_max 0 ((xo_min t (xf_X2_delay I L)) - s)) (t - (xo_max 0 ((xo_min t (xf_X2_delay I L)) - s)))) rfl rfl rfl (Or.inr ⟨_, _, rfl⟩) (Nat.le_of_ble_eq_true rfl) ?_
    refine xK.run (q := (82, [(0, xm_r 1 k), (1, xm_i u), (2, xm_i f), (3, xm_i s), (4, xm_i t), (5, xm_i (xo_max 0 ((xo_min t (xf_X2_delay I L)) - s))), (6, xm_i (t - (xo_max 0 ((xo_min t (xf_X2_delay I L)) - s)))), (7, xm_r 0 (xh_hi k)), (8, xm_r 0 (xh_lo k))], [xm_i ((xf_X0_heightGoingUp I L (xh_hi k) f (xo_max 0 ((xo_min t (xf_X2_delay I L)) - s)) (t - (xo_max 0 ((xo_min t (xf_X2_delay I L)) - s)))) - (xf_X0_heightGoingDown I L (xh_lo k) f (xo_max 0 ((xo_min t (xf_X2_delay I L)) - s)) (t - (xo_max 0 ((xo_min t (xf_X2_delay I L)) - s)))))], xh_M I L, 0, 0)) 1 rfl ?_
    rw [show xf_X1_parting I L k u f s t = ((xf_X0_heightGoingUp I L (xh_hi k) f (xo_max 0 ((xo_min t (xf_X2_delay I L)) - s)) (t - (xo_max 0 ((xo_min t (xf_X2_delay I L)) - s)))) - (xf_X0_heightGoingDown I L (xh_lo k) f (xo_max 0 ((xo_min t (xf_X2_delay I L)) - s)) (t - (xo_max 0 ((xo_min t (xf_X2_delay I L)) - s))))) from by unfold xf_X1_parting; rw [if_pos h1]]
    exact xK.ret rfl ⟨_, rfl, rfl⟩
  · skip
    refine xK.run (q := (45, [(0, xm_r 1 k), (1, xm_i u), (2, xm_i f), (3, xm_i s), (4, xm_i t), (5, xm_i (xo_max 0 ((xo_min t (xf_X2_delay I L)) - s))), (6, xm_i (t - (xo_max 0 ((xo_min t (xf_X2_delay I L)) - s)))), (7, xm_r 0 (xh_lo k))], [xm_i u], xh_M I L, 0, 0)) 5 rfl ?_
    refine xK.ifI rfl (fun h9 => absurd h9 h1) (fun _ => ?_)
    refine xK.run (q := (68, [(0, xm_r 1 k), (1, xm_i u), (2, xm_i f), (3, xm_i s), (4, xm_i t), (5, xm_i (xo_max 0 ((xo_min t (xf_X2_delay I L)) - s))), (6, xm_i (t - (xo_max 0 ((xo_min t (xf_X2_delay I L)) - s)))), (7, xm_r 0 (xh_lo k)), (8, xm_r 0 (xh_hi k))], [xm_i (t - (xo_max 0 ((xo_min t (xf_X2_delay I L)) - s))), xm_i (xo_max 0 ((xo_min t (xf_X2_delay I L)) - s)), xm_i f, xm_r 0 (xh_lo k)], xh_M I L, 0, 0)) 8 rfl ?_
    refine xK.call [xm_r 0 (xh_lo k), xm_i f, xm_i (xo_max 0 ((xo_min t (xf_X2_delay I L)) - s)), xm_i (t - (xo_max 0 ((xo_min t (xf_X2_delay I L)) - s)))] (xd_X0_heightGoingUp d I L (xh_lo k) f (xo_max 0 ((xo_min t (xf_X2_delay I L)) - s)) (t - (xo_max 0 ((xo_min t (xf_X2_delay I L)) - s)))) rfl rfl rfl (Or.inr ⟨_, _, rfl⟩) (Nat.le_of_ble_eq_true rfl) ?_
    refine xK.run (q := (78, [(0, xm_r 1 k), (1, xm_i u), (2, xm_i f), (3, xm_i s), (4, xm_i t), (5, xm_i (xo_max 0 ((xo_min t (xf_X2_delay I L)) - s))), (6, xm_i (t - (xo_max 0 ((xo_min t (xf_X2_delay I L)) - s)))), (7, xm_r 0 (xh_lo k)), (8, xm_r 0 (xh_hi k))], [xm_i (t - (xo_max 0 ((xo_min t (xf_X2_delay I L)) - s))), xm_i (xo_max 0 ((xo_min t (xf_X2_delay I L)) - s)), xm_i f, xm_r 0 (xh_hi k), xm_i (xf_X0_heightGoingUp I L (xh_lo k) f (xo_max 0 ((xo_min t (xf_X2_delay I L)) - s)) (t - (xo_max 0 ((xo_min t (xf_X2_delay I L)) - s))))], xh_M I L, 0, 0)) 4 rfl ?_
    refine xK.call [xm_r 0 (xh_hi k), xm_i f, xm_i (xo_max 0 ((xo_min t (xf_X2_delay I L)) - s)), xm_i (t - (xo_max 0 ((xo_min t (xf_X2_delay I L)) - s)))] (xd_X0_heightGoingDown d I L (xh_hi k) f (xo_max 0 ((xo_min t (xf_X2_delay I L)) - s)) (t - (xo_max 0 ((xo_min t (xf_X2_delay I L)) - s)))) rfl rfl rfl (Or.inr ⟨_, _, rfl⟩) (Nat.le_of_ble_eq_true rfl) ?_
    refine xK.run (q := (82, [(0, xm_r 1 k), (1, xm_i u), (2, xm_i f), (3, xm_i s), (4, xm_i t), (5, xm_i (xo_max 0 ((xo_min t (xf_X2_delay I L)) - s))), (6, xm_i (t - (xo_max 0 ((xo_min t (xf_X2_delay I L)) - s)))), (7, xm_r 0 (xh_lo k)), (8, xm_r 0 (xh_hi k))], [xm_i ((xf_X0_heightGoingUp I L (xh_lo k) f (xo_max 0 ((xo_min t (xf_X2_delay I L)) - s)) (t - (xo_max 0 ((xo_min t (xf_X2_delay I L)) - s)))) - (xf_X0_heightGoingDown I L (xh_hi k) f (xo_max 0 ((xo_min t (xf_X2_delay I L)) - s)) (t - (xo_max 0 ((xo_min t (xf_X2_delay I L)) - s)))))], xh_M I L, 0, 0)) 1 rfl ?_
    rw [show xf_X1_parting I L k u f s t = ((xf_X0_heightGoingUp I L (xh_lo k) f (xo_max 0 ((xo_min t (xf_X2_delay I L)) - s)) (t - (xo_max 0 ((xo_min t (xf_X2_delay I L)) - s)))) - (xf_X0_heightGoingDown I L (xh_hi k) f (xo_max 0 ((xo_min t (xf_X2_delay I L)) - s)) (t - (xo_max 0 ((xo_min t (xf_X2_delay I L)) - s))))) from by unfold xf_X1_parting; rw [if_neg h1]]
    exact xK.ret rfl ⟨_, rfl, rfl⟩
