/-! WHAT METHODS COMPUTE (by program) -/
set_option linter.unusedVariables false in
def xf_X2_time (I : xh_I) (L : xh_L)  : Int32 := I 6 0 0
set_option maxHeartbeats 4000000 in
set_option maxRecDepth 100000 in
theorem xd_X2_time (d : Nat) (I : xh_I) (L : xh_L) : xm_Do xp_pg (d + 1) 44 [xm_r 2 0] (xh_M I L) (some (xm_i (xf_X2_time I L))) (xh_M I L) 0 0 := by
  refine xK.of (Nat.le_of_ble_eq_true rfl) rfl ?_
  refine xK.run (q := (5, [(0, xm_r 2 0)], [xm_i 0, xm_r 6 0], xh_M I L, 0, 0)) 3 rfl ?_
  refine xK.iald rfl rfl (show xh_ix 0 0 7 by decide) ?_
  exact xK.ret rfl ⟨_, rfl, rfl⟩
set_option linter.unusedVariables false in
def xf_X2_near (I : xh_I) (L : xh_L)  : Int32 := I 6 1 0
set_option maxHeartbeats 4000000 in
set_option maxRecDepth 100000 in
theorem xd_X2_near (d : Nat) (I : xh_I) (L : xh_L) : xm_Do xp_pg (d + 1) 45 [xm_r 2 0] (xh_M I L) (some (xm_i (xf_X2_near I L))) (xh_M I L) 0 0 := by
  refine xK.of (Nat.le_of_ble_eq_true rfl) rfl ?_
  refine xK.run (q := (5, [(0, xm_r 2 0)], [xm_i 1, xm_r 6 0], xh_M I L, 0, 0)) 3 rfl ?_
  refine xK.iald rfl rfl (show xh_ix 1 1 7 by decide) ?_
  exact xK.ret rfl ⟨_, rfl, rfl⟩
set_option linter.unusedVariables false in
def xf_X2_miss (I : xh_I) (L : xh_L)  : Int32 := I 6 2 0
set_option maxHeartbeats 4000000 in
set_option maxRecDepth 100000 in
theorem xd_X2_miss (d : Nat) (I : xh_I) (L : xh_L) : xm_Do xp_pg (d + 1) 46 [xm_r 2 0] (xh_M I L) (some (xm_i (xf_X2_miss I L))) (xh_M I L) 0 0 := by
  refine xK.of (Nat.le_of_ble_eq_true rfl) rfl ?_
  refine xK.run (q := (5, [(0, xm_r 2 0)], [xm_i 2, xm_r 6 0], xh_M I L, 0, 0)) 3 rfl ?_
  refine xK.iald rfl rfl (show xh_ix 2 2 7 by decide) ?_
  exact xK.ret rfl ⟨_, rfl, rfl⟩
set_option linter.unusedVariables false in
def xf_X2_high (I : xh_I) (L : xh_L)  : Int32 := I 6 3 0
set_option maxHeartbeats 4000000 in
set_option maxRecDepth 100000 in
theorem xd_X2_high (d : Nat) (I : xh_I) (L : xh_L) : xm_Do xp_pg (d + 1) 47 [xm_r 2 0] (xh_M I L) (some (xm_i (xf_X2_high I L))) (xh_M I L) 0 0 := by
  refine xK.of (Nat.le_of_ble_eq_true rfl) rfl ?_
  refine xK.run (q := (5, [(0, xm_r 2 0)], [xm_i 3, xm_r 6 0], xh_M I L, 0, 0)) 3 rfl ?_
  refine xK.iald rfl rfl (show xh_ix 3 3 7 by decide) ?_
  exact xK.ret rfl ⟨_, rfl, rfl⟩
set_option linter.unusedVariables false in
def xf_X2_wanted (I : xh_I) (L : xh_L)  : Int32 := I 6 4 0
set_option maxHeartbeats 4000000 in
set_option maxRecDepth 100000 in
theorem xd_X2_wanted (d : Nat) (I : xh_I) (L : xh_L) : xm_Do xp_pg (d + 1) 48 [xm_r 2 0] (xh_M I L) (some (xm_i (xf_X2_wanted I L))) (xh_M I L) 0 0 := by
  refine xK.of (Nat.le_of_ble_eq_true rfl) rfl ?_
  refine xK.run (q := (5, [(0, xm_r 2 0)], [xm_i 4, xm_r 6 0], xh_M I L, 0, 0)) 3 rfl ?_
  refine xK.iald rfl rfl (show xh_ix 4 4 7 by decide) ?_
  exact xK.ret rfl ⟨_, rfl, rfl⟩
set_option linter.unusedVariables false in
def xf_X2_delay (I : xh_I) (L : xh_L)  : Int32 := I 6 5 0
set_option maxHeartbeats 4000000 in
set_option maxRecDepth 100000 in
theorem xd_X2_delay (d : Nat) (I : xh_I) (L : xh_L) : xm_Do xp_pg (d + 1) 49 [xm_r 2 0] (xh_M I L) (some (xm_i (xf_X2_delay I L))) (xh_M I L) 0 0 := by
  refine xK.of (Nat.le_of_ble_eq_true rfl) rfl ?_
  refine xK.run (q := (5, [(0, xm_r 2 0)], [xm_i 5, xm_r 6 0], xh_M I L, 0, 0)) 3 rfl ?_
  refine xK.iald rfl rfl (show xh_ix 5 5 7 by decide) ?_
  exact xK.ret rfl ⟨_, rfl, rfl⟩
set_option linter.unusedVariables false in
def xf_X2_pull (I : xh_I) (L : xh_L)  : Int32 := I 6 6 0
set_option maxHeartbeats 4000000 in
set_option maxRecDepth 100000 in
theorem xd_X2_pull (d : Nat) (I : xh_I) (L : xh_L) : xm_Do xp_pg (d + 1) 50 [xm_r 2 0] (xh_M I L) (some (xm_i (xf_X2_pull I L))) (xh_M I L) 0 0 := by
  refine xK.of (Nat.le_of_ble_eq_true rfl) rfl ?_
  refine xK.run (q := (6, [(0, xm_r 2 0)], [xm_i 6, xm_r 6 0], xh_M I L, 0, 0)) 3 rfl ?_
  refine xK.iald rfl rfl (show xh_ix 6 6 7 by decide) ?_
  exact xK.ret rfl ⟨_, rfl, rfl⟩
set_option linter.unusedVariables false in
def xf_X0_isWithin (I : xh_I) (L : xh_L) (a : Int32) (b : Int32) : Int32 := if a < (-b) then 0 else (if b < a then 0 else 1)
set_option maxHeartbeats 4000000 in
set_option maxRecDepth 100000 in
theorem xd_X0_isWithin (d : Nat) (I : xh_I) (L : xh_L) (a : Int32) (b : Int32) : xm_Do xp_pg (d + 1) 3 [xm_i a, xm_i b] (xh_M I L) (some (xm_i (xf_X0_isWithin I L a b))) (xh_M I L) 0 0 := by
  refine xK.of (Nat.le_of_ble_eq_true rfl) rfl ?_
  refine xK.run (q := (3, [(0, xm_i a), (1, xm_i b)], [xm_i (-b), xm_i a], xh_M I L, 0, 0)) 3 rfl ?_
  refine xK.icmp rfl (fun h1 => ?_) (fun h1 => ?_)
  · skip
    refine xK.run (q := (16, [(0, xm_i a), (1, xm_i b)], [xm_i 0], xh_M I L, 0, 0)) 1 rfl ?_
    rw [show xf_X0_isWithin I L a b = 0 from by unfold xf_X0_isWithin; rw [if_pos h1]]
    exact xK.ret rfl ⟨_, (Or.inl rfl), rfl, rfl⟩
  · skip
    refine xK.run (q := (8, [(0, xm_i a), (1, xm_i b)], [xm_i b, xm_i a], xh_M I L, 0, 0)) 2 rfl ?_
    refine xK.icmp rfl (fun h2 => ?_) (fun h2 => ?_)
    · skip
      refine xK.run (q := (16, [(0, xm_i a), (1, xm_i b)], [xm_i 0], xh_M I L, 0, 0)) 1 rfl ?_
      rw [show xf_X0_isWithin I L a b = 0 from by unfold xf_X0_isWithin; rw [if_neg h1, if_pos h2]]
      exact xK.ret rfl ⟨_, (Or.inl rfl), rfl, rfl⟩
    · skip
      refine xK.run (q := (16, [(0, xm_i a), (1, xm_i b)], [xm_i 1], xh_M I L, 0, 0)) 2 rfl ?_
      rw [show xf_X0_isWithin I L a b = 1 from by unfold xf_X0_isWithin; rw [if_neg h1, if_neg h2]]
      exact xK.ret rfl ⟨_, (Or.inr rfl), rfl, rfl⟩
theorem xz_X0_isWithin (I : xh_I) (L : xh_L) (a : Int32) (b : Int32) : xf_X0_isWithin I L a b = 0 ∨ xf_X0_isWithin I L a b = 1 := by
  unfold xf_X0_isWithin
  (repeat' split) <;> first | exact Or.inl rfl | exact Or.inr rfl
set_option linter.unusedVariables false in
def xf_X0_stopAt (I : xh_I) (L : xh_L) (a : Int32) (b : Int32) : Int32 := xo_max (-b) (xo_min b a)
set_option maxHeartbeats 4000000 in
set_option maxRecDepth 100000 in
theorem xd_X0_stopAt (d : Nat) (I : xh_I) (L : xh_L) (a : Int32) (b : Int32) : xm_Do xp_pg (d + 1) 4 [xm_i a, xm_i b] (xh_M I L) (some (xm_i (xf_X0_stopAt I L a b))) (xh_M I L) 0 0 := by
  refine xK.of (Nat.le_of_ble_eq_true rfl) rfl ?_
  refine xK.run (q := (10, [(0, xm_i a), (1, xm_i b)], [xm_i (xo_max (-b) (xo_min b a))], xh_M I L, 0, 0)) 6 rfl ?_
  exact xK.ret rfl ⟨_, rfl, rfl⟩
set_option linter.unusedVariables false in
def xf_X0_isPlace (I : xh_I) (L : xh_L) (a : Int32) (b : Int32) (c : Int32) : Int32 := if (xf_X0_isWithin I L a 200000) = 0 then 0 else (if (xf_X0_isWithin I L b 200000) = 0 then 0 else (if (xf_X0_isWithin I L c 20000) = 0 then 0 else 1))
set_option maxHeartbeats 4000000 in
set_option maxRecDepth 100000 in
theorem xd_X0_isPlace (d : Nat) (I : xh_I) (L : xh_L) (a : Int32) (b : Int32) (c : Int32) : xm_Do xp_pg (d + 2) 1 [xm_i a, xm_i b, xm_i c] (xh_M I L) (some (xm_i (xf_X0_isPlace I L a b c))) (xh_M I L) 0 0 := by
  refine xK.of (Nat.le_of_ble_eq_true rfl) rfl ?_
  refine xK.run (q := (3, [(0, xm_i a), (1, xm_i b), (2, xm_i c)], [xm_i 200000, xm_i a], xh_M I L, 0, 0)) 2 rfl ?_
  refine xK.call [xm_i a, xm_i 200000] (xd_X0_isWithin d I L a 200000) rfl rfl rfl (Or.inl rfl) (Nat.le_of_ble_eq_true rfl) ?_
  refine xK.ifI rfl (fun h1 => ?_) (fun h1 => ?_)
  · skip
    refine xK.run (q := (33, [(0, xm_i a), (1, xm_i b), (2, xm_i c)], [xm_i 0], xh_M I L, 0, 0)) 1 rfl ?_
    rw [show xf_X0_isPlace I L a b c = 0 from by unfold xf_X0_isPlace; rw [if_pos h1]]
    exact xK.ret rfl ⟨_, (Or.inl rfl), rfl, rfl⟩
  · skip
    refine xK.run (q := (12, [(0, xm_i a), (1, xm_i b), (2, xm_i c)], [xm_i 200000, xm_i b], xh_M I L, 0, 0)) 2 rfl ?_
    refine xK.call [xm_i b, xm_i 200000] (xd_X0_isWithin d I L b 200000) rfl rfl rfl (Or.inl rfl) (Nat.le_of_ble_eq_true rfl) ?_
    refine xK.ifI rfl (fun h2 => ?_) (fun h2 => ?_)
    · skip
      refine xK.run (q := (33, [(0, xm_i a), (1, xm_i b), (2, xm_i c)], [xm_i 0], xh_M I L, 0, 0)) 1 rfl ?_
      rw [show xf_X0_isPlace I L a b c = 0 from by unfold xf_X0_isPlace; rw [if_neg h1, if_pos h2]]
      exact xK.ret rfl ⟨_, (Or.inl rfl), rfl, rfl⟩
    · skip
      refine xK.run (q := (22, [(0, xm_i a), (1, xm_i b), (2, xm_i c)], [xm_i 20000, xm_i c], xh_M I L, 0, 0)) 2 rfl ?_
      refine xK.call [xm_i c, xm_i 20000] (xd_X0_isWithin d I L c 20000) rfl rfl rfl (Or.inl rfl) (Nat.le_of_ble_eq_true rfl) ?_
      refine xK.ifI rfl (fun h3 => ?_) (fun h3 => ?_)
      · skip
        refine xK.run (q := (33, [(0, xm_i a), (1, xm_i b), (2, xm_i c)], [xm_i 0], xh_M I L, 0, 0)) 1 rfl ?_
        rw [show xf_X0_isPlace I L a b c = 0 from by unfold xf_X0_isPlace; rw [if_neg h1, if_neg h2, if_pos h3]]
        exact xK.ret rfl ⟨_, (Or.inl rfl), rfl, rfl⟩
      · skip
        refine xK.run (q := (33, [(0, xm_i a), (1, xm_i b), (2, xm_i c)], [xm_i 1], xh_M I L, 0, 0)) 2 rfl ?_
        rw [show xf_X0_isPlace I L a b c = 1 from by unfold xf_X0_isPlace; rw [if_neg h1, if_neg h2, if_neg h3]]
        exact xK.ret rfl ⟨_, (Or.inr rfl), rfl, rfl⟩
theorem xz_X0_isPlace (I : xh_I) (L : xh_L) (a : Int32) (b : Int32) (c : Int32) : xf_X0_isPlace I L a b c = 0 ∨ xf_X0_isPlace I L a b c = 1 := by
  unfold xf_X0_isPlace
  (repeat' split) <;> first | exact Or.inl rfl | exact Or.inr rfl
set_option linter.unusedVariables false in
def xf_X0_isSpeed (I : xh_I) (L : xh_L) (a : Int32) (b : Int32) (c : Int32) : Int32 := if (xf_X0_isWithin I L a 500) = 0 then 0 else (if (xf_X0_isWithin I L b 500) = 0 then 0 else (if (xf_X0_isWithin I L c 60) = 0 then 0 else 1))
set_option maxHeartbeats 4000000 in
set_option maxRecDepth 100000 in
theorem xd_X0_isSpeed (d : Nat) (I : xh_I) (L : xh_L) (a : Int32) (b : Int32) (c : Int32) : xm_Do xp_pg (d + 2) 2 [xm_i a, xm_i b, xm_i c] (xh_M I L) (some (xm_i (xf_X0_isSpeed I L a b c))) (xh_M I L) 0 0 := by
  refine xK.of (Nat.le_of_ble_eq_true rfl) rfl ?_
  refine xK.run (q := (4, [(0, xm_i a), (1, xm_i b), (2, xm_i c)], [xm_i 500, xm_i a], xh_M I L, 0, 0)) 2 rfl ?_
  refine xK.call [xm_i a, xm_i 500] (xd_X0_isWithin d I L a 500) rfl rfl rfl (Or.inl rfl) (Nat.le_of_ble_eq_true rfl) ?_
  refine xK.ifI rfl (fun h1 => ?_) (fun h1 => ?_)
  · skip
    refine xK.run (q := (34, [(0, xm_i a), (1, xm_i b), (2, xm_i c)], [xm_i 0], xh_M I L, 0, 0)) 1 rfl ?_
    rw [show xf_X0_isSpeed I L a b c = 0 from by unfold xf_X0_isSpeed; rw [if_pos h1]]
    exact xK.ret rfl ⟨_, (Or.inl rfl), rfl, rfl⟩
  · skip
    refine xK.run (q := (14, [(0, xm_i a), (1, xm_i b), (2, xm_i c)], [xm_i 500, xm_i b], xh_M I L, 0, 0)) 2 rfl ?_
    refine xK.call [xm_i b, xm_i 500] (xd_X0_isWithin d I L b 500) rfl rfl rfl (Or.inl rfl) (Nat.le_of_ble_eq_true rfl) ?_
    refine xK.ifI rfl (fun h2 => ?_) (fun h2 => ?_)
    · skip
      refine xK.run (q := (34, [(0, xm_i a), (1, xm_i b), (2, xm_i c)], [xm_i 0], xh_M I L, 0, 0)) 1 rfl ?_
      rw [show xf_X0_isSpeed I L a b c = 0 from by unfold xf_X0_isSpeed; rw [if_neg h1, if_pos h2]]
      exact xK.ret rfl ⟨_, (Or.inl rfl), rfl, rfl⟩
    · skip
      refine xK.run (q := (23, [(0, xm_i a), (1, xm_i b), (2, xm_i c)], [xm_i 60, xm_i c], xh_M I L, 0, 0)) 2 rfl ?_
      refine xK.call [xm_i c, xm_i 60] (xd_X0_isWithin d I L c 60) rfl rfl rfl (Or.inl rfl) (Nat.le_of_ble_eq_true rfl) ?_
      refine xK.ifI rfl (fun h3 => ?_) (fun h3 => ?_)
      · skip
        refine xK.run (q := (34, [(0, xm_i a), (1, xm_i b), (2, xm_i c)], [xm_i 0], xh_M I L, 0, 0)) 1 rfl ?_
        rw [show xf_X0_isSpeed I L a b c = 0 from by unfold xf_X0_isSpeed; rw [if_neg h1, if_neg h2, if_pos h3]]
        exact xK.ret rfl ⟨_, (Or.inl rfl), rfl, rfl⟩
      · skip
        refine xK.run (q := (34, [(0, xm_i a), (1, xm_i b), (2, xm_i c)], [xm_i 1], xh_M I L, 0, 0)) 2 rfl ?_
        rw [show xf_X0_isSpeed I L a b c = 1 from by unfold xf_X0_isSpeed; rw [if_neg h1, if_neg h2, if_neg h3]]
        exact xK.ret rfl ⟨_, (Or.inr rfl), rfl, rfl⟩
theorem xz_X0_isSpeed (I : xh_I) (L : xh_L) (a : Int32) (b : Int32) (c : Int32) : xf_X0_isSpeed I L a b c = 0 ∨ xf_X0_isSpeed I L a b c = 1 := by
  unfold xf_X0_isSpeed
  (repeat' split) <;> first | exact Or.inl rfl | exact Or.inr rfl
set_option linter.unusedVariables false in
def xfI_X0_flyWith (I : xh_I) (L : xh_L) (i : Nat) (a : Int32) (b : Int32) (c : Int32) : xh_I := (xm_up (xm_up (xm_up I 0 5 i a) 0 6 i b) 0 7 i c)
set_option maxHeartbeats 4000000 in
set_option maxRecDepth 100000 in
theorem xd_X0_flyWith (d : Nat) (I : xh_I) (L : xh_L) (i : Nat) (a : Int32) (b : Int32) (c : Int32) : xm_Do xp_pg (d + 1) 6 [xm_r 0 i, xm_i a, xm_i b, xm_i c] (xh_M I L) none (xh_M (xfI_X0_flyWith I L i a b c) L) 0 0 := by
  refine xK.of (Nat.le_of_ble_eq_true rfl) rfl ?_
  refine xK.run (q := (15, [(0, xm_r 0 i), (1, xm_i a), (2, xm_i b), (3, xm_i c)], [], xh_M (xm_up (xm_up (xm_up I 0 5 i a) 0 6 i b) 0 7 i c) L, 0, 0)) 9 rfl ?_
  exact xK.ret rfl ⟨rfl, rfl⟩
set_option linter.unusedVariables false in
def xfI_X0_putAt (I : xh_I) (L : xh_L) (i : Nat) (a : Int32) (b : Int32) (c : Int32) : xh_I := if (I 0 0 i) = 0 then (xm_up (xm_up (xm_up (xfI_X0_flyWith (xm_up (xm_up I 0 0 i 1) 0 1 i 1) L i 0 0 0) 0 2 i a) 0 3 i b) 0 4 i c) else (xm_up (xm_up (xm_up I 0 2 i a) 0 3 i b) 0 4 i c)
set_option maxHeartbeats 4000000 in
set_option maxRecDepth 100000 in
theorem xd_X0_putAt (d : Nat) (I : xh_I) (L : xh_L) (i : Nat) (a : Int32) (b : Int32) (c : Int32) : xm_Do xp_pg (d + 2) 5 [xm_r 0 i, xm_i a, xm_i b, xm_i c] (xh_M I L) none (xh_M (xfI_X0_putAt I L i a b c) L) 0 0 := by
  refine xK.of (Nat.le_of_ble_eq_true rfl) rfl ?_
  refine xK.run (q := (4, [(0, xm_r 0 i), (1, xm_i a), (2, xm_i b), (3, xm_i c)], [xm_i (I 0 0 i)], xh_M I L, 0, 0)) 2 rfl ?_
  refine xK.ifN rfl (fun h1 => ?_) (fun h1 => ?_)
  · skip
    refine xK.run (q := (9, [(0, xm_r 0 i), (1, xm_i a), (2, xm_i b), (3, xm_i c)], [xm_i 1, xm_r 0 i], xh_M I L, 0, 0)) 2 rfl ?_
    refine xK.putZ rfl (Or.inr rfl) ?_
    refine xK.run (q := (14, [(0, xm_r 0 i), (1, xm_i a), (2, xm_i b), (3, xm_i c)], [xm_i 1, xm_r 0 i], xh_M (xm_up I 0 0 i 1) L, 0, 0)) 2 rfl ?_
    refine xK.putZ rfl (Or.inr rfl) ?_
    refine xK.run (q := (21, [(0, xm_r 0 i), (1, xm_i a), (2, xm_i b), (3, xm_i c)], [xm_i 0, xm_i 0, xm_i 0, xm_r 0 i], xh_M (xm_up (xm_up I 0 0 i 1) 0 1 i 1) L, 0, 0)) 4 rfl ?_
    refine xK.call [xm_r 0 i, xm_i 0, xm_i 0, xm_i 0] (xd_X0_flyWith d (xm_up (xm_up I 0 0 i 1) 0 1 i 1) L i 0 0 0) rfl rfl rfl (Or.inr ⟨_, _, rfl⟩) (Nat.le_of_ble_eq_true rfl) ?_
    refine xK.run (q := (39, [(0, xm_r 0 i), (1, xm_i a), (2, xm_i b), (3, xm_i c)], [], xh_M (xm_up (xm_up (xm_up (xfI_X0_flyWith (xm_up (xm_up I 0 0 i 1) 0 1 i 1) L i 0 0 0) 0 2 i a) 0 3 i b) 0 4 i c) L, 0, 0)) 9 rfl ?_
    rw [show xfI_X0_putAt I L i a b c = (xm_up (xm_up (xm_up (xfI_X0_flyWith (xm_up (xm_up I 0 0 i 1) 0 1 i 1) L i 0 0 0) 0 2 i a) 0 3 i b) 0 4 i c) from by unfold xfI_X0_putAt; rw [if_pos h1]]
    exact xK.ret rfl ⟨rfl, rfl⟩
  · skip
    refine xK.run (q := (39, [(0, xm_r 0 i), (1, xm_i a), (2, xm_i b), (3, xm_i c)], [], xh_M (xm_up (xm_up (xm_up I 0 2 i a) 0 3 i b) 0 4 i c) L, 0, 0)) 9 rfl ?_
    rw [show xfI_X0_putAt I L i a b c = (xm_up (xm_up (xm_up I 0 2 i a) 0 3 i b) 0 4 i c) from by unfold xfI_X0_putAt; rw [if_neg h1]]
    exact xK.ret rfl ⟨rfl, rfl⟩
set_option linter.unusedVariables false in
def xfI_X0_move (I : xh_I) (L : xh_L) (i : Nat) : xh_I := (xm_up (xm_up (xm_up I 0 2 i (xf_X0_stopAt I L ((I 0 2 i) + (I 0 5 i)) 200000)) 0 3 i (xf_X0_stopAt (xm_up I 0 2 i (xf_X0_stopAt I L ((I 0 2 i) + (I 0 5 i)) 200000)) L ((I 0 3 i) + (I 0 6 i)) 200000)) 0 4 i (xf_X0_stopAt (xm_up (xm_up I 0 2 i (xf_X0_stopAt I L ((I 0 2 i) + (I 0 5 i)) 200000)) 0 3 i (xf_X0_stopAt (xm_up I 0 2 i (xf_X0_stopAt I L ((I 0 2 i) + (I 0 5 i)) 200000)) L ((I 0 3 i) + (I 0 6 i)) 200000)) L ((I 0 4 i) + (I 0 7 i)) 20000))
set_option maxHeartbeats 4000000 in
set_option maxRecDepth 100000 in
theorem xd_X0_move (d : Nat) (I : xh_I) (L : xh_L) (i : Nat) : xm_Do xp_pg (d + 2) 7 [xm_r 0 i] (xh_M I L) none (xh_M (xfI_X0_move I L i) L) 0 0 := by
  refine xK.of (Nat.le_of_ble_eq_true rfl) rfl ?_
  refine xK.run (q := (12, [(0, xm_r 0 i)], [xm_i 200000, xm_i ((I 0 2 i) + (I 0 5 i)), xm_r 0 i], xh_M I L, 0, 0)) 7 rfl ?_
  refine xK.call [xm_i ((I 0 2 i) + (I 0 5 i)), xm_i 200000] (xd_X0_stopAt d I L ((I 0 2 i) + (I 0 5 i)) 200000) rfl rfl rfl (Or.inl rfl) (Nat.le_of_ble_eq_true rfl) ?_
  refine xK.run (q := (30, [(0, xm_r 0 i)], [xm_i 200000, xm_i ((I 0 3 i) + (I 0 6 i)), xm_r 0 i], xh_M (xm_up I 0 2 i (xf_X0_stopAt I L ((I 0 2 i) + (I 0 5 i)) 200000)) L, 0, 0)) 8 rfl ?_
  refine xK.call [xm_i ((I 0 3 i) + (I 0 6 i)), xm_i 200000] (xd_X0_stopAt d (xm_up I 0 2 i (xf_X0_stopAt I L ((I 0 2 i) + (I 0 5 i)) 200000)) L ((I 0 3 i) + (I 0 6 i)) 200000) rfl rfl rfl (Or.inl rfl) (Nat.le_of_ble_eq_true rfl) ?_
  refine xK.run (q := (49, [(0, xm_r 0 i)], [xm_i 20000, xm_i ((I 0 4 i) + (I 0 7 i)), xm_r 0 i], xh_M (xm_up (xm_up I 0 2 i (xf_X0_stopAt I L ((I 0 2 i) + (I 0 5 i)) 200000)) 0 3 i (xf_X0_stopAt (xm_up I 0 2 i (xf_X0_stopAt I L ((I 0 2 i) + (I 0 5 i)) 200000)) L ((I 0 3 i) + (I 0 6 i)) 200000)) L, 0, 0)) 8 rfl ?_
  refine xK.call [xm_i ((I 0 4 i) + (I 0 7 i)), xm_i 20000] (xd_X0_stopAt d (xm_up (xm_up I 0 2 i (xf_X0_stopAt I L ((I 0 2 i) + (I 0 5 i)) 200000)) 0 3 i (xf_X0_stopAt (xm_up I 0 2 i (xf_X0_stopAt I L ((I 0 2 i) + (I 0 5 i)) 200000)) L ((I 0 3 i) + (I 0 6 i)) 200000)) L ((I 0 4 i) + (I 0 7 i)) 20000) rfl rfl rfl (Or.inl rfl) (Nat.le_of_ble_eq_true rfl) ?_
  refine xK.run (q := (55, [(0, xm_r 0 i)], [], xh_M (xm_up (xm_up (xm_up I 0 2 i (xf_X0_stopAt I L ((I 0 2 i) + (I 0 5 i)) 200000)) 0 3 i (xf_X0_stopAt (xm_up I 0 2 i (xf_X0_stopAt I L ((I 0 2 i) + (I 0 5 i)) 200000)) L ((I 0 3 i) + (I 0 6 i)) 200000)) 0 4 i (xf_X0_stopAt (xm_up (xm_up I 0 2 i (xf_X0_stopAt I L ((I 0 2 i) + (I 0 5 i)) 200000)) 0 3 i (xf_X0_stopAt (xm_up I 0 2 i (xf_X0_stopAt I L ((I 0 2 i) + (I 0 5 i)) 200000)) L ((I 0 3 i) + (I 0 6 i)) 200000)) L ((I 0 4 i) + (I 0 7 i)) 20000)) L, 0, 0)) 1 rfl ?_
  exact xK.ret rfl ⟨rfl, rfl⟩
set_option linter.unusedVariables false in
def xfI_X0_levelOff (I : xh_I) (L : xh_L) (i : Nat) (a : Int32) : xh_I := if (I 0 7 i) ≤ 0 then (xm_up I 0 7 i (xo_min 0 ((I 0 7 i) + a))) else (xm_up I 0 7 i (xo_max 0 ((I 0 7 i) - a)))
set_option maxHeartbeats 4000000 in
set_option maxRecDepth 100000 in
theorem xd_X0_levelOff (d : Nat) (I : xh_I) (L : xh_L) (i : Nat) (a : Int32) : xm_Do xp_pg (d + 1) 9 [xm_r 0 i, xm_i a] (xh_M I L) none (xh_M (xfI_X0_levelOff I L i a) L) 0 0 := by
  refine xK.of (Nat.le_of_ble_eq_true rfl) rfl ?_
  refine xK.run (q := (4, [(0, xm_r 0 i), (1, xm_i a)], [xm_i (I 0 7 i)], xh_M I L, 0, 0)) 2 rfl ?_
  refine xK.ifI rfl (fun h1 => ?_) (fun h1 => ?_)
  · skip
    refine xK.run (q := (38, [(0, xm_r 0 i), (1, xm_i a)], [], xh_M (xm_up I 0 7 i (xo_min 0 ((I 0 7 i) + a))) L, 0, 0)) 8 rfl ?_
    rw [show xfI_X0_levelOff I L i a = (xm_up I 0 7 i (xo_min 0 ((I 0 7 i) + a))) from by unfold xfI_X0_levelOff; rw [if_pos h1]]
    exact xK.ret rfl ⟨rfl, rfl⟩
  · skip
    refine xK.run (q := (38, [(0, xm_r 0 i), (1, xm_i a)], [], xh_M (xm_up I 0 7 i (xo_max 0 ((I 0 7 i) - a))) L, 0, 0)) 9 rfl ?_
    rw [show xfI_X0_levelOff I L i a = (xm_up I 0 7 i (xo_max 0 ((I 0 7 i) - a))) from by unfold xfI_X0_levelOff; rw [if_neg h1]]
    exact xK.ret rfl ⟨rfl, rfl⟩
set_option linter.unusedVariables false in
def xfI_X0_pull (I : xh_I) (L : xh_L) (i : Nat) (a : Int32) (b : Int32) (c : Int32) : xh_I := if a ≤ 0 then (if b ≤ 0 then I else (xm_up I 0 7 i (xo_min (I 0 7 i) (xo_max ((I 0 7 i) - c) ((-12) * b))))) else (if b ≤ 0 then (xm_up I 0 7 i (xo_max (I 0 7 i) (xo_min ((I 0 7 i) + c) (12 * a)))) else (xfI_X0_levelOff I L i c))
set_option maxHeartbeats 4000000 in
set_option maxRecDepth 100000 in
theorem xd_X0_pull (d : Nat) (I : xh_I) (L : xh_L) (i : Nat) (a : Int32) (b : Int32) (c : Int32) : xm_Do xp_pg (d + 2) 8 [xm_r 0 i, xm_i a, xm_i b, xm_i c] (xh_M I L) none (xh_M (xfI_X0_pull I L i a b c) L) 0 0 := by
  refine xK.of (Nat.le_of_ble_eq_true rfl) rfl ?_
  refine xK.run (q := (1, [(0, xm_r 0 i), (1, xm_i a), (2, xm_i b), (3, xm_i c)], [xm_i a], xh_M I L, 0, 0)) 1 rfl ?_
  refine xK.ifI rfl (fun h1 => ?_) (fun h1 => ?_)
  · skip
    refine xK.run (q := (17, [(0, xm_r 0 i), (1, xm_i a), (2, xm_i b), (3, xm_i c)], [xm_i a], xh_M I L, 0, 0)) 1 rfl ?_
    refine xK.ifI rfl (fun _ => ?_) (fun h9 => absurd h1 h9)
    refine xK.run (q := (48, [(0, xm_r 0 i), (1, xm_i a), (2, xm_i b), (3, xm_i c)], [xm_i b], xh_M I L, 0, 0)) 1 rfl ?_
    refine xK.ifI rfl (fun h2 => ?_) (fun h2 => ?_)
    · skip
      rw [show xfI_X0_pull I L i a b c = I from by unfold xfI_X0_pull; rw [if_pos h1, if_pos h2]]
      exact xK.ret rfl ⟨rfl, rfl⟩
    · skip
      refine xK.run (q := (75, [(0, xm_r 0 i), (1, xm_i a), (2, xm_i b), (3, xm_i c)], [], xh_M (xm_up I 0 7 i (xo_min (I 0 7 i) (xo_max ((I 0 7 i) - c) ((-12) * b)))) L, 0, 0)) 13 rfl ?_
      rw [show xfI_X0_pull I L i a b c = (xm_up I 0 7 i (xo_min (I 0 7 i) (xo_max ((I 0 7 i) - c) ((-12) * b)))) from by unfold xfI_X0_pull; rw [if_pos h1, if_neg h2]]
      exact xK.ret rfl ⟨rfl, rfl⟩
  · skip
    refine xK.run (q := (5, [(0, xm_r 0 i), (1, xm_i a), (2, xm_i b), (3, xm_i c)], [xm_i b], xh_M I L, 0, 0)) 1 rfl ?_
    refine xK.ifI rfl (fun h3 => ?_) (fun h3 => ?_)
    · skip
      refine xK.run (q := (17, [(0, xm_r 0 i), (1, xm_i a), (2, xm_i b), (3, xm_i c)], [xm_i a], xh_M I L, 0, 0)) 1 rfl ?_
      refine xK.ifI rfl (fun h9 => absurd h9 h1) (fun _ => ?_)
      refine xK.run (q := (75, [(0, xm_r 0 i), (1, xm_i a), (2, xm_i b), (3, xm_i c)], [], xh_M (xm_up I 0 7 i (xo_max (I 0 7 i) (xo_min ((I 0 7 i) + c) (12 * a)))) L, 0, 0)) 14 rfl ?_
      rw [show xfI_X0_pull I L i a b c = (xm_up I 0 7 i (xo_max (I 0 7 i) (xo_min ((I 0 7 i) + c) (12 * a)))) from by unfold xfI_X0_pull; rw [if_neg h1, if_pos h3]]
      exact xK.ret rfl ⟨rfl, rfl⟩
    · skip
      refine xK.run (q := (10, [(0, xm_r 0 i), (1, xm_i a), (2, xm_i b), (3, xm_i c)], [xm_i c, xm_r 0 i], xh_M I L, 0, 0)) 2 rfl ?_
      refine xK.call [xm_r 0 i, xm_i c] (xd_X0_levelOff d I L i c) rfl rfl rfl (Or.inr ⟨_, _, rfl⟩) (Nat.le_of_ble_eq_true rfl) ?_
      refine xK.run (q := (75, [(0, xm_r 0 i), (1, xm_i a), (2, xm_i b), (3, xm_i c)], [], xh_M (xfI_X0_levelOff I L i c) L, 0, 0)) 1 rfl ?_
      rw [show xfI_X0_pull I L i a b c = (xfI_X0_levelOff I L i c) from by unfold xfI_X0_pull; rw [if_neg h1, if_neg h3]]
      exact xK.ret rfl ⟨rfl, rfl⟩
set_option linter.unusedVariables false in
def xf_X0_heightGoingUp (I : xh_I) (L : xh_L) (i : Nat) (a : Int32) (b : Int32) (c : Int32) : Int32 := if (I 0 7 i) ≤ (12 * a) then (((I 0 4 i) + ((I 0 7 i) * b)) + ((12 * a) * c)) else (((I 0 4 i) + ((I 0 7 i) * b)) + ((I 0 7 i) * c))
set_option maxHeartbeats 4000000 in
set_option maxRecDepth 100000 in
theorem xd_X0_heightGoingUp (d : Nat) (I : xh_I) (L : xh_L) (i : Nat) (a : Int32) (b : Int32) (c : Int32) : xm_Do xp_pg (d + 1) 10 [xm_r 0 i, xm_i a, xm_i b, xm_i c] (xh_M I L) (some (xm_i (xf_X0_heightGoingUp I L i a b c))) (xh_M I L) 0 0 := by
  refine xK.of (Nat.le_of_ble_eq_true rfl) rfl ?_
  refine xK.run (q := (23, [(0, xm_r 0 i), (1, xm_i a), (2, xm_i b), (3, xm_i c), (4, xm_i (12 * a))], [xm_i (12 * a), xm_i (I 0 7 i), xm_i ((I 0 4 i) + ((I 0 7 i) * b))], xh_M I L, 0, 0)) 14 rfl ?_
  refine xK.icmp rfl (fun h1 => ?_) (fun h1 => ?_)
  · skip
    refine xK.run (q := (38, [(0, xm_r 0 i), (1, xm_i a), (2, xm_i b), (3, xm_i c), (4, xm_i (12 * a))], [xm_i (((I 0 4 i) + ((I 0 7 i) * b)) + ((12 * a) * c))], xh_M I L, 0, 0)) 4 rfl ?_
    rw [show xf_X0_heightGoingUp I L i a b c = (((I 0 4 i) + ((I 0 7 i) * b)) + ((12 * a) * c)) from by unfold xf_X0_heightGoingUp; rw [if_pos h1]]
    exact xK.ret rfl ⟨_, rfl, rfl⟩
  · skip
    refine xK.run (q := (38, [(0, xm_r 0 i), (1, xm_i a), (2, xm_i b), (3, xm_i c), (4, xm_i (12 * a))], [xm_i (((I 0 4 i) + ((I 0 7 i) * b)) + ((I 0 7 i) * c))], xh_M I L, 0, 0)) 6 rfl ?_
    rw [show xf_X0_heightGoingUp I L i a b c = (((I 0 4 i) + ((I 0 7 i) * b)) + ((I 0 7 i) * c)) from by unfold xf_X0_heightGoingUp; rw [if_neg h1]]
    exact xK.ret rfl ⟨_, rfl, rfl⟩
set_option linter.unusedVariables false in
def xf_X0_heightGoingDown (I : xh_I) (L : xh_L) (i : Nat) (a : Int32) (b : Int32) (c : Int32) : Int32 := if ((-12) * a) ≤ (I 0 7 i) then (((I 0 4 i) + ((I 0 7 i) * b)) + (((-12) * a) * c)) else (((I 0 4 i) + ((I 0 7 i) * b)) + ((I 0 7 i) * c))
set_option maxHeartbeats 4000000 in
set_option maxRecDepth 100000 in
theorem xd_X0_heightGoingDown (d : Nat) (I : xh_I) (L : xh_L) (i : Nat) (a : Int32) (b : Int32) (c : Int32) : xm_Do xp_pg (d + 1) 11 [xm_r 0 i, xm_i a, xm_i b, xm_i c] (xh_M I L) (some (xm_i (xf_X0_heightGoingDown I L i a b c))) (xh_M I L) 0 0 := by
  refine xK.of (Nat.le_of_ble_eq_true rfl) rfl ?_
  refine xK.run (q := (23, [(0, xm_r 0 i), (1, xm_i a), (2, xm_i b), (3, xm_i c), (4, xm_i ((-12) * a))], [xm_i ((-12) * a), xm_i (I 0 7 i), xm_i ((I 0 4 i) + ((I 0 7 i) * b))], xh_M I L, 0, 0)) 14 rfl ?_
  refine xK.icmp rfl (fun h1 => ?_) (fun h1 => ?_)
  · skip
    refine xK.run (q := (38, [(0, xm_r 0 i), (1, xm_i a), (2, xm_i b), (3, xm_i c), (4, xm_i ((-12) * a))], [xm_i (((I 0 4 i) + ((I 0 7 i) * b)) + (((-12) * a) * c))], xh_M I L, 0, 0)) 4 rfl ?_
    rw [show xf_X0_heightGoingDown I L i a b c = (((I 0 4 i) + ((I 0 7 i) * b)) + (((-12) * a) * c)) from by unfold xf_X0_heightGoingDown; rw [if_pos h1]]
    exact xK.ret rfl ⟨_, rfl, rfl⟩
  · skip
    refine xK.run (q := (38, [(0, xm_r 0 i), (1, xm_i a), (2, xm_i b), (3, xm_i c), (4, xm_i ((-12) * a))], [xm_i (((I 0 4 i) + ((I 0 7 i) * b)) + ((I 0 7 i) * c))], xh_M I L, 0, 0)) 6 rfl ?_
    rw [show xf_X0_heightGoingDown I L i a b c = (((I 0 4 i) + ((I 0 7 i) * b)) + ((I 0 7 i) * c)) from by unfold xf_X0_heightGoingDown; rw [if_neg h1]]
    exact xK.ret rfl ⟨_, rfl, rfl⟩
