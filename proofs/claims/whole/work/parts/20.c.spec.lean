/-! WHAT METHODS COMPUTE (by program) -/
set_option linter.unusedVariables false in
def xf_X1_enough1 (I : xh_I) (L : xh_L) (k : Nat) (u : Int32) (s : Int32) (t : Int32) : Int32 := if (xf_X1_parting I L k u 1 s t) < (xf_X2_wanted I L) then (if (xf_X1_parting I L k u 2 s t) < (xf_X2_wanted I L) then (if (xf_X1_parting I L k u 3 s t) < (xf_X2_wanted I L) then 4 else 3) else 2) else 1
set_option maxHeartbeats 4000000 in
set_option maxRecDepth 100000 in
theorem xd_X1_enough1 (d : Nat) (I : xh_I) (L : xh_L) (k : Nat) (u : Int32) (s : Int32) (t : Int32) : xm_Do xp_pg (d + 3) 38 [xm_r 1 k, xm_i u, xm_i 1, xm_i s, xm_i t] (xh_M I L) (some (xm_i (xf_X1_enough1 I L k u s t))) (xh_M I L) 0 0 := by
  refine xK.of (Nat.le_of_ble_eq_true rfl) rfl ?_
  refine xK.run (q := (6, [(0, xm_r 1 k), (1, xm_i u), (2, xm_i 1), (3, xm_i s), (4, xm_i t), (5, xm_i 1)], [xm_i 4, xm_i 1], xh_M I L, 0, 0)) 4 rfl ?_
  refine xK.icmp rfl (fun h9 => absurd h9 (by decide)) (fun _ => ?_)
  refine xK.run (q := (16, [(0, xm_r 1 k), (1, xm_i u), (2, xm_i 1), (3, xm_i s), (4, xm_i t), (5, xm_i 1)], [xm_i t, xm_i s, xm_i 1, xm_i u, xm_r 1 k], xh_M I L, 0, 0)) 5 rfl ?_
  refine xK.call [xm_r 1 k, xm_i u, xm_i 1, xm_i s, xm_i t] (xd_X1_parting d I L k u 1 s t) rfl rfl rfl (Or.inr ⟨_, _, rfl⟩) (Nat.le_of_ble_eq_true rfl) ?_
  refine xK.run (q := (23, [(0, xm_r 1 k), (1, xm_i u), (2, xm_i 1), (3, xm_i s), (4, xm_i t), (5, xm_i 1)], [xm_r 2 0, xm_i (xf_X1_parting I L k u 1 s t)], xh_M I L, 0, 0)) 2 rfl ?_
  refine xK.call [xm_r 2 0] (xd_X2_wanted (d + 1) I L) rfl rfl rfl (Or.inr ⟨_, _, rfl⟩) (Nat.le_of_ble_eq_true rfl) ?_
  refine xK.icmp rfl (fun h1 => ?_) (fun h1 => ?_)
  · skip
    refine xK.run (q := (6, [(0, xm_r 1 k), (1, xm_i u), (2, xm_i 1), (3, xm_i s), (4, xm_i t), (5, xm_i 2)], [xm_i 4, xm_i 2], xh_M I L, 0, 0)) 4 rfl ?_
    refine xK.icmp rfl (fun h9 => absurd h9 (by decide)) (fun _ => ?_)
    refine xK.run (q := (16, [(0, xm_r 1 k), (1, xm_i u), (2, xm_i 1), (3, xm_i s), (4, xm_i t), (5, xm_i 2)], [xm_i t, xm_i s, xm_i 2, xm_i u, xm_r 1 k], xh_M I L, 0, 0)) 5 rfl ?_
    refine xK.call [xm_r 1 k, xm_i u, xm_i 2, xm_i s, xm_i t] (xd_X1_parting d I L k u 2 s t) rfl rfl rfl (Or.inr ⟨_, _, rfl⟩) (Nat.le_of_ble_eq_true rfl) ?_
    refine xK.run (q := (23, [(0, xm_r 1 k), (1, xm_i u), (2, xm_i 1), (3, xm_i s), (4, xm_i t), (5, xm_i 2)], [xm_r 2 0, xm_i (xf_X1_parting I L k u 2 s t)], xh_M I L, 0, 0)) 2 rfl ?_
    refine xK.call [xm_r 2 0] (xd_X2_wanted (d + 1) I L) rfl rfl rfl (Or.inr ⟨_, _, rfl⟩) (Nat.le_of_ble_eq_true rfl) ?_
    refine xK.icmp rfl (fun h2 => ?_) (fun h2 => ?_)
    · skip
      refine xK.run (q := (6, [(0, xm_r 1 k), (1, xm_i u), (2, xm_i 1), (3, xm_i s), (4, xm_i t), (5, xm_i 3)], [xm_i 4, xm_i 3], xh_M I L, 0, 0)) 4 rfl ?_
      refine xK.icmp rfl (fun h9 => absurd h9 (by decide)) (fun _ => ?_)
      refine xK.run (q := (16, [(0, xm_r 1 k), (1, xm_i u), (2, xm_i 1), (3, xm_i s), (4, xm_i t), (5, xm_i 3)], [xm_i t, xm_i s, xm_i 3, xm_i u, xm_r 1 k], xh_M I L, 0, 0)) 5 rfl ?_
      refine xK.call [xm_r 1 k, xm_i u, xm_i 3, xm_i s, xm_i t] (xd_X1_parting d I L k u 3 s t) rfl rfl rfl (Or.inr ⟨_, _, rfl⟩) (Nat.le_of_ble_eq_true rfl) ?_
      refine xK.run (q := (23, [(0, xm_r 1 k), (1, xm_i u), (2, xm_i 1), (3, xm_i s), (4, xm_i t), (5, xm_i 3)], [xm_r 2 0, xm_i (xf_X1_parting I L k u 3 s t)], xh_M I L, 0, 0)) 2 rfl ?_
      refine xK.call [xm_r 2 0] (xd_X2_wanted (d + 1) I L) rfl rfl rfl (Or.inr ⟨_, _, rfl⟩) (Nat.le_of_ble_eq_true rfl) ?_
      refine xK.icmp rfl (fun h3 => ?_) (fun h3 => ?_)
      · skip
        refine xK.run (q := (6, [(0, xm_r 1 k), (1, xm_i u), (2, xm_i 1), (3, xm_i s), (4, xm_i t), (5, xm_i 4)], [xm_i 4, xm_i 4], xh_M I L, 0, 0)) 4 rfl ?_
        refine xK.icmp rfl (fun _ => ?_) (fun h9 => absurd (by decide) h9)
        refine xK.run (q := (39, [(0, xm_r 1 k), (1, xm_i u), (2, xm_i 1), (3, xm_i s), (4, xm_i t), (5, xm_i 4)], [xm_i 4], xh_M I L, 0, 0)) 1 rfl ?_
        rw [show xf_X1_enough1 I L k u s t = 4 from by unfold xf_X1_enough1; rw [if_pos h1, if_pos h2, if_pos h3]]
        exact xK.ret rfl ⟨_, rfl, rfl⟩
      · skip
        refine xK.run (q := (31, [(0, xm_r 1 k), (1, xm_i u), (2, xm_i 1), (3, xm_i s), (4, xm_i t), (5, xm_i 3)], [xm_i 3], xh_M I L, 0, 0)) 1 rfl ?_
        rw [show xf_X1_enough1 I L k u s t = 3 from by unfold xf_X1_enough1; rw [if_pos h1, if_pos h2, if_neg h3]]
        exact xK.ret rfl ⟨_, rfl, rfl⟩
    · skip
      refine xK.run (q := (31, [(0, xm_r 1 k), (1, xm_i u), (2, xm_i 1), (3, xm_i s), (4, xm_i t), (5, xm_i 2)], [xm_i 2], xh_M I L, 0, 0)) 1 rfl ?_
      rw [show xf_X1_enough1 I L k u s t = 2 from by unfold xf_X1_enough1; rw [if_pos h1, if_neg h2]]
      exact xK.ret rfl ⟨_, rfl, rfl⟩
  · skip
    refine xK.run (q := (31, [(0, xm_r 1 k), (1, xm_i u), (2, xm_i 1), (3, xm_i s), (4, xm_i t), (5, xm_i 1)], [xm_i 1], xh_M I L, 0, 0)) 1 rfl ?_
    rw [show xf_X1_enough1 I L k u s t = 1 from by unfold xf_X1_enough1; rw [if_neg h1]]
    exact xK.ret rfl ⟨_, rfl, rfl⟩
set_option linter.unusedVariables false in
def xf_X1_enough2 (I : xh_I) (L : xh_L) (k : Nat) (u : Int32) (s : Int32) (t : Int32) : Int32 := if (xf_X1_parting I L k u 2 s t) < (xf_X2_wanted I L) then (if (xf_X1_parting I L k u 3 s t) < (xf_X2_wanted I L) then 4 else 3) else 2
set_option maxHeartbeats 4000000 in
set_option maxRecDepth 100000 in
theorem xd_X1_enough2 (d : Nat) (I : xh_I) (L : xh_L) (k : Nat) (u : Int32) (s : Int32) (t : Int32) : xm_Do xp_pg (d + 3) 38 [xm_r 1 k, xm_i u, xm_i 2, xm_i s, xm_i t] (xh_M I L) (some (xm_i (xf_X1_enough2 I L k u s t))) (xh_M I L) 0 0 := by
  refine xK.of (Nat.le_of_ble_eq_true rfl) rfl ?_
  refine xK.run (q := (6, [(0, xm_r 1 k), (1, xm_i u), (2, xm_i 2), (3, xm_i s), (4, xm_i t), (5, xm_i 2)], [xm_i 4, xm_i 2], xh_M I L, 0, 0)) 4 rfl ?_
  refine xK.icmp rfl (fun h9 => absurd h9 (by decide)) (fun _ => ?_)
  refine xK.run (q := (16, [(0, xm_r 1 k), (1, xm_i u), (2, xm_i 2), (3, xm_i s), (4, xm_i t), (5, xm_i 2)], [xm_i t, xm_i s, xm_i 2, xm_i u, xm_r 1 k], xh_M I L, 0, 0)) 5 rfl ?_
  refine xK.call [xm_r 1 k, xm_i u, xm_i 2, xm_i s, xm_i t] (xd_X1_parting d I L k u 2 s t) rfl rfl rfl (Or.inr ⟨_, _, rfl⟩) (Nat.le_of_ble_eq_true rfl) ?_
  refine xK.run (q := (23, [(0, xm_r 1 k), (1, xm_i u), (2, xm_i 2), (3, xm_i s), (4, xm_i t), (5, xm_i 2)], [xm_r 2 0, xm_i (xf_X1_parting I L k u 2 s t)], xh_M I L, 0, 0)) 2 rfl ?_
  refine xK.call [xm_r 2 0] (xd_X2_wanted (d + 1) I L) rfl rfl rfl (Or.inr ⟨_, _, rfl⟩) (Nat.le_of_ble_eq_true rfl) ?_
  refine xK.icmp rfl (fun h1 => ?_) (fun h1 => ?_)
  · skip
    refine xK.run (q := (6, [(0, xm_r 1 k), (1, xm_i u), (2, xm_i 2), (3, xm_i s), (4, xm_i t), (5, xm_i 3)], [xm_i 4, xm_i 3], xh_M I L, 0, 0)) 4 rfl ?_
    refine xK.icmp rfl (fun h9 => absurd h9 (by decide)) (fun _ => ?_)
    refine xK.run (q := (16, [(0, xm_r 1 k), (1, xm_i u), (2, xm_i 2), (3, xm_i s), (4, xm_i t), (5, xm_i 3)], [xm_i t, xm_i s, xm_i 3, xm_i u, xm_r 1 k], xh_M I L, 0, 0)) 5 rfl ?_
    refine xK.call [xm_r 1 k, xm_i u, xm_i 3, xm_i s, xm_i t] (xd_X1_parting d I L k u 3 s t) rfl rfl rfl (Or.inr ⟨_, _, rfl⟩) (Nat.le_of_ble_eq_true rfl) ?_
    refine xK.run (q := (23, [(0, xm_r 1 k), (1, xm_i u), (2, xm_i 2), (3, xm_i s), (4, xm_i t), (5, xm_i 3)], [xm_r 2 0, xm_i (xf_X1_parting I L k u 3 s t)], xh_M I L, 0, 0)) 2 rfl ?_
    refine xK.call [xm_r 2 0] (xd_X2_wanted (d + 1) I L) rfl rfl rfl (Or.inr ⟨_, _, rfl⟩) (Nat.le_of_ble_eq_true rfl) ?_
    refine xK.icmp rfl (fun h2 => ?_) (fun h2 => ?_)
    · skip
      refine xK.run (q := (6, [(0, xm_r 1 k), (1, xm_i u), (2, xm_i 2), (3, xm_i s), (4, xm_i t), (5, xm_i 4)], [xm_i 4, xm_i 4], xh_M I L, 0, 0)) 4 rfl ?_
      refine xK.icmp rfl (fun _ => ?_) (fun h9 => absurd (by decide) h9)
      refine xK.run (q := (39, [(0, xm_r 1 k), (1, xm_i u), (2, xm_i 2), (3, xm_i s), (4, xm_i t), (5, xm_i 4)], [xm_i 4], xh_M I L, 0, 0)) 1 rfl ?_
      rw [show xf_X1_enough2 I L k u s t = 4 from by unfold xf_X1_enough2; rw [if_pos h1, if_pos h2]]
      exact xK.ret rfl ⟨_, rfl, rfl⟩
    · skip
      refine xK.run (q := (31, [(0, xm_r 1 k), (1, xm_i u), (2, xm_i 2), (3, xm_i s), (4, xm_i t), (5, xm_i 3)], [xm_i 3], xh_M I L, 0, 0)) 1 rfl ?_
      rw [show xf_X1_enough2 I L k u s t = 3 from by unfold xf_X1_enough2; rw [if_pos h1, if_neg h2]]
      exact xK.ret rfl ⟨_, rfl, rfl⟩
  · skip
    refine xK.run (q := (31, [(0, xm_r 1 k), (1, xm_i u), (2, xm_i 2), (3, xm_i s), (4, xm_i t), (5, xm_i 2)], [xm_i 2], xh_M I L, 0, 0)) 1 rfl ?_
    rw [show xf_X1_enough2 I L k u s t = 2 from by unfold xf_X1_enough2; rw [if_neg h1]]
    exact xK.ret rfl ⟨_, rfl, rfl⟩
set_option linter.unusedVariables false in
def xf_X1_enough3 (I : xh_I) (L : xh_L) (k : Nat) (u : Int32) (s : Int32) (t : Int32) : Int32 := if (xf_X1_parting I L k u 3 s t) < (xf_X2_wanted I L) then 4 else 3
set_option maxHeartbeats 4000000 in
set_option maxRecDepth 100000 in
theorem xd_X1_enough3 (d : Nat) (I : xh_I) (L : xh_L) (k : Nat) (u : Int32) (s : Int32) (t : Int32) : xm_Do xp_pg (d + 3) 38 [xm_r 1 k, xm_i u, xm_i 3, xm_i s, xm_i t] (xh_M I L) (some (xm_i (xf_X1_enough3 I L k u s t))) (xh_M I L) 0 0 := by
  refine xK.of (Nat.le_of_ble_eq_true rfl) rfl ?_
  refine xK.run (q := (6, [(0, xm_r 1 k), (1, xm_i u), (2, xm_i 3), (3, xm_i s), (4, xm_i t), (5, xm_i 3)], [xm_i 4, xm_i 3], xh_M I L, 0, 0)) 4 rfl ?_
  refine xK.icmp rfl (fun h9 => absurd h9 (by decide)) (fun _ => ?_)
  refine xK.run (q := (16, [(0, xm_r 1 k), (1, xm_i u), (2, xm_i 3), (3, xm_i s), (4, xm_i t), (5, xm_i 3)], [xm_i t, xm_i s, xm_i 3, xm_i u, xm_r 1 k], xh_M I L, 0, 0)) 5 rfl ?_
  refine xK.call [xm_r 1 k, xm_i u, xm_i 3, xm_i s, xm_i t] (xd_X1_parting d I L k u 3 s t) rfl rfl rfl (Or.inr ⟨_, _, rfl⟩) (Nat.le_of_ble_eq_true rfl) ?_
  refine xK.run (q := (23, [(0, xm_r 1 k), (1, xm_i u), (2, xm_i 3), (3, xm_i s), (4, xm_i t), (5, xm_i 3)], [xm_r 2 0, xm_i (xf_X1_parting I L k u 3 s t)], xh_M I L, 0, 0)) 2 rfl ?_
  refine xK.call [xm_r 2 0] (xd_X2_wanted (d + 1) I L) rfl rfl rfl (Or.inr ⟨_, _, rfl⟩) (Nat.le_of_ble_eq_true rfl) ?_
  refine xK.icmp rfl (fun h1 => ?_) (fun h1 => ?_)
  · skip
    refine xK.run (q := (6, [(0, xm_r 1 k), (1, xm_i u), (2, xm_i 3), (3, xm_i s), (4, xm_i t), (5, xm_i 4)], [xm_i 4, xm_i 4], xh_M I L, 0, 0)) 4 rfl ?_
    refine xK.icmp rfl (fun _ => ?_) (fun h9 => absurd (by decide) h9)
    refine xK.run (q := (39, [(0, xm_r 1 k), (1, xm_i u), (2, xm_i 3), (3, xm_i s), (4, xm_i t), (5, xm_i 4)], [xm_i 4], xh_M I L, 0, 0)) 1 rfl ?_
    rw [show xf_X1_enough3 I L k u s t = 4 from by unfold xf_X1_enough3; rw [if_pos h1]]
    exact xK.ret rfl ⟨_, rfl, rfl⟩
  · skip
    refine xK.run (q := (31, [(0, xm_r 1 k), (1, xm_i u), (2, xm_i 3), (3, xm_i s), (4, xm_i t), (5, xm_i 3)], [xm_i 3], xh_M I L, 0, 0)) 1 rfl ?_
    rw [show xf_X1_enough3 I L k u s t = 3 from by unfold xf_X1_enough3; rw [if_neg h1]]
    exact xK.ret rfl ⟨_, rfl, rfl⟩
set_option linter.unusedVariables false in
def xf_X1_enough4 (I : xh_I) (L : xh_L) (k : Nat) (u : Int32) (s : Int32) (t : Int32) : Int32 := 4
set_option maxHeartbeats 4000000 in
set_option maxRecDepth 100000 in
theorem xd_X1_enough4 (d : Nat) (I : xh_I) (L : xh_L) (k : Nat) (u : Int32) (s : Int32) (t : Int32) : xm_Do xp_pg (d + 1) 38 [xm_r 1 k, xm_i u, xm_i 4, xm_i s, xm_i t] (xh_M I L) (some (xm_i (xf_X1_enough4 I L k u s t))) (xh_M I L) 0 0 := by
  refine xK.of (Nat.le_of_ble_eq_true rfl) rfl ?_
  refine xK.run (q := (6, [(0, xm_r 1 k), (1, xm_i u), (2, xm_i 4), (3, xm_i s), (4, xm_i t), (5, xm_i 4)], [xm_i 4, xm_i 4], xh_M I L, 0, 0)) 4 rfl ?_
  refine xK.icmp rfl (fun _ => ?_) (fun h9 => absurd (by decide) h9)
  refine xK.run (q := (39, [(0, xm_r 1 k), (1, xm_i u), (2, xm_i 4), (3, xm_i s), (4, xm_i t), (5, xm_i 4)], [xm_i 4], xh_M I L, 0, 0)) 1 rfl ?_
  exact xK.ret rfl ⟨_, rfl, rfl⟩
def xf_X1_enough (I : xh_I) (L : xh_L) (k : Nat) (u f s t : Int32) : Int32 := if f = 1 then xf_X1_enough1 I L k u s t else if f = 2 then xf_X1_enough2 I L k u s t else if f = 3 then xf_X1_enough3 I L k u s t else xf_X1_enough4 I L k u s t
theorem xd_X1_enough (d : Nat) (I : xh_I) (L : xh_L) (k : Nat) (u f s t : Int32) (hf : f = 1 ∨ f = 2 ∨ f = 3 ∨ f = 4) : xm_Do xp_pg (d + 3) 38 [xm_r 1 k, xm_i u, xm_i f, xm_i s, xm_i t] (xh_M I L) (some (xm_i (xf_X1_enough I L k u f s t))) (xh_M I L) 0 0 := by
  rcases hf with rfl | rfl | rfl | rfl
  · exact xd_X1_enough1 d I L k u s t
  · exact xd_X1_enough2 d I L k u s t
  · exact xd_X1_enough3 d I L k u s t
  · exact xd_X1_enough4 (d + 2) I L k u s t
set_option linter.unusedVariables false in
def xf_X1_mustTurn (I : xh_I) (L : xh_L) (k : Nat) (t : Int32) : Int32 := if (I 1 8 k) = 0 then (if t ≤ (xf_X2_delay I L) then 0 else (if 0 ≤ (xf_X1_parting I L k (I 1 6 k) 4 (I 1 7 k) t) then 0 else (if (I 1 6 k) = 0 then (if (xf_X1_parting I L k 1 4 0 t) < (xf_X2_wanted I L) then 0 else 1) else (if (xf_X1_parting I L k 0 4 0 t) < (xf_X2_wanted I L) then 0 else 1)))) else 0
set_option maxHeartbeats 4000000 in
set_option maxRecDepth 100000 in
theorem xd_X1_mustTurn (d : Nat) (I : xh_I) (L : xh_L) (k : Nat) (t : Int32) : xm_Do xp_pg (d + 3) 24 [xm_r 1 k, xm_i t] (xh_M I L) (some (xm_i (xf_X1_mustTurn I L k t))) (xh_M I L) 0 0 := by
  refine xK.of (Nat.le_of_ble_eq_true rfl) rfl ?_
  refine xK.run (q := (4, [(0, xm_r 1 k), (1, xm_i t)], [xm_i (I 1 8 k)], xh_M I L, 0, 0)) 2 rfl ?_
  refine xK.ifN rfl (fun h1 => ?_) (fun h1 => ?_)
  · skip
    refine xK.run (q := (12, [(0, xm_r 1 k), (1, xm_i t)], [xm_r 2 0, xm_i t], xh_M I L, 0, 0)) 3 rfl ?_
    refine xK.call [xm_r 2 0] (xd_X2_delay (d + 1) I L) rfl rfl rfl (Or.inr ⟨_, _, rfl⟩) (Nat.le_of_ble_eq_true rfl) ?_
    refine xK.icmp rfl (fun h2 => ?_) (fun h2 => ?_)
    · skip
      refine xK.run (q := (69, [(0, xm_r 1 k), (1, xm_i t)], [xm_i 0], xh_M I L, 0, 0)) 1 rfl ?_
      rw [show xf_X1_mustTurn I L k t = 0 from by unfold xf_X1_mustTurn; rw [if_pos h1, if_pos h2]]
      exact xK.ret rfl ⟨_, (Or.inl rfl), rfl, rfl⟩
    · skip
      refine xK.run (q := (29, [(0, xm_r 1 k), (1, xm_i t)], [xm_i t, xm_i (I 1 7 k), xm_i 4, xm_i (I 1 6 k), xm_r 1 k], xh_M I L, 0, 0)) 7 rfl ?_
      refine xK.call [xm_r 1 k, xm_i (I 1 6 k), xm_i 4, xm_i (I 1 7 k), xm_i t] (xd_X1_parting d I L k (I 1 6 k) 4 (I 1 7 k) t) rfl rfl rfl (Or.inr ⟨_, _, rfl⟩) (Nat.le_of_ble_eq_true rfl) ?_
      refine xK.ifI rfl (fun h3 => ?_) (fun h3 => ?_)
      · skip
        refine xK.run (q := (69, [(0, xm_r 1 k), (1, xm_i t)], [xm_i 0], xh_M I L, 0, 0)) 1 rfl ?_
        rw [show xf_X1_mustTurn I L k t = 0 from by unfold xf_X1_mustTurn; rw [if_pos h1, if_neg h2, if_pos h3]]
        exact xK.ret rfl ⟨_, (Or.inl rfl), rfl, rfl⟩
      · skip
        refine xK.run (q := (40, [(0, xm_r 1 k), (1, xm_i t)], [xm_i (I 1 6 k), xm_r 1 k], xh_M I L, 0, 0)) 3 rfl ?_
        refine xK.ifN rfl (fun h4 => ?_) (fun h4 => ?_)
        · skip
          refine xK.run (q := (51, [(0, xm_r 1 k), (1, xm_i t)], [xm_i t, xm_i 0, xm_i 4, xm_i 1, xm_r 1 k], xh_M I L, 0, 0)) 5 rfl ?_
          refine xK.call [xm_r 1 k, xm_i 1, xm_i 4, xm_i 0, xm_i t] (xd_X1_parting d I L k 1 4 0 t) rfl rfl rfl (Or.inr ⟨_, _, rfl⟩) (Nat.le_of_ble_eq_true rfl) ?_
          refine xK.run (q := (58, [(0, xm_r 1 k), (1, xm_i t)], [xm_r 2 0, xm_i (xf_X1_parting I L k 1 4 0 t)], xh_M I L, 0, 0)) 2 rfl ?_
          refine xK.call [xm_r 2 0] (xd_X2_wanted (d + 1) I L) rfl rfl rfl (Or.inr ⟨_, _, rfl⟩) (Nat.le_of_ble_eq_true rfl) ?_
          refine xK.icmp rfl (fun h5 => ?_) (fun h5 => ?_)
          · skip
            refine xK.run (q := (69, [(0, xm_r 1 k), (1, xm_i t)], [xm_i 0], xh_M I L, 0, 0)) 1 rfl ?_
            rw [show xf_X1_mustTurn I L k t = 0 from by unfold xf_X1_mustTurn; rw [if_pos h1, if_neg h2, if_neg h3, if_pos h4, if_pos h5]]
            exact xK.ret rfl ⟨_, (Or.inl rfl), rfl, rfl⟩
          · skip
            refine xK.run (q := (69, [(0, xm_r 1 k), (1, xm_i t)], [xm_i 1], xh_M I L, 0, 0)) 2 rfl ?_
            rw [show xf_X1_mustTurn I L k t = 1 from by unfold xf_X1_mustTurn; rw [if_pos h1, if_neg h2, if_neg h3, if_pos h4, if_neg h5]]
            exact xK.ret rfl ⟨_, (Or.inr rfl), rfl, rfl⟩
        · skip
          refine xK.run (q := (51, [(0, xm_r 1 k), (1, xm_i t)], [xm_i t, xm_i 0, xm_i 4, xm_i 0, xm_r 1 k], xh_M I L, 0, 0)) 4 rfl ?_
          refine xK.call [xm_r 1 k, xm_i 0, xm_i 4, xm_i 0, xm_i t] (xd_X1_parting d I L k 0 4 0 t) rfl rfl rfl (Or.inr ⟨_, _, rfl⟩) (Nat.le_of_ble_eq_true rfl) ?_
          refine xK.run (q := (58, [(0, xm_r 1 k), (1, xm_i t)], [xm_r 2 0, xm_i (xf_X1_parting I L k 0 4 0 t)], xh_M I L, 0, 0)) 2 rfl ?_
          refine xK.call [xm_r 2 0] (xd_X2_wanted (d + 1) I L) rfl rfl rfl (Or.inr ⟨_, _, rfl⟩) (Nat.le_of_ble_eq_true rfl) ?_
          refine xK.icmp rfl (fun h6 => ?_) (fun h6 => ?_)
          · skip
            refine xK.run (q := (69, [(0, xm_r 1 k), (1, xm_i t)], [xm_i 0], xh_M I L, 0, 0)) 1 rfl ?_
            rw [show xf_X1_mustTurn I L k t = 0 from by unfold xf_X1_mustTurn; rw [if_pos h1, if_neg h2, if_neg h3, if_neg h4, if_pos h6]]
            exact xK.ret rfl ⟨_, (Or.inl rfl), rfl, rfl⟩
          · skip
            refine xK.run (q := (69, [(0, xm_r 1 k), (1, xm_i t)], [xm_i 1], xh_M I L, 0, 0)) 2 rfl ?_
            rw [show xf_X1_mustTurn I L k t = 1 from by unfold xf_X1_mustTurn; rw [if_pos h1, if_neg h2, if_neg h3, if_neg h4, if_neg h6]]
            exact xK.ret rfl ⟨_, (Or.inr rfl), rfl, rfl⟩
  · skip
    refine xK.run (q := (69, [(0, xm_r 1 k), (1, xm_i t)], [xm_i 0], xh_M I L, 0, 0)) 1 rfl ?_
    rw [show xf_X1_mustTurn I L k t = 0 from by unfold xf_X1_mustTurn; rw [if_neg h1]]
    exact xK.ret rfl ⟨_, (Or.inl rfl), rfl, rfl⟩
theorem xz_X1_mustTurn (I : xh_I) (L : xh_L) (k : Nat) (t : Int32) : xf_X1_mustTurn I L k t = 0 ∨ xf_X1_mustTurn I L k t = 1 := by
  unfold xf_X1_mustTurn
  (repeat' split) <;> first | exact Or.inl rfl | exact Or.inr rfl
set_option linter.unusedVariables false in
def xfI_X1_takeSense (I : xh_I) (L : xh_L) (k : Nat) (t : Int32) (e : Int32) : xh_I := (xm_up (xm_up (xm_up I 1 6 k t) 1 7 k 0) 1 10 k (xf_X1_enough1 (xm_up (xm_up I 1 6 k t) 1 7 k 0) L k t 0 e))
set_option maxHeartbeats 4000000 in
set_option maxRecDepth 100000 in
theorem xd_X1_takeSense (d : Nat) (I : xh_I) (L : xh_L) (k : Nat) (t : Int32) (hzt : t = 0 ∨ t = 1) (e : Int32) : xm_Do xp_pg (d + 4) 22 [xm_r 1 k, xm_i t, xm_i e] (xh_M I L) none (xh_M (xfI_X1_takeSense I L k t e) L) 0 0 := by
  refine xK.of (Nat.le_of_ble_eq_true rfl) rfl ?_
  refine xK.run (q := (2, [(0, xm_r 1 k), (1, xm_i t), (2, xm_i e)], [xm_i t, xm_r 1 k], xh_M I L, 0, 0)) 2 rfl ?_
  refine xK.putZ rfl hzt ?_
  refine xK.run (q := (16, [(0, xm_r 1 k), (1, xm_i t), (2, xm_i e)], [xm_i e, xm_i 0, xm_i 1, xm_i t, xm_r 1 k, xm_r 1 k], xh_M (xm_up (xm_up I 1 6 k t) 1 7 k 0) L, 0, 0)) 9 rfl ?_
  refine xK.call [xm_r 1 k, xm_i t, xm_i 1, xm_i 0, xm_i e] (xd_X1_enough1 d (xm_up (xm_up I 1 6 k t) 1 7 k 0) L k t 0 e) rfl rfl rfl (Or.inr ⟨_, _, rfl⟩) (Nat.le_of_ble_eq_true rfl) ?_
  refine xK.run (q := (22, [(0, xm_r 1 k), (1, xm_i t), (2, xm_i e)], [], xh_M (xm_up (xm_up (xm_up I 1 6 k t) 1 7 k 0) 1 10 k (xf_X1_enough1 (xm_up (xm_up I 1 6 k t) 1 7 k 0) L k t 0 e)) L, 0, 0)) 1 rfl ?_
  exact xK.ret rfl ⟨rfl, rfl⟩
set_option linter.unusedVariables false in
def xfI_X1_strengthen (I : xh_I) (L : xh_L) (k : Nat) (t : Int32) : xh_I := if (xf_X1_enough I L k (I 1 6 k) (I 1 10 k) (I 1 7 k) t) ≤ (I 1 10 k) then I else (xm_up (xm_up I 1 10 k (xf_X1_enough I L k (I 1 6 k) (I 1 10 k) (I 1 7 k) t)) 3 2 0 ((I 3 2 0) + 1))
set_option maxHeartbeats 4000000 in
set_option maxRecDepth 100000 in
theorem xd_X1_strengthen (d : Nat) (I : xh_I) (L : xh_L) (k : Nat) (t : Int32) (hf : I 1 10 k = 1 ∨ I 1 10 k = 2 ∨ I 1 10 k = 3 ∨ I 1 10 k = 4) : xm_Do xp_pg (d + 4) 23 [xm_r 1 k, xm_i t] (xh_M I L) none (xh_M (xfI_X1_strengthen I L k t) L) 0 0 := by
  refine xK.of (Nat.le_of_ble_eq_true rfl) rfl ?_
  refine xK.run (q := (14, [(0, xm_r 1 k), (1, xm_i t)], [xm_i t, xm_i (I 1 7 k), xm_i (I 1 10 k), xm_i (I 1 6 k), xm_r 1 k], xh_M I L, 0, 0)) 8 rfl ?_
  refine xK.call [xm_r 1 k, xm_i (I 1 6 k), xm_i (I 1 10 k), xm_i (I 1 7 k), xm_i t] (xd_X1_enough d I L k (I 1 6 k) (I 1 10 k) (I 1 7 k) t hf) rfl rfl rfl (Or.inr ⟨_, _, rfl⟩) (Nat.le_of_ble_eq_true rfl) ?_
  refine xK.run (q := (23, [(0, xm_r 1 k), (1, xm_i t), (2, xm_i (xf_X1_enough I L k (I 1 6 k) (I 1 10 k) (I 1 7 k) t))], [xm_i (I 1 10 k), xm_i (xf_X1_enough I L k (I 1 6 k) (I 1 10 k) (I 1 7 k) t)], xh_M I L, 0, 0)) 4 rfl ?_
  refine xK.icmp rfl (fun h1 => ?_) (fun h1 => ?_)
  · skip
    rw [show xfI_X1_strengthen I L k t = I from by unfold xfI_X1_strengthen; rw [if_pos h1]]
    exact xK.ret rfl ⟨rfl, rfl⟩
  · skip
    refine xK.run (q := (44, [(0, xm_r 1 k), (1, xm_i t), (2, xm_i (xf_X1_enough I L k (I 1 6 k) (I 1 10 k) (I 1 7 k) t))], [], xh_M (xm_up (xm_up I 1 10 k (xf_X1_enough I L k (I 1 6 k) (I 1 10 k) (I 1 7 k) t)) 3 2 0 ((I 3 2 0) + 1)) L, 0, 0)) 10 rfl ?_
    rw [show xfI_X1_strengthen I L k t = (xm_up (xm_up I 1 10 k (xf_X1_enough I L k (I 1 6 k) (I 1 10 k) (I 1 7 k) t)) 3 2 0 ((I 3 2 0) + 1)) from by unfold xfI_X1_strengthen; rw [if_neg h1]]
    exact xK.ret rfl ⟨rfl, rfl⟩
set_option linter.unusedVariables false in
def xf_X1_chosenSense (I : xh_I) (L : xh_L) (k : Nat) (t : Int32) : Int32 := if (xf_X1_enough1 I L k 1 0 t) = (xf_X1_enough1 I L k 0 0 t) then (if (xf_X1_parting I L k 1 (xf_X1_enough1 I L k 1 0 t) 0 t) = (xf_X1_parting I L k 0 (xf_X1_enough1 I L k 0 0 t) 0 t) then (if (I 0 4 (xh_lo k)) < (I 0 4 (xh_hi k)) then 0 else 1) else (if (xf_X1_parting I L k 1 (xf_X1_enough1 I L k 1 0 t) 0 t) ≤ (xf_X1_parting I L k 0 (xf_X1_enough1 I L k 0 0 t) 0 t) then 0 else 1)) else (if (xf_X1_enough1 I L k 0 0 t) ≤ (xf_X1_enough1 I L k 1 0 t) then 0 else 1)
set_option maxHeartbeats 4000000 in
set_option maxRecDepth 100000 in
theorem xd_X1_chosenSense (d : Nat) (I : xh_I) (L : xh_L) (k : Nat) (t : Int32) : xm_Do xp_pg (d + 4) 39 [xm_r 1 k, xm_i t] (xh_M I L) (some (xm_i (xf_X1_chosenSense I L k t))) (xh_M I L) 0 0 := by
  refine xK.of (Nat.le_of_ble_eq_true rfl) rfl ?_
  refine xK.run (q := (5, [(0, xm_r 1 k), (1, xm_i t)], [xm_i t, xm_i 0, xm_i 1, xm_i 1, xm_r 1 k], xh_M I L, 0, 0)) 5 rfl ?_
  refine xK.call [xm_r 1 k, xm_i 1, xm_i 1, xm_i 0, xm_i t] (xd_X1_enough1 d I L k 1 0 t) rfl rfl rfl (Or.inr ⟨_, _, rfl⟩) (Nat.le_of_ble_eq_true rfl) ?_
  refine xK.run (q := (14, [(0, xm_r 1 k), (1, xm_i t), (2, xm_i (xf_X1_enough1 I L k 1 0 t))], [xm_i t, xm_i 0, xm_i 1, xm_i 0, xm_r 1 k], xh_M I L, 0, 0)) 6 rfl ?_
  refine xK.call [xm_r 1 k, xm_i 0, xm_i 1, xm_i 0, xm_i t] (xd_X1_enough1 d I L k 0 0 t) rfl rfl rfl (Or.inr ⟨_, _, rfl⟩) (Nat.le_of_ble_eq_true rfl) ?_
  refine xK.run (q := (20, [(0, xm_r 1 k), (1, xm_i t), (2, xm_i (xf_X1_enough1 I L k 1 0 t)), (3, xm_i (xf_X1_enough1 I L k 0 0 t))], [xm_i (xf_X1_enough1 I L k 0 0 t), xm_i (xf_X1_enough1 I L k 1 0 t)], xh_M I L, 0, 0)) 3 rfl ?_
  refine xK.icmp rfl (fun h1 => ?_) (fun h1 => ?_)
  · skip
    refine xK.run (q := (39, [(0, xm_r 1 k), (1, xm_i t), (2, xm_i (xf_X1_enough1 I L k 1 0 t)), (3, xm_i (xf_X1_enough1 I L k 0 0 t))], [xm_i t, xm_i 0, xm_i (xf_X1_enough1 I L k 1 0 t), xm_i 1, xm_r 1 k], xh_M I L, 0, 0)) 5 rfl ?_
    refine xK.call [xm_r 1 k, xm_i 1, xm_i (xf_X1_enough1 I L k 1 0 t), xm_i 0, xm_i t] (xd_X1_parting (d + 1) I L k 1 (xf_X1_enough1 I L k 1 0 t) 0 t) rfl rfl rfl (Or.inr ⟨_, _, rfl⟩) (Nat.le_of_ble_eq_true rfl) ?_
    refine xK.run (q := (49, [(0, xm_r 1 k), (1, xm_i t), (2, xm_i (xf_X1_enough1 I L k 1 0 t)), (3, xm_i (xf_X1_enough1 I L k 0 0 t)), (4, xm_i (xf_X1_parting I L k 1 (xf_X1_enough1 I L k 1 0 t) 0 t))], [xm_i t, xm_i 0, xm_i (xf_X1_enough1 I L k 0 0 t), xm_i 0, xm_r 1 k], xh_M I L, 0, 0)) 6 rfl ?_
    refine xK.call [xm_r 1 k, xm_i 0, xm_i (xf_X1_enough1 I L k 0 0 t), xm_i 0, xm_i t] (xd_X1_parting (d + 1) I L k 0 (xf_X1_enough1 I L k 0 0 t) 0 t) rfl rfl rfl (Or.inr ⟨_, _, rfl⟩) (Nat.le_of_ble_eq_true rfl) ?_
    refine xK.run (q := (58, [(0, xm_r 1 k), (1, xm_i t), (2, xm_i (xf_X1_enough1 I L k 1 0 t)), (3, xm_i (xf_X1_enough1 I L k 0 0 t)), (4, xm_i (xf_X1_parting I L k 1 (xf_X1_enough1 I L k 1 0 t) 0 t)), (5, xm_i (xf_X1_parting I L k 0 (xf_X1_enough1 I L k 0 0 t) 0 t))], [xm_i (xf_X1_parting I L k 0 (xf_X1_enough1 I L k 0 0 t) 0 t), xm_i (xf_X1_parting I L k 1 (xf_X1_enough1 I L k 1 0 t) 0 t)], xh_M I L, 0, 0)) 3 rfl ?_
    refine xK.icmp rfl (fun h2 => ?_) (fun h2 => ?_)
    · skip
      refine xK.run (q := (88, [(0, xm_r 1 k), (1, xm_i t), (2, xm_i (xf_X1_enough1 I L k 1 0 t)), (3, xm_i (xf_X1_enough1 I L k 0 0 t)), (4, xm_i (xf_X1_parting I L k 1 (xf_X1_enough1 I L k 1 0 t) 0 t)), (5, xm_i (xf_X1_parting I L k 0 (xf_X1_enough1 I L k 0 0 t) 0 t))], [xm_i (I 0 4 (xh_hi k)), xm_i (I 0 4 (xh_lo k))], xh_M I L, 0, 0)) 6 rfl ?_
      refine xK.icmp rfl (fun h3 => ?_) (fun h3 => ?_)
      · skip
        refine xK.run (q := (96, [(0, xm_r 1 k), (1, xm_i t), (2, xm_i (xf_X1_enough1 I L k 1 0 t)), (3, xm_i (xf_X1_enough1 I L k 0 0 t)), (4, xm_i (xf_X1_parting I L k 1 (xf_X1_enough1 I L k 1 0 t) 0 t)), (5, xm_i (xf_X1_parting I L k 0 (xf_X1_enough1 I L k 0 0 t) 0 t))], [xm_i 0], xh_M I L, 0, 0)) 1 rfl ?_
        rw [show xf_X1_chosenSense I L k t = 0 from by unfold xf_X1_chosenSense; rw [if_pos h1, if_pos h2, if_pos h3]]
        exact xK.ret rfl ⟨_, (Or.inl rfl), rfl, rfl⟩
      · skip
        refine xK.run (q := (96, [(0, xm_r 1 k), (1, xm_i t), (2, xm_i (xf_X1_enough1 I L k 1 0 t)), (3, xm_i (xf_X1_enough1 I L k 0 0 t)), (4, xm_i (xf_X1_parting I L k 1 (xf_X1_enough1 I L k 1 0 t) 0 t)), (5, xm_i (xf_X1_parting I L k 0 (xf_X1_enough1 I L k 0 0 t) 0 t))], [xm_i 1], xh_M I L, 0, 0)) 2 rfl ?_
        rw [show xf_X1_chosenSense I L k t = 1 from by unfold xf_X1_chosenSense; rw [if_pos h1, if_pos h2, if_neg h3]]
        exact xK.ret rfl ⟨_, (Or.inr rfl), rfl, rfl⟩
    · skip
      refine xK.run (q := (65, [(0, xm_r 1 k), (1, xm_i t), (2, xm_i (xf_X1_enough1 I L k 1 0 t)), (3, xm_i (xf_X1_enough1 I L k 0 0 t)), (4, xm_i (xf_X1_parting I L k 1 (xf_X1_enough1 I L k 1 0 t) 0 t)), (5, xm_i (xf_X1_parting I L k 0 (xf_X1_enough1 I L k 0 0 t) 0 t))], [xm_i (xf_X1_parting I L k 0 (xf_X1_enough1 I L k 0 0 t) 0 t), xm_i (xf_X1_parting I L k 1 (xf_X1_enough1 I L k 1 0 t) 0 t)], xh_M I L, 0, 0)) 2 rfl ?_
      refine xK.icmp rfl (fun h4 => ?_) (fun h4 => ?_)
      · skip
        refine xK.run (q := (73, [(0, xm_r 1 k), (1, xm_i t), (2, xm_i (xf_X1_enough1 I L k 1 0 t)), (3, xm_i (xf_X1_enough1 I L k 0 0 t)), (4, xm_i (xf_X1_parting I L k 1 (xf_X1_enough1 I L k 1 0 t) 0 t)), (5, xm_i (xf_X1_parting I L k 0 (xf_X1_enough1 I L k 0 0 t) 0 t))], [xm_i 0], xh_M I L, 0, 0)) 1 rfl ?_
        rw [show xf_X1_chosenSense I L k t = 0 from by unfold xf_X1_chosenSense; rw [if_pos h1, if_neg h2, if_pos h4]]
        exact xK.ret rfl ⟨_, (Or.inl rfl), rfl, rfl⟩
      · skip
        refine xK.run (q := (73, [(0, xm_r 1 k), (1, xm_i t), (2, xm_i (xf_X1_enough1 I L k 1 0 t)), (3, xm_i (xf_X1_enough1 I L k 0 0 t)), (4, xm_i (xf_X1_parting I L k 1 (xf_X1_enough1 I L k 1 0 t) 0 t)), (5, xm_i (xf_X1_parting I L k 0 (xf_X1_enough1 I L k 0 0 t) 0 t))], [xm_i 1], xh_M I L, 0, 0)) 2 rfl ?_
        rw [show xf_X1_chosenSense I L k t = 1 from by unfold xf_X1_chosenSense; rw [if_pos h1, if_neg h2, if_neg h4]]
        exact xK.ret rfl ⟨_, (Or.inr rfl), rfl, rfl⟩
  · skip
    refine xK.run (q := (25, [(0, xm_r 1 k), (1, xm_i t), (2, xm_i (xf_X1_enough1 I L k 1 0 t)), (3, xm_i (xf_X1_enough1 I L k 0 0 t))], [xm_i (xf_X1_enough1 I L k 0 0 t), xm_i (xf_X1_enough1 I L k 1 0 t)], xh_M I L, 0, 0)) 2 rfl ?_
    refine xK.icmp rfl (fun h5 => ?_) (fun h5 => ?_)
    · skip
      refine xK.run (q := (33, [(0, xm_r 1 k), (1, xm_i t), (2, xm_i (xf_X1_enough1 I L k 1 0 t)), (3, xm_i (xf_X1_enough1 I L k 0 0 t))], [xm_i 0], xh_M I L, 0, 0)) 1 rfl ?_
      rw [show xf_X1_chosenSense I L k t = 0 from by unfold xf_X1_chosenSense; rw [if_neg h1, if_pos h5]]
      exact xK.ret rfl ⟨_, (Or.inl rfl), rfl, rfl⟩
    · skip
      refine xK.run (q := (33, [(0, xm_r 1 k), (1, xm_i t), (2, xm_i (xf_X1_enough1 I L k 1 0 t)), (3, xm_i (xf_X1_enough1 I L k 0 0 t))], [xm_i 1], xh_M I L, 0, 0)) 2 rfl ?_
      rw [show xf_X1_chosenSense I L k t = 1 from by unfold xf_X1_chosenSense; rw [if_neg h1, if_neg h5]]
      exact xK.ret rfl ⟨_, (Or.inr rfl), rfl, rfl⟩
theorem xz_X1_chosenSense (I : xh_I) (L : xh_L) (k : Nat) (t : Int32) : xf_X1_chosenSense I L k t = 0 ∨ xf_X1_chosenSense I L k t = 1 := by
  unfold xf_X1_chosenSense
  (repeat' split) <;> first | exact Or.inl rfl | exact Or.inr rfl
set_option linter.unusedVariables false in
def xf_X1_chosenParting (I : xh_I) (L : xh_L) (k : Nat) (t : Int32) : Int32 := xf_X1_parting I L k (xf_X1_chosenSense I L k t) (xf_X1_enough1 I L k (xf_X1_chosenSense I L k t) 0 t) 0 t
set_option maxHeartbeats 4000000 in
set_option maxRecDepth 100000 in
theorem xd_X1_chosenParting (d : Nat) (I : xh_I) (L : xh_L) (k : Nat) (t : Int32) : xm_Do xp_pg (d + 5) 40 [xm_r 1 k, xm_i t] (xh_M I L) (some (xm_i (xf_X1_chosenParting I L k t))) (xh_M I L) 0 0 := by
  refine xK.of (Nat.le_of_ble_eq_true rfl) rfl ?_
  refine xK.run (q := (2, [(0, xm_r 1 k), (1, xm_i t)], [xm_i t, xm_r 1 k], xh_M I L, 0, 0)) 2 rfl ?_
  refine xK.call [xm_r 1 k, xm_i t] (xd_X1_chosenSense d I L k t) rfl rfl rfl (Or.inr ⟨_, _, rfl⟩) (Nat.le_of_ble_eq_true rfl) ?_
  refine xK.run (q := (13, [(0, xm_r 1 k), (1, xm_i t), (2, xm_i (xf_X1_chosenSense I L k t))], [xm_i t, xm_i 0, xm_i 1, xm_i (xf_X1_chosenSense I L k t), xm_r 1 k, xm_i (xf_X1_chosenSense I L k t), xm_r 1 k], xh_M I L, 0, 0)) 8 rfl ?_
  refine xK.call [xm_r 1 k, xm_i (xf_X1_chosenSense I L k t), xm_i 1, xm_i 0, xm_i t] (xd_X1_enough1 (d + 1) I L k (xf_X1_chosenSense I L k t) 0 t) rfl rfl rfl (Or.inr ⟨_, _, rfl⟩) (Nat.le_of_ble_eq_true rfl) ?_
  refine xK.run (q := (18, [(0, xm_r 1 k), (1, xm_i t), (2, xm_i (xf_X1_chosenSense I L k t))], [xm_i t, xm_i 0, xm_i (xf_X1_enough1 I L k (xf_X1_chosenSense I L k t) 0 t), xm_i (xf_X1_chosenSense I L k t), xm_r 1 k], xh_M I L, 0, 0)) 2 rfl ?_
  refine xK.call [xm_r 1 k, xm_i (xf_X1_chosenSense I L k t), xm_i (xf_X1_enough1 I L k (xf_X1_chosenSense I L k t) 0 t), xm_i 0, xm_i t] (xd_X1_parting (d + 2) I L k (xf_X1_chosenSense I L k t) (xf_X1_enough1 I L k (xf_X1_chosenSense I L k t) 0 t) 0 t) rfl rfl rfl (Or.inr ⟨_, _, rfl⟩) (Nat.le_of_ble_eq_true rfl) ?_
  exact xK.ret rfl ⟨_, rfl, rfl⟩
