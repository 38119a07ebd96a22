/-! WHAT THE REFERENCE COMPUTES (by program) -/
set_option linter.unusedVariables false in
def xf_X5_part (I : xh_I) (L : xh_L) (w : Int32) (s : Int32) (t : Int32) : Int64 := if w = 1 then (if w = 2 then ((xf_X5_height I L (I 5 12 0) 1 s t) - (xf_X5_height I L (I 5 13 0) 1 s t)) else ((xf_X5_height I L (I 5 12 0) 1 s t) - (xf_X5_height I L (I 5 13 0) 0 s t))) else (if w = 2 then ((xf_X5_height I L (I 5 13 0) 1 s t) - (xf_X5_height I L (I 5 12 0) 0 s t)) else ((xf_X5_height I L (I 5 13 0) 0 s t) - (xf_X5_height I L (I 5 12 0) 0 s t)))
set_option maxHeartbeats 4000000 in
set_option maxRecDepth 100000 in
theorem xd_X5_part (d : Nat) (I : xh_I) (L : xh_L) (ho : xh_oo I) (w : Int32) (s : Int32) (t : Int32) : xm_Do xp_pg (d + 2) 88 [xm_r 5 0, xm_i w, xm_i s, xm_i t] (xh_M I L) (some (xm_l (xf_X5_part I L w s t))) (xh_M I L) 0 0 := by
  refine xK.of (Nat.le_of_ble_eq_true rfl) rfl ?_
  refine xK.run (q := (7, [(0, xm_r 5 0), (1, xm_i w), (2, xm_i s), (3, xm_i t)], [xm_i 1, xm_i w, xm_i (I 5 12 0), xm_r 5 0], xh_M I L, 0, 0)) 5 rfl ?_
  refine xK.icmpN rfl (fun (h1 : w = 1) => ?_) (fun (h1 : ¬ w = 1) => ?_)
  · skip
    refine xK.run (q := (17, [(0, xm_r 5 0), (1, xm_i w), (2, xm_i s), (3, xm_i t)], [xm_i t, xm_i s, xm_i 1, xm_i (I 5 12 0), xm_r 5 0], xh_M I L, 0, 0)) 4 rfl ?_
    refine xK.call [xm_r 5 0, xm_i (I 5 12 0), xm_i 1, xm_i s, xm_i t] (xd_X5_height d I L (I 5 12 0) ho.1 1 s t) rfl rfl rfl (Or.inr ⟨_, _, rfl⟩) (Nat.le_of_ble_eq_true rfl) ?_
    refine xK.run (q := (29, [(0, xm_r 5 0), (1, xm_i w), (2, xm_i s), (3, xm_i t), (4, xm_l (xf_X5_height I L (I 5 12 0) 1 s t))], [xm_i 2, xm_i w, xm_i (I 5 13 0), xm_r 5 0], xh_M I L, 0, 0)) 6 rfl ?_
    refine xK.icmpN rfl (fun (h2 : w = 2) => ?_) (fun (h2 : ¬ w = 2) => ?_)
    · skip
      refine xK.run (q := (39, [(0, xm_r 5 0), (1, xm_i w), (2, xm_i s), (3, xm_i t), (4, xm_l (xf_X5_height I L (I 5 12 0) 1 s t))], [xm_i t, xm_i s, xm_i 1, xm_i (I 5 13 0), xm_r 5 0], xh_M I L, 0, 0)) 4 rfl ?_
      refine xK.call [xm_r 5 0, xm_i (I 5 13 0), xm_i 1, xm_i s, xm_i t] (xd_X5_height d I L (I 5 13 0) ho.2 1 s t) rfl rfl rfl (Or.inr ⟨_, _, rfl⟩) (Nat.le_of_ble_eq_true rfl) ?_
      refine xK.run (q := (46, [(0, xm_r 5 0), (1, xm_i w), (2, xm_i s), (3, xm_i t), (4, xm_l (xf_X5_height I L (I 5 12 0) 1 s t)), (6, xm_l (xf_X5_height I L (I 5 13 0) 1 s t))], [xm_i 1, xm_i w], xh_M I L, 0, 0)) 3 rfl ?_
      refine xK.icmpN rfl (fun _ => ?_) (fun h9 => absurd h1 h9)
      refine xK.run (q := (62, [(0, xm_r 5 0), (1, xm_i w), (2, xm_i s), (3, xm_i t), (4, xm_l (xf_X5_height I L (I 5 12 0) 1 s t)), (6, xm_l (xf_X5_height I L (I 5 13 0) 1 s t))], [xm_l ((xf_X5_height I L (I 5 12 0) 1 s t) - (xf_X5_height I L (I 5 13 0) 1 s t))], xh_M I L, 0, 0)) 4 rfl ?_
      rw [show xf_X5_part I L w s t = ((xf_X5_height I L (I 5 12 0) 1 s t) - (xf_X5_height I L (I 5 13 0) 1 s t)) from by unfold xf_X5_part; rw [if_pos h1, if_pos h2]]
      exact xK.ret rfl ⟨_, rfl, rfl⟩
    · skip
      refine xK.run (q := (39, [(0, xm_r 5 0), (1, xm_i w), (2, xm_i s), (3, xm_i t), (4, xm_l (xf_X5_height I L (I 5 12 0) 1 s t))], [xm_i t, xm_i s, xm_i 0, xm_i (I 5 13 0), xm_r 5 0], xh_M I L, 0, 0)) 3 rfl ?_
      refine xK.call [xm_r 5 0, xm_i (I 5 13 0), xm_i 0, xm_i s, xm_i t] (xd_X5_height d I L (I 5 13 0) ho.2 0 s t) rfl rfl rfl (Or.inr ⟨_, _, rfl⟩) (Nat.le_of_ble_eq_true rfl) ?_
      refine xK.run (q := (46, [(0, xm_r 5 0), (1, xm_i w), (2, xm_i s), (3, xm_i t), (4, xm_l (xf_X5_height I L (I 5 12 0) 1 s t)), (6, xm_l (xf_X5_height I L (I 5 13 0) 0 s t))], [xm_i 1, xm_i w], xh_M I L, 0, 0)) 3 rfl ?_
      refine xK.icmpN rfl (fun _ => ?_) (fun h9 => absurd h1 h9)
      refine xK.run (q := (62, [(0, xm_r 5 0), (1, xm_i w), (2, xm_i s), (3, xm_i t), (4, xm_l (xf_X5_height I L (I 5 12 0) 1 s t)), (6, xm_l (xf_X5_height I L (I 5 13 0) 0 s t))], [xm_l ((xf_X5_height I L (I 5 12 0) 1 s t) - (xf_X5_height I L (I 5 13 0) 0 s t))], xh_M I L, 0, 0)) 4 rfl ?_
      rw [show xf_X5_part I L w s t = ((xf_X5_height I L (I 5 12 0) 1 s t) - (xf_X5_height I L (I 5 13 0) 0 s t)) from by unfold xf_X5_part; rw [if_pos h1, if_neg h2]]
      exact xK.ret rfl ⟨_, rfl, rfl⟩
  · skip
    refine xK.run (q := (17, [(0, xm_r 5 0), (1, xm_i w), (2, xm_i s), (3, xm_i t)], [xm_i t, xm_i s, xm_i 0, xm_i (I 5 12 0), xm_r 5 0], xh_M I L, 0, 0)) 3 rfl ?_
    refine xK.call [xm_r 5 0, xm_i (I 5 12 0), xm_i 0, xm_i s, xm_i t] (xd_X5_height d I L (I 5 12 0) ho.1 0 s t) rfl rfl rfl (Or.inr ⟨_, _, rfl⟩) (Nat.le_of_ble_eq_true rfl) ?_
    refine xK.run (q := (29, [(0, xm_r 5 0), (1, xm_i w), (2, xm_i s), (3, xm_i t), (4, xm_l (xf_X5_height I L (I 5 12 0) 0 s t))], [xm_i 2, xm_i w, xm_i (I 5 13 0), xm_r 5 0], xh_M I L, 0, 0)) 6 rfl ?_
    refine xK.icmpN rfl (fun (h3 : w = 2) => ?_) (fun (h3 : ¬ w = 2) => ?_)
    · skip
      refine xK.run (q := (39, [(0, xm_r 5 0), (1, xm_i w), (2, xm_i s), (3, xm_i t), (4, xm_l (xf_X5_height I L (I 5 12 0) 0 s t))], [xm_i t, xm_i s, xm_i 1, xm_i (I 5 13 0), xm_r 5 0], xh_M I L, 0, 0)) 4 rfl ?_
      refine xK.call [xm_r 5 0, xm_i (I 5 13 0), xm_i 1, xm_i s, xm_i t] (xd_X5_height d I L (I 5 13 0) ho.2 1 s t) rfl rfl rfl (Or.inr ⟨_, _, rfl⟩) (Nat.le_of_ble_eq_true rfl) ?_
      refine xK.run (q := (46, [(0, xm_r 5 0), (1, xm_i w), (2, xm_i s), (3, xm_i t), (4, xm_l (xf_X5_height I L (I 5 12 0) 0 s t)), (6, xm_l (xf_X5_height I L (I 5 13 0) 1 s t))], [xm_i 1, xm_i w], xh_M I L, 0, 0)) 3 rfl ?_
      refine xK.icmpN rfl (fun h9 => absurd h9 h1) (fun _ => ?_)
      refine xK.run (q := (62, [(0, xm_r 5 0), (1, xm_i w), (2, xm_i s), (3, xm_i t), (4, xm_l (xf_X5_height I L (I 5 12 0) 0 s t)), (6, xm_l (xf_X5_height I L (I 5 13 0) 1 s t))], [xm_l ((xf_X5_height I L (I 5 13 0) 1 s t) - (xf_X5_height I L (I 5 12 0) 0 s t))], xh_M I L, 0, 0)) 3 rfl ?_
      rw [show xf_X5_part I L w s t = ((xf_X5_height I L (I 5 13 0) 1 s t) - (xf_X5_height I L (I 5 12 0) 0 s t)) from by unfold xf_X5_part; rw [if_neg h1, if_pos h3]]
      exact xK.ret rfl ⟨_, rfl, rfl⟩
    · skip
      refine xK.run (q := (39, [(0, xm_r 5 0), (1, xm_i w), (2, xm_i s), (3, xm_i t), (4, xm_l (xf_X5_height I L (I 5 12 0) 0 s t))], [xm_i t, xm_i s, xm_i 0, xm_i (I 5 13 0), xm_r 5 0], xh_M I L, 0, 0)) 3 rfl ?_
      refine xK.call [xm_r 5 0, xm_i (I 5 13 0), xm_i 0, xm_i s, xm_i t] (xd_X5_height d I L (I 5 13 0) ho.2 0 s t) rfl rfl rfl (Or.inr ⟨_, _, rfl⟩) (Nat.le_of_ble_eq_true rfl) ?_
      refine xK.run (q := (46, [(0, xm_r 5 0), (1, xm_i w), (2, xm_i s), (3, xm_i t), (4, xm_l (xf_X5_height I L (I 5 12 0) 0 s t)), (6, xm_l (xf_X5_height I L (I 5 13 0) 0 s t))], [xm_i 1, xm_i w], xh_M I L, 0, 0)) 3 rfl ?_
      refine xK.icmpN rfl (fun h9 => absurd h9 h1) (fun _ => ?_)
      refine xK.run (q := (62, [(0, xm_r 5 0), (1, xm_i w), (2, xm_i s), (3, xm_i t), (4, xm_l (xf_X5_height I L (I 5 12 0) 0 s t)), (6, xm_l (xf_X5_height I L (I 5 13 0) 0 s t))], [xm_l ((xf_X5_height I L (I 5 13 0) 0 s t) - (xf_X5_height I L (I 5 12 0) 0 s t))], xh_M I L, 0, 0)) 3 rfl ?_
      rw [show xf_X5_part I L w s t = ((xf_X5_height I L (I 5 13 0) 0 s t) - (xf_X5_height I L (I 5 12 0) 0 s t)) from by unfold xf_X5_part; rw [if_neg h1, if_neg h3]]
      exact xK.ret rfl ⟨_, rfl, rfl⟩
set_option linter.unusedVariables false in
def xf_X5_enough1 (I : xh_I) (L : xh_L) (w : Int32) (t : Int32) : Int32 := if 0 ≤ (lg_cmp (xf_X5_part I L w 1 t) ((I 7 4 0).toInt64)) then 1 else (if 0 ≤ (lg_cmp (xf_X5_part I L w 2 t) ((I 7 4 0).toInt64)) then 2 else (if 0 ≤ (lg_cmp (xf_X5_part I L w 3 t) ((I 7 4 0).toInt64)) then 3 else 4))
set_option maxHeartbeats 4000000 in
set_option maxRecDepth 100000 in
theorem xd_X5_enough1 (d : Nat) (I : xh_I) (L : xh_L) (ho : xh_oo I) (w : Int32) (t : Int32) : xm_Do xp_pg (d + 3) 89 [xm_r 5 0, xm_i w, xm_i 1, xm_i t] (xh_M I L) (some (xm_i (xf_X5_enough1 I L w t))) (xh_M I L) 0 0 := by
  refine xK.of (Nat.le_of_ble_eq_true rfl) rfl ?_
  refine xK.run (q := (6, [(0, xm_r 5 0), (1, xm_i w), (2, xm_i 1), (3, xm_i t), (4, xm_i 1)], [xm_i 4, xm_i 1], xh_M I L, 0, 0)) 4 rfl ?_
  refine xK.icmp rfl (fun h9 => absurd h9 (by decide)) (fun _ => ?_)
  refine xK.run (q := (14, [(0, xm_r 5 0), (1, xm_i w), (2, xm_i 1), (3, xm_i t), (4, xm_i 1)], [xm_i t, xm_i 1, xm_i w, xm_r 5 0], xh_M I L, 0, 0)) 4 rfl ?_
  refine xK.call [xm_r 5 0, xm_i w, xm_i 1, xm_i t] (xd_X5_part d I L ho w 1 t) rfl rfl rfl (Or.inr ⟨_, _, rfl⟩) (Nat.le_of_ble_eq_true rfl) ?_
  refine xK.run (q := (22, [(0, xm_r 5 0), (1, xm_i w), (2, xm_i 1), (3, xm_i t), (4, xm_i 1)], [xm_i 4, xm_r 7 0, xm_l (xf_X5_part I L w 1 t)], xh_M I L, 0, 0)) 3 rfl ?_
  refine xK.iald' rfl rfl (show xh_ix 4 4 7 by decide) ?_
  refine xK.run (q := (25, [(0, xm_r 5 0), (1, xm_i w), (2, xm_i 1), (3, xm_i t), (4, xm_i 1)], [xm_i (lg_cmp (xf_X5_part I L w 1 t) ((I 7 4 0).toInt64))], xh_M I L, 0, 0)) 2 rfl ?_
  refine xK.ifI rfl (fun (h1 : 0 ≤ (lg_cmp (xf_X5_part I L w 1 t) ((I 7 4 0).toInt64))) => ?_) (fun (h1 : ¬ 0 ≤ (lg_cmp (xf_X5_part I L w 1 t) ((I 7 4 0).toInt64))) => ?_)
  · skip
    refine xK.run (q := (36, [(0, xm_r 5 0), (1, xm_i w), (2, xm_i 1), (3, xm_i t), (4, xm_i 1)], [xm_i 1], xh_M I L, 0, 0)) 1 rfl ?_
    rw [show xf_X5_enough1 I L w t = 1 from by unfold xf_X5_enough1; rw [if_pos h1]]
    exact xK.ret rfl ⟨_, rfl, rfl⟩
  · skip
    refine xK.run (q := (6, [(0, xm_r 5 0), (1, xm_i w), (2, xm_i 1), (3, xm_i t), (4, xm_i 2)], [xm_i 4, xm_i 2], xh_M I L, 0, 0)) 4 rfl ?_
    refine xK.icmp rfl (fun h9 => absurd h9 (by decide)) (fun _ => ?_)
    refine xK.run (q := (14, [(0, xm_r 5 0), (1, xm_i w), (2, xm_i 1), (3, xm_i t), (4, xm_i 2)], [xm_i t, xm_i 2, xm_i w, xm_r 5 0], xh_M I L, 0, 0)) 4 rfl ?_
    refine xK.call [xm_r 5 0, xm_i w, xm_i 2, xm_i t] (xd_X5_part d I L ho w 2 t) rfl rfl rfl (Or.inr ⟨_, _, rfl⟩) (Nat.le_of_ble_eq_true rfl) ?_
    refine xK.run (q := (22, [(0, xm_r 5 0), (1, xm_i w), (2, xm_i 1), (3, xm_i t), (4, xm_i 2)], [xm_i 4, xm_r 7 0, xm_l (xf_X5_part I L w 2 t)], xh_M I L, 0, 0)) 3 rfl ?_
    refine xK.iald' rfl rfl (show xh_ix 4 4 7 by decide) ?_
    refine xK.run (q := (25, [(0, xm_r 5 0), (1, xm_i w), (2, xm_i 1), (3, xm_i t), (4, xm_i 2)], [xm_i (lg_cmp (xf_X5_part I L w 2 t) ((I 7 4 0).toInt64))], xh_M I L, 0, 0)) 2 rfl ?_
    refine xK.ifI rfl (fun (h2 : 0 ≤ (lg_cmp (xf_X5_part I L w 2 t) ((I 7 4 0).toInt64))) => ?_) (fun (h2 : ¬ 0 ≤ (lg_cmp (xf_X5_part I L w 2 t) ((I 7 4 0).toInt64))) => ?_)
    · skip
      refine xK.run (q := (36, [(0, xm_r 5 0), (1, xm_i w), (2, xm_i 1), (3, xm_i t), (4, xm_i 2)], [xm_i 2], xh_M I L, 0, 0)) 1 rfl ?_
      rw [show xf_X5_enough1 I L w t = 2 from by unfold xf_X5_enough1; rw [if_neg h1, if_pos h2]]
      exact xK.ret rfl ⟨_, rfl, rfl⟩
    · skip
      refine xK.run (q := (6, [(0, xm_r 5 0), (1, xm_i w), (2, xm_i 1), (3, xm_i t), (4, xm_i 3)], [xm_i 4, xm_i 3], xh_M I L, 0, 0)) 4 rfl ?_
      refine xK.icmp rfl (fun h9 => absurd h9 (by decide)) (fun _ => ?_)
      refine xK.run (q := (14, [(0, xm_r 5 0), (1, xm_i w), (2, xm_i 1), (3, xm_i t), (4, xm_i 3)], [xm_i t, xm_i 3, xm_i w, xm_r 5 0], xh_M I L, 0, 0)) 4 rfl ?_
      refine xK.call [xm_r 5 0, xm_i w, xm_i 3, xm_i t] (xd_X5_part d I L ho w 3 t) rfl rfl rfl (Or.inr ⟨_, _, rfl⟩) (Nat.le_of_ble_eq_true rfl) ?_
      refine xK.run (q := (22, [(0, xm_r 5 0), (1, xm_i w), (2, xm_i 1), (3, xm_i t), (4, xm_i 3)], [xm_i 4, xm_r 7 0, xm_l (xf_X5_part I L w 3 t)], xh_M I L, 0, 0)) 3 rfl ?_
      refine xK.iald' rfl rfl (show xh_ix 4 4 7 by decide) ?_
      refine xK.run (q := (25, [(0, xm_r 5 0), (1, xm_i w), (2, xm_i 1), (3, xm_i t), (4, xm_i 3)], [xm_i (lg_cmp (xf_X5_part I L w 3 t) ((I 7 4 0).toInt64))], xh_M I L, 0, 0)) 2 rfl ?_
      refine xK.ifI rfl (fun (h3 : 0 ≤ (lg_cmp (xf_X5_part I L w 3 t) ((I 7 4 0).toInt64))) => ?_) (fun (h3 : ¬ 0 ≤ (lg_cmp (xf_X5_part I L w 3 t) ((I 7 4 0).toInt64))) => ?_)
      · skip
        refine xK.run (q := (36, [(0, xm_r 5 0), (1, xm_i w), (2, xm_i 1), (3, xm_i t), (4, xm_i 3)], [xm_i 3], xh_M I L, 0, 0)) 1 rfl ?_
        rw [show xf_X5_enough1 I L w t = 3 from by unfold xf_X5_enough1; rw [if_neg h1, if_neg h2, if_pos h3]]
        exact xK.ret rfl ⟨_, rfl, rfl⟩
      · skip
        refine xK.run (q := (6, [(0, xm_r 5 0), (1, xm_i w), (2, xm_i 1), (3, xm_i t), (4, xm_i 4)], [xm_i 4, xm_i 4], xh_M I L, 0, 0)) 4 rfl ?_
        refine xK.icmp rfl (fun _ => ?_) (fun h9 => absurd (by decide) h9)
        refine xK.run (q := (36, [(0, xm_r 5 0), (1, xm_i w), (2, xm_i 1), (3, xm_i t), (4, xm_i 4)], [xm_i 4], xh_M I L, 0, 0)) 1 rfl ?_
        rw [show xf_X5_enough1 I L w t = 4 from by unfold xf_X5_enough1; rw [if_neg h1, if_neg h2, if_neg h3]]
        exact xK.ret rfl ⟨_, rfl, rfl⟩
set_option linter.unusedVariables false in
def xf_X5_enough2 (I : xh_I) (L : xh_L) (w : Int32) (t : Int32) : Int32 := if 0 ≤ (lg_cmp (xf_X5_part I L w 2 t) ((I 7 4 0).toInt64)) then 2 else (if 0 ≤ (lg_cmp (xf_X5_part I L w 3 t) ((I 7 4 0).toInt64)) then 3 else 4)
set_option maxHeartbeats 4000000 in
set_option maxRecDepth 100000 in
theorem xd_X5_enough2 (d : Nat) (I : xh_I) (L : xh_L) (ho : xh_oo I) (w : Int32) (t : Int32) : xm_Do xp_pg (d + 3) 89 [xm_r 5 0, xm_i w, xm_i 2, xm_i t] (xh_M I L) (some (xm_i (xf_X5_enough2 I L w t))) (xh_M I L) 0 0 := by
  refine xK.of (Nat.le_of_ble_eq_true rfl) rfl ?_
  refine xK.run (q := (6, [(0, xm_r 5 0), (1, xm_i w), (2, xm_i 2), (3, xm_i t), (4, xm_i 2)], [xm_i 4, xm_i 2], xh_M I L, 0, 0)) 4 rfl ?_
  refine xK.icmp rfl (fun h9 => absurd h9 (by decide)) (fun _ => ?_)
  refine xK.run (q := (14, [(0, xm_r 5 0), (1, xm_i w), (2, xm_i 2), (3, xm_i t), (4, xm_i 2)], [xm_i t, xm_i 2, xm_i w, xm_r 5 0], xh_M I L, 0, 0)) 4 rfl ?_
  refine xK.call [xm_r 5 0, xm_i w, xm_i 2, xm_i t] (xd_X5_part d I L ho w 2 t) rfl rfl rfl (Or.inr ⟨_, _, rfl⟩) (Nat.le_of_ble_eq_true rfl) ?_
  refine xK.run (q := (22, [(0, xm_r 5 0), (1, xm_i w), (2, xm_i 2), (3, xm_i t), (4, xm_i 2)], [xm_i 4, xm_r 7 0, xm_l (xf_X5_part I L w 2 t)], xh_M I L, 0, 0)) 3 rfl ?_
  refine xK.iald' rfl rfl (show xh_ix 4 4 7 by decide) ?_
  refine xK.run (q := (25, [(0, xm_r 5 0), (1, xm_i w), (2, xm_i 2), (3, xm_i t), (4, xm_i 2)], [xm_i (lg_cmp (xf_X5_part I L w 2 t) ((I 7 4 0).toInt64))], xh_M I L, 0, 0)) 2 rfl ?_
  refine xK.ifI rfl (fun (h1 : 0 ≤ (lg_cmp (xf_X5_part I L w 2 t) ((I 7 4 0).toInt64))) => ?_) (fun (h1 : ¬ 0 ≤ (lg_cmp (xf_X5_part I L w 2 t) ((I 7 4 0).toInt64))) => ?_)
  · skip
    refine xK.run (q := (36, [(0, xm_r 5 0), (1, xm_i w), (2, xm_i 2), (3, xm_i t), (4, xm_i 2)], [xm_i 2], xh_M I L, 0, 0)) 1 rfl ?_
    rw [show xf_X5_enough2 I L w t = 2 from by unfold xf_X5_enough2; rw [if_pos h1]]
    exact xK.ret rfl ⟨_, rfl, rfl⟩
  · skip
    refine xK.run (q := (6, [(0, xm_r 5 0), (1, xm_i w), (2, xm_i 2), (3, xm_i t), (4, xm_i 3)], [xm_i 4, xm_i 3], xh_M I L, 0, 0)) 4 rfl ?_
    refine xK.icmp rfl (fun h9 => absurd h9 (by decide)) (fun _ => ?_)
    refine xK.run (q := (14, [(0, xm_r 5 0), (1, xm_i w), (2, xm_i 2), (3, xm_i t), (4, xm_i 3)], [xm_i t, xm_i 3, xm_i w, xm_r 5 0], xh_M I L, 0, 0)) 4 rfl ?_
    refine xK.call [xm_r 5 0, xm_i w, xm_i 3, xm_i t] (xd_X5_part d I L ho w 3 t) rfl rfl rfl (Or.inr ⟨_, _, rfl⟩) (Nat.le_of_ble_eq_true rfl) ?_
    refine xK.run (q := (22, [(0, xm_r 5 0), (1, xm_i w), (2, xm_i 2), (3, xm_i t), (4, xm_i 3)], [xm_i 4, xm_r 7 0, xm_l (xf_X5_part I L w 3 t)], xh_M I L, 0, 0)) 3 rfl ?_
    refine xK.iald' rfl rfl (show xh_ix 4 4 7 by decide) ?_
    refine xK.run (q := (25, [(0, xm_r 5 0), (1, xm_i w), (2, xm_i 2), (3, xm_i t), (4, xm_i 3)], [xm_i (lg_cmp (xf_X5_part I L w 3 t) ((I 7 4 0).toInt64))], xh_M I L, 0, 0)) 2 rfl ?_
    refine xK.ifI rfl (fun (h2 : 0 ≤ (lg_cmp (xf_X5_part I L w 3 t) ((I 7 4 0).toInt64))) => ?_) (fun (h2 : ¬ 0 ≤ (lg_cmp (xf_X5_part I L w 3 t) ((I 7 4 0).toInt64))) => ?_)
    · skip
      refine xK.run (q := (36, [(0, xm_r 5 0), (1, xm_i w), (2, xm_i 2), (3, xm_i t), (4, xm_i 3)], [xm_i 3], xh_M I L, 0, 0)) 1 rfl ?_
      rw [show xf_X5_enough2 I L w t = 3 from by unfold xf_X5_enough2; rw [if_neg h1, if_pos h2]]
      exact xK.ret rfl ⟨_, rfl, rfl⟩
    · skip
      refine xK.run (q := (6, [(0, xm_r 5 0), (1, xm_i w), (2, xm_i 2), (3, xm_i t), (4, xm_i 4)], [xm_i 4, xm_i 4], xh_M I L, 0, 0)) 4 rfl ?_
      refine xK.icmp rfl (fun _ => ?_) (fun h9 => absurd (by decide) h9)
      refine xK.run (q := (36, [(0, xm_r 5 0), (1, xm_i w), (2, xm_i 2), (3, xm_i t), (4, xm_i 4)], [xm_i 4], xh_M I L, 0, 0)) 1 rfl ?_
      rw [show xf_X5_enough2 I L w t = 4 from by unfold xf_X5_enough2; rw [if_neg h1, if_neg h2]]
      exact xK.ret rfl ⟨_, rfl, rfl⟩
set_option linter.unusedVariables false in
def xf_X5_enough3 (I : xh_I) (L : xh_L) (w : Int32) (t : Int32) : Int32 := if 0 ≤ (lg_cmp (xf_X5_part I L w 3 t) ((I 7 4 0).toInt64)) then 3 else 4
set_option maxHeartbeats 4000000 in
set_option maxRecDepth 100000 in
theorem xd_X5_enough3 (d : Nat) (I : xh_I) (L : xh_L) (ho : xh_oo I) (w : Int32) (t : Int32) : xm_Do xp_pg (d + 3) 89 [xm_r 5 0, xm_i w, xm_i 3, xm_i t] (xh_M I L) (some (xm_i (xf_X5_enough3 I L w t))) (xh_M I L) 0 0 := by
  refine xK.of (Nat.le_of_ble_eq_true rfl) rfl ?_
  refine xK.run (q := (6, [(0, xm_r 5 0), (1, xm_i w), (2, xm_i 3), (3, xm_i t), (4, xm_i 3)], [xm_i 4, xm_i 3], xh_M I L, 0, 0)) 4 rfl ?_
  refine xK.icmp rfl (fun h9 => absurd h9 (by decide)) (fun _ => ?_)
  refine xK.run (q := (14, [(0, xm_r 5 0), (1, xm_i w), (2, xm_i 3), (3, xm_i t), (4, xm_i 3)], [xm_i t, xm_i 3, xm_i w, xm_r 5 0], xh_M I L, 0, 0)) 4 rfl ?_
  refine xK.call [xm_r 5 0, xm_i w, xm_i 3, xm_i t] (xd_X5_part d I L ho w 3 t) rfl rfl rfl (Or.inr ⟨_, _, rfl⟩) (Nat.le_of_ble_eq_true rfl) ?_
  refine xK.run (q := (22, [(0, xm_r 5 0), (1, xm_i w), (2, xm_i 3), (3, xm_i t), (4, xm_i 3)], [xm_i 4, xm_r 7 0, xm_l (xf_X5_part I L w 3 t)], xh_M I L, 0, 0)) 3 rfl ?_
  refine xK.iald' rfl rfl (show xh_ix 4 4 7 by decide) ?_
  refine xK.run (q := (25, [(0, xm_r 5 0), (1, xm_i w), (2, xm_i 3), (3, xm_i t), (4, xm_i 3)], [xm_i (lg_cmp (xf_X5_part I L w 3 t) ((I 7 4 0).toInt64))], xh_M I L, 0, 0)) 2 rfl ?_
  refine xK.ifI rfl (fun (h1 : 0 ≤ (lg_cmp (xf_X5_part I L w 3 t) ((I 7 4 0).toInt64))) => ?_) (fun (h1 : ¬ 0 ≤ (lg_cmp (xf_X5_part I L w 3 t) ((I 7 4 0).toInt64))) => ?_)
  · skip
    refine xK.run (q := (36, [(0, xm_r 5 0), (1, xm_i w), (2, xm_i 3), (3, xm_i t), (4, xm_i 3)], [xm_i 3], xh_M I L, 0, 0)) 1 rfl ?_
    rw [show xf_X5_enough3 I L w t = 3 from by unfold xf_X5_enough3; rw [if_pos h1]]
    exact xK.ret rfl ⟨_, rfl, rfl⟩
  · skip
    refine xK.run (q := (6, [(0, xm_r 5 0), (1, xm_i w), (2, xm_i 3), (3, xm_i t), (4, xm_i 4)], [xm_i 4, xm_i 4], xh_M I L, 0, 0)) 4 rfl ?_
    refine xK.icmp rfl (fun _ => ?_) (fun h9 => absurd (by decide) h9)
    refine xK.run (q := (36, [(0, xm_r 5 0), (1, xm_i w), (2, xm_i 3), (3, xm_i t), (4, xm_i 4)], [xm_i 4], xh_M I L, 0, 0)) 1 rfl ?_
    rw [show xf_X5_enough3 I L w t = 4 from by unfold xf_X5_enough3; rw [if_neg h1]]
    exact xK.ret rfl ⟨_, rfl, rfl⟩
set_option linter.unusedVariables false in
def xf_X5_enough4 (I : xh_I) (L : xh_L) (w : Int32) (t : Int32) : Int32 := 4
set_option maxHeartbeats 4000000 in
set_option maxRecDepth 100000 in
theorem xd_X5_enough4 (d : Nat) (I : xh_I) (L : xh_L) (ho : xh_oo I) (w : Int32) (t : Int32) : xm_Do xp_pg (d + 1) 89 [xm_r 5 0, xm_i w, xm_i 4, xm_i t] (xh_M I L) (some (xm_i (xf_X5_enough4 I L w t))) (xh_M I L) 0 0 := by
  refine xK.of (Nat.le_of_ble_eq_true rfl) rfl ?_
  refine xK.run (q := (6, [(0, xm_r 5 0), (1, xm_i w), (2, xm_i 4), (3, xm_i t), (4, xm_i 4)], [xm_i 4, xm_i 4], xh_M I L, 0, 0)) 4 rfl ?_
  refine xK.icmp rfl (fun _ => ?_) (fun h9 => absurd (by decide) h9)
  refine xK.run (q := (36, [(0, xm_r 5 0), (1, xm_i w), (2, xm_i 4), (3, xm_i t), (4, xm_i 4)], [xm_i 4], xh_M I L, 0, 0)) 1 rfl ?_
  exact xK.ret rfl ⟨_, rfl, rfl⟩
def xf_X5_enough (I : xh_I) (L : xh_L) (w f t : Int32) : Int32 := if f = 1 then xf_X5_enough1 I L w t else if f = 2 then xf_X5_enough2 I L w t else if f = 3 then xf_X5_enough3 I L w t else xf_X5_enough4 I L w t
theorem xd_X5_enough (d : Nat) (I : xh_I) (L : xh_L) (ho : xh_oo I) (w f t : Int32) (hf : xh_s4 f) : xm_Do xp_pg (d + 3) 89 [xm_r 5 0, xm_i w, xm_i f, xm_i t] (xh_M I L) (some (xm_i (xf_X5_enough I L w f t))) (xh_M I L) 0 0 := by
  rcases hf with rfl | rfl | rfl | rfl
  · rw [show xf_X5_enough I L w 1 t = xf_X5_enough1 I L w t from by unfold xf_X5_enough; rw [if_pos rfl]]
    exact xd_X5_enough1 d I L ho w t
  · rw [show xf_X5_enough I L w 2 t = xf_X5_enough2 I L w t from by unfold xf_X5_enough; rw [if_neg (by decide), if_pos rfl]]
    exact xd_X5_enough2 d I L ho w t
  · rw [show xf_X5_enough I L w 3 t = xf_X5_enough3 I L w t from by unfold xf_X5_enough; rw [if_neg (by decide), if_neg (by decide), if_pos rfl]]
    exact xd_X5_enough3 d I L ho w t
  · rw [show xf_X5_enough I L w 4 t = xf_X5_enough4 I L w t from by unfold xf_X5_enough; rw [if_neg (by decide), if_neg (by decide), if_neg (by decide)]]
    exact xd_X5_enough4 (d + 2) I L ho w t
