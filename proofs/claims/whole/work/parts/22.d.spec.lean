/-! WHAT THE REFERENCE COMPUTES (by program) -/
set_option linter.unusedVariables false in
def xf_X5_chosen (I : xh_I) (L : xh_L)  : Int32 := if (xf_X5_enough1 I L 1 0) = (xf_X5_enough1 I L 2 0) then (if (lg_cmp (xf_X5_part I L 1 (xf_X5_enough1 I L 1 0) 0) (xf_X5_part I L 2 (xf_X5_enough1 I L 2 0) 0)) = 0 then (if 0 < (lg_cmp (L 5 16 0) 0) then 2 else 1) else (if (lg_cmp (xf_X5_part I L 1 (xf_X5_enough1 I L 1 0) 0) (xf_X5_part I L 2 (xf_X5_enough1 I L 2 0) 0)) ≤ 0 then 2 else 1)) else (if (xf_X5_enough1 I L 2 0) ≤ (xf_X5_enough1 I L 1 0) then 2 else 1)
set_option maxHeartbeats 4000000 in
set_option maxRecDepth 100000 in
theorem xd_X5_chosen (d : Nat) (I : xh_I) (L : xh_L) (ho : xh_oo I) : xm_Do xp_pg (d + 4) 90 [xm_r 5 0] (xh_M I L) (some (xm_i (xf_X5_chosen I L))) (xh_M I L) 0 0 := by
  refine xK.of (Nat.le_of_ble_eq_true rfl) rfl ?_
  refine xK.run (q := (4, [(0, xm_r 5 0)], [xm_i 0, xm_i 1, xm_i 1, xm_r 5 0], xh_M I L, 0, 0)) 4 rfl ?_
  refine xK.call [xm_r 5 0, xm_i 1, xm_i 1, xm_i 0] (xd_X5_enough1 d I L ho 1 0) rfl rfl rfl (Or.inr ⟨_, _, rfl⟩) (Nat.le_of_ble_eq_true rfl) ?_
  refine xK.run (q := (12, [(0, xm_r 5 0), (1, xm_i (xf_X5_enough1 I L 1 0))], [xm_i 0, xm_i 1, xm_i 2, xm_r 5 0], xh_M I L, 0, 0)) 5 rfl ?_
  refine xK.call [xm_r 5 0, xm_i 2, xm_i 1, xm_i 0] (xd_X5_enough1 d I L ho 2 0) rfl rfl rfl (Or.inr ⟨_, _, rfl⟩) (Nat.le_of_ble_eq_true rfl) ?_
  refine xK.run (q := (18, [(0, xm_r 5 0), (1, xm_i (xf_X5_enough1 I L 1 0)), (2, xm_i (xf_X5_enough1 I L 2 0))], [xm_i (xf_X5_enough1 I L 2 0), xm_i (xf_X5_enough1 I L 1 0)], xh_M I L, 0, 0)) 3 rfl ?_
  refine xK.icmp rfl (fun (h1 : (xf_X5_enough1 I L 1 0) = (xf_X5_enough1 I L 2 0)) => ?_) (fun (h1 : ¬ (xf_X5_enough1 I L 1 0) = (xf_X5_enough1 I L 2 0)) => ?_)
  · skip
    refine xK.run (q := (36, [(0, xm_r 5 0), (1, xm_i (xf_X5_enough1 I L 1 0)), (2, xm_i (xf_X5_enough1 I L 2 0))], [xm_i 0, xm_i (xf_X5_enough1 I L 1 0), xm_i 1, xm_r 5 0], xh_M I L, 0, 0)) 4 rfl ?_
    refine xK.call [xm_r 5 0, xm_i 1, xm_i (xf_X5_enough1 I L 1 0), xm_i 0] (xd_X5_part (d + 1) I L ho 1 (xf_X5_enough1 I L 1 0) 0) rfl rfl rfl (Or.inr ⟨_, _, rfl⟩) (Nat.le_of_ble_eq_true rfl) ?_
    refine xK.run (q := (44, [(0, xm_r 5 0), (1, xm_i (xf_X5_enough1 I L 1 0)), (2, xm_i (xf_X5_enough1 I L 2 0)), (3, xm_l (xf_X5_part I L 1 (xf_X5_enough1 I L 1 0) 0))], [xm_i 0, xm_i (xf_X5_enough1 I L 2 0), xm_i 2, xm_r 5 0], xh_M I L, 0, 0)) 5 rfl ?_
    refine xK.call [xm_r 5 0, xm_i 2, xm_i (xf_X5_enough1 I L 2 0), xm_i 0] (xd_X5_part (d + 1) I L ho 2 (xf_X5_enough1 I L 2 0) 0) rfl rfl rfl (Or.inr ⟨_, _, rfl⟩) (Nat.le_of_ble_eq_true rfl) ?_
    refine xK.run (q := (53, [(0, xm_r 5 0), (1, xm_i (xf_X5_enough1 I L 1 0)), (2, xm_i (xf_X5_enough1 I L 2 0)), (3, xm_l (xf_X5_part I L 1 (xf_X5_enough1 I L 1 0) 0)), (5, xm_l (xf_X5_part I L 2 (xf_X5_enough1 I L 2 0) 0))], [xm_i (lg_cmp (xf_X5_part I L 1 (xf_X5_enough1 I L 1 0) 0) (xf_X5_part I L 2 (xf_X5_enough1 I L 2 0) 0))], xh_M I L, 0, 0)) 4 rfl ?_
    refine xK.ifI rfl (fun (h2 : (lg_cmp (xf_X5_part I L 1 (xf_X5_enough1 I L 1 0) 0) (xf_X5_part I L 2 (xf_X5_enough1 I L 2 0) 0)) = 0) => ?_) (fun (h2 : ¬ (lg_cmp (xf_X5_part I L 1 (xf_X5_enough1 I L 1 0) 0) (xf_X5_part I L 2 (xf_X5_enough1 I L 2 0) 0)) = 0) => ?_)
    · skip
      refine xK.run (q := (75, [(0, xm_r 5 0), (1, xm_i (xf_X5_enough1 I L 1 0)), (2, xm_i (xf_X5_enough1 I L 2 0)), (3, xm_l (xf_X5_part I L 1 (xf_X5_enough1 I L 1 0) 0)), (5, xm_l (xf_X5_part I L 2 (xf_X5_enough1 I L 2 0) 0))], [xm_i (lg_cmp (L 5 16 0) 0)], xh_M I L, 0, 0)) 4 rfl ?_
      refine xK.ifI rfl (fun (h3 : 0 < (lg_cmp (L 5 16 0) 0)) => ?_) (fun (h3 : ¬ 0 < (lg_cmp (L 5 16 0) 0)) => ?_)
      · skip
        refine xK.run (q := (83, [(0, xm_r 5 0), (1, xm_i (xf_X5_enough1 I L 1 0)), (2, xm_i (xf_X5_enough1 I L 2 0)), (3, xm_l (xf_X5_part I L 1 (xf_X5_enough1 I L 1 0) 0)), (5, xm_l (xf_X5_part I L 2 (xf_X5_enough1 I L 2 0) 0))], [xm_i 2], xh_M I L, 0, 0)) 1 rfl ?_
        rw [show xf_X5_chosen I L = 2 from by unfold xf_X5_chosen; rw [if_pos h1, if_pos h2, if_pos h3]]
        exact xK.ret rfl ⟨_, rfl, rfl⟩
      · skip
        refine xK.run (q := (83, [(0, xm_r 5 0), (1, xm_i (xf_X5_enough1 I L 1 0)), (2, xm_i (xf_X5_enough1 I L 2 0)), (3, xm_l (xf_X5_part I L 1 (xf_X5_enough1 I L 1 0) 0)), (5, xm_l (xf_X5_part I L 2 (xf_X5_enough1 I L 2 0) 0))], [xm_i 1], xh_M I L, 0, 0)) 2 rfl ?_
        rw [show xf_X5_chosen I L = 1 from by unfold xf_X5_chosen; rw [if_pos h1, if_pos h2, if_neg h3]]
        exact xK.ret rfl ⟨_, rfl, rfl⟩
    · skip
      refine xK.run (q := (60, [(0, xm_r 5 0), (1, xm_i (xf_X5_enough1 I L 1 0)), (2, xm_i (xf_X5_enough1 I L 2 0)), (3, xm_l (xf_X5_part I L 1 (xf_X5_enough1 I L 1 0) 0)), (5, xm_l (xf_X5_part I L 2 (xf_X5_enough1 I L 2 0) 0))], [xm_i (lg_cmp (xf_X5_part I L 1 (xf_X5_enough1 I L 1 0) 0) (xf_X5_part I L 2 (xf_X5_enough1 I L 2 0) 0))], xh_M I L, 0, 0)) 3 rfl ?_
      refine xK.ifI rfl (fun (h4 : (lg_cmp (xf_X5_part I L 1 (xf_X5_enough1 I L 1 0) 0) (xf_X5_part I L 2 (xf_X5_enough1 I L 2 0) 0)) ≤ 0) => ?_) (fun (h4 : ¬ (lg_cmp (xf_X5_part I L 1 (xf_X5_enough1 I L 1 0) 0) (xf_X5_part I L 2 (xf_X5_enough1 I L 2 0) 0)) ≤ 0) => ?_)
      · skip
        refine xK.run (q := (68, [(0, xm_r 5 0), (1, xm_i (xf_X5_enough1 I L 1 0)), (2, xm_i (xf_X5_enough1 I L 2 0)), (3, xm_l (xf_X5_part I L 1 (xf_X5_enough1 I L 1 0) 0)), (5, xm_l (xf_X5_part I L 2 (xf_X5_enough1 I L 2 0) 0))], [xm_i 2], xh_M I L, 0, 0)) 1 rfl ?_
        rw [show xf_X5_chosen I L = 2 from by unfold xf_X5_chosen; rw [if_pos h1, if_neg h2, if_pos h4]]
        exact xK.ret rfl ⟨_, rfl, rfl⟩
      · skip
        refine xK.run (q := (68, [(0, xm_r 5 0), (1, xm_i (xf_X5_enough1 I L 1 0)), (2, xm_i (xf_X5_enough1 I L 2 0)), (3, xm_l (xf_X5_part I L 1 (xf_X5_enough1 I L 1 0) 0)), (5, xm_l (xf_X5_part I L 2 (xf_X5_enough1 I L 2 0) 0))], [xm_i 1], xh_M I L, 0, 0)) 2 rfl ?_
        rw [show xf_X5_chosen I L = 1 from by unfold xf_X5_chosen; rw [if_pos h1, if_neg h2, if_neg h4]]
        exact xK.ret rfl ⟨_, rfl, rfl⟩
  · skip
    refine xK.run (q := (23, [(0, xm_r 5 0), (1, xm_i (xf_X5_enough1 I L 1 0)), (2, xm_i (xf_X5_enough1 I L 2 0))], [xm_i (xf_X5_enough1 I L 2 0), xm_i (xf_X5_enough1 I L 1 0)], xh_M I L, 0, 0)) 2 rfl ?_
    refine xK.icmp rfl (fun (h5 : (xf_X5_enough1 I L 2 0) ≤ (xf_X5_enough1 I L 1 0)) => ?_) (fun (h5 : ¬ (xf_X5_enough1 I L 2 0) ≤ (xf_X5_enough1 I L 1 0)) => ?_)
    · skip
      refine xK.run (q := (31, [(0, xm_r 5 0), (1, xm_i (xf_X5_enough1 I L 1 0)), (2, xm_i (xf_X5_enough1 I L 2 0))], [xm_i 2], xh_M I L, 0, 0)) 1 rfl ?_
      rw [show xf_X5_chosen I L = 2 from by unfold xf_X5_chosen; rw [if_neg h1, if_pos h5]]
      exact xK.ret rfl ⟨_, rfl, rfl⟩
    · skip
      refine xK.run (q := (31, [(0, xm_r 5 0), (1, xm_i (xf_X5_enough1 I L 1 0)), (2, xm_i (xf_X5_enough1 I L 2 0))], [xm_i 1], xh_M I L, 0, 0)) 2 rfl ?_
      rw [show xf_X5_chosen I L = 1 from by unfold xf_X5_chosen; rw [if_neg h1, if_neg h5]]
      exact xK.ret rfl ⟨_, rfl, rfl⟩
set_option linter.unusedVariables false in
def xfI_X5_begin (I : xh_I) (L : xh_L) (p : Int32) (w : Int32) : xh_I := (xm_up (xm_up (xm_up I 11 p.toNatClampNeg 0 w) 12 p.toNatClampNeg 0 (xf_X5_enough1 (xm_up I 11 p.toNatClampNeg 0 w) L w 0)) 13 p.toNatClampNeg 0 0)
set_option maxHeartbeats 4000000 in
set_option maxRecDepth 100000 in
theorem xd_X5_begin (d : Nat) (I : xh_I) (L : xh_L) (ho : xh_oo I) (p : Int32) (hp : xh_ix p p.toNatClampNeg 36) (w : Int32) : xm_Do xp_pg (d + 4) 94 [xm_r 5 0, xm_i p, xm_i w] (xh_M I L) none (xh_M (xfI_X5_begin I L p w) L) 0 0 := by
  refine xK.of (Nat.le_of_ble_eq_true rfl) rfl ?_
  refine xK.run (q := (6, [(0, xm_r 5 0), (1, xm_i p), (2, xm_i w)], [xm_i w, xm_i p, xm_r 11 0], xh_M I L, 0, 0)) 4 rfl ?_
  refine xK.iast' rfl rfl hp ?_
  refine xK.run (q := (16, [(0, xm_r 5 0), (1, xm_i p), (2, xm_i w)], [xm_i 0, xm_i 1, xm_i w, xm_r 5 0, xm_i p, xm_r 12 0], xh_M (xm_up I 11 p.toNatClampNeg 0 w) L, 0, 0)) 7 rfl ?_
  refine xK.call [xm_r 5 0, xm_i w, xm_i 1, xm_i 0] (xd_X5_enough1 d (xm_up I 11 p.toNatClampNeg 0 w) L ho w 0) rfl rfl rfl (Or.inr ⟨_, _, rfl⟩) (Nat.le_of_ble_eq_true rfl) ?_
  refine xK.iast' rfl rfl hp ?_
  refine xK.run (q := (26, [(0, xm_r 5 0), (1, xm_i p), (2, xm_i w)], [xm_i 0, xm_i p, xm_r 13 0], xh_M (xm_up (xm_up I 11 p.toNatClampNeg 0 w) 12 p.toNatClampNeg 0 (xf_X5_enough1 (xm_up I 11 p.toNatClampNeg 0 w) L w 0)) L, 0, 0)) 4 rfl ?_
  refine xK.iast' rfl rfl hp ?_
  exact xK.ret rfl ⟨rfl, rfl⟩
set_option linter.unusedVariables false in
def xfI_advC (I : xh_I) (L : xh_L) (p : Int32) (b : Int32) : xh_I := if (xf_X5_enough I L (I 11 p.toNatClampNeg 0) (I 12 p.toNatClampNeg 0) (I 13 p.toNatClampNeg 0)) ≤ (I 12 p.toNatClampNeg 0) then (xm_up (xm_up I 17 2 0 (I 17 2 0)) 12 p.toNatClampNeg 0 (xf_X5_enough I L (I 11 p.toNatClampNeg 0) (I 12 p.toNatClampNeg 0) (I 13 p.toNatClampNeg 0))) else (xm_up (xm_up I 17 2 0 ((I 17 2 0) + 1)) 12 p.toNatClampNeg 0 (xf_X5_enough I L (I 11 p.toNatClampNeg 0) (I 12 p.toNatClampNeg 0) (I 13 p.toNatClampNeg 0)))
set_option maxHeartbeats 4000000 in
set_option maxRecDepth 100000 in
theorem xq_advC (d : Nat) (I : xh_I) (L : xh_L) (p : Int32) (hp : xh_ix p p.toNatClampNeg 36) (b : Int32) (ho : xh_oo I) (hf : xh_s4 (I 12 p.toNatClampNeg 0)) : xK (d + 3) xt_X5_advise 212 ([(0, xm_r 5 0), (1, xm_i p), (2, xm_i b)], [], xh_M I L, 0, 0) (xE xt_X5_advise none (xh_M (xfI_advC I L p b) L) 0 0) := by
  refine xK.run (q := (218, [(0, xm_r 5 0), (1, xm_i p), (2, xm_i b)], [xm_i p, xm_r 11 0, xm_r 5 0], xh_M I L, 0, 0)) 4 rfl ?_
  refine xK.iald' rfl rfl hp ?_
  refine xK.run (q := (224, [(0, xm_r 5 0), (1, xm_i p), (2, xm_i b)], [xm_i p, xm_r 12 0, xm_i (I 11 p.toNatClampNeg 0), xm_r 5 0], xh_M I L, 0, 0)) 3 rfl ?_
  refine xK.iald' rfl rfl hp ?_
  refine xK.run (q := (230, [(0, xm_r 5 0), (1, xm_i p), (2, xm_i b)], [xm_i p, xm_r 13 0, xm_i (I 12 p.toNatClampNeg 0), xm_i (I 11 p.toNatClampNeg 0), xm_r 5 0], xh_M I L, 0, 0)) 3 rfl ?_
  refine xK.iald' rfl rfl hp ?_
  refine xK.call [xm_r 5 0, xm_i (I 11 p.toNatClampNeg 0), xm_i (I 12 p.toNatClampNeg 0), xm_i (I 13 p.toNatClampNeg 0)] (xd_X5_enough d I L ho (I 11 p.toNatClampNeg 0) (I 12 p.toNatClampNeg 0) (I 13 p.toNatClampNeg 0) hf) rfl rfl rfl (Or.inr ⟨_, _, rfl⟩) (Nat.le_of_ble_eq_true rfl) ?_
  refine xK.run (q := (246, [(0, xm_r 5 0), (1, xm_i p), (2, xm_i b), (3, xm_i (xf_X5_enough I L (I 11 p.toNatClampNeg 0) (I 12 p.toNatClampNeg 0) (I 13 p.toNatClampNeg 0)))], [xm_i p, xm_r 12 0, xm_i (xf_X5_enough I L (I 11 p.toNatClampNeg 0) (I 12 p.toNatClampNeg 0) (I 13 p.toNatClampNeg 0)), xm_i 2, xm_r 17 0], xh_M I L, 0, 0)) 8 rfl ?_
  refine xK.iald' rfl rfl hp ?_
  refine xK.icmp rfl (fun (h1 : (xf_X5_enough I L (I 11 p.toNatClampNeg 0) (I 12 p.toNatClampNeg 0) (I 13 p.toNatClampNeg 0)) ≤ (I 12 p.toNatClampNeg 0)) => ?_) (fun (h1 : ¬ (xf_X5_enough I L (I 11 p.toNatClampNeg 0) (I 12 p.toNatClampNeg 0) (I 13 p.toNatClampNeg 0)) ≤ (I 12 p.toNatClampNeg 0)) => ?_)
  · skip
    refine xK.run (q := (266, [(0, xm_r 5 0), (1, xm_i p), (2, xm_i b), (3, xm_i (xf_X5_enough I L (I 11 p.toNatClampNeg 0) (I 12 p.toNatClampNeg 0) (I 13 p.toNatClampNeg 0)))], [xm_i 2, xm_r 17 0, xm_i 2, xm_r 17 0], xh_M I L, 0, 0)) 3 rfl ?_
    refine xK.iald' rfl rfl (show xh_ix 2 2 5 by decide) ?_
    refine xK.iast' rfl rfl (show xh_ix 2 2 5 by decide) ?_
    refine xK.run (q := (274, [(0, xm_r 5 0), (1, xm_i p), (2, xm_i b), (3, xm_i (xf_X5_enough I L (I 11 p.toNatClampNeg 0) (I 12 p.toNatClampNeg 0) (I 13 p.toNatClampNeg 0)))], [xm_i (xf_X5_enough I L (I 11 p.toNatClampNeg 0) (I 12 p.toNatClampNeg 0) (I 13 p.toNatClampNeg 0)), xm_i p, xm_r 12 0], xh_M (xm_up I 17 2 0 (I 17 2 0)) L, 0, 0)) 4 rfl ?_
    refine xK.iast' rfl rfl hp ?_
    rw [show xfI_advC I L p b = (xm_up (xm_up I 17 2 0 (I 17 2 0)) 12 p.toNatClampNeg 0 (xf_X5_enough I L (I 11 p.toNatClampNeg 0) (I 12 p.toNatClampNeg 0) (I 13 p.toNatClampNeg 0))) from by unfold xfI_advC; rw [if_pos h1]]
    exact xK.ret rfl ⟨rfl, rfl⟩
  · skip
    refine xK.run (q := (255, [(0, xm_r 5 0), (1, xm_i p), (2, xm_i b), (3, xm_i (xf_X5_enough I L (I 11 p.toNatClampNeg 0) (I 12 p.toNatClampNeg 0) (I 13 p.toNatClampNeg 0)))], [xm_i 2, xm_r 17 0, xm_i 2, xm_r 17 0], xh_M I L, 0, 0)) 3 rfl ?_
    refine xK.iald' rfl rfl (show xh_ix 2 2 5 by decide) ?_
    refine xK.run (q := (267, [(0, xm_r 5 0), (1, xm_i p), (2, xm_i b), (3, xm_i (xf_X5_enough I L (I 11 p.toNatClampNeg 0) (I 12 p.toNatClampNeg 0) (I 13 p.toNatClampNeg 0)))], [xm_i ((I 17 2 0) + 1), xm_i 2, xm_r 17 0], xh_M I L, 0, 0)) 3 rfl ?_
    refine xK.iast' rfl rfl (show xh_ix 2 2 5 by decide) ?_
    refine xK.run (q := (274, [(0, xm_r 5 0), (1, xm_i p), (2, xm_i b), (3, xm_i (xf_X5_enough I L (I 11 p.toNatClampNeg 0) (I 12 p.toNatClampNeg 0) (I 13 p.toNatClampNeg 0)))], [xm_i (xf_X5_enough I L (I 11 p.toNatClampNeg 0) (I 12 p.toNatClampNeg 0) (I 13 p.toNatClampNeg 0)), xm_i p, xm_r 12 0], xh_M (xm_up I 17 2 0 ((I 17 2 0) + 1)) L, 0, 0)) 4 rfl ?_
    refine xK.iast' rfl rfl hp ?_
    rw [show xfI_advC I L p b = (xm_up (xm_up I 17 2 0 ((I 17 2 0) + 1)) 12 p.toNatClampNeg 0 (xf_X5_enough I L (I 11 p.toNatClampNeg 0) (I 12 p.toNatClampNeg 0) (I 13 p.toNatClampNeg 0))) from by unfold xfI_advC; rw [if_neg h1]]
    exact xK.ret rfl ⟨rfl, rfl⟩
set_option linter.unusedVariables false in
def xfI_advB (I : xh_I) (L : xh_L) (p : Int32) (b : Int32) : xh_I := if 0 ≤ (lg_cmp (xf_X5_part I L (I 11 p.toNatClampNeg 0) 4 (I 13 p.toNatClampNeg 0)) 0) then (xfI_advC I L p b) else (if (lg_cmp (xf_X5_part I L b 4 0) ((I 7 4 0).toInt64)) < 0 then (xfI_advC I L p b) else (if (I 14 p.toNatClampNeg 0) = 0 then (if (lg_cmp (L 5 21 0) ((I 7 5 0).toInt64)) ≤ 0 then (xfI_advC I L p b) else (xm_up (xm_up (xfI_X5_begin I L p b) 14 p.toNatClampNeg 0 1) 17 1 0 (((xm_up (xfI_X5_begin I L p b) 14 p.toNatClampNeg 0 1) 17 1 0) + 1))) else (xfI_advC I L p b)))
set_option maxHeartbeats 4000000 in
set_option maxRecDepth 100000 in
theorem xq_advB (d : Nat) (I : xh_I) (L : xh_L) (p : Int32) (hp : xh_ix p p.toNatClampNeg 36) (b : Int32) (ho : xh_oo I) (hf : xh_s4 (I 12 p.toNatClampNeg 0)) : xK (d + 4) xt_X5_advise 124 ([(0, xm_r 5 0), (1, xm_i p), (2, xm_i b)], [], xh_M I L, 0, 0) (xE xt_X5_advise none (xh_M (xfI_advB I L p b) L) 0 0) := by
  refine xK.run (q := (130, [(0, xm_r 5 0), (1, xm_i p), (2, xm_i b)], [xm_i p, xm_r 11 0, xm_r 5 0], xh_M I L, 0, 0)) 4 rfl ?_
  refine xK.iald' rfl rfl hp ?_
  refine xK.run (q := (137, [(0, xm_r 5 0), (1, xm_i p), (2, xm_i b)], [xm_i p, xm_r 13 0, xm_i 4, xm_i (I 11 p.toNatClampNeg 0), xm_r 5 0], xh_M I L, 0, 0)) 4 rfl ?_
  refine xK.iald' rfl rfl hp ?_
  refine xK.call [xm_r 5 0, xm_i (I 11 p.toNatClampNeg 0), xm_i 4, xm_i (I 13 p.toNatClampNeg 0)] (xd_X5_part (d + 2) I L ho (I 11 p.toNatClampNeg 0) 4 (I 13 p.toNatClampNeg 0)) rfl rfl rfl (Or.inr ⟨_, _, rfl⟩) (Nat.le_of_ble_eq_true rfl) ?_
  refine xK.run (q := (143, [(0, xm_r 5 0), (1, xm_i p), (2, xm_i b)], [xm_i (lg_cmp (xf_X5_part I L (I 11 p.toNatClampNeg 0) 4 (I 13 p.toNatClampNeg 0)) 0)], xh_M I L, 0, 0)) 2 rfl ?_
  refine xK.ifI rfl (fun (h1 : 0 ≤ (lg_cmp (xf_X5_part I L (I 11 p.toNatClampNeg 0) 4 (I 13 p.toNatClampNeg 0)) 0)) => ?_) (fun (h1 : ¬ 0 ≤ (lg_cmp (xf_X5_part I L (I 11 p.toNatClampNeg 0) 4 (I 13 p.toNatClampNeg 0)) 0)) => ?_)
  · skip
    rw [show xfI_advB I L p b = (xfI_advC I L p b) from by unfold xfI_advB; rw [if_pos h1]]
    exact xq_advC (d + 1) I L p hp b ho hf
  · skip
    refine xK.run (q := (150, [(0, xm_r 5 0), (1, xm_i p), (2, xm_i b)], [xm_i 0, xm_i 4, xm_i b, xm_r 5 0], xh_M I L, 0, 0)) 4 rfl ?_
    refine xK.call [xm_r 5 0, xm_i b, xm_i 4, xm_i 0] (xd_X5_part (d + 2) I L ho b 4 0) rfl rfl rfl (Or.inr ⟨_, _, rfl⟩) (Nat.le_of_ble_eq_true rfl) ?_
    refine xK.run (q := (158, [(0, xm_r 5 0), (1, xm_i p), (2, xm_i b)], [xm_i 4, xm_r 7 0, xm_l (xf_X5_part I L b 4 0)], xh_M I L, 0, 0)) 3 rfl ?_
    refine xK.iald' rfl rfl (show xh_ix 4 4 7 by decide) ?_
    refine xK.run (q := (161, [(0, xm_r 5 0), (1, xm_i p), (2, xm_i b)], [xm_i (lg_cmp (xf_X5_part I L b 4 0) ((I 7 4 0).toInt64))], xh_M I L, 0, 0)) 2 rfl ?_
    refine xK.ifI rfl (fun (h2 : (lg_cmp (xf_X5_part I L b 4 0) ((I 7 4 0).toInt64)) < 0) => ?_) (fun (h2 : ¬ (lg_cmp (xf_X5_part I L b 4 0) ((I 7 4 0).toInt64)) < 0) => ?_)
    · skip
      rw [show xfI_advB I L p b = (xfI_advC I L p b) from by unfold xfI_advB; rw [if_neg h1, if_pos h2]]
      exact xq_advC (d + 1) I L p hp b ho hf
    · skip
      refine xK.run (q := (169, [(0, xm_r 5 0), (1, xm_i p), (2, xm_i b)], [xm_i p, xm_r 14 0], xh_M I L, 0, 0)) 3 rfl ?_
      refine xK.zald' rfl rfl hp ?_
      refine xK.ifN rfl (fun (h3 : (I 14 p.toNatClampNeg 0) = 0) => ?_) (fun (h3 : ¬ (I 14 p.toNatClampNeg 0) = 0) => ?_)
      · skip
        refine xK.run (q := (182, [(0, xm_r 5 0), (1, xm_i p), (2, xm_i b)], [xm_i 5, xm_r 7 0, xm_l (L 5 21 0)], xh_M I L, 0, 0)) 5 rfl ?_
        refine xK.iald' rfl rfl (show xh_ix 5 5 7 by decide) ?_
        refine xK.run (q := (185, [(0, xm_r 5 0), (1, xm_i p), (2, xm_i b)], [xm_i (lg_cmp (L 5 21 0) ((I 7 5 0).toInt64))], xh_M I L, 0, 0)) 2 rfl ?_
        refine xK.ifI rfl (fun (h4 : (lg_cmp (L 5 21 0) ((I 7 5 0).toInt64)) ≤ 0) => ?_) (fun (h4 : ¬ (lg_cmp (L 5 21 0) ((I 7 5 0).toInt64)) ≤ 0) => ?_)
        · skip
          rw [show xfI_advB I L p b = (xfI_advC I L p b) from by unfold xfI_advB; rw [if_neg h1, if_neg h2, if_pos h3, if_pos h4]]
          exact xq_advC (d + 1) I L p hp b ho hf
        · skip
          refine xK.run (q := (191, [(0, xm_r 5 0), (1, xm_i p), (2, xm_i b)], [xm_i b, xm_i p, xm_r 5 0], xh_M I L, 0, 0)) 3 rfl ?_
          refine xK.call [xm_r 5 0, xm_i p, xm_i b] (xd_X5_begin d I L ho p hp b) rfl rfl rfl (Or.inr ⟨_, _, rfl⟩) (Nat.le_of_ble_eq_true rfl) ?_
          refine xK.run (q := (200, [(0, xm_r 5 0), (1, xm_i p), (2, xm_i b)], [xm_i 1, xm_i p, xm_r 14 0], xh_M (xfI_X5_begin I L p b) L, 0, 0)) 4 rfl ?_
          refine xK.zast' rfl rfl (Or.inr rfl) hp ?_
          refine xK.run (q := (207, [(0, xm_r 5 0), (1, xm_i p), (2, xm_i b)], [xm_i 1, xm_r 17 0, xm_i 1, xm_r 17 0], xh_M (xm_up (xfI_X5_begin I L p b) 14 p.toNatClampNeg 0 1) L, 0, 0)) 4 rfl ?_
          refine xK.iald' rfl rfl (show xh_ix 1 1 5 by decide) ?_
          refine xK.run (q := (210, [(0, xm_r 5 0), (1, xm_i p), (2, xm_i b)], [xm_i (((xm_up (xfI_X5_begin I L p b) 14 p.toNatClampNeg 0 1) 17 1 0) + 1), xm_i 1, xm_r 17 0], xh_M (xm_up (xfI_X5_begin I L p b) 14 p.toNatClampNeg 0 1) L, 0, 0)) 2 rfl ?_
          refine xK.iast' rfl rfl (show xh_ix 1 1 5 by decide) ?_
          rw [show xfI_advB I L p b = (xm_up (xm_up (xfI_X5_begin I L p b) 14 p.toNatClampNeg 0 1) 17 1 0 (((xm_up (xfI_X5_begin I L p b) 14 p.toNatClampNeg 0 1) 17 1 0) + 1)) from by unfold xfI_advB; rw [if_neg h1, if_neg h2, if_pos h3, if_neg h4]]
          exact xK.ret rfl ⟨rfl, rfl⟩
      · skip
        rw [show xfI_advB I L p b = (xfI_advC I L p b) from by unfold xfI_advB; rw [if_neg h1, if_neg h2, if_neg h3]]
        exact xq_advC (d + 1) I L p hp b ho hf
set_option linter.unusedVariables false in
def xfI_advA (I : xh_I) (L : xh_L) (p : Int32) : xh_I := if (I 11 p.toNatClampNeg 0) = 1 then (xfI_advB (xm_up I 13 p.toNatClampNeg 0 ((I 13 p.toNatClampNeg 0) + 1)) L p 2) else (xfI_advB (xm_up I 13 p.toNatClampNeg 0 ((I 13 p.toNatClampNeg 0) + 1)) L p 1)
set_option maxHeartbeats 4000000 in
set_option maxRecDepth 100000 in
theorem xq_advA (d : Nat) (I : xh_I) (L : xh_L) (p : Int32) (hp : xh_ix p p.toNatClampNeg 36) (ho : xh_oo I) (hf : xh_s4 (I 12 p.toNatClampNeg 0)) : xK (d + 4) xt_X5_advise 98 ([(0, xm_r 5 0), (1, xm_i p)], [], xh_M I L, 0, 0) (xE xt_X5_advise none (xh_M (xfI_advA I L p) L) 0 0) := by
  refine xK.run (q := (104, [(0, xm_r 5 0), (1, xm_i p)], [xm_i p, xm_r 13 0, xm_i p, xm_r 13 0], xh_M I L, 0, 0)) 4 rfl ?_
  refine xK.iald' rfl rfl hp ?_
  refine xK.run (q := (107, [(0, xm_r 5 0), (1, xm_i p)], [xm_i ((I 13 p.toNatClampNeg 0) + 1), xm_i p, xm_r 13 0], xh_M I L, 0, 0)) 2 rfl ?_
  refine xK.iast' rfl rfl hp ?_
  refine xK.run (q := (113, [(0, xm_r 5 0), (1, xm_i p)], [xm_i p, xm_r 11 0], xh_M (xm_up I 13 p.toNatClampNeg 0 ((I 13 p.toNatClampNeg 0) + 1)) L, 0, 0)) 3 rfl ?_
  refine xK.iald' rfl rfl hp ?_
  refine xK.run (q := (115, [(0, xm_r 5 0), (1, xm_i p)], [xm_i 1, xm_i (I 11 p.toNatClampNeg 0)], xh_M (xm_up I 13 p.toNatClampNeg 0 ((I 13 p.toNatClampNeg 0) + 1)) L, 0, 0)) 1 rfl ?_
  refine xK.icmpN rfl (fun (h1 : (I 11 p.toNatClampNeg 0) = 1) => ?_) (fun (h1 : ¬ (I 11 p.toNatClampNeg 0) = 1) => ?_)
  · skip
    refine xK.run (q := (124, [(0, xm_r 5 0), (1, xm_i p), (2, xm_i 2)], [], xh_M (xm_up I 13 p.toNatClampNeg 0 ((I 13 p.toNatClampNeg 0) + 1)) L, 0, 0)) 3 rfl ?_
    rw [show xfI_advA I L p = (xfI_advB (xm_up I 13 p.toNatClampNeg 0 ((I 13 p.toNatClampNeg 0) + 1)) L p 2) from by unfold xfI_advA; rw [if_pos h1]]
    exact xq_advB d (xm_up I 13 p.toNatClampNeg 0 ((I 13 p.toNatClampNeg 0) + 1)) L p hp 2 ho hf
  · skip
    refine xK.run (q := (124, [(0, xm_r 5 0), (1, xm_i p), (2, xm_i 1)], [], xh_M (xm_up I 13 p.toNatClampNeg 0 ((I 13 p.toNatClampNeg 0) + 1)) L, 0, 0)) 2 rfl ?_
    rw [show xfI_advA I L p = (xfI_advB (xm_up I 13 p.toNatClampNeg 0 ((I 13 p.toNatClampNeg 0) + 1)) L p 1) from by unfold xfI_advA; rw [if_neg h1]]
    exact xq_advB d (xm_up I 13 p.toNatClampNeg 0 ((I 13 p.toNatClampNeg 0) + 1)) L p hp 1 ho hf
set_option linter.unusedVariables false in
def xfI_X5_advise (I : xh_I) (L : xh_L) (p : Int32) : xh_I := if (I 11 p.toNatClampNeg 0) = 0 then (if (xf_X5_alerts I L) = 0 then I else (xm_up (xm_up (xfI_X5_begin I L p (xf_X5_chosen I L)) 14 p.toNatClampNeg 0 0) 17 0 0 (((xm_up (xfI_X5_begin I L p (xf_X5_chosen I L)) 14 p.toNatClampNeg 0 0) 17 0 0) + 1))) else (if (xf_X5_alerts I L) = 0 then (if (lg_cmp (L 5 20 0) 0) < 0 then (xfI_advA I L p) else (xm_up (xm_up (xm_up (xm_up (xm_up I 11 p.toNatClampNeg 0 0) 12 p.toNatClampNeg 0 0) 13 p.toNatClampNeg 0 0) 14 p.toNatClampNeg 0 0) 17 3 0 ((I 17 3 0) + 1))) else (xfI_advA I L p))
set_option maxHeartbeats 4000000 in
set_option maxRecDepth 100000 in
theorem xd_X5_advise (d : Nat) (I : xh_I) (L : xh_L) (ho : xh_oo I) (p : Int32) (hp : xh_ix p p.toNatClampNeg 36) (hf : ¬ I 11 p.toNatClampNeg 0 = 0 → xh_s4 (I 12 p.toNatClampNeg 0)) : xm_Do xp_pg (d + 5) 95 [xm_r 5 0, xm_i p] (xh_M I L) none (xh_M (xfI_X5_advise I L p) L) 0 0 := by
  refine xK.of (Nat.le_of_ble_eq_true rfl) rfl ?_
  refine xK.run (q := (5, [(0, xm_r 5 0), (1, xm_i p)], [xm_i p, xm_r 11 0], xh_M I L, 0, 0)) 3 rfl ?_
  refine xK.iald' rfl rfl hp ?_
  refine xK.ifN rfl (fun (h1 : (I 11 p.toNatClampNeg 0) = 0) => ?_) (fun (h1 : ¬ (I 11 p.toNatClampNeg 0) = 0) => ?_)
  · skip
    refine xK.run (q := (10, [(0, xm_r 5 0), (1, xm_i p)], [xm_r 5 0], xh_M I L, 0, 0)) 1 rfl ?_
    refine xK.call [xm_r 5 0] (xd_X5_alerts (d + 2) I L) rfl rfl rfl (Or.inr ⟨_, _, rfl⟩) (Nat.le_of_ble_eq_true rfl) ?_
    refine xK.ifI rfl (fun (h2 : (xf_X5_alerts I L) = 0) => ?_) (fun (h2 : ¬ (xf_X5_alerts I L) = 0) => ?_)
    · skip
      rw [show xfI_X5_advise I L p = I from by unfold xfI_X5_advise; rw [if_pos h1, if_pos h2]]
      exact xK.ret rfl ⟨rfl, rfl⟩
    · skip
      refine xK.run (q := (19, [(0, xm_r 5 0), (1, xm_i p)], [xm_r 5 0, xm_i p, xm_r 5 0], xh_M I L, 0, 0)) 3 rfl ?_
      refine xK.call [xm_r 5 0] (xd_X5_chosen d I L ho) rfl rfl rfl (Or.inr ⟨_, _, rfl⟩) (Nat.le_of_ble_eq_true rfl) ?_
      refine xK.call [xm_r 5 0, xm_i p, xm_i (xf_X5_chosen I L)] (xd_X5_begin d I L ho p hp (xf_X5_chosen I L)) rfl rfl rfl (Or.inr ⟨_, _, rfl⟩) (Nat.le_of_ble_eq_true rfl) ?_
      refine xK.run (q := (31, [(0, xm_r 5 0), (1, xm_i p)], [xm_i 0, xm_i p, xm_r 14 0], xh_M (xfI_X5_begin I L p (xf_X5_chosen I L)) L, 0, 0)) 4 rfl ?_
      refine xK.zast' rfl rfl (Or.inl rfl) hp ?_
      refine xK.run (q := (38, [(0, xm_r 5 0), (1, xm_i p)], [xm_i 0, xm_r 17 0, xm_i 0, xm_r 17 0], xh_M (xm_up (xfI_X5_begin I L p (xf_X5_chosen I L)) 14 p.toNatClampNeg 0 0) L, 0, 0)) 4 rfl ?_
      refine xK.iald' rfl rfl (show xh_ix 0 0 5 by decide) ?_
      refine xK.run (q := (41, [(0, xm_r 5 0), (1, xm_i p)], [xm_i (((xm_up (xfI_X5_begin I L p (xf_X5_chosen I L)) 14 p.toNatClampNeg 0 0) 17 0 0) + 1), xm_i 0, xm_r 17 0], xh_M (xm_up (xfI_X5_begin I L p (xf_X5_chosen I L)) 14 p.toNatClampNeg 0 0) L, 0, 0)) 2 rfl ?_
      refine xK.iast' rfl rfl (show xh_ix 0 0 5 by decide) ?_
      rw [show xfI_X5_advise I L p = (xm_up (xm_up (xfI_X5_begin I L p (xf_X5_chosen I L)) 14 p.toNatClampNeg 0 0) 17 0 0 (((xm_up (xfI_X5_begin I L p (xf_X5_chosen I L)) 14 p.toNatClampNeg 0 0) 17 0 0) + 1)) from by unfold xfI_X5_advise; rw [if_pos h1, if_neg h2]]
      exact xK.ret rfl ⟨rfl, rfl⟩
  · skip
    refine xK.run (q := (44, [(0, xm_r 5 0), (1, xm_i p)], [xm_r 5 0], xh_M I L, 0, 0)) 1 rfl ?_
    refine xK.call [xm_r 5 0] (xd_X5_alerts (d + 2) I L) rfl rfl rfl (Or.inr ⟨_, _, rfl⟩) (Nat.le_of_ble_eq_true rfl) ?_
    refine xK.ifN rfl (fun (h3 : (xf_X5_alerts I L) = 0) => ?_) (fun (h3 : ¬ (xf_X5_alerts I L) = 0) => ?_)
    · skip
      refine xK.run (q := (56, [(0, xm_r 5 0), (1, xm_i p)], [xm_i (lg_cmp (L 5 20 0) 0)], xh_M I L, 0, 0)) 4 rfl ?_
      refine xK.ifI rfl (fun (h4 : (lg_cmp (L 5 20 0) 0) < 0) => ?_) (fun (h4 : ¬ (lg_cmp (L 5 20 0) 0) < 0) => ?_)
      · skip
        rw [show xfI_X5_advise I L p = (xfI_advA I L p) from by unfold xfI_X5_advise; rw [if_neg h1, if_pos h3, if_pos h4]]
        exact xq_advA d I L p hp ho (hf h1)
      · skip
        refine xK.run (q := (65, [(0, xm_r 5 0), (1, xm_i p)], [xm_i 0, xm_i p, xm_r 11 0], xh_M I L, 0, 0)) 4 rfl ?_
        refine xK.iast' rfl rfl hp ?_
        refine xK.run (q := (72, [(0, xm_r 5 0), (1, xm_i p)], [xm_i 0, xm_i p, xm_r 12 0], xh_M (xm_up I 11 p.toNatClampNeg 0 0) L, 0, 0)) 4 rfl ?_
        refine xK.iast' rfl rfl hp ?_
        refine xK.run (q := (79, [(0, xm_r 5 0), (1, xm_i p)], [xm_i 0, xm_i p, xm_r 13 0], xh_M (xm_up (xm_up I 11 p.toNatClampNeg 0 0) 12 p.toNatClampNeg 0 0) L, 0, 0)) 4 rfl ?_
        refine xK.iast' rfl rfl hp ?_
        refine xK.run (q := (86, [(0, xm_r 5 0), (1, xm_i p)], [xm_i 0, xm_i p, xm_r 14 0], xh_M (xm_up (xm_up (xm_up I 11 p.toNatClampNeg 0 0) 12 p.toNatClampNeg 0 0) 13 p.toNatClampNeg 0 0) L, 0, 0)) 4 rfl ?_
        refine xK.zast' rfl rfl (Or.inl rfl) hp ?_
        refine xK.run (q := (93, [(0, xm_r 5 0), (1, xm_i p)], [xm_i 3, xm_r 17 0, xm_i 3, xm_r 17 0], xh_M (xm_up (xm_up (xm_up (xm_up I 11 p.toNatClampNeg 0 0) 12 p.toNatClampNeg 0 0) 13 p.toNatClampNeg 0 0) 14 p.toNatClampNeg 0 0) L, 0, 0)) 4 rfl ?_
        refine xK.iald' rfl rfl (show xh_ix 3 3 5 by decide) ?_
        refine xK.run (q := (96, [(0, xm_r 5 0), (1, xm_i p)], [xm_i ((I 17 3 0) + 1), xm_i 3, xm_r 17 0], xh_M (xm_up (xm_up (xm_up (xm_up I 11 p.toNatClampNeg 0 0) 12 p.toNatClampNeg 0 0) 13 p.toNatClampNeg 0 0) 14 p.toNatClampNeg 0 0) L, 0, 0)) 2 rfl ?_
        refine xK.iast' rfl rfl (show xh_ix 3 3 5 by decide) ?_
        rw [show xfI_X5_advise I L p = (xm_up (xm_up (xm_up (xm_up (xm_up I 11 p.toNatClampNeg 0 0) 12 p.toNatClampNeg 0 0) 13 p.toNatClampNeg 0 0) 14 p.toNatClampNeg 0 0) 17 3 0 ((I 17 3 0) + 1)) from by unfold xfI_X5_advise; rw [if_neg h1, if_pos h3, if_neg h4]]
        exact xK.ret rfl ⟨rfl, rfl⟩
    · skip
      rw [show xfI_X5_advise I L p = (xfI_advA I L p) from by unfold xfI_X5_advise; rw [if_neg h1, if_neg h3]]
      exact xq_advA d I L p hp ho (hf h1)
