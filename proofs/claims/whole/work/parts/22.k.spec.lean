/-! WHAT THE REFERENCE COMPUTES (by program) -/
set_option linter.unusedVariables false in
def xfI_X5_place (I : xh_I) (L : xh_L) (i : Nat) (b : Int32) (c : Int32) (e : Int32) : xh_I := if (I 8 i 0) = 0 then (xwI_plac i (xfI_X5_endAll (xm_up (xm_up (xm_up (xm_up (xm_up (xm_up (xm_up (xm_up (xm_up I 5 0 0 0) 8 i 0 1) 9 i 0 1) 10 (6 * i + 3) 0 0) 10 (6 * i + 4) 0 0) 10 (6 * i + 5) 0 0) 10 (6 * i) 0 b) 10 (6 * i + 1) 0 c) 10 (6 * i + 2) 0 e) L i) (xfL_X5_endAll (xm_up (xm_up (xm_up (xm_up (xm_up (xm_up (xm_up (xm_up (xm_up I 5 0 0 0) 8 i 0 1) 9 i 0 1) 10 (6 * i + 3) 0 0) 10 (6 * i + 4) 0 0) 10 (6 * i + 5) 0 0) 10 (6 * i) 0 b) 10 (6 * i + 1) 0 c) 10 (6 * i + 2) 0 e) L i)) else (xwI_plac i (xfI_X5_endAll (xm_up (xm_up (xm_up (xm_up I 5 0 0 0) 10 (6 * i) 0 b) 10 (6 * i + 1) 0 c) 10 (6 * i + 2) 0 e) L i) (xfL_X5_endAll (xm_up (xm_up (xm_up (xm_up I 5 0 0 0) 10 (6 * i) 0 b) 10 (6 * i + 1) 0 c) 10 (6 * i + 2) 0 e) L i))
set_option linter.unusedVariables false in
def xfL_X5_place (I : xh_I) (L : xh_L) (i : Nat) (b : Int32) (c : Int32) (e : Int32) : xh_L := if (I 8 i 0) = 0 then (xwL_plac i (xfI_X5_endAll (xm_up (xm_up (xm_up (xm_up (xm_up (xm_up (xm_up (xm_up (xm_up I 5 0 0 0) 8 i 0 1) 9 i 0 1) 10 (6 * i + 3) 0 0) 10 (6 * i + 4) 0 0) 10 (6 * i + 5) 0 0) 10 (6 * i) 0 b) 10 (6 * i + 1) 0 c) 10 (6 * i + 2) 0 e) L i) (xfL_X5_endAll (xm_up (xm_up (xm_up (xm_up (xm_up (xm_up (xm_up (xm_up (xm_up I 5 0 0 0) 8 i 0 1) 9 i 0 1) 10 (6 * i + 3) 0 0) 10 (6 * i + 4) 0 0) 10 (6 * i + 5) 0 0) 10 (6 * i) 0 b) 10 (6 * i + 1) 0 c) 10 (6 * i + 2) 0 e) L i)) else (xwL_plac i (xfI_X5_endAll (xm_up (xm_up (xm_up (xm_up I 5 0 0 0) 10 (6 * i) 0 b) 10 (6 * i + 1) 0 c) 10 (6 * i + 2) 0 e) L i) (xfL_X5_endAll (xm_up (xm_up (xm_up (xm_up I 5 0 0 0) 10 (6 * i) 0 b) 10 (6 * i + 1) 0 c) 10 (6 * i + 2) 0 e) L i))
set_option maxHeartbeats 4000000 in
set_option maxRecDepth 100000 in
theorem xd_X5_place (d : Nat) (I : xh_I) (L : xh_L) (i : Nat) (hi : i < 6) (b : Int32) (c : Int32) (e : Int32) (h1 : ¬ xf_X5_isNumber (nI i) = 0) (h2 : ¬ xf_X5_within b 200000 = 0) (h3 : ¬ xf_X5_within c 200000 = 0) (h4 : ¬ xf_X5_within e 20000 = 0) : xm_Do xp_pg (d + 3) 80 [xm_r 5 0, xm_i (nI i), xm_i b, xm_i c, xm_i e] (xh_M I L) none (xh_M (xfI_X5_place I L i b c e) (xfL_X5_place I L i b c e)) 0 0 := by
  refine xK.of (Nat.le_of_ble_eq_true rfl) rfl ?_
  refine xK.run (q := (2, [(0, xm_r 5 0), (1, xm_i (nI i)), (2, xm_i b), (3, xm_i c), (4, xm_i e)], [xm_i (nI i), xm_r 5 0], xh_M I L, 0, 0)) 2 rfl ?_
  refine xK.call [xm_i (nI i)] (xd_X5_isNumber (d + 1) I L (nI i)) rfl rfl rfl (Or.inl rfl) (Nat.le_of_ble_eq_true rfl) ?_
  refine xK.ifI rfl (fun h9 => absurd h9 h1) (fun _ => ?_)
  refine xK.run (q := (11, [(0, xm_r 5 0), (1, xm_i (nI i)), (2, xm_i b), (3, xm_i c), (4, xm_i e)], [xm_i 200000, xm_i b, xm_r 5 0], xh_M I L, 0, 0)) 2 rfl ?_
  refine xK.call [xm_i b, xm_i 200000] (xd_X5_within (d + 1) I L b 200000) rfl rfl rfl (Or.inl rfl) (Nat.le_of_ble_eq_true rfl) ?_
  refine xK.ifI rfl (fun h9 => absurd h9 h2) (fun _ => ?_)
  refine xK.run (q := (20, [(0, xm_r 5 0), (1, xm_i (nI i)), (2, xm_i b), (3, xm_i c), (4, xm_i e)], [xm_i 200000, xm_i c, xm_r 5 0], xh_M I L, 0, 0)) 2 rfl ?_
  refine xK.call [xm_i c, xm_i 200000] (xd_X5_within (d + 1) I L c 200000) rfl rfl rfl (Or.inl rfl) (Nat.le_of_ble_eq_true rfl) ?_
  refine xK.ifI rfl (fun h9 => absurd h9 h3) (fun _ => ?_)
  refine xK.run (q := (31, [(0, xm_r 5 0), (1, xm_i (nI i)), (2, xm_i b), (3, xm_i c), (4, xm_i e)], [xm_i 20000, xm_i e, xm_r 5 0], xh_M I L, 0, 0)) 2 rfl ?_
  refine xK.call [xm_i e, xm_i 20000] (xd_X5_within (d + 1) I L e 20000) rfl rfl rfl (Or.inl rfl) (Nat.le_of_ble_eq_true rfl) ?_
  refine xK.ifN rfl (fun h9 => absurd h9 h4) (fun _ => ?_)
  refine xK.run (q := (49, [(0, xm_r 5 0), (1, xm_i (nI i)), (2, xm_i b), (3, xm_i c), (4, xm_i e)], [xm_i 0], xh_M (xm_up I 5 0 0 0) L, 0, 0)) 4 rfl ?_
  refine xK.ifI rfl (fun _ => ?_) (fun h9 => absurd (by decide) h9)
  refine xK.run (q := (58, [(0, xm_r 5 0), (1, xm_i (nI i)), (2, xm_i b), (3, xm_i c), (4, xm_i e)], [xm_i (nI i), xm_r 8 0], xh_M (xm_up I 5 0 0 0) L, 0, 0)) 3 rfl ?_
  refine xK.zald' rfl rfl (xh_ix_nI (N := 6) hi (by decide)) ?_
  refine xK.ifN rfl (fun (h1 : (I 8 i 0) = 0) => ?_) (fun (h1 : ¬ (I 8 i 0) = 0) => ?_)
  · skip
    refine xK.run (q := (68, [(0, xm_r 5 0), (1, xm_i (nI i)), (2, xm_i b), (3, xm_i c), (4, xm_i e)], [xm_i 1, xm_i (nI i), xm_r 8 0], xh_M (xm_up I 5 0 0 0) L, 0, 0)) 4 rfl ?_
    refine xK.zast' rfl rfl (Or.inr rfl) (xh_ix_nI (N := 6) hi (by decide)) ?_
    refine xK.run (q := (75, [(0, xm_r 5 0), (1, xm_i (nI i)), (2, xm_i b), (3, xm_i c), (4, xm_i e)], [xm_i 1, xm_i (nI i), xm_r 9 0], xh_M (xm_up (xm_up I 5 0 0 0) 8 i 0 1) L, 0, 0)) 4 rfl ?_
    refine xK.zast' rfl rfl (Or.inr rfl) (xh_ix_nI (N := 6) hi (by decide)) ?_
    refine xK.run (q := (87, [(0, xm_r 5 0), (1, xm_i (nI i)), (2, xm_i b), (3, xm_i c), (4, xm_i e)], [xm_i 0, xm_i ((6 * (nI i)) + 3), xm_r 10 0], xh_M (xm_up (xm_up (xm_up I 5 0 0 0) 8 i 0 1) 9 i 0 1) L, 0, 0)) 8 rfl ?_
    refine xK.iast' rfl rfl (xh_ix6 hi (c := 3) (by decide)) ?_
    refine xK.run (q := (99, [(0, xm_r 5 0), (1, xm_i (nI i)), (2, xm_i b), (3, xm_i c), (4, xm_i e)], [xm_i 0, xm_i ((6 * (nI i)) + 4), xm_r 10 0], xh_M (xm_up (xm_up (xm_up (xm_up I 5 0 0 0) 8 i 0 1) 9 i 0 1) 10 (6 * i + 3) 0 0) L, 0, 0)) 8 rfl ?_
    refine xK.iast' rfl rfl (xh_ix6 hi (c := 4) (by decide)) ?_
    refine xK.run (q := (111, [(0, xm_r 5 0), (1, xm_i (nI i)), (2, xm_i b), (3, xm_i c), (4, xm_i e)], [xm_i 0, xm_i ((6 * (nI i)) + 5), xm_r 10 0], xh_M (xm_up (xm_up (xm_up (xm_up (xm_up I 5 0 0 0) 8 i 0 1) 9 i 0 1) 10 (6 * i + 3) 0 0) 10 (6 * i + 4) 0 0) L, 0, 0)) 8 rfl ?_
    refine xK.iast' rfl rfl (xh_ix6 hi (c := 5) (by decide)) ?_
    refine xK.run (q := (121, [(0, xm_r 5 0), (1, xm_i (nI i)), (2, xm_i b), (3, xm_i c), (4, xm_i e)], [xm_i b, xm_i (6 * (nI i)), xm_r 10 0], xh_M (xm_up (xm_up (xm_up (xm_up (xm_up (xm_up I 5 0 0 0) 8 i 0 1) 9 i 0 1) 10 (6 * i + 3) 0 0) 10 (6 * i + 4) 0 0) 10 (6 * i + 5) 0 0) L, 0, 0)) 6 rfl ?_
    refine xK.iast' rfl rfl (xh_ix60 hi) ?_
    refine xK.run (q := (133, [(0, xm_r 5 0), (1, xm_i (nI i)), (2, xm_i b), (3, xm_i c), (4, xm_i e)], [xm_i c, xm_i ((6 * (nI i)) + 1), xm_r 10 0], xh_M (xm_up (xm_up (xm_up (xm_up (xm_up (xm_up (xm_up I 5 0 0 0) 8 i 0 1) 9 i 0 1) 10 (6 * i + 3) 0 0) 10 (6 * i + 4) 0 0) 10 (6 * i + 5) 0 0) 10 (6 * i) 0 b) L, 0, 0)) 8 rfl ?_
    refine xK.iast' rfl rfl (xh_ix6 hi (c := 1) (by decide)) ?_
    refine xK.run (q := (146, [(0, xm_r 5 0), (1, xm_i (nI i)), (2, xm_i b), (3, xm_i c), (4, xm_i e)], [xm_i e, xm_i ((6 * (nI i)) + 2), xm_r 10 0], xh_M (xm_up (xm_up (xm_up (xm_up (xm_up (xm_up (xm_up (xm_up I 5 0 0 0) 8 i 0 1) 9 i 0 1) 10 (6 * i + 3) 0 0) 10 (6 * i + 4) 0 0) 10 (6 * i + 5) 0 0) 10 (6 * i) 0 b) 10 (6 * i + 1) 0 c) L, 0, 0)) 8 rfl ?_
    refine xK.iast' rfl rfl (xh_ix6 hi (c := 2) (by decide)) ?_
    refine xK.run (q := (149, [(0, xm_r 5 0), (1, xm_i (nI i)), (2, xm_i b), (3, xm_i c), (4, xm_i e)], [xm_i (nI i), xm_r 5 0], xh_M (xm_up (xm_up (xm_up (xm_up (xm_up (xm_up (xm_up (xm_up (xm_up I 5 0 0 0) 8 i 0 1) 9 i 0 1) 10 (6 * i + 3) 0 0) 10 (6 * i + 4) 0 0) 10 (6 * i + 5) 0 0) 10 (6 * i) 0 b) 10 (6 * i + 1) 0 c) 10 (6 * i + 2) 0 e) L, 0, 0)) 2 rfl ?_
    refine xK.call [xm_r 5 0, xm_i (nI i)] (xd_X5_endAll d (xm_up (xm_up (xm_up (xm_up (xm_up (xm_up (xm_up (xm_up (xm_up I 5 0 0 0) 8 i 0 1) 9 i 0 1) 10 (6 * i + 3) 0 0) 10 (6 * i + 4) 0 0) 10 (6 * i + 5) 0 0) 10 (6 * i) 0 b) 10 (6 * i + 1) 0 c) 10 (6 * i + 2) 0 e) L i hi) rfl rfl rfl (Or.inr ⟨_, _, rfl⟩) (Nat.le_of_ble_eq_true rfl) ?_
    refine xK.run (q := (155, [(0, xm_r 5 0), (1, xm_i (nI i)), (2, xm_i b), (3, xm_i c), (4, xm_i e), (5, xm_i 0)], [], xh_M (xfI_X5_endAll (xm_up (xm_up (xm_up (xm_up (xm_up (xm_up (xm_up (xm_up (xm_up I 5 0 0 0) 8 i 0 1) 9 i 0 1) 10 (6 * i + 3) 0 0) 10 (6 * i + 4) 0 0) 10 (6 * i + 5) 0 0) 10 (6 * i) 0 b) 10 (6 * i + 1) 0 c) 10 (6 * i + 2) 0 e) L i) (xfL_X5_endAll (xm_up (xm_up (xm_up (xm_up (xm_up (xm_up (xm_up (xm_up (xm_up I 5 0 0 0) 8 i 0 1) 9 i 0 1) 10 (6 * i + 3) 0 0) 10 (6 * i + 4) 0 0) 10 (6 * i + 5) 0 0) 10 (6 * i) 0 b) 10 (6 * i + 1) 0 c) 10 (6 * i + 2) 0 e) L i), 0, 0)) 2 rfl ?_
    refine xK.forget (a := [(0, xm_r 5 0), (1, xm_i (nI i)), (5, xm_i 0)]) xmt_X5_place xm_Ei_E (of_decide_eq_true rfl) ⟨rfl, rfl, rfl, trivial⟩ ?_
    refine xl_plac_w d i hi xm_Ei_E (xfI_X5_endAll (xm_up (xm_up (xm_up (xm_up (xm_up (xm_up (xm_up (xm_up (xm_up I 5 0 0 0) 8 i 0 1) 9 i 0 1) 10 (6 * i + 3) 0 0) 10 (6 * i + 4) 0 0) 10 (6 * i + 5) 0 0) 10 (6 * i) 0 b) 10 (6 * i + 1) 0 c) 10 (6 * i + 2) 0 e) L i) (xfL_X5_endAll (xm_up (xm_up (xm_up (xm_up (xm_up (xm_up (xm_up (xm_up (xm_up I 5 0 0 0) 8 i 0 1) 9 i 0 1) 10 (6 * i + 3) 0 0) 10 (6 * i + 4) 0 0) 10 (6 * i + 5) 0 0) 10 (6 * i) 0 b) 10 (6 * i + 1) 0 c) 10 (6 * i + 2) 0 e) L i)   ?_
    rw [show xfI_X5_place I L i b c e = (xwI_plac i (xfI_X5_endAll (xm_up (xm_up (xm_up (xm_up (xm_up (xm_up (xm_up (xm_up (xm_up I 5 0 0 0) 8 i 0 1) 9 i 0 1) 10 (6 * i + 3) 0 0) 10 (6 * i + 4) 0 0) 10 (6 * i + 5) 0 0) 10 (6 * i) 0 b) 10 (6 * i + 1) 0 c) 10 (6 * i + 2) 0 e) L i) (xfL_X5_endAll (xm_up (xm_up (xm_up (xm_up (xm_up (xm_up (xm_up (xm_up (xm_up I 5 0 0 0) 8 i 0 1) 9 i 0 1) 10 (6 * i + 3) 0 0) 10 (6 * i + 4) 0 0) 10 (6 * i + 5) 0 0) 10 (6 * i) 0 b) 10 (6 * i + 1) 0 c) 10 (6 * i + 2) 0 e) L i)) from by unfold xfI_X5_place; rw [if_pos h1]]
    rw [show xfL_X5_place I L i b c e = (xwL_plac i (xfI_X5_endAll (xm_up (xm_up (xm_up (xm_up (xm_up (xm_up (xm_up (xm_up (xm_up I 5 0 0 0) 8 i 0 1) 9 i 0 1) 10 (6 * i + 3) 0 0) 10 (6 * i + 4) 0 0) 10 (6 * i + 5) 0 0) 10 (6 * i) 0 b) 10 (6 * i + 1) 0 c) 10 (6 * i + 2) 0 e) L i) (xfL_X5_endAll (xm_up (xm_up (xm_up (xm_up (xm_up (xm_up (xm_up (xm_up (xm_up I 5 0 0 0) 8 i 0 1) 9 i 0 1) 10 (6 * i + 3) 0 0) 10 (6 * i + 4) 0 0) 10 (6 * i + 5) 0 0) 10 (6 * i) 0 b) 10 (6 * i + 1) 0 c) 10 (6 * i + 2) 0 e) L i)) from by unfold xfL_X5_place; rw [if_pos h1]]
    exact xK.ret rfl ⟨rfl, rfl⟩
  · skip
    refine xK.run (q := (121, [(0, xm_r 5 0), (1, xm_i (nI i)), (2, xm_i b), (3, xm_i c), (4, xm_i e)], [xm_i b, xm_i (6 * (nI i)), xm_r 10 0], xh_M (xm_up I 5 0 0 0) L, 0, 0)) 6 rfl ?_
    refine xK.iast' rfl rfl (xh_ix60 hi) ?_
    refine xK.run (q := (133, [(0, xm_r 5 0), (1, xm_i (nI i)), (2, xm_i b), (3, xm_i c), (4, xm_i e)], [xm_i c, xm_i ((6 * (nI i)) + 1), xm_r 10 0], xh_M (xm_up (xm_up I 5 0 0 0) 10 (6 * i) 0 b) L, 0, 0)) 8 rfl ?_
    refine xK.iast' rfl rfl (xh_ix6 hi (c := 1) (by decide)) ?_
    refine xK.run (q := (146, [(0, xm_r 5 0), (1, xm_i (nI i)), (2, xm_i b), (3, xm_i c), (4, xm_i e)], [xm_i e, xm_i ((6 * (nI i)) + 2), xm_r 10 0], xh_M (xm_up (xm_up (xm_up I 5 0 0 0) 10 (6 * i) 0 b) 10 (6 * i + 1) 0 c) L, 0, 0)) 8 rfl ?_
    refine xK.iast' rfl rfl (xh_ix6 hi (c := 2) (by decide)) ?_
    refine xK.run (q := (149, [(0, xm_r 5 0), (1, xm_i (nI i)), (2, xm_i b), (3, xm_i c), (4, xm_i e)], [xm_i (nI i), xm_r 5 0], xh_M (xm_up (xm_up (xm_up (xm_up I 5 0 0 0) 10 (6 * i) 0 b) 10 (6 * i + 1) 0 c) 10 (6 * i + 2) 0 e) L, 0, 0)) 2 rfl ?_
    refine xK.call [xm_r 5 0, xm_i (nI i)] (xd_X5_endAll d (xm_up (xm_up (xm_up (xm_up I 5 0 0 0) 10 (6 * i) 0 b) 10 (6 * i + 1) 0 c) 10 (6 * i + 2) 0 e) L i hi) rfl rfl rfl (Or.inr ⟨_, _, rfl⟩) (Nat.le_of_ble_eq_true rfl) ?_
    refine xK.run (q := (155, [(0, xm_r 5 0), (1, xm_i (nI i)), (2, xm_i b), (3, xm_i c), (4, xm_i e), (5, xm_i 0)], [], xh_M (xfI_X5_endAll (xm_up (xm_up (xm_up (xm_up I 5 0 0 0) 10 (6 * i) 0 b) 10 (6 * i + 1) 0 c) 10 (6 * i + 2) 0 e) L i) (xfL_X5_endAll (xm_up (xm_up (xm_up (xm_up I 5 0 0 0) 10 (6 * i) 0 b) 10 (6 * i + 1) 0 c) 10 (6 * i + 2) 0 e) L i), 0, 0)) 2 rfl ?_
    refine xK.forget (a := [(0, xm_r 5 0), (1, xm_i (nI i)), (5, xm_i 0)]) xmt_X5_place xm_Ei_E (of_decide_eq_true rfl) ⟨rfl, rfl, rfl, trivial⟩ ?_
    refine xl_plac_w d i hi xm_Ei_E (xfI_X5_endAll (xm_up (xm_up (xm_up (xm_up I 5 0 0 0) 10 (6 * i) 0 b) 10 (6 * i + 1) 0 c) 10 (6 * i + 2) 0 e) L i) (xfL_X5_endAll (xm_up (xm_up (xm_up (xm_up I 5 0 0 0) 10 (6 * i) 0 b) 10 (6 * i + 1) 0 c) 10 (6 * i + 2) 0 e) L i)   ?_
    rw [show xfI_X5_place I L i b c e = (xwI_plac i (xfI_X5_endAll (xm_up (xm_up (xm_up (xm_up I 5 0 0 0) 10 (6 * i) 0 b) 10 (6 * i + 1) 0 c) 10 (6 * i + 2) 0 e) L i) (xfL_X5_endAll (xm_up (xm_up (xm_up (xm_up I 5 0 0 0) 10 (6 * i) 0 b) 10 (6 * i + 1) 0 c) 10 (6 * i + 2) 0 e) L i)) from by unfold xfI_X5_place; rw [if_neg h1]]
    rw [show xfL_X5_place I L i b c e = (xwL_plac i (xfI_X5_endAll (xm_up (xm_up (xm_up (xm_up I 5 0 0 0) 10 (6 * i) 0 b) 10 (6 * i + 1) 0 c) 10 (6 * i + 2) 0 e) L i) (xfL_X5_endAll (xm_up (xm_up (xm_up (xm_up I 5 0 0 0) 10 (6 * i) 0 b) 10 (6 * i + 1) 0 c) 10 (6 * i + 2) 0 e) L i)) from by unfold xfL_X5_place; rw [if_neg h1]]
    exact xK.ret rfl ⟨rfl, rfl⟩
set_option linter.unusedVariables false in
def xfI_X5_speed (I : xh_I) (L : xh_L) (i : Nat) (b : Int32) (c : Int32) (e : Int32) : xh_I := (xfI_X5_endAll (xm_up (xm_up (xm_up (xm_up I 5 0 0 0) 10 (6 * i + 3) 0 b) 10 (6 * i + 4) 0 c) 10 (6 * i + 5) 0 e) L i)
set_option linter.unusedVariables false in
def xfL_X5_speed (I : xh_I) (L : xh_L) (i : Nat) (b : Int32) (c : Int32) (e : Int32) : xh_L := (xfL_X5_endAll (xm_up (xm_up (xm_up (xm_up I 5 0 0 0) 10 (6 * i + 3) 0 b) 10 (6 * i + 4) 0 c) 10 (6 * i + 5) 0 e) L i)
set_option maxHeartbeats 4000000 in
set_option maxRecDepth 100000 in
theorem xd_X5_speed (d : Nat) (I : xh_I) (L : xh_L) (i : Nat) (hi : i < 6) (b : Int32) (c : Int32) (e : Int32) (h1 : ¬ xf_X5_isThere I L (nI i) = 0) (h2 : ¬ xf_X5_within b 500 = 0) (h3 : ¬ xf_X5_within c 500 = 0) (h4 : ¬ xf_X5_within e 60 = 0) : xm_Do xp_pg (d + 3) 81 [xm_r 5 0, xm_i (nI i), xm_i b, xm_i c, xm_i e] (xh_M I L) none (xh_M (xfI_X5_speed I L i b c e) (xfL_X5_speed I L i b c e)) 0 0 := by
  refine xK.of (Nat.le_of_ble_eq_true rfl) rfl ?_
  refine xK.run (q := (3, [(0, xm_r 5 0), (1, xm_i (nI i)), (2, xm_i b), (3, xm_i c), (4, xm_i e)], [xm_i (nI i), xm_r 5 0, xm_r 5 0], xh_M I L, 0, 0)) 3 rfl ?_
  refine xK.call [xm_r 5 0, xm_i (nI i)] (xd_X5_isThere d I L (nI i)) rfl rfl rfl (Or.inr ⟨_, _, rfl⟩) (Nat.le_of_ble_eq_true rfl) ?_
  refine xK.ifI rfl (fun h9 => absurd h9 h1) (fun _ => ?_)
  refine xK.run (q := (13, [(0, xm_r 5 0), (1, xm_i (nI i)), (2, xm_i b), (3, xm_i c), (4, xm_i e)], [xm_i 500, xm_i b, xm_r 5 0], xh_M I L, 0, 0)) 2 rfl ?_
  refine xK.call [xm_i b, xm_i 500] (xd_X5_within (d + 1) I L b 500) rfl rfl rfl (Or.inl rfl) (Nat.le_of_ble_eq_true rfl) ?_
  refine xK.ifI rfl (fun h9 => absurd h9 h2) (fun _ => ?_)
  refine xK.run (q := (23, [(0, xm_r 5 0), (1, xm_i (nI i)), (2, xm_i b), (3, xm_i c), (4, xm_i e)], [xm_i 500, xm_i c, xm_r 5 0], xh_M I L, 0, 0)) 2 rfl ?_
  refine xK.call [xm_i c, xm_i 500] (xd_X5_within (d + 1) I L c 500) rfl rfl rfl (Or.inl rfl) (Nat.le_of_ble_eq_true rfl) ?_
  refine xK.ifI rfl (fun h9 => absurd h9 h3) (fun _ => ?_)
  refine xK.run (q := (33, [(0, xm_r 5 0), (1, xm_i (nI i)), (2, xm_i b), (3, xm_i c), (4, xm_i e)], [xm_i 60, xm_i e, xm_r 5 0], xh_M I L, 0, 0)) 2 rfl ?_
  refine xK.call [xm_i e, xm_i 60] (xd_X5_within (d + 1) I L e 60) rfl rfl rfl (Or.inl rfl) (Nat.le_of_ble_eq_true rfl) ?_
  refine xK.ifN rfl (fun h9 => absurd h9 h4) (fun _ => ?_)
  refine xK.run (q := (51, [(0, xm_r 5 0), (1, xm_i (nI i)), (2, xm_i b), (3, xm_i c), (4, xm_i e)], [xm_i 0], xh_M (xm_up I 5 0 0 0) L, 0, 0)) 4 rfl ?_
  refine xK.ifN rfl (fun _ => ?_) (fun h9 => absurd (by decide) h9)
  refine xK.run (q := (65, [(0, xm_r 5 0), (1, xm_i (nI i)), (2, xm_i b), (3, xm_i c), (4, xm_i e)], [xm_i b, xm_i ((6 * (nI i)) + 3), xm_r 10 0], xh_M (xm_up I 5 0 0 0) L, 0, 0)) 8 rfl ?_
  refine xK.iast' rfl rfl (xh_ix6 hi (c := 3) (by decide)) ?_
  refine xK.run (q := (77, [(0, xm_r 5 0), (1, xm_i (nI i)), (2, xm_i b), (3, xm_i c), (4, xm_i e)], [xm_i c, xm_i ((6 * (nI i)) + 4), xm_r 10 0], xh_M (xm_up (xm_up I 5 0 0 0) 10 (6 * i + 3) 0 b) L, 0, 0)) 8 rfl ?_
  refine xK.iast' rfl rfl (xh_ix6 hi (c := 4) (by decide)) ?_
  refine xK.run (q := (90, [(0, xm_r 5 0), (1, xm_i (nI i)), (2, xm_i b), (3, xm_i c), (4, xm_i e)], [xm_i e, xm_i ((6 * (nI i)) + 5), xm_r 10 0], xh_M (xm_up (xm_up (xm_up I 5 0 0 0) 10 (6 * i + 3) 0 b) 10 (6 * i + 4) 0 c) L, 0, 0)) 8 rfl ?_
  refine xK.iast' rfl rfl (xh_ix6 hi (c := 5) (by decide)) ?_
  refine xK.run (q := (93, [(0, xm_r 5 0), (1, xm_i (nI i)), (2, xm_i b), (3, xm_i c), (4, xm_i e)], [xm_i (nI i), xm_r 5 0], xh_M (xm_up (xm_up (xm_up (xm_up I 5 0 0 0) 10 (6 * i + 3) 0 b) 10 (6 * i + 4) 0 c) 10 (6 * i + 5) 0 e) L, 0, 0)) 2 rfl ?_
  refine xK.call [xm_r 5 0, xm_i (nI i)] (xd_X5_endAll d (xm_up (xm_up (xm_up (xm_up I 5 0 0 0) 10 (6 * i + 3) 0 b) 10 (6 * i + 4) 0 c) 10 (6 * i + 5) 0 e) L i hi) rfl rfl rfl (Or.inr ⟨_, _, rfl⟩) (Nat.le_of_ble_eq_true rfl) ?_
  exact xK.ret rfl ⟨rfl, rfl⟩
set_option linter.unusedVariables false in
def xfI_X5_follow (I : xh_I) (L : xh_L) (i : Nat) (b : Int32) : xh_I := (xm_up (xm_up I 5 0 0 0) 9 i 0 b)
set_option maxHeartbeats 4000000 in
set_option maxRecDepth 100000 in
theorem xd_X5_follow (d : Nat) (I : xh_I) (L : xh_L) (i : Nat) (hi : i < 6) (b : Int32) (hzb : b = 0 ∨ b = 1) (h1 : ¬ xf_X5_isThere I L (nI i) = 0) : xm_Do xp_pg (d + 3) 82 [xm_r 5 0, xm_i (nI i), xm_i b] (xh_M I L) none (xh_M (xfI_X5_follow I L i b) L) 0 0 := by
  refine xK.of (Nat.le_of_ble_eq_true rfl) rfl ?_
  refine xK.run (q := (3, [(0, xm_r 5 0), (1, xm_i (nI i)), (2, xm_i b)], [xm_i (nI i), xm_r 5 0, xm_r 5 0], xh_M I L, 0, 0)) 3 rfl ?_
  refine xK.call [xm_r 5 0, xm_i (nI i)] (xd_X5_isThere d I L (nI i)) rfl rfl rfl (Or.inr ⟨_, _, rfl⟩) (Nat.le_of_ble_eq_true rfl) ?_
  refine xK.ifI rfl (fun h9 => absurd h9 h1) (fun _ => ?_)
  refine xK.run (q := (21, [(0, xm_r 5 0), (1, xm_i (nI i)), (2, xm_i b)], [xm_i 0], xh_M (xm_up I 5 0 0 0) L, 0, 0)) 5 rfl ?_
  refine xK.ifN rfl (fun _ => ?_) (fun h9 => absurd (by decide) h9)
  refine xK.run (q := (30, [(0, xm_r 5 0), (1, xm_i (nI i)), (2, xm_i b)], [xm_i b, xm_i (nI i), xm_r 9 0], xh_M (xm_up I 5 0 0 0) L, 0, 0)) 4 rfl ?_
  refine xK.zast' rfl rfl hzb (xh_ix_nI (N := 6) hi (by decide)) ?_
  exact xK.ret rfl ⟨rfl, rfl⟩
set_option linter.unusedVariables false in
def xfI_X5_leave (I : xh_I) (L : xh_L) (i : Nat) : xh_I := (xfI_X5_endAll (xm_up (xm_up I 5 0 0 0) 8 i 0 0) L i)
set_option linter.unusedVariables false in
def xfL_X5_leave (I : xh_I) (L : xh_L) (i : Nat) : xh_L := (xfL_X5_endAll (xm_up (xm_up I 5 0 0 0) 8 i 0 0) L i)
set_option maxHeartbeats 4000000 in
set_option maxRecDepth 100000 in
theorem xd_X5_leave (d : Nat) (I : xh_I) (L : xh_L) (i : Nat) (hi : i < 6) (h1 : ¬ xf_X5_isThere I L (nI i) = 0) : xm_Do xp_pg (d + 3) 83 [xm_r 5 0, xm_i (nI i)] (xh_M I L) none (xh_M (xfI_X5_leave I L i) (xfL_X5_leave I L i)) 0 0 := by
  refine xK.of (Nat.le_of_ble_eq_true rfl) rfl ?_
  refine xK.run (q := (3, [(0, xm_r 5 0), (1, xm_i (nI i))], [xm_i (nI i), xm_r 5 0, xm_r 5 0], xh_M I L, 0, 0)) 3 rfl ?_
  refine xK.call [xm_r 5 0, xm_i (nI i)] (xd_X5_isThere d I L (nI i)) rfl rfl rfl (Or.inr ⟨_, _, rfl⟩) (Nat.le_of_ble_eq_true rfl) ?_
  refine xK.ifI rfl (fun h9 => absurd h9 h1) (fun _ => ?_)
  refine xK.run (q := (21, [(0, xm_r 5 0), (1, xm_i (nI i))], [xm_i 0], xh_M (xm_up I 5 0 0 0) L, 0, 0)) 5 rfl ?_
  refine xK.ifN rfl (fun _ => ?_) (fun h9 => absurd (by decide) h9)
  refine xK.run (q := (30, [(0, xm_r 5 0), (1, xm_i (nI i))], [xm_i 0, xm_i (nI i), xm_r 8 0], xh_M (xm_up I 5 0 0 0) L, 0, 0)) 4 rfl ?_
  refine xK.zast' rfl rfl (Or.inl rfl) (xh_ix_nI (N := 6) hi (by decide)) ?_
  refine xK.run (q := (33, [(0, xm_r 5 0), (1, xm_i (nI i))], [xm_i (nI i), xm_r 5 0], xh_M (xm_up (xm_up I 5 0 0 0) 8 i 0 0) L, 0, 0)) 2 rfl ?_
  refine xK.call [xm_r 5 0, xm_i (nI i)] (xd_X5_endAll d (xm_up (xm_up I 5 0 0 0) 8 i 0 0) L i hi) rfl rfl rfl (Or.inr ⟨_, _, rfl⟩) (Nat.le_of_ble_eq_true rfl) ?_
  exact xK.ret rfl ⟨rfl, rfl⟩
set_option linter.unusedVariables false in
def xf_X5_told0 (I : xh_I) (L : xh_L) (i : Nat) : Int32 := I 10 (6 * i + 0) 0
set_option linter.unusedVariables false in
def xfI_X5_told0 (I : xh_I) (L : xh_L) (i : Nat) : xh_I := (xm_up I 5 0 0 0)
set_option maxHeartbeats 4000000 in
set_option maxRecDepth 100000 in
theorem xd_X5_told0 (d : Nat) (I : xh_I) (L : xh_L) (i : Nat) (hi : i < 6) (h1 : ¬ xf_X5_isThere I L (nI i) = 0) : xm_Do xp_pg (d + 3) 97 [xm_r 5 0, xm_i (nI i), xm_i 0] (xh_M I L) (some (xm_i (xf_X5_told0 I L i))) (xh_M (xfI_X5_told0 I L i) L) 0 0 := by
  refine xK.of (Nat.le_of_ble_eq_true rfl) rfl ?_
  refine xK.run (q := (3, [(0, xm_r 5 0), (1, xm_i (nI i)), (2, xm_i 0)], [xm_i (nI i), xm_r 5 0, xm_r 5 0], xh_M I L, 0, 0)) 3 rfl ?_
  refine xK.call [xm_r 5 0, xm_i (nI i)] (xd_X5_isThere d I L (nI i)) rfl rfl rfl (Or.inr ⟨_, _, rfl⟩) (Nat.le_of_ble_eq_true rfl) ?_
  refine xK.ifI rfl (fun h9 => absurd h9 h1) (fun _ => ?_)
  refine xK.run (q := (10, [(0, xm_r 5 0), (1, xm_i (nI i)), (2, xm_i 0)], [xm_i 0, xm_r 5 0], xh_M I L, 0, 0)) 1 rfl ?_
  refine xK.ifI rfl (fun h9 => absurd h9 (by decide)) (fun _ => ?_)
  refine xK.run (q := (16, [(0, xm_r 5 0), (1, xm_i (nI i)), (2, xm_i 0)], [xm_i 6, xm_i 0, xm_r 5 0], xh_M I L, 0, 0)) 2 rfl ?_
  refine xK.icmp rfl (fun _ => ?_) (fun h9 => absurd (by decide) h9)
  refine xK.run (q := (31, [(0, xm_r 5 0), (1, xm_i (nI i)), (2, xm_i 0)], [xm_i 0], xh_M (xm_up I 5 0 0 0) L, 0, 0)) 4 rfl ?_
  refine xK.ifI rfl (fun _ => ?_) (fun h9 => absurd (by decide) h9)
  refine xK.run (q := (39, [(0, xm_r 5 0), (1, xm_i (nI i)), (2, xm_i 0)], [xm_i 6, xm_i 0], xh_M (xm_up I 5 0 0 0) L, 0, 0)) 2 rfl ?_
  refine xK.icmp rfl (fun h9 => absurd h9 (by decide)) (fun _ => ?_)
  refine xK.run (q := (52, [(0, xm_r 5 0), (1, xm_i (nI i)), (2, xm_i 0)], [xm_i ((6 * (nI i)) + 0), xm_r 10 0], xh_M (xm_up I 5 0 0 0) L, 0, 0)) 7 rfl ?_
  refine xK.iald' rfl rfl (xh_ix6 hi (c := 0) (by decide)) ?_
  refine xK.run (q := (70, [(0, xm_r 5 0), (1, xm_i (nI i)), (2, xm_i 0)], [xm_i (I 10 (6 * i + 0) 0)], xh_M (xm_up I 5 0 0 0) L, 0, 0)) 1 rfl ?_
  exact xK.ret rfl ⟨_, rfl, rfl⟩
set_option linter.unusedVariables false in
def xf_X5_told1 (I : xh_I) (L : xh_L) (i : Nat) : Int32 := I 10 (6 * i + 1) 0
set_option linter.unusedVariables false in
def xfI_X5_told1 (I : xh_I) (L : xh_L) (i : Nat) : xh_I := (xm_up I 5 0 0 0)
set_option maxHeartbeats 4000000 in
set_option maxRecDepth 100000 in
theorem xd_X5_told1 (d : Nat) (I : xh_I) (L : xh_L) (i : Nat) (hi : i < 6) (h1 : ¬ xf_X5_isThere I L (nI i) = 0) : xm_Do xp_pg (d + 3) 97 [xm_r 5 0, xm_i (nI i), xm_i 1] (xh_M I L) (some (xm_i (xf_X5_told1 I L i))) (xh_M (xfI_X5_told1 I L i) L) 0 0 := by
  refine xK.of (Nat.le_of_ble_eq_true rfl) rfl ?_
  refine xK.run (q := (3, [(0, xm_r 5 0), (1, xm_i (nI i)), (2, xm_i 1)], [xm_i (nI i), xm_r 5 0, xm_r 5 0], xh_M I L, 0, 0)) 3 rfl ?_
  refine xK.call [xm_r 5 0, xm_i (nI i)] (xd_X5_isThere d I L (nI i)) rfl rfl rfl (Or.inr ⟨_, _, rfl⟩) (Nat.le_of_ble_eq_true rfl) ?_
  refine xK.ifI rfl (fun h9 => absurd h9 h1) (fun _ => ?_)
  refine xK.run (q := (10, [(0, xm_r 5 0), (1, xm_i (nI i)), (2, xm_i 1)], [xm_i 1, xm_r 5 0], xh_M I L, 0, 0)) 1 rfl ?_
  refine xK.ifI rfl (fun h9 => absurd h9 (by decide)) (fun _ => ?_)
  refine xK.run (q := (16, [(0, xm_r 5 0), (1, xm_i (nI i)), (2, xm_i 1)], [xm_i 6, xm_i 1, xm_r 5 0], xh_M I L, 0, 0)) 2 rfl ?_
  refine xK.icmp rfl (fun _ => ?_) (fun h9 => absurd (by decide) h9)
  refine xK.run (q := (31, [(0, xm_r 5 0), (1, xm_i (nI i)), (2, xm_i 1)], [xm_i 0], xh_M (xm_up I 5 0 0 0) L, 0, 0)) 4 rfl ?_
  refine xK.ifI rfl (fun _ => ?_) (fun h9 => absurd (by decide) h9)
  refine xK.run (q := (39, [(0, xm_r 5 0), (1, xm_i (nI i)), (2, xm_i 1)], [xm_i 6, xm_i 1], xh_M (xm_up I 5 0 0 0) L, 0, 0)) 2 rfl ?_
  refine xK.icmp rfl (fun h9 => absurd h9 (by decide)) (fun _ => ?_)
  refine xK.run (q := (52, [(0, xm_r 5 0), (1, xm_i (nI i)), (2, xm_i 1)], [xm_i ((6 * (nI i)) + 1), xm_r 10 0], xh_M (xm_up I 5 0 0 0) L, 0, 0)) 7 rfl ?_
  refine xK.iald' rfl rfl (xh_ix6 hi (c := 1) (by decide)) ?_
  refine xK.run (q := (70, [(0, xm_r 5 0), (1, xm_i (nI i)), (2, xm_i 1)], [xm_i (I 10 (6 * i + 1) 0)], xh_M (xm_up I 5 0 0 0) L, 0, 0)) 1 rfl ?_
  exact xK.ret rfl ⟨_, rfl, rfl⟩
set_option linter.unusedVariables false in
def xf_X5_told2 (I : xh_I) (L : xh_L) (i : Nat) : Int32 := I 10 (6 * i + 2) 0
set_option linter.unusedVariables false in
def xfI_X5_told2 (I : xh_I) (L : xh_L) (i : Nat) : xh_I := (xm_up I 5 0 0 0)
set_option maxHeartbeats 4000000 in
set_option maxRecDepth 100000 in
theorem xd_X5_told2 (d : Nat) (I : xh_I) (L : xh_L) (i : Nat) (hi : i < 6) (h1 : ¬ xf_X5_isThere I L (nI i) = 0) : xm_Do xp_pg (d + 3) 97 [xm_r 5 0, xm_i (nI i), xm_i 2] (xh_M I L) (some (xm_i (xf_X5_told2 I L i))) (xh_M (xfI_X5_told2 I L i) L) 0 0 := by
  refine xK.of (Nat.le_of_ble_eq_true rfl) rfl ?_
  refine xK.run (q := (3, [(0, xm_r 5 0), (1, xm_i (nI i)), (2, xm_i 2)], [xm_i (nI i), xm_r 5 0, xm_r 5 0], xh_M I L, 0, 0)) 3 rfl ?_
  refine xK.call [xm_r 5 0, xm_i (nI i)] (xd_X5_isThere d I L (nI i)) rfl rfl rfl (Or.inr ⟨_, _, rfl⟩) (Nat.le_of_ble_eq_true rfl) ?_
  refine xK.ifI rfl (fun h9 => absurd h9 h1) (fun _ => ?_)
  refine xK.run (q := (10, [(0, xm_r 5 0), (1, xm_i (nI i)), (2, xm_i 2)], [xm_i 2, xm_r 5 0], xh_M I L, 0, 0)) 1 rfl ?_
  refine xK.ifI rfl (fun h9 => absurd h9 (by decide)) (fun _ => ?_)
  refine xK.run (q := (16, [(0, xm_r 5 0), (1, xm_i (nI i)), (2, xm_i 2)], [xm_i 6, xm_i 2, xm_r 5 0], xh_M I L, 0, 0)) 2 rfl ?_
  refine xK.icmp rfl (fun _ => ?_) (fun h9 => absurd (by decide) h9)
  refine xK.run (q := (31, [(0, xm_r 5 0), (1, xm_i (nI i)), (2, xm_i 2)], [xm_i 0], xh_M (xm_up I 5 0 0 0) L, 0, 0)) 4 rfl ?_
  refine xK.ifI rfl (fun _ => ?_) (fun h9 => absurd (by decide) h9)
  refine xK.run (q := (39, [(0, xm_r 5 0), (1, xm_i (nI i)), (2, xm_i 2)], [xm_i 6, xm_i 2], xh_M (xm_up I 5 0 0 0) L, 0, 0)) 2 rfl ?_
  refine xK.icmp rfl (fun h9 => absurd h9 (by decide)) (fun _ => ?_)
  refine xK.run (q := (52, [(0, xm_r 5 0), (1, xm_i (nI i)), (2, xm_i 2)], [xm_i ((6 * (nI i)) + 2), xm_r 10 0], xh_M (xm_up I 5 0 0 0) L, 0, 0)) 7 rfl ?_
  refine xK.iald' rfl rfl (xh_ix6 hi (c := 2) (by decide)) ?_
  refine xK.run (q := (70, [(0, xm_r 5 0), (1, xm_i (nI i)), (2, xm_i 2)], [xm_i (I 10 (6 * i + 2) 0)], xh_M (xm_up I 5 0 0 0) L, 0, 0)) 1 rfl ?_
  exact xK.ret rfl ⟨_, rfl, rfl⟩
set_option linter.unusedVariables false in
def xf_X5_told3 (I : xh_I) (L : xh_L) (i : Nat) : Int32 := I 10 (6 * i + 3) 0
set_option linter.unusedVariables false in
def xfI_X5_told3 (I : xh_I) (L : xh_L) (i : Nat) : xh_I := (xm_up I 5 0 0 0)
set_option maxHeartbeats 4000000 in
set_option maxRecDepth 100000 in
theorem xd_X5_told3 (d : Nat) (I : xh_I) (L : xh_L) (i : Nat) (hi : i < 6) (h1 : ¬ xf_X5_isThere I L (nI i) = 0) : xm_Do xp_pg (d + 3) 97 [xm_r 5 0, xm_i (nI i), xm_i 3] (xh_M I L) (some (xm_i (xf_X5_told3 I L i))) (xh_M (xfI_X5_told3 I L i) L) 0 0 := by
  refine xK.of (Nat.le_of_ble_eq_true rfl) rfl ?_
  refine xK.run (q := (3, [(0, xm_r 5 0), (1, xm_i (nI i)), (2, xm_i 3)], [xm_i (nI i), xm_r 5 0, xm_r 5 0], xh_M I L, 0, 0)) 3 rfl ?_
  refine xK.call [xm_r 5 0, xm_i (nI i)] (xd_X5_isThere d I L (nI i)) rfl rfl rfl (Or.inr ⟨_, _, rfl⟩) (Nat.le_of_ble_eq_true rfl) ?_
  refine xK.ifI rfl (fun h9 => absurd h9 h1) (fun _ => ?_)
  refine xK.run (q := (10, [(0, xm_r 5 0), (1, xm_i (nI i)), (2, xm_i 3)], [xm_i 3, xm_r 5 0], xh_M I L, 0, 0)) 1 rfl ?_
  refine xK.ifI rfl (fun h9 => absurd h9 (by decide)) (fun _ => ?_)
  refine xK.run (q := (16, [(0, xm_r 5 0), (1, xm_i (nI i)), (2, xm_i 3)], [xm_i 6, xm_i 3, xm_r 5 0], xh_M I L, 0, 0)) 2 rfl ?_
  refine xK.icmp rfl (fun _ => ?_) (fun h9 => absurd (by decide) h9)
  refine xK.run (q := (31, [(0, xm_r 5 0), (1, xm_i (nI i)), (2, xm_i 3)], [xm_i 0], xh_M (xm_up I 5 0 0 0) L, 0, 0)) 4 rfl ?_
  refine xK.ifI rfl (fun _ => ?_) (fun h9 => absurd (by decide) h9)
  refine xK.run (q := (39, [(0, xm_r 5 0), (1, xm_i (nI i)), (2, xm_i 3)], [xm_i 6, xm_i 3], xh_M (xm_up I 5 0 0 0) L, 0, 0)) 2 rfl ?_
  refine xK.icmp rfl (fun h9 => absurd h9 (by decide)) (fun _ => ?_)
  refine xK.run (q := (52, [(0, xm_r 5 0), (1, xm_i (nI i)), (2, xm_i 3)], [xm_i ((6 * (nI i)) + 3), xm_r 10 0], xh_M (xm_up I 5 0 0 0) L, 0, 0)) 7 rfl ?_
  refine xK.iald' rfl rfl (xh_ix6 hi (c := 3) (by decide)) ?_
  refine xK.run (q := (70, [(0, xm_r 5 0), (1, xm_i (nI i)), (2, xm_i 3)], [xm_i (I 10 (6 * i + 3) 0)], xh_M (xm_up I 5 0 0 0) L, 0, 0)) 1 rfl ?_
  exact xK.ret rfl ⟨_, rfl, rfl⟩
set_option linter.unusedVariables false in
def xf_X5_told4 (I : xh_I) (L : xh_L) (i : Nat) : Int32 := I 10 (6 * i + 4) 0
set_option linter.unusedVariables false in
def xfI_X5_told4 (I : xh_I) (L : xh_L) (i : Nat) : xh_I := (xm_up I 5 0 0 0)
set_option maxHeartbeats 4000000 in
set_option maxRecDepth 100000 in
theorem xd_X5_told4 (d : Nat) (I : xh_I) (L : xh_L) (i : Nat) (hi : i < 6) (h1 : ¬ xf_X5_isThere I L (nI i) = 0) : xm_Do xp_pg (d + 3) 97 [xm_r 5 0, xm_i (nI i), xm_i 4] (xh_M I L) (some (xm_i (xf_X5_told4 I L i))) (xh_M (xfI_X5_told4 I L i) L) 0 0 := by
  refine xK.of (Nat.le_of_ble_eq_true rfl) rfl ?_
  refine xK.run (q := (3, [(0, xm_r 5 0), (1, xm_i (nI i)), (2, xm_i 4)], [xm_i (nI i), xm_r 5 0, xm_r 5 0], xh_M I L, 0, 0)) 3 rfl ?_
  refine xK.call [xm_r 5 0, xm_i (nI i)] (xd_X5_isThere d I L (nI i)) rfl rfl rfl (Or.inr ⟨_, _, rfl⟩) (Nat.le_of_ble_eq_true rfl) ?_
  refine xK.ifI rfl (fun h9 => absurd h9 h1) (fun _ => ?_)
  refine xK.run (q := (10, [(0, xm_r 5 0), (1, xm_i (nI i)), (2, xm_i 4)], [xm_i 4, xm_r 5 0], xh_M I L, 0, 0)) 1 rfl ?_
  refine xK.ifI rfl (fun h9 => absurd h9 (by decide)) (fun _ => ?_)
  refine xK.run (q := (16, [(0, xm_r 5 0), (1, xm_i (nI i)), (2, xm_i 4)], [xm_i 6, xm_i 4, xm_r 5 0], xh_M I L, 0, 0)) 2 rfl ?_
  refine xK.icmp rfl (fun _ => ?_) (fun h9 => absurd (by decide) h9)
  refine xK.run (q := (31, [(0, xm_r 5 0), (1, xm_i (nI i)), (2, xm_i 4)], [xm_i 0], xh_M (xm_up I 5 0 0 0) L, 0, 0)) 4 rfl ?_
  refine xK.ifI rfl (fun _ => ?_) (fun h9 => absurd (by decide) h9)
  refine xK.run (q := (39, [(0, xm_r 5 0), (1, xm_i (nI i)), (2, xm_i 4)], [xm_i 6, xm_i 4], xh_M (xm_up I 5 0 0 0) L, 0, 0)) 2 rfl ?_
  refine xK.icmp rfl (fun h9 => absurd h9 (by decide)) (fun _ => ?_)
  refine xK.run (q := (52, [(0, xm_r 5 0), (1, xm_i (nI i)), (2, xm_i 4)], [xm_i ((6 * (nI i)) + 4), xm_r 10 0], xh_M (xm_up I 5 0 0 0) L, 0, 0)) 7 rfl ?_
  refine xK.iald' rfl rfl (xh_ix6 hi (c := 4) (by decide)) ?_
  refine xK.run (q := (70, [(0, xm_r 5 0), (1, xm_i (nI i)), (2, xm_i 4)], [xm_i (I 10 (6 * i + 4) 0)], xh_M (xm_up I 5 0 0 0) L, 0, 0)) 1 rfl ?_
  exact xK.ret rfl ⟨_, rfl, rfl⟩
set_option linter.unusedVariables false in
def xf_X5_told5 (I : xh_I) (L : xh_L) (i : Nat) : Int32 := I 10 (6 * i + 5) 0
set_option linter.unusedVariables false in
def xfI_X5_told5 (I : xh_I) (L : xh_L) (i : Nat) : xh_I := (xm_up I 5 0 0 0)
set_option maxHeartbeats 4000000 in
set_option maxRecDepth 100000 in
theorem xd_X5_told5 (d : Nat) (I : xh_I) (L : xh_L) (i : Nat) (hi : i < 6) (h1 : ¬ xf_X5_isThere I L (nI i) = 0) : xm_Do xp_pg (d + 3) 97 [xm_r 5 0, xm_i (nI i), xm_i 5] (xh_M I L) (some (xm_i (xf_X5_told5 I L i))) (xh_M (xfI_X5_told5 I L i) L) 0 0 := by
  refine xK.of (Nat.le_of_ble_eq_true rfl) rfl ?_
  refine xK.run (q := (3, [(0, xm_r 5 0), (1, xm_i (nI i)), (2, xm_i 5)], [xm_i (nI i), xm_r 5 0, xm_r 5 0], xh_M I L, 0, 0)) 3 rfl ?_
  refine xK.call [xm_r 5 0, xm_i (nI i)] (xd_X5_isThere d I L (nI i)) rfl rfl rfl (Or.inr ⟨_, _, rfl⟩) (Nat.le_of_ble_eq_true rfl) ?_
  refine xK.ifI rfl (fun h9 => absurd h9 h1) (fun _ => ?_)
  refine xK.run (q := (10, [(0, xm_r 5 0), (1, xm_i (nI i)), (2, xm_i 5)], [xm_i 5, xm_r 5 0], xh_M I L, 0, 0)) 1 rfl ?_
  refine xK.ifI rfl (fun h9 => absurd h9 (by decide)) (fun _ => ?_)
  refine xK.run (q := (16, [(0, xm_r 5 0), (1, xm_i (nI i)), (2, xm_i 5)], [xm_i 6, xm_i 5, xm_r 5 0], xh_M I L, 0, 0)) 2 rfl ?_
  refine xK.icmp rfl (fun _ => ?_) (fun h9 => absurd (by decide) h9)
  refine xK.run (q := (31, [(0, xm_r 5 0), (1, xm_i (nI i)), (2, xm_i 5)], [xm_i 0], xh_M (xm_up I 5 0 0 0) L, 0, 0)) 4 rfl ?_
  refine xK.ifI rfl (fun _ => ?_) (fun h9 => absurd (by decide) h9)
  refine xK.run (q := (39, [(0, xm_r 5 0), (1, xm_i (nI i)), (2, xm_i 5)], [xm_i 6, xm_i 5], xh_M (xm_up I 5 0 0 0) L, 0, 0)) 2 rfl ?_
  refine xK.icmp rfl (fun h9 => absurd h9 (by decide)) (fun _ => ?_)
  refine xK.run (q := (52, [(0, xm_r 5 0), (1, xm_i (nI i)), (2, xm_i 5)], [xm_i ((6 * (nI i)) + 5), xm_r 10 0], xh_M (xm_up I 5 0 0 0) L, 0, 0)) 7 rfl ?_
  refine xK.iald' rfl rfl (xh_ix6 hi (c := 5) (by decide)) ?_
  refine xK.run (q := (70, [(0, xm_r 5 0), (1, xm_i (nI i)), (2, xm_i 5)], [xm_i (I 10 (6 * i + 5) 0)], xh_M (xm_up I 5 0 0 0) L, 0, 0)) 1 rfl ?_
  exact xK.ret rfl ⟨_, rfl, rfl⟩
set_option linter.unusedVariables false in
def xf_X5_told6 (I : xh_I) (L : xh_L) (i : Nat) : Int32 := if (I 9 i 0) = 0 then 0 else 1
set_option linter.unusedVariables false in
def xfI_X5_told6 (I : xh_I) (L : xh_L) (i : Nat) : xh_I := if (I 9 i 0) = 0 then (xm_up I 5 0 0 0) else (xm_up I 5 0 0 0)
set_option maxHeartbeats 4000000 in
set_option maxRecDepth 100000 in
theorem xd_X5_told6 (d : Nat) (I : xh_I) (L : xh_L) (i : Nat) (hi : i < 6) (h1 : ¬ xf_X5_isThere I L (nI i) = 0) : xm_Do xp_pg (d + 3) 97 [xm_r 5 0, xm_i (nI i), xm_i 6] (xh_M I L) (some (xm_i (xf_X5_told6 I L i))) (xh_M (xfI_X5_told6 I L i) L) 0 0 := by
  refine xK.of (Nat.le_of_ble_eq_true rfl) rfl ?_
  refine xK.run (q := (3, [(0, xm_r 5 0), (1, xm_i (nI i)), (2, xm_i 6)], [xm_i (nI i), xm_r 5 0, xm_r 5 0], xh_M I L, 0, 0)) 3 rfl ?_
  refine xK.call [xm_r 5 0, xm_i (nI i)] (xd_X5_isThere d I L (nI i)) rfl rfl rfl (Or.inr ⟨_, _, rfl⟩) (Nat.le_of_ble_eq_true rfl) ?_
  refine xK.ifI rfl (fun h9 => absurd h9 h1) (fun _ => ?_)
  refine xK.run (q := (10, [(0, xm_r 5 0), (1, xm_i (nI i)), (2, xm_i 6)], [xm_i 6, xm_r 5 0], xh_M I L, 0, 0)) 1 rfl ?_
  refine xK.ifI rfl (fun h9 => absurd h9 (by decide)) (fun _ => ?_)
  refine xK.run (q := (16, [(0, xm_r 5 0), (1, xm_i (nI i)), (2, xm_i 6)], [xm_i 6, xm_i 6, xm_r 5 0], xh_M I L, 0, 0)) 2 rfl ?_
  refine xK.icmp rfl (fun _ => ?_) (fun h9 => absurd (by decide) h9)
  refine xK.run (q := (31, [(0, xm_r 5 0), (1, xm_i (nI i)), (2, xm_i 6)], [xm_i 0], xh_M (xm_up I 5 0 0 0) L, 0, 0)) 4 rfl ?_
  refine xK.ifI rfl (fun _ => ?_) (fun h9 => absurd (by decide) h9)
  refine xK.run (q := (39, [(0, xm_r 5 0), (1, xm_i (nI i)), (2, xm_i 6)], [xm_i 6, xm_i 6], xh_M (xm_up I 5 0 0 0) L, 0, 0)) 2 rfl ?_
  refine xK.icmp rfl (fun _ => ?_) (fun h9 => absurd (by decide) h9)
  refine xK.run (q := (61, [(0, xm_r 5 0), (1, xm_i (nI i)), (2, xm_i 6)], [xm_i (nI i), xm_r 9 0], xh_M (xm_up I 5 0 0 0) L, 0, 0)) 3 rfl ?_
  refine xK.zald' rfl rfl (xh_ix_nI (N := 6) hi (by decide)) ?_
  refine xK.ifI rfl (fun (h1 : (I 9 i 0) = 0) => ?_) (fun (h1 : ¬ (I 9 i 0) = 0) => ?_)
  · skip
    refine xK.run (q := (70, [(0, xm_r 5 0), (1, xm_i (nI i)), (2, xm_i 6)], [xm_i 0], xh_M (xm_up I 5 0 0 0) L, 0, 0)) 1 rfl ?_
    rw [show xf_X5_told6 I L i = 0 from by unfold xf_X5_told6; rw [if_pos h1]]
    rw [show xfI_X5_told6 I L i = (xm_up I 5 0 0 0) from by unfold xfI_X5_told6; rw [if_pos h1]]
    exact xK.ret rfl ⟨_, rfl, rfl⟩
  · skip
    refine xK.run (q := (70, [(0, xm_r 5 0), (1, xm_i (nI i)), (2, xm_i 6)], [xm_i 1], xh_M (xm_up I 5 0 0 0) L, 0, 0)) 2 rfl ?_
    rw [show xf_X5_told6 I L i = 1 from by unfold xf_X5_told6; rw [if_neg h1]]
    rw [show xfI_X5_told6 I L i = (xm_up I 5 0 0 0) from by unfold xfI_X5_told6; rw [if_neg h1]]
    exact xK.ret rfl ⟨_, rfl, rfl⟩
set_option linter.unusedVariables false in
def xf_X5_all0 (I : xh_I) (L : xh_L)  : Int32 := I 17 0 0
set_option linter.unusedVariables false in
def xfI_X5_all0 (I : xh_I) (L : xh_L)  : xh_I := (xm_up I 5 0 0 0)
set_option maxHeartbeats 4000000 in
set_option maxRecDepth 100000 in
theorem xd_X5_all0 (d : Nat) (I : xh_I) (L : xh_L) : xm_Do xp_pg (d + 1) 100 [xm_r 5 0, xm_i 0] (xh_M I L) (some (xm_i (xf_X5_all0 I L))) (xh_M (xfI_X5_all0 I L) L) 0 0 := by
  refine xK.of (Nat.le_of_ble_eq_true rfl) rfl ?_
  refine xK.run (q := (2, [(0, xm_r 5 0), (1, xm_i 0)], [xm_i 0, xm_r 5 0], xh_M I L, 0, 0)) 2 rfl ?_
  refine xK.ifI rfl (fun h9 => absurd h9 (by decide)) (fun _ => ?_)
  refine xK.run (q := (7, [(0, xm_r 5 0), (1, xm_i 0)], [xm_i 4, xm_i 0, xm_r 5 0], xh_M I L, 0, 0)) 2 rfl ?_
  refine xK.icmp rfl (fun _ => ?_) (fun h9 => absurd (by decide) h9)
  refine xK.run (q := (22, [(0, xm_r 5 0), (1, xm_i 0)], [xm_i 0], xh_M (xm_up I 5 0 0 0) L, 0, 0)) 4 rfl ?_
  refine xK.ifI rfl (fun _ => ?_) (fun h9 => absurd (by decide) h9)
  refine xK.run (q := (34, [(0, xm_r 5 0), (1, xm_i 0)], [xm_i 0, xm_r 17 0], xh_M (xm_up I 5 0 0 0) L, 0, 0)) 3 rfl ?_
  refine xK.iald' rfl rfl (show xh_ix 0 0 5 by decide) ?_
  exact xK.ret rfl ⟨_, rfl, rfl⟩
set_option linter.unusedVariables false in
def xf_X5_all1 (I : xh_I) (L : xh_L)  : Int32 := I 17 1 0
set_option linter.unusedVariables false in
def xfI_X5_all1 (I : xh_I) (L : xh_L)  : xh_I := (xm_up I 5 0 0 0)
set_option maxHeartbeats 4000000 in
set_option maxRecDepth 100000 in
theorem xd_X5_all1 (d : Nat) (I : xh_I) (L : xh_L) : xm_Do xp_pg (d + 1) 100 [xm_r 5 0, xm_i 1] (xh_M I L) (some (xm_i (xf_X5_all1 I L))) (xh_M (xfI_X5_all1 I L) L) 0 0 := by
  refine xK.of (Nat.le_of_ble_eq_true rfl) rfl ?_
  refine xK.run (q := (2, [(0, xm_r 5 0), (1, xm_i 1)], [xm_i 1, xm_r 5 0], xh_M I L, 0, 0)) 2 rfl ?_
  refine xK.ifI rfl (fun h9 => absurd h9 (by decide)) (fun _ => ?_)
  refine xK.run (q := (7, [(0, xm_r 5 0), (1, xm_i 1)], [xm_i 4, xm_i 1, xm_r 5 0], xh_M I L, 0, 0)) 2 rfl ?_
  refine xK.icmp rfl (fun _ => ?_) (fun h9 => absurd (by decide) h9)
  refine xK.run (q := (22, [(0, xm_r 5 0), (1, xm_i 1)], [xm_i 0], xh_M (xm_up I 5 0 0 0) L, 0, 0)) 4 rfl ?_
  refine xK.ifI rfl (fun _ => ?_) (fun h9 => absurd (by decide) h9)
  refine xK.run (q := (34, [(0, xm_r 5 0), (1, xm_i 1)], [xm_i 1, xm_r 17 0], xh_M (xm_up I 5 0 0 0) L, 0, 0)) 3 rfl ?_
  refine xK.iald' rfl rfl (show xh_ix 1 1 5 by decide) ?_
  exact xK.ret rfl ⟨_, rfl, rfl⟩
set_option linter.unusedVariables false in
def xf_X5_all2 (I : xh_I) (L : xh_L)  : Int32 := I 17 2 0
set_option linter.unusedVariables false in
def xfI_X5_all2 (I : xh_I) (L : xh_L)  : xh_I := (xm_up I 5 0 0 0)
set_option maxHeartbeats 4000000 in
set_option maxRecDepth 100000 in
theorem xd_X5_all2 (d : Nat) (I : xh_I) (L : xh_L) : xm_Do xp_pg (d + 1) 100 [xm_r 5 0, xm_i 2] (xh_M I L) (some (xm_i (xf_X5_all2 I L))) (xh_M (xfI_X5_all2 I L) L) 0 0 := by
  refine xK.of (Nat.le_of_ble_eq_true rfl) rfl ?_
  refine xK.run (q := (2, [(0, xm_r 5 0), (1, xm_i 2)], [xm_i 2, xm_r 5 0], xh_M I L, 0, 0)) 2 rfl ?_
  refine xK.ifI rfl (fun h9 => absurd h9 (by decide)) (fun _ => ?_)
  refine xK.run (q := (7, [(0, xm_r 5 0), (1, xm_i 2)], [xm_i 4, xm_i 2, xm_r 5 0], xh_M I L, 0, 0)) 2 rfl ?_
  refine xK.icmp rfl (fun _ => ?_) (fun h9 => absurd (by decide) h9)
  refine xK.run (q := (22, [(0, xm_r 5 0), (1, xm_i 2)], [xm_i 0], xh_M (xm_up I 5 0 0 0) L, 0, 0)) 4 rfl ?_
  refine xK.ifI rfl (fun _ => ?_) (fun h9 => absurd (by decide) h9)
  refine xK.run (q := (34, [(0, xm_r 5 0), (1, xm_i 2)], [xm_i 2, xm_r 17 0], xh_M (xm_up I 5 0 0 0) L, 0, 0)) 3 rfl ?_
  refine xK.iald' rfl rfl (show xh_ix 2 2 5 by decide) ?_
  exact xK.ret rfl ⟨_, rfl, rfl⟩
set_option linter.unusedVariables false in
def xf_X5_all3 (I : xh_I) (L : xh_L)  : Int32 := I 17 3 0
set_option linter.unusedVariables false in
def xfI_X5_all3 (I : xh_I) (L : xh_L)  : xh_I := (xm_up I 5 0 0 0)
set_option maxHeartbeats 4000000 in
set_option maxRecDepth 100000 in
theorem xd_X5_all3 (d : Nat) (I : xh_I) (L : xh_L) : xm_Do xp_pg (d + 1) 100 [xm_r 5 0, xm_i 3] (xh_M I L) (some (xm_i (xf_X5_all3 I L))) (xh_M (xfI_X5_all3 I L) L) 0 0 := by
  refine xK.of (Nat.le_of_ble_eq_true rfl) rfl ?_
  refine xK.run (q := (2, [(0, xm_r 5 0), (1, xm_i 3)], [xm_i 3, xm_r 5 0], xh_M I L, 0, 0)) 2 rfl ?_
  refine xK.ifI rfl (fun h9 => absurd h9 (by decide)) (fun _ => ?_)
  refine xK.run (q := (7, [(0, xm_r 5 0), (1, xm_i 3)], [xm_i 4, xm_i 3, xm_r 5 0], xh_M I L, 0, 0)) 2 rfl ?_
  refine xK.icmp rfl (fun _ => ?_) (fun h9 => absurd (by decide) h9)
  refine xK.run (q := (22, [(0, xm_r 5 0), (1, xm_i 3)], [xm_i 0], xh_M (xm_up I 5 0 0 0) L, 0, 0)) 4 rfl ?_
  refine xK.ifI rfl (fun _ => ?_) (fun h9 => absurd (by decide) h9)
  refine xK.run (q := (34, [(0, xm_r 5 0), (1, xm_i 3)], [xm_i 3, xm_r 17 0], xh_M (xm_up I 5 0 0 0) L, 0, 0)) 3 rfl ?_
  refine xK.iald' rfl rfl (show xh_ix 3 3 5 by decide) ?_
  exact xK.ret rfl ⟨_, rfl, rfl⟩
set_option linter.unusedVariables false in
def xf_X5_all4 (I : xh_I) (L : xh_L)  : Int32 := I 17 4 0
set_option linter.unusedVariables false in
def xfI_X5_all4 (I : xh_I) (L : xh_L)  : xh_I := (xm_up I 5 0 0 0)
set_option maxHeartbeats 4000000 in
set_option maxRecDepth 100000 in
theorem xd_X5_all4 (d : Nat) (I : xh_I) (L : xh_L) : xm_Do xp_pg (d + 1) 100 [xm_r 5 0, xm_i 4] (xh_M I L) (some (xm_i (xf_X5_all4 I L))) (xh_M (xfI_X5_all4 I L) L) 0 0 := by
  refine xK.of (Nat.le_of_ble_eq_true rfl) rfl ?_
  refine xK.run (q := (2, [(0, xm_r 5 0), (1, xm_i 4)], [xm_i 4, xm_r 5 0], xh_M I L, 0, 0)) 2 rfl ?_
  refine xK.ifI rfl (fun h9 => absurd h9 (by decide)) (fun _ => ?_)
  refine xK.run (q := (7, [(0, xm_r 5 0), (1, xm_i 4)], [xm_i 4, xm_i 4, xm_r 5 0], xh_M I L, 0, 0)) 2 rfl ?_
  refine xK.icmp rfl (fun _ => ?_) (fun h9 => absurd (by decide) h9)
  refine xK.run (q := (22, [(0, xm_r 5 0), (1, xm_i 4)], [xm_i 0], xh_M (xm_up I 5 0 0 0) L, 0, 0)) 4 rfl ?_
  refine xK.ifI rfl (fun _ => ?_) (fun h9 => absurd (by decide) h9)
  refine xK.run (q := (34, [(0, xm_r 5 0), (1, xm_i 4)], [xm_i 4, xm_r 17 0], xh_M (xm_up I 5 0 0 0) L, 0, 0)) 3 rfl ?_
  refine xK.iald' rfl rfl (show xh_ix 4 4 5 by decide) ?_
  exact xK.ret rfl ⟨_, rfl, rfl⟩
set_option linter.unusedVariables false in
def xf_X5_set0 (I : xh_I) (L : xh_L) (b : Int32) : Int32 := if b < 1 then 0 else (if b ≤ 100 then (I 7 0 0) else 0)
set_option linter.unusedVariables false in
def xfI_X5_set0 (I : xh_I) (L : xh_L) (b : Int32) : xh_I := if b < 1 then (xm_up I 5 0 0 1) else (if b ≤ 100 then (xm_up (xm_up I 5 0 0 0) 7 0 0 b) else (xm_up I 5 0 0 1))
set_option maxHeartbeats 4000000 in
set_option maxRecDepth 100000 in
theorem xd_X5_set0 (d : Nat) (I : xh_I) (L : xh_L) (b : Int32) : xm_Do xp_pg (d + 1) 73 [xm_r 5 0, xm_i 0, xm_i b] (xh_M I L) (some (xm_i (xf_X5_set0 I L b))) (xh_M (xfI_X5_set0 I L b) L) 0 0 := by
  refine xK.of (Nat.le_of_ble_eq_true rfl) rfl ?_
  refine xK.run (q := (1, [(0, xm_r 5 0), (1, xm_i 0), (2, xm_i b)], [xm_i 0], xh_M I L, 0, 0)) 1 rfl ?_
  refine xK.ifI rfl (fun _ => ?_) (fun h9 => absurd (by decide) h9)
  refine xK.run (q := (17, [(0, xm_r 5 0), (1, xm_i 0), (2, xm_i b), (3, xm_i 1)], [xm_i 0], xh_M I L, 0, 0)) 4 rfl ?_
  refine xK.ifN rfl (fun _ => ?_) (fun h9 => absurd (by decide) h9)
  refine xK.run (q := (73, [(0, xm_r 5 0), (1, xm_i 0), (2, xm_i b), (3, xm_i 1), (4, xm_i 100)], [xm_i 0, xm_r 5 0], xh_M I L, 0, 0)) 5 rfl ?_
  refine xK.ifI rfl (fun h9 => absurd h9 (by decide)) (fun _ => ?_)
  refine xK.run (q := (79, [(0, xm_r 5 0), (1, xm_i 0), (2, xm_i b), (3, xm_i 1), (4, xm_i 100)], [xm_i 6, xm_i 0, xm_r 5 0], xh_M I L, 0, 0)) 2 rfl ?_
  refine xK.icmp rfl (fun h9 => absurd h9 (by decide)) (fun _ => ?_)
  refine xK.run (q := (84, [(0, xm_r 5 0), (1, xm_i 0), (2, xm_i b), (3, xm_i 1), (4, xm_i 100)], [xm_i 1, xm_i b, xm_r 5 0], xh_M I L, 0, 0)) 2 rfl ?_
  refine xK.icmp rfl (fun (h1 : b < 1) => ?_) (fun (h1 : ¬ b < 1) => ?_)
  · skip
    refine xK.run (q := (105, [(0, xm_r 5 0), (1, xm_i 0), (2, xm_i b), (3, xm_i 1), (4, xm_i 100)], [xm_i 1], xh_M (xm_up I 5 0 0 1) L, 0, 0)) 5 rfl ?_
    refine xK.ifI rfl (fun h9 => absurd h9 (by decide)) (fun _ => ?_)
    refine xK.run (q := (109, [(0, xm_r 5 0), (1, xm_i 0), (2, xm_i b), (3, xm_i 1), (4, xm_i 100)], [xm_i 0], xh_M (xm_up I 5 0 0 1) L, 0, 0)) 1 rfl ?_
    rw [show xf_X5_set0 I L b = 0 from by unfold xf_X5_set0; rw [if_pos h1]]
    rw [show xfI_X5_set0 I L b = (xm_up I 5 0 0 1) from by unfold xfI_X5_set0; rw [if_pos h1]]
    exact xK.ret rfl ⟨_, rfl, rfl⟩
  · skip
    refine xK.run (q := (90, [(0, xm_r 5 0), (1, xm_i 0), (2, xm_i b), (3, xm_i 1), (4, xm_i 100)], [xm_i 100, xm_i b, xm_r 5 0], xh_M I L, 0, 0)) 2 rfl ?_
    refine xK.icmp rfl (fun (h2 : b ≤ 100) => ?_) (fun (h2 : ¬ b ≤ 100) => ?_)
    · skip
      refine xK.run (q := (105, [(0, xm_r 5 0), (1, xm_i 0), (2, xm_i b), (3, xm_i 1), (4, xm_i 100)], [xm_i 0], xh_M (xm_up I 5 0 0 0) L, 0, 0)) 4 rfl ?_
      refine xK.ifI rfl (fun _ => ?_) (fun h9 => absurd (by decide) h9)
      refine xK.run (q := (115, [(0, xm_r 5 0), (1, xm_i 0), (2, xm_i b), (3, xm_i 1), (4, xm_i 100)], [xm_i 0, xm_r 7 0], xh_M (xm_up I 5 0 0 0) L, 0, 0)) 3 rfl ?_
      refine xK.iald' rfl rfl (show xh_ix 0 0 7 by decide) ?_
      refine xK.run (q := (124, [(0, xm_r 5 0), (1, xm_i 0), (2, xm_i b), (3, xm_i 1), (4, xm_i 100), (5, xm_i (I 7 0 0))], [xm_i b, xm_i 0, xm_r 7 0], xh_M (xm_up I 5 0 0 0) L, 0, 0)) 5 rfl ?_
      refine xK.iast' rfl rfl (show xh_ix 0 0 7 by decide) ?_
      refine xK.run (q := (127, [(0, xm_r 5 0), (1, xm_i 0), (2, xm_i b), (3, xm_i 1), (4, xm_i 100), (5, xm_i (I 7 0 0))], [xm_i (I 7 0 0)], xh_M (xm_up (xm_up I 5 0 0 0) 7 0 0 b) L, 0, 0)) 1 rfl ?_
      rw [show xf_X5_set0 I L b = (I 7 0 0) from by unfold xf_X5_set0; rw [if_neg h1, if_pos h2]]
      rw [show xfI_X5_set0 I L b = (xm_up (xm_up I 5 0 0 0) 7 0 0 b) from by unfold xfI_X5_set0; rw [if_neg h1, if_pos h2]]
      exact xK.ret rfl ⟨_, rfl, rfl⟩
    · skip
      refine xK.run (q := (105, [(0, xm_r 5 0), (1, xm_i 0), (2, xm_i b), (3, xm_i 1), (4, xm_i 100)], [xm_i 1], xh_M (xm_up I 5 0 0 1) L, 0, 0)) 5 rfl ?_
      refine xK.ifI rfl (fun h9 => absurd h9 (by decide)) (fun _ => ?_)
      refine xK.run (q := (109, [(0, xm_r 5 0), (1, xm_i 0), (2, xm_i b), (3, xm_i 1), (4, xm_i 100)], [xm_i 0], xh_M (xm_up I 5 0 0 1) L, 0, 0)) 1 rfl ?_
      rw [show xf_X5_set0 I L b = 0 from by unfold xf_X5_set0; rw [if_neg h1, if_neg h2]]
      rw [show xfI_X5_set0 I L b = (xm_up I 5 0 0 1) from by unfold xfI_X5_set0; rw [if_neg h1, if_neg h2]]
      exact xK.ret rfl ⟨_, rfl, rfl⟩
set_option linter.unusedVariables false in
def xf_X5_set1 (I : xh_I) (L : xh_L) (b : Int32) : Int32 := if b < 0 then 0 else (if b ≤ 5000 then (I 7 1 0) else 0)
set_option linter.unusedVariables false in
def xfI_X5_set1 (I : xh_I) (L : xh_L) (b : Int32) : xh_I := if b < 0 then (xm_up I 5 0 0 1) else (if b ≤ 5000 then (xm_up (xm_up I 5 0 0 0) 7 1 0 b) else (xm_up I 5 0 0 1))
set_option maxHeartbeats 4000000 in
set_option maxRecDepth 100000 in
theorem xd_X5_set1 (d : Nat) (I : xh_I) (L : xh_L) (b : Int32) : xm_Do xp_pg (d + 1) 73 [xm_r 5 0, xm_i 1, xm_i b] (xh_M I L) (some (xm_i (xf_X5_set1 I L b))) (xh_M (xfI_X5_set1 I L b) L) 0 0 := by
  refine xK.of (Nat.le_of_ble_eq_true rfl) rfl ?_
  refine xK.run (q := (1, [(0, xm_r 5 0), (1, xm_i 1), (2, xm_i b)], [xm_i 1], xh_M I L, 0, 0)) 1 rfl ?_
  refine xK.ifI rfl (fun h9 => absurd h9 (by decide)) (fun _ => ?_)
  refine xK.run (q := (7, [(0, xm_r 5 0), (1, xm_i 1), (2, xm_i b)], [xm_i 6, xm_i 1], xh_M I L, 0, 0)) 2 rfl ?_
  refine xK.icmpN rfl (fun h9 => absurd h9 (by decide)) (fun _ => ?_)
  refine xK.run (q := (17, [(0, xm_r 5 0), (1, xm_i 1), (2, xm_i b), (3, xm_i 0)], [xm_i 1], xh_M I L, 0, 0)) 3 rfl ?_
  refine xK.ifN rfl (fun h9 => absurd h9 (by decide)) (fun _ => ?_)
  refine xK.run (q := (27, [(0, xm_r 5 0), (1, xm_i 1), (2, xm_i b), (3, xm_i 0)], [xm_i 1, xm_i 1], xh_M I L, 0, 0)) 2 rfl ?_
  refine xK.icmp rfl (fun _ => ?_) (fun h9 => absurd (by decide) h9)
  refine xK.run (q := (73, [(0, xm_r 5 0), (1, xm_i 1), (2, xm_i b), (3, xm_i 0), (4, xm_i 5000)], [xm_i 1, xm_r 5 0], xh_M I L, 0, 0)) 5 rfl ?_
  refine xK.ifI rfl (fun h9 => absurd h9 (by decide)) (fun _ => ?_)
  refine xK.run (q := (79, [(0, xm_r 5 0), (1, xm_i 1), (2, xm_i b), (3, xm_i 0), (4, xm_i 5000)], [xm_i 6, xm_i 1, xm_r 5 0], xh_M I L, 0, 0)) 2 rfl ?_
  refine xK.icmp rfl (fun h9 => absurd h9 (by decide)) (fun _ => ?_)
  refine xK.run (q := (84, [(0, xm_r 5 0), (1, xm_i 1), (2, xm_i b), (3, xm_i 0), (4, xm_i 5000)], [xm_i 0, xm_i b, xm_r 5 0], xh_M I L, 0, 0)) 2 rfl ?_
  refine xK.icmp rfl (fun (h1 : b < 0) => ?_) (fun (h1 : ¬ b < 0) => ?_)
  · skip
    refine xK.run (q := (105, [(0, xm_r 5 0), (1, xm_i 1), (2, xm_i b), (3, xm_i 0), (4, xm_i 5000)], [xm_i 1], xh_M (xm_up I 5 0 0 1) L, 0, 0)) 5 rfl ?_
    refine xK.ifI rfl (fun h9 => absurd h9 (by decide)) (fun _ => ?_)
    refine xK.run (q := (109, [(0, xm_r 5 0), (1, xm_i 1), (2, xm_i b), (3, xm_i 0), (4, xm_i 5000)], [xm_i 0], xh_M (xm_up I 5 0 0 1) L, 0, 0)) 1 rfl ?_
    rw [show xf_X5_set1 I L b = 0 from by unfold xf_X5_set1; rw [if_pos h1]]
    rw [show xfI_X5_set1 I L b = (xm_up I 5 0 0 1) from by unfold xfI_X5_set1; rw [if_pos h1]]
    exact xK.ret rfl ⟨_, rfl, rfl⟩
  · skip
    refine xK.run (q := (90, [(0, xm_r 5 0), (1, xm_i 1), (2, xm_i b), (3, xm_i 0), (4, xm_i 5000)], [xm_i 5000, xm_i b, xm_r 5 0], xh_M I L, 0, 0)) 2 rfl ?_
    refine xK.icmp rfl (fun (h2 : b ≤ 5000) => ?_) (fun (h2 : ¬ b ≤ 5000) => ?_)
    · skip
      refine xK.run (q := (105, [(0, xm_r 5 0), (1, xm_i 1), (2, xm_i b), (3, xm_i 0), (4, xm_i 5000)], [xm_i 0], xh_M (xm_up I 5 0 0 0) L, 0, 0)) 4 rfl ?_
      refine xK.ifI rfl (fun _ => ?_) (fun h9 => absurd (by decide) h9)
      refine xK.run (q := (115, [(0, xm_r 5 0), (1, xm_i 1), (2, xm_i b), (3, xm_i 0), (4, xm_i 5000)], [xm_i 1, xm_r 7 0], xh_M (xm_up I 5 0 0 0) L, 0, 0)) 3 rfl ?_
      refine xK.iald' rfl rfl (show xh_ix 1 1 7 by decide) ?_
      refine xK.run (q := (124, [(0, xm_r 5 0), (1, xm_i 1), (2, xm_i b), (3, xm_i 0), (4, xm_i 5000), (5, xm_i (I 7 1 0))], [xm_i b, xm_i 1, xm_r 7 0], xh_M (xm_up I 5 0 0 0) L, 0, 0)) 5 rfl ?_
      refine xK.iast' rfl rfl (show xh_ix 1 1 7 by decide) ?_
      refine xK.run (q := (127, [(0, xm_r 5 0), (1, xm_i 1), (2, xm_i b), (3, xm_i 0), (4, xm_i 5000), (5, xm_i (I 7 1 0))], [xm_i (I 7 1 0)], xh_M (xm_up (xm_up I 5 0 0 0) 7 1 0 b) L, 0, 0)) 1 rfl ?_
      rw [show xf_X5_set1 I L b = (I 7 1 0) from by unfold xf_X5_set1; rw [if_neg h1, if_pos h2]]
      rw [show xfI_X5_set1 I L b = (xm_up (xm_up I 5 0 0 0) 7 1 0 b) from by unfold xfI_X5_set1; rw [if_neg h1, if_pos h2]]
      exact xK.ret rfl ⟨_, rfl, rfl⟩
    · skip
      refine xK.run (q := (105, [(0, xm_r 5 0), (1, xm_i 1), (2, xm_i b), (3, xm_i 0), (4, xm_i 5000)], [xm_i 1], xh_M (xm_up I 5 0 0 1) L, 0, 0)) 5 rfl ?_
      refine xK.ifI rfl (fun h9 => absurd h9 (by decide)) (fun _ => ?_)
      refine xK.run (q := (109, [(0, xm_r 5 0), (1, xm_i 1), (2, xm_i b), (3, xm_i 0), (4, xm_i 5000)], [xm_i 0], xh_M (xm_up I 5 0 0 1) L, 0, 0)) 1 rfl ?_
      rw [show xf_X5_set1 I L b = 0 from by unfold xf_X5_set1; rw [if_neg h1, if_neg h2]]
      rw [show xfI_X5_set1 I L b = (xm_up I 5 0 0 1) from by unfold xfI_X5_set1; rw [if_neg h1, if_neg h2]]
      exact xK.ret rfl ⟨_, rfl, rfl⟩
set_option linter.unusedVariables false in
def xf_X5_set2 (I : xh_I) (L : xh_L) (b : Int32) : Int32 := if b < 0 then 0 else (if b ≤ 5000 then (I 7 2 0) else 0)
set_option linter.unusedVariables false in
def xfI_X5_set2 (I : xh_I) (L : xh_L) (b : Int32) : xh_I := if b < 0 then (xm_up I 5 0 0 1) else (if b ≤ 5000 then (xm_up (xm_up I 5 0 0 0) 7 2 0 b) else (xm_up I 5 0 0 1))
set_option maxHeartbeats 4000000 in
set_option maxRecDepth 100000 in
theorem xd_X5_set2 (d : Nat) (I : xh_I) (L : xh_L) (b : Int32) : xm_Do xp_pg (d + 1) 73 [xm_r 5 0, xm_i 2, xm_i b] (xh_M I L) (some (xm_i (xf_X5_set2 I L b))) (xh_M (xfI_X5_set2 I L b) L) 0 0 := by
  refine xK.of (Nat.le_of_ble_eq_true rfl) rfl ?_
  refine xK.run (q := (1, [(0, xm_r 5 0), (1, xm_i 2), (2, xm_i b)], [xm_i 2], xh_M I L, 0, 0)) 1 rfl ?_
  refine xK.ifI rfl (fun h9 => absurd h9 (by decide)) (fun _ => ?_)
  refine xK.run (q := (7, [(0, xm_r 5 0), (1, xm_i 2), (2, xm_i b)], [xm_i 6, xm_i 2], xh_M I L, 0, 0)) 2 rfl ?_
  refine xK.icmpN rfl (fun h9 => absurd h9 (by decide)) (fun _ => ?_)
  refine xK.run (q := (17, [(0, xm_r 5 0), (1, xm_i 2), (2, xm_i b), (3, xm_i 0)], [xm_i 2], xh_M I L, 0, 0)) 3 rfl ?_
  refine xK.ifN rfl (fun h9 => absurd h9 (by decide)) (fun _ => ?_)
  refine xK.run (q := (27, [(0, xm_r 5 0), (1, xm_i 2), (2, xm_i b), (3, xm_i 0)], [xm_i 1, xm_i 2], xh_M I L, 0, 0)) 2 rfl ?_
  refine xK.icmp rfl (fun h9 => absurd h9 (by decide)) (fun _ => ?_)
  refine xK.run (q := (32, [(0, xm_r 5 0), (1, xm_i 2), (2, xm_i b), (3, xm_i 0)], [xm_i 2, xm_i 2], xh_M I L, 0, 0)) 2 rfl ?_
  refine xK.icmpN rfl (fun _ => ?_) (fun h9 => absurd (by decide) h9)
  refine xK.run (q := (73, [(0, xm_r 5 0), (1, xm_i 2), (2, xm_i b), (3, xm_i 0), (4, xm_i 5000)], [xm_i 2, xm_r 5 0], xh_M I L, 0, 0)) 5 rfl ?_
  refine xK.ifI rfl (fun h9 => absurd h9 (by decide)) (fun _ => ?_)
  refine xK.run (q := (79, [(0, xm_r 5 0), (1, xm_i 2), (2, xm_i b), (3, xm_i 0), (4, xm_i 5000)], [xm_i 6, xm_i 2, xm_r 5 0], xh_M I L, 0, 0)) 2 rfl ?_
  refine xK.icmp rfl (fun h9 => absurd h9 (by decide)) (fun _ => ?_)
  refine xK.run (q := (84, [(0, xm_r 5 0), (1, xm_i 2), (2, xm_i b), (3, xm_i 0), (4, xm_i 5000)], [xm_i 0, xm_i b, xm_r 5 0], xh_M I L, 0, 0)) 2 rfl ?_
  refine xK.icmp rfl (fun (h1 : b < 0) => ?_) (fun (h1 : ¬ b < 0) => ?_)
  · skip
    refine xK.run (q := (105, [(0, xm_r 5 0), (1, xm_i 2), (2, xm_i b), (3, xm_i 0), (4, xm_i 5000)], [xm_i 1], xh_M (xm_up I 5 0 0 1) L, 0, 0)) 5 rfl ?_
    refine xK.ifI rfl (fun h9 => absurd h9 (by decide)) (fun _ => ?_)
    refine xK.run (q := (109, [(0, xm_r 5 0), (1, xm_i 2), (2, xm_i b), (3, xm_i 0), (4, xm_i 5000)], [xm_i 0], xh_M (xm_up I 5 0 0 1) L, 0, 0)) 1 rfl ?_
    rw [show xf_X5_set2 I L b = 0 from by unfold xf_X5_set2; rw [if_pos h1]]
    rw [show xfI_X5_set2 I L b = (xm_up I 5 0 0 1) from by unfold xfI_X5_set2; rw [if_pos h1]]
    exact xK.ret rfl ⟨_, rfl, rfl⟩
  · skip
    refine xK.run (q := (90, [(0, xm_r 5 0), (1, xm_i 2), (2, xm_i b), (3, xm_i 0), (4, xm_i 5000)], [xm_i 5000, xm_i b, xm_r 5 0], xh_M I L, 0, 0)) 2 rfl ?_
    refine xK.icmp rfl (fun (h2 : b ≤ 5000) => ?_) (fun (h2 : ¬ b ≤ 5000) => ?_)
    · skip
      refine xK.run (q := (105, [(0, xm_r 5 0), (1, xm_i 2), (2, xm_i b), (3, xm_i 0), (4, xm_i 5000)], [xm_i 0], xh_M (xm_up I 5 0 0 0) L, 0, 0)) 4 rfl ?_
      refine xK.ifI rfl (fun _ => ?_) (fun h9 => absurd (by decide) h9)
      refine xK.run (q := (115, [(0, xm_r 5 0), (1, xm_i 2), (2, xm_i b), (3, xm_i 0), (4, xm_i 5000)], [xm_i 2, xm_r 7 0], xh_M (xm_up I 5 0 0 0) L, 0, 0)) 3 rfl ?_
      refine xK.iald' rfl rfl (show xh_ix 2 2 7 by decide) ?_
      refine xK.run (q := (124, [(0, xm_r 5 0), (1, xm_i 2), (2, xm_i b), (3, xm_i 0), (4, xm_i 5000), (5, xm_i (I 7 2 0))], [xm_i b, xm_i 2, xm_r 7 0], xh_M (xm_up I 5 0 0 0) L, 0, 0)) 5 rfl ?_
      refine xK.iast' rfl rfl (show xh_ix 2 2 7 by decide) ?_
      refine xK.run (q := (127, [(0, xm_r 5 0), (1, xm_i 2), (2, xm_i b), (3, xm_i 0), (4, xm_i 5000), (5, xm_i (I 7 2 0))], [xm_i (I 7 2 0)], xh_M (xm_up (xm_up I 5 0 0 0) 7 2 0 b) L, 0, 0)) 1 rfl ?_
      rw [show xf_X5_set2 I L b = (I 7 2 0) from by unfold xf_X5_set2; rw [if_neg h1, if_pos h2]]
      rw [show xfI_X5_set2 I L b = (xm_up (xm_up I 5 0 0 0) 7 2 0 b) from by unfold xfI_X5_set2; rw [if_neg h1, if_pos h2]]
      exact xK.ret rfl ⟨_, rfl, rfl⟩
    · skip
      refine xK.run (q := (105, [(0, xm_r 5 0), (1, xm_i 2), (2, xm_i b), (3, xm_i 0), (4, xm_i 5000)], [xm_i 1], xh_M (xm_up I 5 0 0 1) L, 0, 0)) 5 rfl ?_
      refine xK.ifI rfl (fun h9 => absurd h9 (by decide)) (fun _ => ?_)
      refine xK.run (q := (109, [(0, xm_r 5 0), (1, xm_i 2), (2, xm_i b), (3, xm_i 0), (4, xm_i 5000)], [xm_i 0], xh_M (xm_up I 5 0 0 1) L, 0, 0)) 1 rfl ?_
      rw [show xf_X5_set2 I L b = 0 from by unfold xf_X5_set2; rw [if_neg h1, if_neg h2]]
      rw [show xfI_X5_set2 I L b = (xm_up I 5 0 0 1) from by unfold xfI_X5_set2; rw [if_neg h1, if_neg h2]]
      exact xK.ret rfl ⟨_, rfl, rfl⟩
set_option linter.unusedVariables false in
def xf_X5_set3 (I : xh_I) (L : xh_L) (b : Int32) : Int32 := if b < 0 then 0 else (if b ≤ 2000 then (I 7 3 0) else 0)
set_option linter.unusedVariables false in
def xfI_X5_set3 (I : xh_I) (L : xh_L) (b : Int32) : xh_I := if b < 0 then (xm_up I 5 0 0 1) else (if b ≤ 2000 then (xm_up (xm_up I 5 0 0 0) 7 3 0 b) else (xm_up I 5 0 0 1))
set_option maxHeartbeats 4000000 in
set_option maxRecDepth 100000 in
theorem xd_X5_set3 (d : Nat) (I : xh_I) (L : xh_L) (b : Int32) : xm_Do xp_pg (d + 1) 73 [xm_r 5 0, xm_i 3, xm_i b] (xh_M I L) (some (xm_i (xf_X5_set3 I L b))) (xh_M (xfI_X5_set3 I L b) L) 0 0 := by
  refine xK.of (Nat.le_of_ble_eq_true rfl) rfl ?_
  refine xK.run (q := (1, [(0, xm_r 5 0), (1, xm_i 3), (2, xm_i b)], [xm_i 3], xh_M I L, 0, 0)) 1 rfl ?_
  refine xK.ifI rfl (fun h9 => absurd h9 (by decide)) (fun _ => ?_)
  refine xK.run (q := (7, [(0, xm_r 5 0), (1, xm_i 3), (2, xm_i b)], [xm_i 6, xm_i 3], xh_M I L, 0, 0)) 2 rfl ?_
  refine xK.icmpN rfl (fun h9 => absurd h9 (by decide)) (fun _ => ?_)
  refine xK.run (q := (17, [(0, xm_r 5 0), (1, xm_i 3), (2, xm_i b), (3, xm_i 0)], [xm_i 3], xh_M I L, 0, 0)) 3 rfl ?_
  refine xK.ifN rfl (fun h9 => absurd h9 (by decide)) (fun _ => ?_)
  refine xK.run (q := (27, [(0, xm_r 5 0), (1, xm_i 3), (2, xm_i b), (3, xm_i 0)], [xm_i 1, xm_i 3], xh_M I L, 0, 0)) 2 rfl ?_
  refine xK.icmp rfl (fun h9 => absurd h9 (by decide)) (fun _ => ?_)
  refine xK.run (q := (32, [(0, xm_r 5 0), (1, xm_i 3), (2, xm_i b), (3, xm_i 0)], [xm_i 2, xm_i 3], xh_M I L, 0, 0)) 2 rfl ?_
  refine xK.icmpN rfl (fun h9 => absurd h9 (by decide)) (fun _ => ?_)
  refine xK.run (q := (43, [(0, xm_r 5 0), (1, xm_i 3), (2, xm_i b), (3, xm_i 0)], [xm_i 3, xm_i 3], xh_M I L, 0, 0)) 2 rfl ?_
  refine xK.icmp rfl (fun _ => ?_) (fun h9 => absurd (by decide) h9)
  refine xK.run (q := (73, [(0, xm_r 5 0), (1, xm_i 3), (2, xm_i b), (3, xm_i 0), (4, xm_i 2000)], [xm_i 3, xm_r 5 0], xh_M I L, 0, 0)) 5 rfl ?_
  refine xK.ifI rfl (fun h9 => absurd h9 (by decide)) (fun _ => ?_)
  refine xK.run (q := (79, [(0, xm_r 5 0), (1, xm_i 3), (2, xm_i b), (3, xm_i 0), (4, xm_i 2000)], [xm_i 6, xm_i 3, xm_r 5 0], xh_M I L, 0, 0)) 2 rfl ?_
  refine xK.icmp rfl (fun h9 => absurd h9 (by decide)) (fun _ => ?_)
  refine xK.run (q := (84, [(0, xm_r 5 0), (1, xm_i 3), (2, xm_i b), (3, xm_i 0), (4, xm_i 2000)], [xm_i 0, xm_i b, xm_r 5 0], xh_M I L, 0, 0)) 2 rfl ?_
  refine xK.icmp rfl (fun (h1 : b < 0) => ?_) (fun (h1 : ¬ b < 0) => ?_)
  · skip
    refine xK.run (q := (105, [(0, xm_r 5 0), (1, xm_i 3), (2, xm_i b), (3, xm_i 0), (4, xm_i 2000)], [xm_i 1], xh_M (xm_up I 5 0 0 1) L, 0, 0)) 5 rfl ?_
    refine xK.ifI rfl (fun h9 => absurd h9 (by decide)) (fun _ => ?_)
    refine xK.run (q := (109, [(0, xm_r 5 0), (1, xm_i 3), (2, xm_i b), (3, xm_i 0), (4, xm_i 2000)], [xm_i 0], xh_M (xm_up I 5 0 0 1) L, 0, 0)) 1 rfl ?_
    rw [show xf_X5_set3 I L b = 0 from by unfold xf_X5_set3; rw [if_pos h1]]
    rw [show xfI_X5_set3 I L b = (xm_up I 5 0 0 1) from by unfold xfI_X5_set3; rw [if_pos h1]]
    exact xK.ret rfl ⟨_, rfl, rfl⟩
  · skip
    refine xK.run (q := (90, [(0, xm_r 5 0), (1, xm_i 3), (2, xm_i b), (3, xm_i 0), (4, xm_i 2000)], [xm_i 2000, xm_i b, xm_r 5 0], xh_M I L, 0, 0)) 2 rfl ?_
    refine xK.icmp rfl (fun (h2 : b ≤ 2000) => ?_) (fun (h2 : ¬ b ≤ 2000) => ?_)
    · skip
      refine xK.run (q := (105, [(0, xm_r 5 0), (1, xm_i 3), (2, xm_i b), (3, xm_i 0), (4, xm_i 2000)], [xm_i 0], xh_M (xm_up I 5 0 0 0) L, 0, 0)) 4 rfl ?_
      refine xK.ifI rfl (fun _ => ?_) (fun h9 => absurd (by decide) h9)
      refine xK.run (q := (115, [(0, xm_r 5 0), (1, xm_i 3), (2, xm_i b), (3, xm_i 0), (4, xm_i 2000)], [xm_i 3, xm_r 7 0], xh_M (xm_up I 5 0 0 0) L, 0, 0)) 3 rfl ?_
      refine xK.iald' rfl rfl (show xh_ix 3 3 7 by decide) ?_
      refine xK.run (q := (124, [(0, xm_r 5 0), (1, xm_i 3), (2, xm_i b), (3, xm_i 0), (4, xm_i 2000), (5, xm_i (I 7 3 0))], [xm_i b, xm_i 3, xm_r 7 0], xh_M (xm_up I 5 0 0 0) L, 0, 0)) 5 rfl ?_
      refine xK.iast' rfl rfl (show xh_ix 3 3 7 by decide) ?_
      refine xK.run (q := (127, [(0, xm_r 5 0), (1, xm_i 3), (2, xm_i b), (3, xm_i 0), (4, xm_i 2000), (5, xm_i (I 7 3 0))], [xm_i (I 7 3 0)], xh_M (xm_up (xm_up I 5 0 0 0) 7 3 0 b) L, 0, 0)) 1 rfl ?_
      rw [show xf_X5_set3 I L b = (I 7 3 0) from by unfold xf_X5_set3; rw [if_neg h1, if_pos h2]]
      rw [show xfI_X5_set3 I L b = (xm_up (xm_up I 5 0 0 0) 7 3 0 b) from by unfold xfI_X5_set3; rw [if_neg h1, if_pos h2]]
      exact xK.ret rfl ⟨_, rfl, rfl⟩
    · skip
      refine xK.run (q := (105, [(0, xm_r 5 0), (1, xm_i 3), (2, xm_i b), (3, xm_i 0), (4, xm_i 2000)], [xm_i 1], xh_M (xm_up I 5 0 0 1) L, 0, 0)) 5 rfl ?_
      refine xK.ifI rfl (fun h9 => absurd h9 (by decide)) (fun _ => ?_)
      refine xK.run (q := (109, [(0, xm_r 5 0), (1, xm_i 3), (2, xm_i b), (3, xm_i 0), (4, xm_i 2000)], [xm_i 0], xh_M (xm_up I 5 0 0 1) L, 0, 0)) 1 rfl ?_
      rw [show xf_X5_set3 I L b = 0 from by unfold xf_X5_set3; rw [if_neg h1, if_neg h2]]
      rw [show xfI_X5_set3 I L b = (xm_up I 5 0 0 1) from by unfold xfI_X5_set3; rw [if_neg h1, if_neg h2]]
      exact xK.ret rfl ⟨_, rfl, rfl⟩
set_option linter.unusedVariables false in
def xf_X5_set4 (I : xh_I) (L : xh_L) (b : Int32) : Int32 := if b < 0 then 0 else (if b ≤ 2000 then (I 7 4 0) else 0)
set_option linter.unusedVariables false in
def xfI_X5_set4 (I : xh_I) (L : xh_L) (b : Int32) : xh_I := if b < 0 then (xm_up I 5 0 0 1) else (if b ≤ 2000 then (xm_up (xm_up I 5 0 0 0) 7 4 0 b) else (xm_up I 5 0 0 1))
set_option maxHeartbeats 4000000 in
set_option maxRecDepth 100000 in
theorem xd_X5_set4 (d : Nat) (I : xh_I) (L : xh_L) (b : Int32) : xm_Do xp_pg (d + 1) 73 [xm_r 5 0, xm_i 4, xm_i b] (xh_M I L) (some (xm_i (xf_X5_set4 I L b))) (xh_M (xfI_X5_set4 I L b) L) 0 0 := by
  refine xK.of (Nat.le_of_ble_eq_true rfl) rfl ?_
  refine xK.run (q := (1, [(0, xm_r 5 0), (1, xm_i 4), (2, xm_i b)], [xm_i 4], xh_M I L, 0, 0)) 1 rfl ?_
  refine xK.ifI rfl (fun h9 => absurd h9 (by decide)) (fun _ => ?_)
  refine xK.run (q := (7, [(0, xm_r 5 0), (1, xm_i 4), (2, xm_i b)], [xm_i 6, xm_i 4], xh_M I L, 0, 0)) 2 rfl ?_
  refine xK.icmpN rfl (fun h9 => absurd h9 (by decide)) (fun _ => ?_)
  refine xK.run (q := (17, [(0, xm_r 5 0), (1, xm_i 4), (2, xm_i b), (3, xm_i 0)], [xm_i 4], xh_M I L, 0, 0)) 3 rfl ?_
  refine xK.ifN rfl (fun h9 => absurd h9 (by decide)) (fun _ => ?_)
  refine xK.run (q := (27, [(0, xm_r 5 0), (1, xm_i 4), (2, xm_i b), (3, xm_i 0)], [xm_i 1, xm_i 4], xh_M I L, 0, 0)) 2 rfl ?_
  refine xK.icmp rfl (fun h9 => absurd h9 (by decide)) (fun _ => ?_)
  refine xK.run (q := (32, [(0, xm_r 5 0), (1, xm_i 4), (2, xm_i b), (3, xm_i 0)], [xm_i 2, xm_i 4], xh_M I L, 0, 0)) 2 rfl ?_
  refine xK.icmpN rfl (fun h9 => absurd h9 (by decide)) (fun _ => ?_)
  refine xK.run (q := (43, [(0, xm_r 5 0), (1, xm_i 4), (2, xm_i b), (3, xm_i 0)], [xm_i 3, xm_i 4], xh_M I L, 0, 0)) 2 rfl ?_
  refine xK.icmp rfl (fun h9 => absurd h9 (by decide)) (fun _ => ?_)
  refine xK.run (q := (48, [(0, xm_r 5 0), (1, xm_i 4), (2, xm_i b), (3, xm_i 0)], [xm_i 4, xm_i 4], xh_M I L, 0, 0)) 2 rfl ?_
  refine xK.icmpN rfl (fun _ => ?_) (fun h9 => absurd (by decide) h9)
  refine xK.run (q := (73, [(0, xm_r 5 0), (1, xm_i 4), (2, xm_i b), (3, xm_i 0), (4, xm_i 2000)], [xm_i 4, xm_r 5 0], xh_M I L, 0, 0)) 5 rfl ?_
  refine xK.ifI rfl (fun h9 => absurd h9 (by decide)) (fun _ => ?_)
  refine xK.run (q := (79, [(0, xm_r 5 0), (1, xm_i 4), (2, xm_i b), (3, xm_i 0), (4, xm_i 2000)], [xm_i 6, xm_i 4, xm_r 5 0], xh_M I L, 0, 0)) 2 rfl ?_
  refine xK.icmp rfl (fun h9 => absurd h9 (by decide)) (fun _ => ?_)
  refine xK.run (q := (84, [(0, xm_r 5 0), (1, xm_i 4), (2, xm_i b), (3, xm_i 0), (4, xm_i 2000)], [xm_i 0, xm_i b, xm_r 5 0], xh_M I L, 0, 0)) 2 rfl ?_
  refine xK.icmp rfl (fun (h1 : b < 0) => ?_) (fun (h1 : ¬ b < 0) => ?_)
  · skip
    refine xK.run (q := (105, [(0, xm_r 5 0), (1, xm_i 4), (2, xm_i b), (3, xm_i 0), (4, xm_i 2000)], [xm_i 1], xh_M (xm_up I 5 0 0 1) L, 0, 0)) 5 rfl ?_
    refine xK.ifI rfl (fun h9 => absurd h9 (by decide)) (fun _ => ?_)
    refine xK.run (q := (109, [(0, xm_r 5 0), (1, xm_i 4), (2, xm_i b), (3, xm_i 0), (4, xm_i 2000)], [xm_i 0], xh_M (xm_up I 5 0 0 1) L, 0, 0)) 1 rfl ?_
    rw [show xf_X5_set4 I L b = 0 from by unfold xf_X5_set4; rw [if_pos h1]]
    rw [show xfI_X5_set4 I L b = (xm_up I 5 0 0 1) from by unfold xfI_X5_set4; rw [if_pos h1]]
    exact xK.ret rfl ⟨_, rfl, rfl⟩
  · skip
    refine xK.run (q := (90, [(0, xm_r 5 0), (1, xm_i 4), (2, xm_i b), (3, xm_i 0), (4, xm_i 2000)], [xm_i 2000, xm_i b, xm_r 5 0], xh_M I L, 0, 0)) 2 rfl ?_
    refine xK.icmp rfl (fun (h2 : b ≤ 2000) => ?_) (fun (h2 : ¬ b ≤ 2000) => ?_)
    · skip
      refine xK.run (q := (105, [(0, xm_r 5 0), (1, xm_i 4), (2, xm_i b), (3, xm_i 0), (4, xm_i 2000)], [xm_i 0], xh_M (xm_up I 5 0 0 0) L, 0, 0)) 4 rfl ?_
      refine xK.ifI rfl (fun _ => ?_) (fun h9 => absurd (by decide) h9)
      refine xK.run (q := (115, [(0, xm_r 5 0), (1, xm_i 4), (2, xm_i b), (3, xm_i 0), (4, xm_i 2000)], [xm_i 4, xm_r 7 0], xh_M (xm_up I 5 0 0 0) L, 0, 0)) 3 rfl ?_
      refine xK.iald' rfl rfl (show xh_ix 4 4 7 by decide) ?_
      refine xK.run (q := (124, [(0, xm_r 5 0), (1, xm_i 4), (2, xm_i b), (3, xm_i 0), (4, xm_i 2000), (5, xm_i (I 7 4 0))], [xm_i b, xm_i 4, xm_r 7 0], xh_M (xm_up I 5 0 0 0) L, 0, 0)) 5 rfl ?_
      refine xK.iast' rfl rfl (show xh_ix 4 4 7 by decide) ?_
      refine xK.run (q := (127, [(0, xm_r 5 0), (1, xm_i 4), (2, xm_i b), (3, xm_i 0), (4, xm_i 2000), (5, xm_i (I 7 4 0))], [xm_i (I 7 4 0)], xh_M (xm_up (xm_up I 5 0 0 0) 7 4 0 b) L, 0, 0)) 1 rfl ?_
      rw [show xf_X5_set4 I L b = (I 7 4 0) from by unfold xf_X5_set4; rw [if_neg h1, if_pos h2]]
      rw [show xfI_X5_set4 I L b = (xm_up (xm_up I 5 0 0 0) 7 4 0 b) from by unfold xfI_X5_set4; rw [if_neg h1, if_pos h2]]
      exact xK.ret rfl ⟨_, rfl, rfl⟩
    · skip
      refine xK.run (q := (105, [(0, xm_r 5 0), (1, xm_i 4), (2, xm_i b), (3, xm_i 0), (4, xm_i 2000)], [xm_i 1], xh_M (xm_up I 5 0 0 1) L, 0, 0)) 5 rfl ?_
      refine xK.ifI rfl (fun h9 => absurd h9 (by decide)) (fun _ => ?_)
      refine xK.run (q := (109, [(0, xm_r 5 0), (1, xm_i 4), (2, xm_i b), (3, xm_i 0), (4, xm_i 2000)], [xm_i 0], xh_M (xm_up I 5 0 0 1) L, 0, 0)) 1 rfl ?_
      rw [show xf_X5_set4 I L b = 0 from by unfold xf_X5_set4; rw [if_neg h1, if_neg h2]]
      rw [show xfI_X5_set4 I L b = (xm_up I 5 0 0 1) from by unfold xfI_X5_set4; rw [if_neg h1, if_neg h2]]
      exact xK.ret rfl ⟨_, rfl, rfl⟩
set_option linter.unusedVariables false in
def xf_X5_set5 (I : xh_I) (L : xh_L) (b : Int32) : Int32 := if b < 0 then 0 else (if b ≤ 20 then (I 7 5 0) else 0)
set_option linter.unusedVariables false in
def xfI_X5_set5 (I : xh_I) (L : xh_L) (b : Int32) : xh_I := if b < 0 then (xm_up I 5 0 0 1) else (if b ≤ 20 then (xm_up (xm_up I 5 0 0 0) 7 5 0 b) else (xm_up I 5 0 0 1))
set_option maxHeartbeats 4000000 in
set_option maxRecDepth 100000 in
theorem xd_X5_set5 (d : Nat) (I : xh_I) (L : xh_L) (b : Int32) : xm_Do xp_pg (d + 1) 73 [xm_r 5 0, xm_i 5, xm_i b] (xh_M I L) (some (xm_i (xf_X5_set5 I L b))) (xh_M (xfI_X5_set5 I L b) L) 0 0 := by
  refine xK.of (Nat.le_of_ble_eq_true rfl) rfl ?_
  refine xK.run (q := (1, [(0, xm_r 5 0), (1, xm_i 5), (2, xm_i b)], [xm_i 5], xh_M I L, 0, 0)) 1 rfl ?_
  refine xK.ifI rfl (fun h9 => absurd h9 (by decide)) (fun _ => ?_)
  refine xK.run (q := (7, [(0, xm_r 5 0), (1, xm_i 5), (2, xm_i b)], [xm_i 6, xm_i 5], xh_M I L, 0, 0)) 2 rfl ?_
  refine xK.icmpN rfl (fun h9 => absurd h9 (by decide)) (fun _ => ?_)
  refine xK.run (q := (17, [(0, xm_r 5 0), (1, xm_i 5), (2, xm_i b), (3, xm_i 0)], [xm_i 5], xh_M I L, 0, 0)) 3 rfl ?_
  refine xK.ifN rfl (fun h9 => absurd h9 (by decide)) (fun _ => ?_)
  refine xK.run (q := (27, [(0, xm_r 5 0), (1, xm_i 5), (2, xm_i b), (3, xm_i 0)], [xm_i 1, xm_i 5], xh_M I L, 0, 0)) 2 rfl ?_
  refine xK.icmp rfl (fun h9 => absurd h9 (by decide)) (fun _ => ?_)
  refine xK.run (q := (32, [(0, xm_r 5 0), (1, xm_i 5), (2, xm_i b), (3, xm_i 0)], [xm_i 2, xm_i 5], xh_M I L, 0, 0)) 2 rfl ?_
  refine xK.icmpN rfl (fun h9 => absurd h9 (by decide)) (fun _ => ?_)
  refine xK.run (q := (43, [(0, xm_r 5 0), (1, xm_i 5), (2, xm_i b), (3, xm_i 0)], [xm_i 3, xm_i 5], xh_M I L, 0, 0)) 2 rfl ?_
  refine xK.icmp rfl (fun h9 => absurd h9 (by decide)) (fun _ => ?_)
  refine xK.run (q := (48, [(0, xm_r 5 0), (1, xm_i 5), (2, xm_i b), (3, xm_i 0)], [xm_i 4, xm_i 5], xh_M I L, 0, 0)) 2 rfl ?_
  refine xK.icmpN rfl (fun h9 => absurd h9 (by decide)) (fun _ => ?_)
  refine xK.run (q := (59, [(0, xm_r 5 0), (1, xm_i 5), (2, xm_i b), (3, xm_i 0)], [xm_i 5, xm_i 5], xh_M I L, 0, 0)) 2 rfl ?_
  refine xK.icmpN rfl (fun _ => ?_) (fun h9 => absurd (by decide) h9)
  refine xK.run (q := (73, [(0, xm_r 5 0), (1, xm_i 5), (2, xm_i b), (3, xm_i 0), (4, xm_i 20)], [xm_i 5, xm_r 5 0], xh_M I L, 0, 0)) 5 rfl ?_
  refine xK.ifI rfl (fun h9 => absurd h9 (by decide)) (fun _ => ?_)
  refine xK.run (q := (79, [(0, xm_r 5 0), (1, xm_i 5), (2, xm_i b), (3, xm_i 0), (4, xm_i 20)], [xm_i 6, xm_i 5, xm_r 5 0], xh_M I L, 0, 0)) 2 rfl ?_
  refine xK.icmp rfl (fun h9 => absurd h9 (by decide)) (fun _ => ?_)
  refine xK.run (q := (84, [(0, xm_r 5 0), (1, xm_i 5), (2, xm_i b), (3, xm_i 0), (4, xm_i 20)], [xm_i 0, xm_i b, xm_r 5 0], xh_M I L, 0, 0)) 2 rfl ?_
  refine xK.icmp rfl (fun (h1 : b < 0) => ?_) (fun (h1 : ¬ b < 0) => ?_)
  · skip
    refine xK.run (q := (105, [(0, xm_r 5 0), (1, xm_i 5), (2, xm_i b), (3, xm_i 0), (4, xm_i 20)], [xm_i 1], xh_M (xm_up I 5 0 0 1) L, 0, 0)) 5 rfl ?_
    refine xK.ifI rfl (fun h9 => absurd h9 (by decide)) (fun _ => ?_)
    refine xK.run (q := (109, [(0, xm_r 5 0), (1, xm_i 5), (2, xm_i b), (3, xm_i 0), (4, xm_i 20)], [xm_i 0], xh_M (xm_up I 5 0 0 1) L, 0, 0)) 1 rfl ?_
    rw [show xf_X5_set5 I L b = 0 from by unfold xf_X5_set5; rw [if_pos h1]]
    rw [show xfI_X5_set5 I L b = (xm_up I 5 0 0 1) from by unfold xfI_X5_set5; rw [if_pos h1]]
    exact xK.ret rfl ⟨_, rfl, rfl⟩
  · skip
    refine xK.run (q := (90, [(0, xm_r 5 0), (1, xm_i 5), (2, xm_i b), (3, xm_i 0), (4, xm_i 20)], [xm_i 20, xm_i b, xm_r 5 0], xh_M I L, 0, 0)) 2 rfl ?_
    refine xK.icmp rfl (fun (h2 : b ≤ 20) => ?_) (fun (h2 : ¬ b ≤ 20) => ?_)
    · skip
      refine xK.run (q := (105, [(0, xm_r 5 0), (1, xm_i 5), (2, xm_i b), (3, xm_i 0), (4, xm_i 20)], [xm_i 0], xh_M (xm_up I 5 0 0 0) L, 0, 0)) 4 rfl ?_
      refine xK.ifI rfl (fun _ => ?_) (fun h9 => absurd (by decide) h9)
      refine xK.run (q := (115, [(0, xm_r 5 0), (1, xm_i 5), (2, xm_i b), (3, xm_i 0), (4, xm_i 20)], [xm_i 5, xm_r 7 0], xh_M (xm_up I 5 0 0 0) L, 0, 0)) 3 rfl ?_
      refine xK.iald' rfl rfl (show xh_ix 5 5 7 by decide) ?_
      refine xK.run (q := (124, [(0, xm_r 5 0), (1, xm_i 5), (2, xm_i b), (3, xm_i 0), (4, xm_i 20), (5, xm_i (I 7 5 0))], [xm_i b, xm_i 5, xm_r 7 0], xh_M (xm_up I 5 0 0 0) L, 0, 0)) 5 rfl ?_
      refine xK.iast' rfl rfl (show xh_ix 5 5 7 by decide) ?_
      refine xK.run (q := (127, [(0, xm_r 5 0), (1, xm_i 5), (2, xm_i b), (3, xm_i 0), (4, xm_i 20), (5, xm_i (I 7 5 0))], [xm_i (I 7 5 0)], xh_M (xm_up (xm_up I 5 0 0 0) 7 5 0 b) L, 0, 0)) 1 rfl ?_
      rw [show xf_X5_set5 I L b = (I 7 5 0) from by unfold xf_X5_set5; rw [if_neg h1, if_pos h2]]
      rw [show xfI_X5_set5 I L b = (xm_up (xm_up I 5 0 0 0) 7 5 0 b) from by unfold xfI_X5_set5; rw [if_neg h1, if_pos h2]]
      exact xK.ret rfl ⟨_, rfl, rfl⟩
    · skip
      refine xK.run (q := (105, [(0, xm_r 5 0), (1, xm_i 5), (2, xm_i b), (3, xm_i 0), (4, xm_i 20)], [xm_i 1], xh_M (xm_up I 5 0 0 1) L, 0, 0)) 5 rfl ?_
      refine xK.ifI rfl (fun h9 => absurd h9 (by decide)) (fun _ => ?_)
      refine xK.run (q := (109, [(0, xm_r 5 0), (1, xm_i 5), (2, xm_i b), (3, xm_i 0), (4, xm_i 20)], [xm_i 0], xh_M (xm_up I 5 0 0 1) L, 0, 0)) 1 rfl ?_
      rw [show xf_X5_set5 I L b = 0 from by unfold xf_X5_set5; rw [if_neg h1, if_neg h2]]
      rw [show xfI_X5_set5 I L b = (xm_up I 5 0 0 1) from by unfold xfI_X5_set5; rw [if_neg h1, if_neg h2]]
      exact xK.ret rfl ⟨_, rfl, rfl⟩
set_option linter.unusedVariables false in
def xf_X5_set6 (I : xh_I) (L : xh_L) (b : Int32) : Int32 := if b < 1 then 0 else (if b ≤ 60 then (I 7 6 0) else 0)
set_option linter.unusedVariables false in
def xfI_X5_set6 (I : xh_I) (L : xh_L) (b : Int32) : xh_I := if b < 1 then (xm_up I 5 0 0 1) else (if b ≤ 60 then (xm_up (xm_up I 5 0 0 0) 7 6 0 b) else (xm_up I 5 0 0 1))
set_option maxHeartbeats 4000000 in
set_option maxRecDepth 100000 in
theorem xd_X5_set6 (d : Nat) (I : xh_I) (L : xh_L) (b : Int32) : xm_Do xp_pg (d + 1) 73 [xm_r 5 0, xm_i 6, xm_i b] (xh_M I L) (some (xm_i (xf_X5_set6 I L b))) (xh_M (xfI_X5_set6 I L b) L) 0 0 := by
  refine xK.of (Nat.le_of_ble_eq_true rfl) rfl ?_
  refine xK.run (q := (1, [(0, xm_r 5 0), (1, xm_i 6), (2, xm_i b)], [xm_i 6], xh_M I L, 0, 0)) 1 rfl ?_
  refine xK.ifI rfl (fun h9 => absurd h9 (by decide)) (fun _ => ?_)
  refine xK.run (q := (7, [(0, xm_r 5 0), (1, xm_i 6), (2, xm_i b)], [xm_i 6, xm_i 6], xh_M I L, 0, 0)) 2 rfl ?_
  refine xK.icmpN rfl (fun _ => ?_) (fun h9 => absurd (by decide) h9)
  refine xK.run (q := (17, [(0, xm_r 5 0), (1, xm_i 6), (2, xm_i b), (3, xm_i 1)], [xm_i 6], xh_M I L, 0, 0)) 4 rfl ?_
  refine xK.ifN rfl (fun h9 => absurd h9 (by decide)) (fun _ => ?_)
  refine xK.run (q := (27, [(0, xm_r 5 0), (1, xm_i 6), (2, xm_i b), (3, xm_i 1)], [xm_i 1, xm_i 6], xh_M I L, 0, 0)) 2 rfl ?_
  refine xK.icmp rfl (fun h9 => absurd h9 (by decide)) (fun _ => ?_)
  refine xK.run (q := (32, [(0, xm_r 5 0), (1, xm_i 6), (2, xm_i b), (3, xm_i 1)], [xm_i 2, xm_i 6], xh_M I L, 0, 0)) 2 rfl ?_
  refine xK.icmpN rfl (fun h9 => absurd h9 (by decide)) (fun _ => ?_)
  refine xK.run (q := (43, [(0, xm_r 5 0), (1, xm_i 6), (2, xm_i b), (3, xm_i 1)], [xm_i 3, xm_i 6], xh_M I L, 0, 0)) 2 rfl ?_
  refine xK.icmp rfl (fun h9 => absurd h9 (by decide)) (fun _ => ?_)
  refine xK.run (q := (48, [(0, xm_r 5 0), (1, xm_i 6), (2, xm_i b), (3, xm_i 1)], [xm_i 4, xm_i 6], xh_M I L, 0, 0)) 2 rfl ?_
  refine xK.icmpN rfl (fun h9 => absurd h9 (by decide)) (fun _ => ?_)
  refine xK.run (q := (59, [(0, xm_r 5 0), (1, xm_i 6), (2, xm_i b), (3, xm_i 1)], [xm_i 5, xm_i 6], xh_M I L, 0, 0)) 2 rfl ?_
  refine xK.icmpN rfl (fun h9 => absurd h9 (by decide)) (fun _ => ?_)
  refine xK.run (q := (73, [(0, xm_r 5 0), (1, xm_i 6), (2, xm_i b), (3, xm_i 1), (4, xm_i 60)], [xm_i 6, xm_r 5 0], xh_M I L, 0, 0)) 4 rfl ?_
  refine xK.ifI rfl (fun h9 => absurd h9 (by decide)) (fun _ => ?_)
  refine xK.run (q := (79, [(0, xm_r 5 0), (1, xm_i 6), (2, xm_i b), (3, xm_i 1), (4, xm_i 60)], [xm_i 6, xm_i 6, xm_r 5 0], xh_M I L, 0, 0)) 2 rfl ?_
  refine xK.icmp rfl (fun h9 => absurd h9 (by decide)) (fun _ => ?_)
  refine xK.run (q := (84, [(0, xm_r 5 0), (1, xm_i 6), (2, xm_i b), (3, xm_i 1), (4, xm_i 60)], [xm_i 1, xm_i b, xm_r 5 0], xh_M I L, 0, 0)) 2 rfl ?_
  refine xK.icmp rfl (fun (h1 : b < 1) => ?_) (fun (h1 : ¬ b < 1) => ?_)
  · skip
    refine xK.run (q := (105, [(0, xm_r 5 0), (1, xm_i 6), (2, xm_i b), (3, xm_i 1), (4, xm_i 60)], [xm_i 1], xh_M (xm_up I 5 0 0 1) L, 0, 0)) 5 rfl ?_
    refine xK.ifI rfl (fun h9 => absurd h9 (by decide)) (fun _ => ?_)
    refine xK.run (q := (109, [(0, xm_r 5 0), (1, xm_i 6), (2, xm_i b), (3, xm_i 1), (4, xm_i 60)], [xm_i 0], xh_M (xm_up I 5 0 0 1) L, 0, 0)) 1 rfl ?_
    rw [show xf_X5_set6 I L b = 0 from by unfold xf_X5_set6; rw [if_pos h1]]
    rw [show xfI_X5_set6 I L b = (xm_up I 5 0 0 1) from by unfold xfI_X5_set6; rw [if_pos h1]]
    exact xK.ret rfl ⟨_, rfl, rfl⟩
  · skip
    refine xK.run (q := (90, [(0, xm_r 5 0), (1, xm_i 6), (2, xm_i b), (3, xm_i 1), (4, xm_i 60)], [xm_i 60, xm_i b, xm_r 5 0], xh_M I L, 0, 0)) 2 rfl ?_
    refine xK.icmp rfl (fun (h2 : b ≤ 60) => ?_) (fun (h2 : ¬ b ≤ 60) => ?_)
    · skip
      refine xK.run (q := (105, [(0, xm_r 5 0), (1, xm_i 6), (2, xm_i b), (3, xm_i 1), (4, xm_i 60)], [xm_i 0], xh_M (xm_up I 5 0 0 0) L, 0, 0)) 4 rfl ?_
      refine xK.ifI rfl (fun _ => ?_) (fun h9 => absurd (by decide) h9)
      refine xK.run (q := (115, [(0, xm_r 5 0), (1, xm_i 6), (2, xm_i b), (3, xm_i 1), (4, xm_i 60)], [xm_i 6, xm_r 7 0], xh_M (xm_up I 5 0 0 0) L, 0, 0)) 3 rfl ?_
      refine xK.iald' rfl rfl (show xh_ix 6 6 7 by decide) ?_
      refine xK.run (q := (124, [(0, xm_r 5 0), (1, xm_i 6), (2, xm_i b), (3, xm_i 1), (4, xm_i 60), (5, xm_i (I 7 6 0))], [xm_i b, xm_i 6, xm_r 7 0], xh_M (xm_up I 5 0 0 0) L, 0, 0)) 5 rfl ?_
      refine xK.iast' rfl rfl (show xh_ix 6 6 7 by decide) ?_
      refine xK.run (q := (127, [(0, xm_r 5 0), (1, xm_i 6), (2, xm_i b), (3, xm_i 1), (4, xm_i 60), (5, xm_i (I 7 6 0))], [xm_i (I 7 6 0)], xh_M (xm_up (xm_up I 5 0 0 0) 7 6 0 b) L, 0, 0)) 1 rfl ?_
      rw [show xf_X5_set6 I L b = (I 7 6 0) from by unfold xf_X5_set6; rw [if_neg h1, if_pos h2]]
      rw [show xfI_X5_set6 I L b = (xm_up (xm_up I 5 0 0 0) 7 6 0 b) from by unfold xfI_X5_set6; rw [if_neg h1, if_pos h2]]
      exact xK.ret rfl ⟨_, rfl, rfl⟩
    · skip
      refine xK.run (q := (105, [(0, xm_r 5 0), (1, xm_i 6), (2, xm_i b), (3, xm_i 1), (4, xm_i 60)], [xm_i 1], xh_M (xm_up I 5 0 0 1) L, 0, 0)) 5 rfl ?_
      refine xK.ifI rfl (fun h9 => absurd h9 (by decide)) (fun _ => ?_)
      refine xK.run (q := (109, [(0, xm_r 5 0), (1, xm_i 6), (2, xm_i b), (3, xm_i 1), (4, xm_i 60)], [xm_i 0], xh_M (xm_up I 5 0 0 1) L, 0, 0)) 1 rfl ?_
      rw [show xf_X5_set6 I L b = 0 from by unfold xf_X5_set6; rw [if_neg h1, if_neg h2]]
      rw [show xfI_X5_set6 I L b = (xm_up I 5 0 0 1) from by unfold xfI_X5_set6; rw [if_neg h1, if_neg h2]]
      exact xK.ret rfl ⟨_, rfl, rfl⟩
theorem xl_secs5' (d : Nat) {E : Nat → xm_S → Prop} (hE : xm_Ei E) {n : Nat} (hn : n ≤ 300) (I : xh_I) (L : xh_L) (hs : xh_V5 I) (hk : xK (d + 5) xt_X5_step 162 ([(0, xm_r 5 0), (1, xm_i (nI n)), (2, xm_i (nI n))], [], xh_M (xg_secs5 (nI n) n 0 I L).1 (xg_secs5 (nI n) n 0 I L).2, 0, 0) E) : xK (d + 5) xt_X5_step 31 ([(0, xm_r 5 0), (1, xm_i (nI n)), (2, xm_i 0)], [], xh_M I L, 0, 0) E :=
  xl_secs5 d hE n 0 n (Nat.zero_add n) hn I L hs hk
def xwI_secs5 (n : Nat) (I : xh_I) (L : xh_L) : xh_I := (xg_secs5 (nI n) n 0 I L).1
def xwL_secs5 (n : Nat) (I : xh_I) (L : xh_L) : xh_L := (xg_secs5 (nI n) n 0 I L).2
theorem xl_secs5_w (d : Nat) {E : Nat → xm_S → Prop} (hE : xm_Ei E) {n : Nat} (hn : n ≤ 300) (I : xh_I) (L : xh_L) (hs : xh_V5 I) (hk : xK (d + 5) xt_X5_step 162 ([(0, xm_r 5 0), (1, xm_i (nI n)), (2, xm_i (nI n))], [], xh_M (xwI_secs5 n I L) (xwL_secs5 n I L), 0, 0) E) : xK (d + 5) xt_X5_step 31 ([(0, xm_r 5 0), (1, xm_i (nI n)), (2, xm_i 0)], [], xh_M I L, 0, 0) E :=
  xl_secs5' d hE hn I L hs hk
set_option linter.unusedVariables false in
def xf_X5_step (I : xh_I) (L : xh_L) (n : Nat) : Int32 := (xw0_cnt5 (xwI_secs5 n (xm_up I 5 0 0 0) L) (xwL_secs5 n (xm_up I 5 0 0 0) L) 0)
set_option linter.unusedVariables false in
def xfI_X5_step (I : xh_I) (L : xh_L) (n : Nat) : xh_I := (xwI_cnt5 (xwI_secs5 n (xm_up I 5 0 0 0) L) (xwL_secs5 n (xm_up I 5 0 0 0) L) 0)
set_option linter.unusedVariables false in
def xfL_X5_step (I : xh_I) (L : xh_L) (n : Nat) : xh_L := (xwL_cnt5 (xwI_secs5 n (xm_up I 5 0 0 0) L) (xwL_secs5 n (xm_up I 5 0 0 0) L) 0)
set_option maxHeartbeats 4000000 in
set_option maxRecDepth 100000 in
theorem xd_X5_step (d : Nat) (I : xh_I) (L : xh_L) (n : Nat) (hn : n ≤ 300) (hs : xh_V5 I) (h1 : ¬ nI n < 0) (h2 : nI n ≤ 300) : xm_Do xp_pg (d + 6) 96 [xm_r 5 0, xm_i (nI n)] (xh_M I L) (some (xm_i (xf_X5_step I L n))) (xh_M (xfI_X5_step I L n) (xfL_X5_step I L n)) 0 0 := by
  refine xK.of (Nat.le_of_ble_eq_true rfl) rfl ?_
  refine xK.run (q := (2, [(0, xm_r 5 0), (1, xm_i (nI n))], [xm_i (nI n), xm_r 5 0], xh_M I L, 0, 0)) 2 rfl ?_
  refine xK.ifI rfl (fun h9 => absurd h9 h1) (fun _ => ?_)
  refine xK.run (q := (9, [(0, xm_r 5 0), (1, xm_i (nI n))], [xm_i 300, xm_i (nI n), xm_r 5 0], xh_M I L, 0, 0)) 2 rfl ?_
  refine xK.icmp rfl (fun _ => ?_) (fun h9 => absurd h2 h9)
  refine xK.run (q := (24, [(0, xm_r 5 0), (1, xm_i (nI n))], [xm_i 0], xh_M (xm_up I 5 0 0 0) L, 0, 0)) 4 rfl ?_
  refine xK.ifI rfl (fun _ => ?_) (fun h9 => absurd (by decide) h9)
  refine xK.run (q := (31, [(0, xm_r 5 0), (1, xm_i (nI n)), (2, xm_i 0)], [], xh_M (xm_up I 5 0 0 0) L, 0, 0)) 2 rfl ?_
  refine xl_secs5_w d xm_Ei_E hn (xm_up I 5 0 0 0) L ⟨fun i hi => hs.1 i hi, fun q hq => hs.2 q hq⟩ ?_
  refine xK.run (q := (166, [(0, xm_r 5 0), (1, xm_i (nI n)), (2, xm_i 0), (3, xm_i 0)], [], xh_M (xwI_secs5 n (xm_up I 5 0 0 0) L) (xwL_secs5 n (xm_up I 5 0 0 0) L), 0, 0)) 4 rfl ?_
  refine xK.forget (a := [(0, xm_r 5 0), (2, xm_i 0), (3, xm_i 0)]) xmt_X5_step xm_Ei_E (of_decide_eq_true rfl) ⟨rfl, rfl, rfl, trivial⟩ ?_
  refine xl_cnt5_w (d + 5)   xm_Ei_E (xwI_secs5 n (xm_up I 5 0 0 0) L) (xwL_secs5 n (xm_up I 5 0 0 0) L) 0  ?_
  refine xK.run (q := (196, [(0, xm_r 5 0), (2, xm_i (xw0_cnt5 (xwI_secs5 n (xm_up I 5 0 0 0) L) (xwL_secs5 n (xm_up I 5 0 0 0) L) 0)), (3, xm_i 36)], [xm_i (xw0_cnt5 (xwI_secs5 n (xm_up I 5 0 0 0) L) (xwL_secs5 n (xm_up I 5 0 0 0) L) 0)], xh_M (xwI_cnt5 (xwI_secs5 n (xm_up I 5 0 0 0) L) (xwL_secs5 n (xm_up I 5 0 0 0) L) 0) (xwL_cnt5 (xwI_secs5 n (xm_up I 5 0 0 0) L) (xwL_secs5 n (xm_up I 5 0 0 0) L) 0), 0, 0)) 1 rfl ?_
  exact xK.ret rfl ⟨_, rfl, rfl⟩
