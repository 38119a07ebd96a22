/-! WHAT THE REFERENCE COMPUTES (by program) -/
theorem xh_oo_lookR {I : xh_I} {L : xh_L} {i j : Nat} (hi : i < 6) (hj : j < 6) : xh_oo (xfI_X5_lookR I L i j) := by
  have h : ∀ {n : Nat}, n < 6 → xh_ix (nI n) (nI n).toNatClampNeg 6 := fun h => ⟨rfl, (xh_ix_nI h (by decide)).2⟩
  have e1 : xfI_X5_lookR I L i j 5 12 0 = nI i := by unfold xfI_X5_lookR; (repeat' split) <;> rfl
  have e2 : xfI_X5_lookR I L i j 5 13 0 = nI j := by unfold xfI_X5_lookR; (repeat' split) <;> rfl
  exact ⟨by rw [e1]; exact h hi, by rw [e2]; exact h hj⟩
set_option linter.unusedVariables false in
def xf_X5_pair0 (I : xh_I) (L : xh_L) (i : Nat) (j : Nat) : Int32 := if (xf_X5_alerts (xfI_X5_look (xm_up I 5 0 0 0) L i j) (xfL_X5_look (xm_up I 5 0 0 0) L i j)) = 0 then 0 else 1
set_option linter.unusedVariables false in
def xfI_X5_pair0 (I : xh_I) (L : xh_L) (i : Nat) (j : Nat) : xh_I := if (xf_X5_alerts (xfI_X5_look (xm_up I 5 0 0 0) L i j) (xfL_X5_look (xm_up I 5 0 0 0) L i j)) = 0 then (xfI_X5_look (xm_up I 5 0 0 0) L i j) else (xfI_X5_look (xm_up I 5 0 0 0) L i j)
set_option linter.unusedVariables false in
def xfL_X5_pair0 (I : xh_I) (L : xh_L) (i : Nat) (j : Nat) : xh_L := if (xf_X5_alerts (xfI_X5_look (xm_up I 5 0 0 0) L i j) (xfL_X5_look (xm_up I 5 0 0 0) L i j)) = 0 then (xfL_X5_look (xm_up I 5 0 0 0) L i j) else (xfL_X5_look (xm_up I 5 0 0 0) L i j)
set_option maxHeartbeats 4000000 in
set_option maxRecDepth 100000 in
theorem xd_X5_pair0 (d : Nat) (I : xh_I) (L : xh_L) (i : Nat) (hi : i < 6) (j : Nat) (hj : j < 6) (hne1 : ¬ nI i = nI j) (hne2 : ¬ nI j = nI i) (hle1 : nI i ≤ nI j) (hle2 : ¬ nI j ≤ nI i) (hlt1 : nI i < nI j) (hlt2 : ¬ nI j < nI i) (hs : xh_V5 I) (h1 : ¬ xf_X5_isThere I L (nI i) = 0) (h2 : ¬ xf_X5_isThere I L (nI j) = 0) : xm_Do xp_pg (d + 3) 99 [xm_r 5 0, xm_i (nI i), xm_i (nI j), xm_i 0] (xh_M I L) (some (xm_i (xf_X5_pair0 I L i j))) (xh_M (xfI_X5_pair0 I L i j) (xfL_X5_pair0 I L i j)) 0 0 := by
  refine xK.of (Nat.le_of_ble_eq_true rfl) rfl ?_
  refine xK.run (q := (3, [(0, xm_r 5 0), (1, xm_i (nI i)), (2, xm_i (nI j)), (3, xm_i 0)], [xm_i (nI i), xm_r 5 0, xm_r 5 0], xh_M I L, 0, 0)) 3 rfl ?_
  refine xK.call [xm_r 5 0, xm_i (nI i)] (xd_X5_isThere d I L (nI i)) rfl rfl rfl (Or.inr ⟨_, _, rfl⟩) (Nat.le_of_ble_eq_true rfl) ?_
  refine xK.ifI rfl (fun h9 => absurd h9 h1) (fun _ => ?_)
  refine xK.run (q := (11, [(0, xm_r 5 0), (1, xm_i (nI i)), (2, xm_i (nI j)), (3, xm_i 0)], [xm_i (nI j), xm_r 5 0, xm_r 5 0], xh_M I L, 0, 0)) 2 rfl ?_
  refine xK.call [xm_r 5 0, xm_i (nI j)] (xd_X5_isThere d I L (nI j)) rfl rfl rfl (Or.inr ⟨_, _, rfl⟩) (Nat.le_of_ble_eq_true rfl) ?_
  refine xK.ifI rfl (fun h9 => absurd h9 h2) (fun _ => ?_)
  refine xK.run (q := (19, [(0, xm_r 5 0), (1, xm_i (nI i)), (2, xm_i (nI j)), (3, xm_i 0)], [xm_i (nI j), xm_i (nI i), xm_r 5 0], xh_M I L, 0, 0)) 2 rfl ?_
  refine xK.icmp rfl (fun h9 => absurd h9 hne1) (fun _ => ?_)
  refine xK.run (q := (23, [(0, xm_r 5 0), (1, xm_i (nI i)), (2, xm_i (nI j)), (3, xm_i 0)], [xm_i 0, xm_r 5 0], xh_M I L, 0, 0)) 1 rfl ?_
  refine xK.ifI rfl (fun h9 => absurd h9 (by decide)) (fun _ => ?_)
  refine xK.run (q := (29, [(0, xm_r 5 0), (1, xm_i (nI i)), (2, xm_i (nI j)), (3, xm_i 0)], [xm_i 10, xm_i 0, xm_r 5 0], xh_M I L, 0, 0)) 2 rfl ?_
  refine xK.icmp rfl (fun _ => ?_) (fun h9 => absurd (by decide) h9)
  refine xK.run (q := (44, [(0, xm_r 5 0), (1, xm_i (nI i)), (2, xm_i (nI j)), (3, xm_i 0)], [xm_i 0], xh_M (xm_up I 5 0 0 0) L, 0, 0)) 4 rfl ?_
  refine xK.ifI rfl (fun _ => ?_) (fun h9 => absurd (by decide) h9)
  refine xK.run (q := (52, [(0, xm_r 5 0), (1, xm_i (nI i)), (2, xm_i (nI j)), (3, xm_i 0)], [xm_i (nI j), xm_i (nI i), xm_r 5 0], xh_M (xm_up I 5 0 0 0) L, 0, 0)) 3 rfl ?_
  refine xK.call [xm_r 5 0, xm_i (nI i), xm_i (nI j)] (xd_X5_look (d + 1) (xm_up I 5 0 0 0) L i hi j hj hle2 (xh_hd (fun i hi => hs.1 i hi) hi hj)) rfl rfl rfl (Or.inr ⟨_, _, rfl⟩) (Nat.le_of_ble_eq_true rfl) ?_
  refine xK.run (q := (57, [(0, xm_r 5 0), (1, xm_i (nI i)), (2, xm_i (nI j)), (3, xm_i 0)], [xm_i (nI j), xm_i (nI i)], xh_M (xfI_X5_look (xm_up I 5 0 0 0) L i j) (xfL_X5_look (xm_up I 5 0 0 0) L i j), 0, 0)) 2 rfl ?_
  refine xK.call [xm_i (nI i), xm_i (nI j)] (xd_X5_pairOf (d + 1) (xfI_X5_look (xm_up I 5 0 0 0) L i j) (xfL_X5_look (xm_up I 5 0 0 0) L i j) (nI i) (nI j)) rfl rfl rfl (Or.inl rfl) (Nat.le_of_ble_eq_true rfl) ?_
  refine xK.run (q := (117, [(0, xm_r 5 0), (1, xm_i (nI i)), (2, xm_i (nI j)), (3, xm_i 0), (4, xm_i (xf_X5_pairOf (nI i) (nI j)))], [xm_r 5 0], xh_M (xfI_X5_look (xm_up I 5 0 0 0) L i j) (xfL_X5_look (xm_up I 5 0 0 0) L i j), 0, 0)) 4 rfl ?_
  refine xK.call [xm_r 5 0] (xd_X5_alerts d (xfI_X5_look (xm_up I 5 0 0 0) L i j) (xfL_X5_look (xm_up I 5 0 0 0) L i j)) rfl rfl rfl (Or.inr ⟨_, _, rfl⟩) (Nat.le_of_ble_eq_true rfl) ?_
  refine xK.ifI rfl (fun (h1 : (xf_X5_alerts (xfI_X5_look (xm_up I 5 0 0 0) L i j) (xfL_X5_look (xm_up I 5 0 0 0) L i j)) = 0) => ?_) (fun (h1 : ¬ (xf_X5_alerts (xfI_X5_look (xm_up I 5 0 0 0) L i j) (xfL_X5_look (xm_up I 5 0 0 0) L i j)) = 0) => ?_)
  · skip
    refine xK.run (q := (128, [(0, xm_r 5 0), (1, xm_i (nI i)), (2, xm_i (nI j)), (3, xm_i 0), (4, xm_i (xf_X5_pairOf (nI i) (nI j)))], [xm_i 0], xh_M (xfI_X5_look (xm_up I 5 0 0 0) L i j) (xfL_X5_look (xm_up I 5 0 0 0) L i j), 0, 0)) 1 rfl ?_
    rw [show xf_X5_pair0 I L i j = 0 from by unfold xf_X5_pair0; rw [if_pos h1]]
    rw [show xfI_X5_pair0 I L i j = (xfI_X5_look (xm_up I 5 0 0 0) L i j) from by unfold xfI_X5_pair0; rw [if_pos h1]]
    rw [show xfL_X5_pair0 I L i j = (xfL_X5_look (xm_up I 5 0 0 0) L i j) from by unfold xfL_X5_pair0; rw [if_pos h1]]
    exact xK.ret rfl ⟨_, rfl, rfl⟩
  · skip
    refine xK.run (q := (128, [(0, xm_r 5 0), (1, xm_i (nI i)), (2, xm_i (nI j)), (3, xm_i 0), (4, xm_i (xf_X5_pairOf (nI i) (nI j)))], [xm_i 1], xh_M (xfI_X5_look (xm_up I 5 0 0 0) L i j) (xfL_X5_look (xm_up I 5 0 0 0) L i j), 0, 0)) 2 rfl ?_
    rw [show xf_X5_pair0 I L i j = 1 from by unfold xf_X5_pair0; rw [if_neg h1]]
    rw [show xfI_X5_pair0 I L i j = (xfI_X5_look (xm_up I 5 0 0 0) L i j) from by unfold xfI_X5_pair0; rw [if_neg h1]]
    rw [show xfL_X5_pair0 I L i j = (xfL_X5_look (xm_up I 5 0 0 0) L i j) from by unfold xfL_X5_pair0; rw [if_neg h1]]
    exact xK.ret rfl ⟨_, rfl, rfl⟩
set_option linter.unusedVariables false in
def xf_X5_pair1 (I : xh_I) (L : xh_L) (i : Nat) (j : Nat) : Int32 := ((xfL_X5_look (xm_up I 5 0 0 0) L i j) 5 21 0).toInt32
set_option linter.unusedVariables false in
def xfI_X5_pair1 (I : xh_I) (L : xh_L) (i : Nat) (j : Nat) : xh_I := (xfI_X5_look (xm_up I 5 0 0 0) L i j)
set_option linter.unusedVariables false in
def xfL_X5_pair1 (I : xh_I) (L : xh_L) (i : Nat) (j : Nat) : xh_L := (xfL_X5_look (xm_up I 5 0 0 0) L i j)
set_option maxHeartbeats 4000000 in
set_option maxRecDepth 100000 in
theorem xd_X5_pair1 (d : Nat) (I : xh_I) (L : xh_L) (i : Nat) (hi : i < 6) (j : Nat) (hj : j < 6) (hne1 : ¬ nI i = nI j) (hne2 : ¬ nI j = nI i) (hle1 : nI i ≤ nI j) (hle2 : ¬ nI j ≤ nI i) (hlt1 : nI i < nI j) (hlt2 : ¬ nI j < nI i) (hs : xh_V5 I) (h1 : ¬ xf_X5_isThere I L (nI i) = 0) (h2 : ¬ xf_X5_isThere I L (nI j) = 0) : xm_Do xp_pg (d + 3) 99 [xm_r 5 0, xm_i (nI i), xm_i (nI j), xm_i 1] (xh_M I L) (some (xm_i (xf_X5_pair1 I L i j))) (xh_M (xfI_X5_pair1 I L i j) (xfL_X5_pair1 I L i j)) 0 0 := by
  refine xK.of (Nat.le_of_ble_eq_true rfl) rfl ?_
  refine xK.run (q := (3, [(0, xm_r 5 0), (1, xm_i (nI i)), (2, xm_i (nI j)), (3, xm_i 1)], [xm_i (nI i), xm_r 5 0, xm_r 5 0], xh_M I L, 0, 0)) 3 rfl ?_
  refine xK.call [xm_r 5 0, xm_i (nI i)] (xd_X5_isThere d I L (nI i)) rfl rfl rfl (Or.inr ⟨_, _, rfl⟩) (Nat.le_of_ble_eq_true rfl) ?_
  refine xK.ifI rfl (fun h9 => absurd h9 h1) (fun _ => ?_)
  refine xK.run (q := (11, [(0, xm_r 5 0), (1, xm_i (nI i)), (2, xm_i (nI j)), (3, xm_i 1)], [xm_i (nI j), xm_r 5 0, xm_r 5 0], xh_M I L, 0, 0)) 2 rfl ?_
  refine xK.call [xm_r 5 0, xm_i (nI j)] (xd_X5_isThere d I L (nI j)) rfl rfl rfl (Or.inr ⟨_, _, rfl⟩) (Nat.le_of_ble_eq_true rfl) ?_
  refine xK.ifI rfl (fun h9 => absurd h9 h2) (fun _ => ?_)
  refine xK.run (q := (19, [(0, xm_r 5 0), (1, xm_i (nI i)), (2, xm_i (nI j)), (3, xm_i 1)], [xm_i (nI j), xm_i (nI i), xm_r 5 0], xh_M I L, 0, 0)) 2 rfl ?_
  refine xK.icmp rfl (fun h9 => absurd h9 hne1) (fun _ => ?_)
  refine xK.run (q := (23, [(0, xm_r 5 0), (1, xm_i (nI i)), (2, xm_i (nI j)), (3, xm_i 1)], [xm_i 1, xm_r 5 0], xh_M I L, 0, 0)) 1 rfl ?_
  refine xK.ifI rfl (fun h9 => absurd h9 (by decide)) (fun _ => ?_)
  refine xK.run (q := (29, [(0, xm_r 5 0), (1, xm_i (nI i)), (2, xm_i (nI j)), (3, xm_i 1)], [xm_i 10, xm_i 1, xm_r 5 0], xh_M I L, 0, 0)) 2 rfl ?_
  refine xK.icmp rfl (fun _ => ?_) (fun h9 => absurd (by decide) h9)
  refine xK.run (q := (44, [(0, xm_r 5 0), (1, xm_i (nI i)), (2, xm_i (nI j)), (3, xm_i 1)], [xm_i 0], xh_M (xm_up I 5 0 0 0) L, 0, 0)) 4 rfl ?_
  refine xK.ifI rfl (fun _ => ?_) (fun h9 => absurd (by decide) h9)
  refine xK.run (q := (52, [(0, xm_r 5 0), (1, xm_i (nI i)), (2, xm_i (nI j)), (3, xm_i 1)], [xm_i (nI j), xm_i (nI i), xm_r 5 0], xh_M (xm_up I 5 0 0 0) L, 0, 0)) 3 rfl ?_
  refine xK.call [xm_r 5 0, xm_i (nI i), xm_i (nI j)] (xd_X5_look (d + 1) (xm_up I 5 0 0 0) L i hi j hj hle2 (xh_hd (fun i hi => hs.1 i hi) hi hj)) rfl rfl rfl (Or.inr ⟨_, _, rfl⟩) (Nat.le_of_ble_eq_true rfl) ?_
  refine xK.run (q := (57, [(0, xm_r 5 0), (1, xm_i (nI i)), (2, xm_i (nI j)), (3, xm_i 1)], [xm_i (nI j), xm_i (nI i)], xh_M (xfI_X5_look (xm_up I 5 0 0 0) L i j) (xfL_X5_look (xm_up I 5 0 0 0) L i j), 0, 0)) 2 rfl ?_
  refine xK.call [xm_i (nI i), xm_i (nI j)] (xd_X5_pairOf (d + 1) (xfI_X5_look (xm_up I 5 0 0 0) L i j) (xfL_X5_look (xm_up I 5 0 0 0) L i j) (nI i) (nI j)) rfl rfl rfl (Or.inl rfl) (Nat.le_of_ble_eq_true rfl) ?_
  refine xK.run (q := (134, [(0, xm_r 5 0), (1, xm_i (nI i)), (2, xm_i (nI j)), (3, xm_i 1), (4, xm_i (xf_X5_pairOf (nI i) (nI j)))], [xm_i (((xfL_X5_look (xm_up I 5 0 0 0) L i j) 5 21 0).toInt32)], xh_M (xfI_X5_look (xm_up I 5 0 0 0) L i j) (xfL_X5_look (xm_up I 5 0 0 0) L i j), 0, 0)) 6 rfl ?_
  exact xK.ret rfl ⟨_, rfl, rfl⟩
set_option linter.unusedVariables false in
def xf_X5_pair2 (I : xh_I) (L : xh_L) (i : Nat) (j : Nat) : Int32 := xf_X5_forFirst ((xfI_X5_look (xm_up I 5 0 0 0) L i j) 11 (xh_p6 i j) 0) 0
set_option linter.unusedVariables false in
def xfI_X5_pair2 (I : xh_I) (L : xh_L) (i : Nat) (j : Nat) : xh_I := (xfI_X5_look (xm_up I 5 0 0 0) L i j)
set_option linter.unusedVariables false in
def xfL_X5_pair2 (I : xh_I) (L : xh_L) (i : Nat) (j : Nat) : xh_L := (xfL_X5_look (xm_up I 5 0 0 0) L i j)
set_option maxHeartbeats 4000000 in
set_option maxRecDepth 100000 in
theorem xd_X5_pair2 (d : Nat) (I : xh_I) (L : xh_L) (i : Nat) (hi : i < 6) (j : Nat) (hj : j < 6) (hne1 : ¬ nI i = nI j) (hne2 : ¬ nI j = nI i) (hle1 : nI i ≤ nI j) (hle2 : ¬ nI j ≤ nI i) (hlt1 : nI i < nI j) (hlt2 : ¬ nI j < nI i) (hs : xh_V5 I) (h1 : ¬ xf_X5_isThere I L (nI i) = 0) (h2 : ¬ xf_X5_isThere I L (nI j) = 0) : xm_Do xp_pg (d + 3) 99 [xm_r 5 0, xm_i (nI i), xm_i (nI j), xm_i 2] (xh_M I L) (some (xm_i (xf_X5_pair2 I L i j))) (xh_M (xfI_X5_pair2 I L i j) (xfL_X5_pair2 I L i j)) 0 0 := by
  refine xK.of (Nat.le_of_ble_eq_true rfl) rfl ?_
  refine xK.run (q := (3, [(0, xm_r 5 0), (1, xm_i (nI i)), (2, xm_i (nI j)), (3, xm_i 2)], [xm_i (nI i), xm_r 5 0, xm_r 5 0], xh_M I L, 0, 0)) 3 rfl ?_
  refine xK.call [xm_r 5 0, xm_i (nI i)] (xd_X5_isThere d I L (nI i)) rfl rfl rfl (Or.inr ⟨_, _, rfl⟩) (Nat.le_of_ble_eq_true rfl) ?_
  refine xK.ifI rfl (fun h9 => absurd h9 h1) (fun _ => ?_)
  refine xK.run (q := (11, [(0, xm_r 5 0), (1, xm_i (nI i)), (2, xm_i (nI j)), (3, xm_i 2)], [xm_i (nI j), xm_r 5 0, xm_r 5 0], xh_M I L, 0, 0)) 2 rfl ?_
  refine xK.call [xm_r 5 0, xm_i (nI j)] (xd_X5_isThere d I L (nI j)) rfl rfl rfl (Or.inr ⟨_, _, rfl⟩) (Nat.le_of_ble_eq_true rfl) ?_
  refine xK.ifI rfl (fun h9 => absurd h9 h2) (fun _ => ?_)
  refine xK.run (q := (19, [(0, xm_r 5 0), (1, xm_i (nI i)), (2, xm_i (nI j)), (3, xm_i 2)], [xm_i (nI j), xm_i (nI i), xm_r 5 0], xh_M I L, 0, 0)) 2 rfl ?_
  refine xK.icmp rfl (fun h9 => absurd h9 hne1) (fun _ => ?_)
  refine xK.run (q := (23, [(0, xm_r 5 0), (1, xm_i (nI i)), (2, xm_i (nI j)), (3, xm_i 2)], [xm_i 2, xm_r 5 0], xh_M I L, 0, 0)) 1 rfl ?_
  refine xK.ifI rfl (fun h9 => absurd h9 (by decide)) (fun _ => ?_)
  refine xK.run (q := (29, [(0, xm_r 5 0), (1, xm_i (nI i)), (2, xm_i (nI j)), (3, xm_i 2)], [xm_i 10, xm_i 2, xm_r 5 0], xh_M I L, 0, 0)) 2 rfl ?_
  refine xK.icmp rfl (fun _ => ?_) (fun h9 => absurd (by decide) h9)
  refine xK.run (q := (44, [(0, xm_r 5 0), (1, xm_i (nI i)), (2, xm_i (nI j)), (3, xm_i 2)], [xm_i 0], xh_M (xm_up I 5 0 0 0) L, 0, 0)) 4 rfl ?_
  refine xK.ifI rfl (fun _ => ?_) (fun h9 => absurd (by decide) h9)
  refine xK.run (q := (52, [(0, xm_r 5 0), (1, xm_i (nI i)), (2, xm_i (nI j)), (3, xm_i 2)], [xm_i (nI j), xm_i (nI i), xm_r 5 0], xh_M (xm_up I 5 0 0 0) L, 0, 0)) 3 rfl ?_
  refine xK.call [xm_r 5 0, xm_i (nI i), xm_i (nI j)] (xd_X5_look (d + 1) (xm_up I 5 0 0 0) L i hi j hj hle2 (xh_hd (fun i hi => hs.1 i hi) hi hj)) rfl rfl rfl (Or.inr ⟨_, _, rfl⟩) (Nat.le_of_ble_eq_true rfl) ?_
  refine xK.run (q := (57, [(0, xm_r 5 0), (1, xm_i (nI i)), (2, xm_i (nI j)), (3, xm_i 2)], [xm_i (nI j), xm_i (nI i)], xh_M (xfI_X5_look (xm_up I 5 0 0 0) L i j) (xfL_X5_look (xm_up I 5 0 0 0) L i j), 0, 0)) 2 rfl ?_
  refine xK.call [xm_i (nI i), xm_i (nI j)] (xd_X5_pairOf (d + 1) (xfI_X5_look (xm_up I 5 0 0 0) L i j) (xfL_X5_look (xm_up I 5 0 0 0) L i j) (nI i) (nI j)) rfl rfl rfl (Or.inl rfl) (Nat.le_of_ble_eq_true rfl) ?_
  refine xK.run (q := (141, [(0, xm_r 5 0), (1, xm_i (nI i)), (2, xm_i (nI j)), (3, xm_i 2), (4, xm_i (xf_X5_pairOf (nI i) (nI j)))], [xm_i (xf_X5_pairOf (nI i) (nI j)), xm_r 11 0], xh_M (xfI_X5_look (xm_up I 5 0 0 0) L i j) (xfL_X5_look (xm_up I 5 0 0 0) L i j), 0, 0)) 6 rfl ?_
  refine xK.iald' rfl rfl (xh_p6_ix hi hj) ?_
  refine xK.run (q := (144, [(0, xm_r 5 0), (1, xm_i (nI i)), (2, xm_i (nI j)), (3, xm_i 2), (4, xm_i (xf_X5_pairOf (nI i) (nI j)))], [xm_i (nI j), xm_i (nI i), xm_i ((xfI_X5_look (xm_up I 5 0 0 0) L i j) 11 (xh_p6 i j) 0)], xh_M (xfI_X5_look (xm_up I 5 0 0 0) L i j) (xfL_X5_look (xm_up I 5 0 0 0) L i j), 0, 0)) 2 rfl ?_
  refine xK.icmp rfl (fun _ => ?_) (fun h9 => absurd hle1 h9)
  refine xK.run (q := (152, [(0, xm_r 5 0), (1, xm_i (nI i)), (2, xm_i (nI j)), (3, xm_i 2), (4, xm_i (xf_X5_pairOf (nI i) (nI j)))], [xm_i 0, xm_i ((xfI_X5_look (xm_up I 5 0 0 0) L i j) 11 (xh_p6 i j) 0)], xh_M (xfI_X5_look (xm_up I 5 0 0 0) L i j) (xfL_X5_look (xm_up I 5 0 0 0) L i j), 0, 0)) 1 rfl ?_
  refine xK.call [xm_i ((xfI_X5_look (xm_up I 5 0 0 0) L i j) 11 (xh_p6 i j) 0), xm_i 0] (xd_X5_forFirst (d + 1) (xfI_X5_look (xm_up I 5 0 0 0) L i j) (xfL_X5_look (xm_up I 5 0 0 0) L i j) ((xfI_X5_look (xm_up I 5 0 0 0) L i j) 11 (xh_p6 i j) 0) 0) rfl rfl rfl (Or.inl rfl) (Nat.le_of_ble_eq_true rfl) ?_
  exact xK.ret rfl ⟨_, rfl, rfl⟩
set_option linter.unusedVariables false in
def xf_X5_pair3 (I : xh_I) (L : xh_L) (i : Nat) (j : Nat) : Int32 := (xfI_X5_look (xm_up I 5 0 0 0) L i j) 12 (xh_p6 i j) 0
set_option linter.unusedVariables false in
def xfI_X5_pair3 (I : xh_I) (L : xh_L) (i : Nat) (j : Nat) : xh_I := (xfI_X5_look (xm_up I 5 0 0 0) L i j)
set_option linter.unusedVariables false in
def xfL_X5_pair3 (I : xh_I) (L : xh_L) (i : Nat) (j : Nat) : xh_L := (xfL_X5_look (xm_up I 5 0 0 0) L i j)
set_option maxHeartbeats 4000000 in
set_option maxRecDepth 100000 in
theorem xd_X5_pair3 (d : Nat) (I : xh_I) (L : xh_L) (i : Nat) (hi : i < 6) (j : Nat) (hj : j < 6) (hne1 : ¬ nI i = nI j) (hne2 : ¬ nI j = nI i) (hle1 : nI i ≤ nI j) (hle2 : ¬ nI j ≤ nI i) (hlt1 : nI i < nI j) (hlt2 : ¬ nI j < nI i) (hs : xh_V5 I) (h1 : ¬ xf_X5_isThere I L (nI i) = 0) (h2 : ¬ xf_X5_isThere I L (nI j) = 0) : xm_Do xp_pg (d + 3) 99 [xm_r 5 0, xm_i (nI i), xm_i (nI j), xm_i 3] (xh_M I L) (some (xm_i (xf_X5_pair3 I L i j))) (xh_M (xfI_X5_pair3 I L i j) (xfL_X5_pair3 I L i j)) 0 0 := by
  refine xK.of (Nat.le_of_ble_eq_true rfl) rfl ?_
  refine xK.run (q := (3, [(0, xm_r 5 0), (1, xm_i (nI i)), (2, xm_i (nI j)), (3, xm_i 3)], [xm_i (nI i), xm_r 5 0, xm_r 5 0], xh_M I L, 0, 0)) 3 rfl ?_
  refine xK.call [xm_r 5 0, xm_i (nI i)] (xd_X5_isThere d I L (nI i)) rfl rfl rfl (Or.inr ⟨_, _, rfl⟩) (Nat.le_of_ble_eq_true rfl) ?_
  refine xK.ifI rfl (fun h9 => absurd h9 h1) (fun _ => ?_)
  refine xK.run (q := (11, [(0, xm_r 5 0), (1, xm_i (nI i)), (2, xm_i (nI j)), (3, xm_i 3)], [xm_i (nI j), xm_r 5 0, xm_r 5 0], xh_M I L, 0, 0)) 2 rfl ?_
  refine xK.call [xm_r 5 0, xm_i (nI j)] (xd_X5_isThere d I L (nI j)) rfl rfl rfl (Or.inr ⟨_, _, rfl⟩) (Nat.le_of_ble_eq_true rfl) ?_
  refine xK.ifI rfl (fun h9 => absurd h9 h2) (fun _ => ?_)
  refine xK.run (q := (19, [(0, xm_r 5 0), (1, xm_i (nI i)), (2, xm_i (nI j)), (3, xm_i 3)], [xm_i (nI j), xm_i (nI i), xm_r 5 0], xh_M I L, 0, 0)) 2 rfl ?_
  refine xK.icmp rfl (fun h9 => absurd h9 hne1) (fun _ => ?_)
  refine xK.run (q := (23, [(0, xm_r 5 0), (1, xm_i (nI i)), (2, xm_i (nI j)), (3, xm_i 3)], [xm_i 3, xm_r 5 0], xh_M I L, 0, 0)) 1 rfl ?_
  refine xK.ifI rfl (fun h9 => absurd h9 (by decide)) (fun _ => ?_)
  refine xK.run (q := (29, [(0, xm_r 5 0), (1, xm_i (nI i)), (2, xm_i (nI j)), (3, xm_i 3)], [xm_i 10, xm_i 3, xm_r 5 0], xh_M I L, 0, 0)) 2 rfl ?_
  refine xK.icmp rfl (fun _ => ?_) (fun h9 => absurd (by decide) h9)
  refine xK.run (q := (44, [(0, xm_r 5 0), (1, xm_i (nI i)), (2, xm_i (nI j)), (3, xm_i 3)], [xm_i 0], xh_M (xm_up I 5 0 0 0) L, 0, 0)) 4 rfl ?_
  refine xK.ifI rfl (fun _ => ?_) (fun h9 => absurd (by decide) h9)
  refine xK.run (q := (52, [(0, xm_r 5 0), (1, xm_i (nI i)), (2, xm_i (nI j)), (3, xm_i 3)], [xm_i (nI j), xm_i (nI i), xm_r 5 0], xh_M (xm_up I 5 0 0 0) L, 0, 0)) 3 rfl ?_
  refine xK.call [xm_r 5 0, xm_i (nI i), xm_i (nI j)] (xd_X5_look (d + 1) (xm_up I 5 0 0 0) L i hi j hj hle2 (xh_hd (fun i hi => hs.1 i hi) hi hj)) rfl rfl rfl (Or.inr ⟨_, _, rfl⟩) (Nat.le_of_ble_eq_true rfl) ?_
  refine xK.run (q := (57, [(0, xm_r 5 0), (1, xm_i (nI i)), (2, xm_i (nI j)), (3, xm_i 3)], [xm_i (nI j), xm_i (nI i)], xh_M (xfI_X5_look (xm_up I 5 0 0 0) L i j) (xfL_X5_look (xm_up I 5 0 0 0) L i j), 0, 0)) 2 rfl ?_
  refine xK.call [xm_i (nI i), xm_i (nI j)] (xd_X5_pairOf (d + 1) (xfI_X5_look (xm_up I 5 0 0 0) L i j) (xfL_X5_look (xm_up I 5 0 0 0) L i j) (nI i) (nI j)) rfl rfl rfl (Or.inl rfl) (Nat.le_of_ble_eq_true rfl) ?_
  refine xK.run (q := (162, [(0, xm_r 5 0), (1, xm_i (nI i)), (2, xm_i (nI j)), (3, xm_i 3), (4, xm_i (xf_X5_pairOf (nI i) (nI j)))], [xm_i (xf_X5_pairOf (nI i) (nI j)), xm_r 12 0], xh_M (xfI_X5_look (xm_up I 5 0 0 0) L i j) (xfL_X5_look (xm_up I 5 0 0 0) L i j), 0, 0)) 6 rfl ?_
  refine xK.iald' rfl rfl (xh_p6_ix hi hj) ?_
  exact xK.ret rfl ⟨_, rfl, rfl⟩
set_option linter.unusedVariables false in
def xf_X5_pair4 (I : xh_I) (L : xh_L) (i : Nat) (j : Nat) : Int32 := (xfI_X5_look (xm_up I 5 0 0 0) L i j) 13 (xh_p6 i j) 0
set_option linter.unusedVariables false in
def xfI_X5_pair4 (I : xh_I) (L : xh_L) (i : Nat) (j : Nat) : xh_I := (xfI_X5_look (xm_up I 5 0 0 0) L i j)
set_option linter.unusedVariables false in
def xfL_X5_pair4 (I : xh_I) (L : xh_L) (i : Nat) (j : Nat) : xh_L := (xfL_X5_look (xm_up I 5 0 0 0) L i j)
set_option maxHeartbeats 4000000 in
set_option maxRecDepth 100000 in
theorem xd_X5_pair4 (d : Nat) (I : xh_I) (L : xh_L) (i : Nat) (hi : i < 6) (j : Nat) (hj : j < 6) (hne1 : ¬ nI i = nI j) (hne2 : ¬ nI j = nI i) (hle1 : nI i ≤ nI j) (hle2 : ¬ nI j ≤ nI i) (hlt1 : nI i < nI j) (hlt2 : ¬ nI j < nI i) (hs : xh_V5 I) (h1 : ¬ xf_X5_isThere I L (nI i) = 0) (h2 : ¬ xf_X5_isThere I L (nI j) = 0) : xm_Do xp_pg (d + 3) 99 [xm_r 5 0, xm_i (nI i), xm_i (nI j), xm_i 4] (xh_M I L) (some (xm_i (xf_X5_pair4 I L i j))) (xh_M (xfI_X5_pair4 I L i j) (xfL_X5_pair4 I L i j)) 0 0 := by
  refine xK.of (Nat.le_of_ble_eq_true rfl) rfl ?_
  refine xK.run (q := (3, [(0, xm_r 5 0), (1, xm_i (nI i)), (2, xm_i (nI j)), (3, xm_i 4)], [xm_i (nI i), xm_r 5 0, xm_r 5 0], xh_M I L, 0, 0)) 3 rfl ?_
  refine xK.call [xm_r 5 0, xm_i (nI i)] (xd_X5_isThere d I L (nI i)) rfl rfl rfl (Or.inr ⟨_, _, rfl⟩) (Nat.le_of_ble_eq_true rfl) ?_
  refine xK.ifI rfl (fun h9 => absurd h9 h1) (fun _ => ?_)
  refine xK.run (q := (11, [(0, xm_r 5 0), (1, xm_i (nI i)), (2, xm_i (nI j)), (3, xm_i 4)], [xm_i (nI j), xm_r 5 0, xm_r 5 0], xh_M I L, 0, 0)) 2 rfl ?_
  refine xK.call [xm_r 5 0, xm_i (nI j)] (xd_X5_isThere d I L (nI j)) rfl rfl rfl (Or.inr ⟨_, _, rfl⟩) (Nat.le_of_ble_eq_true rfl) ?_
  refine xK.ifI rfl (fun h9 => absurd h9 h2) (fun _ => ?_)
  refine xK.run (q := (19, [(0, xm_r 5 0), (1, xm_i (nI i)), (2, xm_i (nI j)), (3, xm_i 4)], [xm_i (nI j), xm_i (nI i), xm_r 5 0], xh_M I L, 0, 0)) 2 rfl ?_
  refine xK.icmp rfl (fun h9 => absurd h9 hne1) (fun _ => ?_)
  refine xK.run (q := (23, [(0, xm_r 5 0), (1, xm_i (nI i)), (2, xm_i (nI j)), (3, xm_i 4)], [xm_i 4, xm_r 5 0], xh_M I L, 0, 0)) 1 rfl ?_
  refine xK.ifI rfl (fun h9 => absurd h9 (by decide)) (fun _ => ?_)
  refine xK.run (q := (29, [(0, xm_r 5 0), (1, xm_i (nI i)), (2, xm_i (nI j)), (3, xm_i 4)], [xm_i 10, xm_i 4, xm_r 5 0], xh_M I L, 0, 0)) 2 rfl ?_
  refine xK.icmp rfl (fun _ => ?_) (fun h9 => absurd (by decide) h9)
  refine xK.run (q := (44, [(0, xm_r 5 0), (1, xm_i (nI i)), (2, xm_i (nI j)), (3, xm_i 4)], [xm_i 0], xh_M (xm_up I 5 0 0 0) L, 0, 0)) 4 rfl ?_
  refine xK.ifI rfl (fun _ => ?_) (fun h9 => absurd (by decide) h9)
  refine xK.run (q := (52, [(0, xm_r 5 0), (1, xm_i (nI i)), (2, xm_i (nI j)), (3, xm_i 4)], [xm_i (nI j), xm_i (nI i), xm_r 5 0], xh_M (xm_up I 5 0 0 0) L, 0, 0)) 3 rfl ?_
  refine xK.call [xm_r 5 0, xm_i (nI i), xm_i (nI j)] (xd_X5_look (d + 1) (xm_up I 5 0 0 0) L i hi j hj hle2 (xh_hd (fun i hi => hs.1 i hi) hi hj)) rfl rfl rfl (Or.inr ⟨_, _, rfl⟩) (Nat.le_of_ble_eq_true rfl) ?_
  refine xK.run (q := (57, [(0, xm_r 5 0), (1, xm_i (nI i)), (2, xm_i (nI j)), (3, xm_i 4)], [xm_i (nI j), xm_i (nI i)], xh_M (xfI_X5_look (xm_up I 5 0 0 0) L i j) (xfL_X5_look (xm_up I 5 0 0 0) L i j), 0, 0)) 2 rfl ?_
  refine xK.call [xm_i (nI i), xm_i (nI j)] (xd_X5_pairOf (d + 1) (xfI_X5_look (xm_up I 5 0 0 0) L i j) (xfL_X5_look (xm_up I 5 0 0 0) L i j) (nI i) (nI j)) rfl rfl rfl (Or.inl rfl) (Nat.le_of_ble_eq_true rfl) ?_
  refine xK.run (q := (170, [(0, xm_r 5 0), (1, xm_i (nI i)), (2, xm_i (nI j)), (3, xm_i 4), (4, xm_i (xf_X5_pairOf (nI i) (nI j)))], [xm_i (xf_X5_pairOf (nI i) (nI j)), xm_r 13 0], xh_M (xfI_X5_look (xm_up I 5 0 0 0) L i j) (xfL_X5_look (xm_up I 5 0 0 0) L i j), 0, 0)) 6 rfl ?_
  refine xK.iald' rfl rfl (xh_p6_ix hi hj) ?_
  exact xK.ret rfl ⟨_, rfl, rfl⟩
set_option linter.unusedVariables false in
def xf_X5_pair5 (I : xh_I) (L : xh_L) (i : Nat) (j : Nat) : Int32 := if ((xfI_X5_look (xm_up I 5 0 0 0) L i j) 14 (xh_p6 i j) 0) = 0 then 0 else 1
set_option linter.unusedVariables false in
def xfI_X5_pair5 (I : xh_I) (L : xh_L) (i : Nat) (j : Nat) : xh_I := if ((xfI_X5_look (xm_up I 5 0 0 0) L i j) 14 (xh_p6 i j) 0) = 0 then (xfI_X5_look (xm_up I 5 0 0 0) L i j) else (xfI_X5_look (xm_up I 5 0 0 0) L i j)
set_option linter.unusedVariables false in
def xfL_X5_pair5 (I : xh_I) (L : xh_L) (i : Nat) (j : Nat) : xh_L := if ((xfI_X5_look (xm_up I 5 0 0 0) L i j) 14 (xh_p6 i j) 0) = 0 then (xfL_X5_look (xm_up I 5 0 0 0) L i j) else (xfL_X5_look (xm_up I 5 0 0 0) L i j)
set_option maxHeartbeats 4000000 in
set_option maxRecDepth 100000 in
theorem xd_X5_pair5 (d : Nat) (I : xh_I) (L : xh_L) (i : Nat) (hi : i < 6) (j : Nat) (hj : j < 6) (hne1 : ¬ nI i = nI j) (hne2 : ¬ nI j = nI i) (hle1 : nI i ≤ nI j) (hle2 : ¬ nI j ≤ nI i) (hlt1 : nI i < nI j) (hlt2 : ¬ nI j < nI i) (hs : xh_V5 I) (h1 : ¬ xf_X5_isThere I L (nI i) = 0) (h2 : ¬ xf_X5_isThere I L (nI j) = 0) : xm_Do xp_pg (d + 3) 99 [xm_r 5 0, xm_i (nI i), xm_i (nI j), xm_i 5] (xh_M I L) (some (xm_i (xf_X5_pair5 I L i j))) (xh_M (xfI_X5_pair5 I L i j) (xfL_X5_pair5 I L i j)) 0 0 := by
  refine xK.of (Nat.le_of_ble_eq_true rfl) rfl ?_
  refine xK.run (q := (3, [(0, xm_r 5 0), (1, xm_i (nI i)), (2, xm_i (nI j)), (3, xm_i 5)], [xm_i (nI i), xm_r 5 0, xm_r 5 0], xh_M I L, 0, 0)) 3 rfl ?_
  refine xK.call [xm_r 5 0, xm_i (nI i)] (xd_X5_isThere d I L (nI i)) rfl rfl rfl (Or.inr ⟨_, _, rfl⟩) (Nat.le_of_ble_eq_true rfl) ?_
  refine xK.ifI rfl (fun h9 => absurd h9 h1) (fun _ => ?_)
  refine xK.run (q := (11, [(0, xm_r 5 0), (1, xm_i (nI i)), (2, xm_i (nI j)), (3, xm_i 5)], [xm_i (nI j), xm_r 5 0, xm_r 5 0], xh_M I L, 0, 0)) 2 rfl ?_
  refine xK.call [xm_r 5 0, xm_i (nI j)] (xd_X5_isThere d I L (nI j)) rfl rfl rfl (Or.inr ⟨_, _, rfl⟩) (Nat.le_of_ble_eq_true rfl) ?_
  refine xK.ifI rfl (fun h9 => absurd h9 h2) (fun _ => ?_)
  refine xK.run (q := (19, [(0, xm_r 5 0), (1, xm_i (nI i)), (2, xm_i (nI j)), (3, xm_i 5)], [xm_i (nI j), xm_i (nI i), xm_r 5 0], xh_M I L, 0, 0)) 2 rfl ?_
  refine xK.icmp rfl (fun h9 => absurd h9 hne1) (fun _ => ?_)
  refine xK.run (q := (23, [(0, xm_r 5 0), (1, xm_i (nI i)), (2, xm_i (nI j)), (3, xm_i 5)], [xm_i 5, xm_r 5 0], xh_M I L, 0, 0)) 1 rfl ?_
  refine xK.ifI rfl (fun h9 => absurd h9 (by decide)) (fun _ => ?_)
  refine xK.run (q := (29, [(0, xm_r 5 0), (1, xm_i (nI i)), (2, xm_i (nI j)), (3, xm_i 5)], [xm_i 10, xm_i 5, xm_r 5 0], xh_M I L, 0, 0)) 2 rfl ?_
  refine xK.icmp rfl (fun _ => ?_) (fun h9 => absurd (by decide) h9)
  refine xK.run (q := (44, [(0, xm_r 5 0), (1, xm_i (nI i)), (2, xm_i (nI j)), (3, xm_i 5)], [xm_i 0], xh_M (xm_up I 5 0 0 0) L, 0, 0)) 4 rfl ?_
  refine xK.ifI rfl (fun _ => ?_) (fun h9 => absurd (by decide) h9)
  refine xK.run (q := (52, [(0, xm_r 5 0), (1, xm_i (nI i)), (2, xm_i (nI j)), (3, xm_i 5)], [xm_i (nI j), xm_i (nI i), xm_r 5 0], xh_M (xm_up I 5 0 0 0) L, 0, 0)) 3 rfl ?_
  refine xK.call [xm_r 5 0, xm_i (nI i), xm_i (nI j)] (xd_X5_look (d + 1) (xm_up I 5 0 0 0) L i hi j hj hle2 (xh_hd (fun i hi => hs.1 i hi) hi hj)) rfl rfl rfl (Or.inr ⟨_, _, rfl⟩) (Nat.le_of_ble_eq_true rfl) ?_
  refine xK.run (q := (57, [(0, xm_r 5 0), (1, xm_i (nI i)), (2, xm_i (nI j)), (3, xm_i 5)], [xm_i (nI j), xm_i (nI i)], xh_M (xfI_X5_look (xm_up I 5 0 0 0) L i j) (xfL_X5_look (xm_up I 5 0 0 0) L i j), 0, 0)) 2 rfl ?_
  refine xK.call [xm_i (nI i), xm_i (nI j)] (xd_X5_pairOf (d + 1) (xfI_X5_look (xm_up I 5 0 0 0) L i j) (xfL_X5_look (xm_up I 5 0 0 0) L i j) (nI i) (nI j)) rfl rfl rfl (Or.inl rfl) (Nat.le_of_ble_eq_true rfl) ?_
  refine xK.run (q := (178, [(0, xm_r 5 0), (1, xm_i (nI i)), (2, xm_i (nI j)), (3, xm_i 5), (4, xm_i (xf_X5_pairOf (nI i) (nI j)))], [xm_i (xf_X5_pairOf (nI i) (nI j)), xm_r 14 0], xh_M (xfI_X5_look (xm_up I 5 0 0 0) L i j) (xfL_X5_look (xm_up I 5 0 0 0) L i j), 0, 0)) 6 rfl ?_
  refine xK.zald' rfl rfl (xh_p6_ix hi hj) ?_
  refine xK.ifI rfl (fun (h1 : ((xfI_X5_look (xm_up I 5 0 0 0) L i j) 14 (xh_p6 i j) 0) = 0) => ?_) (fun (h1 : ¬ ((xfI_X5_look (xm_up I 5 0 0 0) L i j) 14 (xh_p6 i j) 0) = 0) => ?_)
  · skip
    refine xK.run (q := (187, [(0, xm_r 5 0), (1, xm_i (nI i)), (2, xm_i (nI j)), (3, xm_i 5), (4, xm_i (xf_X5_pairOf (nI i) (nI j)))], [xm_i 0], xh_M (xfI_X5_look (xm_up I 5 0 0 0) L i j) (xfL_X5_look (xm_up I 5 0 0 0) L i j), 0, 0)) 1 rfl ?_
    rw [show xf_X5_pair5 I L i j = 0 from by unfold xf_X5_pair5; rw [if_pos h1]]
    rw [show xfI_X5_pair5 I L i j = (xfI_X5_look (xm_up I 5 0 0 0) L i j) from by unfold xfI_X5_pair5; rw [if_pos h1]]
    rw [show xfL_X5_pair5 I L i j = (xfL_X5_look (xm_up I 5 0 0 0) L i j) from by unfold xfL_X5_pair5; rw [if_pos h1]]
    exact xK.ret rfl ⟨_, rfl, rfl⟩
  · skip
    refine xK.run (q := (187, [(0, xm_r 5 0), (1, xm_i (nI i)), (2, xm_i (nI j)), (3, xm_i 5), (4, xm_i (xf_X5_pairOf (nI i) (nI j)))], [xm_i 1], xh_M (xfI_X5_look (xm_up I 5 0 0 0) L i j) (xfL_X5_look (xm_up I 5 0 0 0) L i j), 0, 0)) 2 rfl ?_
    rw [show xf_X5_pair5 I L i j = 1 from by unfold xf_X5_pair5; rw [if_neg h1]]
    rw [show xfI_X5_pair5 I L i j = (xfI_X5_look (xm_up I 5 0 0 0) L i j) from by unfold xfI_X5_pair5; rw [if_neg h1]]
    rw [show xfL_X5_pair5 I L i j = (xfL_X5_look (xm_up I 5 0 0 0) L i j) from by unfold xfL_X5_pair5; rw [if_neg h1]]
    exact xK.ret rfl ⟨_, rfl, rfl⟩
set_option linter.unusedVariables false in
def xf_X5_pair6 (I : xh_I) (L : xh_L) (i : Nat) (j : Nat) : Int32 := if ((xfI_X5_look (xm_up I 5 0 0 0) L i j) 11 (xh_p6 i j) 0) = 0 then 0 else ((xf_X5_part (xfI_X5_look (xm_up I 5 0 0 0) L i j) (xfL_X5_look (xm_up I 5 0 0 0) L i j) ((xfI_X5_look (xm_up I 5 0 0 0) L i j) 11 (xh_p6 i j) 0) ((xfI_X5_look (xm_up I 5 0 0 0) L i j) 12 (xh_p6 i j) 0) ((xfI_X5_look (xm_up I 5 0 0 0) L i j) 13 (xh_p6 i j) 0)).toInt32)
set_option linter.unusedVariables false in
def xfI_X5_pair6 (I : xh_I) (L : xh_L) (i : Nat) (j : Nat) : xh_I := if ((xfI_X5_look (xm_up I 5 0 0 0) L i j) 11 (xh_p6 i j) 0) = 0 then (xfI_X5_look (xm_up I 5 0 0 0) L i j) else (xfI_X5_look (xm_up I 5 0 0 0) L i j)
set_option linter.unusedVariables false in
def xfL_X5_pair6 (I : xh_I) (L : xh_L) (i : Nat) (j : Nat) : xh_L := if ((xfI_X5_look (xm_up I 5 0 0 0) L i j) 11 (xh_p6 i j) 0) = 0 then (xfL_X5_look (xm_up I 5 0 0 0) L i j) else (xfL_X5_look (xm_up I 5 0 0 0) L i j)
set_option maxHeartbeats 4000000 in
set_option maxRecDepth 100000 in
theorem xd_X5_pair6 (d : Nat) (I : xh_I) (L : xh_L) (i : Nat) (hi : i < 6) (j : Nat) (hj : j < 6) (hne1 : ¬ nI i = nI j) (hne2 : ¬ nI j = nI i) (hle1 : nI i ≤ nI j) (hle2 : ¬ nI j ≤ nI i) (hlt1 : nI i < nI j) (hlt2 : ¬ nI j < nI i) (hs : xh_V5 I) (h1 : ¬ xf_X5_isThere I L (nI i) = 0) (h2 : ¬ xf_X5_isThere I L (nI j) = 0) : xm_Do xp_pg (d + 3) 99 [xm_r 5 0, xm_i (nI i), xm_i (nI j), xm_i 6] (xh_M I L) (some (xm_i (xf_X5_pair6 I L i j))) (xh_M (xfI_X5_pair6 I L i j) (xfL_X5_pair6 I L i j)) 0 0 := by
  refine xK.of (Nat.le_of_ble_eq_true rfl) rfl ?_
  refine xK.run (q := (3, [(0, xm_r 5 0), (1, xm_i (nI i)), (2, xm_i (nI j)), (3, xm_i 6)], [xm_i (nI i), xm_r 5 0, xm_r 5 0], xh_M I L, 0, 0)) 3 rfl ?_
  refine xK.call [xm_r 5 0, xm_i (nI i)] (xd_X5_isThere d I L (nI i)) rfl rfl rfl (Or.inr ⟨_, _, rfl⟩) (Nat.le_of_ble_eq_true rfl) ?_
  refine xK.ifI rfl (fun h9 => absurd h9 h1) (fun _ => ?_)
  refine xK.run (q := (11, [(0, xm_r 5 0), (1, xm_i (nI i)), (2, xm_i (nI j)), (3, xm_i 6)], [xm_i (nI j), xm_r 5 0, xm_r 5 0], xh_M I L, 0, 0)) 2 rfl ?_
  refine xK.call [xm_r 5 0, xm_i (nI j)] (xd_X5_isThere d I L (nI j)) rfl rfl rfl (Or.inr ⟨_, _, rfl⟩) (Nat.le_of_ble_eq_true rfl) ?_
  refine xK.ifI rfl (fun h9 => absurd h9 h2) (fun _ => ?_)
  refine xK.run (q := (19, [(0, xm_r 5 0), (1, xm_i (nI i)), (2, xm_i (nI j)), (3, xm_i 6)], [xm_i (nI j), xm_i (nI i), xm_r 5 0], xh_M I L, 0, 0)) 2 rfl ?_
  refine xK.icmp rfl (fun h9 => absurd h9 hne1) (fun _ => ?_)
  refine xK.run (q := (23, [(0, xm_r 5 0), (1, xm_i (nI i)), (2, xm_i (nI j)), (3, xm_i 6)], [xm_i 6, xm_r 5 0], xh_M I L, 0, 0)) 1 rfl ?_
  refine xK.ifI rfl (fun h9 => absurd h9 (by decide)) (fun _ => ?_)
  refine xK.run (q := (29, [(0, xm_r 5 0), (1, xm_i (nI i)), (2, xm_i (nI j)), (3, xm_i 6)], [xm_i 10, xm_i 6, xm_r 5 0], xh_M I L, 0, 0)) 2 rfl ?_
  refine xK.icmp rfl (fun _ => ?_) (fun h9 => absurd (by decide) h9)
  refine xK.run (q := (44, [(0, xm_r 5 0), (1, xm_i (nI i)), (2, xm_i (nI j)), (3, xm_i 6)], [xm_i 0], xh_M (xm_up I 5 0 0 0) L, 0, 0)) 4 rfl ?_
  refine xK.ifI rfl (fun _ => ?_) (fun h9 => absurd (by decide) h9)
  refine xK.run (q := (52, [(0, xm_r 5 0), (1, xm_i (nI i)), (2, xm_i (nI j)), (3, xm_i 6)], [xm_i (nI j), xm_i (nI i), xm_r 5 0], xh_M (xm_up I 5 0 0 0) L, 0, 0)) 3 rfl ?_
  refine xK.call [xm_r 5 0, xm_i (nI i), xm_i (nI j)] (xd_X5_look (d + 1) (xm_up I 5 0 0 0) L i hi j hj hle2 (xh_hd (fun i hi => hs.1 i hi) hi hj)) rfl rfl rfl (Or.inr ⟨_, _, rfl⟩) (Nat.le_of_ble_eq_true rfl) ?_
  refine xK.run (q := (57, [(0, xm_r 5 0), (1, xm_i (nI i)), (2, xm_i (nI j)), (3, xm_i 6)], [xm_i (nI j), xm_i (nI i)], xh_M (xfI_X5_look (xm_up I 5 0 0 0) L i j) (xfL_X5_look (xm_up I 5 0 0 0) L i j), 0, 0)) 2 rfl ?_
  refine xK.call [xm_i (nI i), xm_i (nI j)] (xd_X5_pairOf (d + 1) (xfI_X5_look (xm_up I 5 0 0 0) L i j) (xfL_X5_look (xm_up I 5 0 0 0) L i j) (nI i) (nI j)) rfl rfl rfl (Or.inl rfl) (Nat.le_of_ble_eq_true rfl) ?_
  refine xK.run (q := (194, [(0, xm_r 5 0), (1, xm_i (nI i)), (2, xm_i (nI j)), (3, xm_i 6), (4, xm_i (xf_X5_pairOf (nI i) (nI j)))], [xm_i (xf_X5_pairOf (nI i) (nI j)), xm_r 11 0], xh_M (xfI_X5_look (xm_up I 5 0 0 0) L i j) (xfL_X5_look (xm_up I 5 0 0 0) L i j), 0, 0)) 6 rfl ?_
  refine xK.iald' rfl rfl (xh_p6_ix hi hj) ?_
  refine xK.ifN rfl (fun (h1 : ((xfI_X5_look (xm_up I 5 0 0 0) L i j) 11 (xh_p6 i j) 0) = 0) => ?_) (fun (h1 : ¬ ((xfI_X5_look (xm_up I 5 0 0 0) L i j) 11 (xh_p6 i j) 0) = 0) => ?_)
  · skip
    refine xK.run (q := (228, [(0, xm_r 5 0), (1, xm_i (nI i)), (2, xm_i (nI j)), (3, xm_i 6), (4, xm_i (xf_X5_pairOf (nI i) (nI j)))], [xm_i 0], xh_M (xfI_X5_look (xm_up I 5 0 0 0) L i j) (xfL_X5_look (xm_up I 5 0 0 0) L i j), 0, 0)) 2 rfl ?_
    rw [show xf_X5_pair6 I L i j = 0 from by unfold xf_X5_pair6; rw [if_pos h1]]
    rw [show xfI_X5_pair6 I L i j = (xfI_X5_look (xm_up I 5 0 0 0) L i j) from by unfold xfI_X5_pair6; rw [if_pos h1]]
    rw [show xfL_X5_pair6 I L i j = (xfL_X5_look (xm_up I 5 0 0 0) L i j) from by unfold xfL_X5_pair6; rw [if_pos h1]]
    exact xK.ret rfl ⟨_, rfl, rfl⟩
  · skip
    refine xK.run (q := (209, [(0, xm_r 5 0), (1, xm_i (nI i)), (2, xm_i (nI j)), (3, xm_i 6), (4, xm_i (xf_X5_pairOf (nI i) (nI j)))], [xm_i (xf_X5_pairOf (nI i) (nI j)), xm_r 11 0, xm_r 5 0], xh_M (xfI_X5_look (xm_up I 5 0 0 0) L i j) (xfL_X5_look (xm_up I 5 0 0 0) L i j), 0, 0)) 4 rfl ?_
    refine xK.iald' rfl rfl (xh_p6_ix hi hj) ?_
    refine xK.run (q := (216, [(0, xm_r 5 0), (1, xm_i (nI i)), (2, xm_i (nI j)), (3, xm_i 6), (4, xm_i (xf_X5_pairOf (nI i) (nI j)))], [xm_i (xf_X5_pairOf (nI i) (nI j)), xm_r 12 0, xm_i ((xfI_X5_look (xm_up I 5 0 0 0) L i j) 11 (xh_p6 i j) 0), xm_r 5 0], xh_M (xfI_X5_look (xm_up I 5 0 0 0) L i j) (xfL_X5_look (xm_up I 5 0 0 0) L i j), 0, 0)) 3 rfl ?_
    refine xK.iald' rfl rfl (xh_p6_ix hi hj) ?_
    refine xK.run (q := (223, [(0, xm_r 5 0), (1, xm_i (nI i)), (2, xm_i (nI j)), (3, xm_i 6), (4, xm_i (xf_X5_pairOf (nI i) (nI j)))], [xm_i (xf_X5_pairOf (nI i) (nI j)), xm_r 13 0, xm_i ((xfI_X5_look (xm_up I 5 0 0 0) L i j) 12 (xh_p6 i j) 0), xm_i ((xfI_X5_look (xm_up I 5 0 0 0) L i j) 11 (xh_p6 i j) 0), xm_r 5 0], xh_M (xfI_X5_look (xm_up I 5 0 0 0) L i j) (xfL_X5_look (xm_up I 5 0 0 0) L i j), 0, 0)) 3 rfl ?_
    refine xK.iald' rfl rfl (xh_p6_ix hi hj) ?_
    refine xK.call [xm_r 5 0, xm_i ((xfI_X5_look (xm_up I 5 0 0 0) L i j) 11 (xh_p6 i j) 0), xm_i ((xfI_X5_look (xm_up I 5 0 0 0) L i j) 12 (xh_p6 i j) 0), xm_i ((xfI_X5_look (xm_up I 5 0 0 0) L i j) 13 (xh_p6 i j) 0)] (xd_X5_part d (xfI_X5_look (xm_up I 5 0 0 0) L i j) (xfL_X5_look (xm_up I 5 0 0 0) L i j) (xh_oo_look hi hj) ((xfI_X5_look (xm_up I 5 0 0 0) L i j) 11 (xh_p6 i j) 0) ((xfI_X5_look (xm_up I 5 0 0 0) L i j) 12 (xh_p6 i j) 0) ((xfI_X5_look (xm_up I 5 0 0 0) L i j) 13 (xh_p6 i j) 0)) rfl rfl rfl (Or.inr ⟨_, _, rfl⟩) (Nat.le_of_ble_eq_true rfl) ?_
    refine xK.run (q := (228, [(0, xm_r 5 0), (1, xm_i (nI i)), (2, xm_i (nI j)), (3, xm_i 6), (4, xm_i (xf_X5_pairOf (nI i) (nI j)))], [xm_i ((xf_X5_part (xfI_X5_look (xm_up I 5 0 0 0) L i j) (xfL_X5_look (xm_up I 5 0 0 0) L i j) ((xfI_X5_look (xm_up I 5 0 0 0) L i j) 11 (xh_p6 i j) 0) ((xfI_X5_look (xm_up I 5 0 0 0) L i j) 12 (xh_p6 i j) 0) ((xfI_X5_look (xm_up I 5 0 0 0) L i j) 13 (xh_p6 i j) 0)).toInt32)], xh_M (xfI_X5_look (xm_up I 5 0 0 0) L i j) (xfL_X5_look (xm_up I 5 0 0 0) L i j), 0, 0)) 1 rfl ?_
    rw [show xf_X5_pair6 I L i j = ((xf_X5_part (xfI_X5_look (xm_up I 5 0 0 0) L i j) (xfL_X5_look (xm_up I 5 0 0 0) L i j) ((xfI_X5_look (xm_up I 5 0 0 0) L i j) 11 (xh_p6 i j) 0) ((xfI_X5_look (xm_up I 5 0 0 0) L i j) 12 (xh_p6 i j) 0) ((xfI_X5_look (xm_up I 5 0 0 0) L i j) 13 (xh_p6 i j) 0)).toInt32) from by unfold xf_X5_pair6; rw [if_neg h1]]
    rw [show xfI_X5_pair6 I L i j = (xfI_X5_look (xm_up I 5 0 0 0) L i j) from by unfold xfI_X5_pair6; rw [if_neg h1]]
    rw [show xfL_X5_pair6 I L i j = (xfL_X5_look (xm_up I 5 0 0 0) L i j) from by unfold xfL_X5_pair6; rw [if_neg h1]]
    exact xK.ret rfl ⟨_, rfl, rfl⟩
set_option linter.unusedVariables false in
def xf_X5_pair7 (I : xh_I) (L : xh_L) (i : Nat) (j : Nat) : Int32 := (xf_X5_part (xfI_X5_look (xm_up I 5 0 0 0) L i j) (xfL_X5_look (xm_up I 5 0 0 0) L i j) (xf_X5_chosen (xfI_X5_look (xm_up I 5 0 0 0) L i j) (xfL_X5_look (xm_up I 5 0 0 0) L i j)) (xf_X5_enough1 (xfI_X5_look (xm_up I 5 0 0 0) L i j) (xfL_X5_look (xm_up I 5 0 0 0) L i j) (xf_X5_chosen (xfI_X5_look (xm_up I 5 0 0 0) L i j) (xfL_X5_look (xm_up I 5 0 0 0) L i j)) 0) 0).toInt32
set_option linter.unusedVariables false in
def xfI_X5_pair7 (I : xh_I) (L : xh_L) (i : Nat) (j : Nat) : xh_I := (xfI_X5_look (xm_up I 5 0 0 0) L i j)
set_option linter.unusedVariables false in
def xfL_X5_pair7 (I : xh_I) (L : xh_L) (i : Nat) (j : Nat) : xh_L := (xfL_X5_look (xm_up I 5 0 0 0) L i j)
set_option maxHeartbeats 4000000 in
set_option maxRecDepth 100000 in
theorem xd_X5_pair7 (d : Nat) (I : xh_I) (L : xh_L) (i : Nat) (hi : i < 6) (j : Nat) (hj : j < 6) (hne1 : ¬ nI i = nI j) (hne2 : ¬ nI j = nI i) (hle1 : nI i ≤ nI j) (hle2 : ¬ nI j ≤ nI i) (hlt1 : nI i < nI j) (hlt2 : ¬ nI j < nI i) (hs : xh_V5 I) (h1 : ¬ xf_X5_isThere I L (nI i) = 0) (h2 : ¬ xf_X5_isThere I L (nI j) = 0) : xm_Do xp_pg (d + 5) 99 [xm_r 5 0, xm_i (nI i), xm_i (nI j), xm_i 7] (xh_M I L) (some (xm_i (xf_X5_pair7 I L i j))) (xh_M (xfI_X5_pair7 I L i j) (xfL_X5_pair7 I L i j)) 0 0 := by
  refine xK.of (Nat.le_of_ble_eq_true rfl) rfl ?_
  refine xK.run (q := (3, [(0, xm_r 5 0), (1, xm_i (nI i)), (2, xm_i (nI j)), (3, xm_i 7)], [xm_i (nI i), xm_r 5 0, xm_r 5 0], xh_M I L, 0, 0)) 3 rfl ?_
  refine xK.call [xm_r 5 0, xm_i (nI i)] (xd_X5_isThere (d + 2) I L (nI i)) rfl rfl rfl (Or.inr ⟨_, _, rfl⟩) (Nat.le_of_ble_eq_true rfl) ?_
  refine xK.ifI rfl (fun h9 => absurd h9 h1) (fun _ => ?_)
  refine xK.run (q := (11, [(0, xm_r 5 0), (1, xm_i (nI i)), (2, xm_i (nI j)), (3, xm_i 7)], [xm_i (nI j), xm_r 5 0, xm_r 5 0], xh_M I L, 0, 0)) 2 rfl ?_
  refine xK.call [xm_r 5 0, xm_i (nI j)] (xd_X5_isThere (d + 2) I L (nI j)) rfl rfl rfl (Or.inr ⟨_, _, rfl⟩) (Nat.le_of_ble_eq_true rfl) ?_
  refine xK.ifI rfl (fun h9 => absurd h9 h2) (fun _ => ?_)
  refine xK.run (q := (19, [(0, xm_r 5 0), (1, xm_i (nI i)), (2, xm_i (nI j)), (3, xm_i 7)], [xm_i (nI j), xm_i (nI i), xm_r 5 0], xh_M I L, 0, 0)) 2 rfl ?_
  refine xK.icmp rfl (fun h9 => absurd h9 hne1) (fun _ => ?_)
  refine xK.run (q := (23, [(0, xm_r 5 0), (1, xm_i (nI i)), (2, xm_i (nI j)), (3, xm_i 7)], [xm_i 7, xm_r 5 0], xh_M I L, 0, 0)) 1 rfl ?_
  refine xK.ifI rfl (fun h9 => absurd h9 (by decide)) (fun _ => ?_)
  refine xK.run (q := (29, [(0, xm_r 5 0), (1, xm_i (nI i)), (2, xm_i (nI j)), (3, xm_i 7)], [xm_i 10, xm_i 7, xm_r 5 0], xh_M I L, 0, 0)) 2 rfl ?_
  refine xK.icmp rfl (fun _ => ?_) (fun h9 => absurd (by decide) h9)
  refine xK.run (q := (44, [(0, xm_r 5 0), (1, xm_i (nI i)), (2, xm_i (nI j)), (3, xm_i 7)], [xm_i 0], xh_M (xm_up I 5 0 0 0) L, 0, 0)) 4 rfl ?_
  refine xK.ifI rfl (fun _ => ?_) (fun h9 => absurd (by decide) h9)
  refine xK.run (q := (52, [(0, xm_r 5 0), (1, xm_i (nI i)), (2, xm_i (nI j)), (3, xm_i 7)], [xm_i (nI j), xm_i (nI i), xm_r 5 0], xh_M (xm_up I 5 0 0 0) L, 0, 0)) 3 rfl ?_
  refine xK.call [xm_r 5 0, xm_i (nI i), xm_i (nI j)] (xd_X5_look (d + 3) (xm_up I 5 0 0 0) L i hi j hj hle2 (xh_hd (fun i hi => hs.1 i hi) hi hj)) rfl rfl rfl (Or.inr ⟨_, _, rfl⟩) (Nat.le_of_ble_eq_true rfl) ?_
  refine xK.run (q := (57, [(0, xm_r 5 0), (1, xm_i (nI i)), (2, xm_i (nI j)), (3, xm_i 7)], [xm_i (nI j), xm_i (nI i)], xh_M (xfI_X5_look (xm_up I 5 0 0 0) L i j) (xfL_X5_look (xm_up I 5 0 0 0) L i j), 0, 0)) 2 rfl ?_
  refine xK.call [xm_i (nI i), xm_i (nI j)] (xd_X5_pairOf (d + 3) (xfI_X5_look (xm_up I 5 0 0 0) L i j) (xfL_X5_look (xm_up I 5 0 0 0) L i j) (nI i) (nI j)) rfl rfl rfl (Or.inl rfl) (Nat.le_of_ble_eq_true rfl) ?_
  refine xK.run (q := (231, [(0, xm_r 5 0), (1, xm_i (nI i)), (2, xm_i (nI j)), (3, xm_i 7), (4, xm_i (xf_X5_pairOf (nI i) (nI j)))], [xm_r 5 0, xm_r 5 0], xh_M (xfI_X5_look (xm_up I 5 0 0 0) L i j) (xfL_X5_look (xm_up I 5 0 0 0) L i j), 0, 0)) 5 rfl ?_
  refine xK.call [xm_r 5 0] (xd_X5_chosen d (xfI_X5_look (xm_up I 5 0 0 0) L i j) (xfL_X5_look (xm_up I 5 0 0 0) L i j) (xh_oo_look hi hj)) rfl rfl rfl (Or.inr ⟨_, _, rfl⟩) (Nat.le_of_ble_eq_true rfl) ?_
  refine xK.run (q := (236, [(0, xm_r 5 0), (1, xm_i (nI i)), (2, xm_i (nI j)), (3, xm_i 7), (4, xm_i (xf_X5_pairOf (nI i) (nI j)))], [xm_r 5 0, xm_r 5 0, xm_i (xf_X5_chosen (xfI_X5_look (xm_up I 5 0 0 0) L i j) (xfL_X5_look (xm_up I 5 0 0 0) L i j)), xm_r 5 0], xh_M (xfI_X5_look (xm_up I 5 0 0 0) L i j) (xfL_X5_look (xm_up I 5 0 0 0) L i j), 0, 0)) 2 rfl ?_
  refine xK.call [xm_r 5 0] (xd_X5_chosen d (xfI_X5_look (xm_up I 5 0 0 0) L i j) (xfL_X5_look (xm_up I 5 0 0 0) L i j) (xh_oo_look hi hj)) rfl rfl rfl (Or.inr ⟨_, _, rfl⟩) (Nat.le_of_ble_eq_true rfl) ?_
  refine xK.run (q := (241, [(0, xm_r 5 0), (1, xm_i (nI i)), (2, xm_i (nI j)), (3, xm_i 7), (4, xm_i (xf_X5_pairOf (nI i) (nI j)))], [xm_i 0, xm_i 1, xm_i (xf_X5_chosen (xfI_X5_look (xm_up I 5 0 0 0) L i j) (xfL_X5_look (xm_up I 5 0 0 0) L i j)), xm_r 5 0, xm_i (xf_X5_chosen (xfI_X5_look (xm_up I 5 0 0 0) L i j) (xfL_X5_look (xm_up I 5 0 0 0) L i j)), xm_r 5 0], xh_M (xfI_X5_look (xm_up I 5 0 0 0) L i j) (xfL_X5_look (xm_up I 5 0 0 0) L i j), 0, 0)) 2 rfl ?_
  refine xK.call [xm_r 5 0, xm_i (xf_X5_chosen (xfI_X5_look (xm_up I 5 0 0 0) L i j) (xfL_X5_look (xm_up I 5 0 0 0) L i j)), xm_i 1, xm_i 0] (xd_X5_enough1 (d + 1) (xfI_X5_look (xm_up I 5 0 0 0) L i j) (xfL_X5_look (xm_up I 5 0 0 0) L i j) (xh_oo_look hi hj) (xf_X5_chosen (xfI_X5_look (xm_up I 5 0 0 0) L i j) (xfL_X5_look (xm_up I 5 0 0 0) L i j)) 0) rfl rfl rfl (Or.inr ⟨_, _, rfl⟩) (Nat.le_of_ble_eq_true rfl) ?_
  refine xK.run (q := (245, [(0, xm_r 5 0), (1, xm_i (nI i)), (2, xm_i (nI j)), (3, xm_i 7), (4, xm_i (xf_X5_pairOf (nI i) (nI j)))], [xm_i 0, xm_i (xf_X5_enough1 (xfI_X5_look (xm_up I 5 0 0 0) L i j) (xfL_X5_look (xm_up I 5 0 0 0) L i j) (xf_X5_chosen (xfI_X5_look (xm_up I 5 0 0 0) L i j) (xfL_X5_look (xm_up I 5 0 0 0) L i j)) 0), xm_i (xf_X5_chosen (xfI_X5_look (xm_up I 5 0 0 0) L i j) (xfL_X5_look (xm_up I 5 0 0 0) L i j)), xm_r 5 0], xh_M (xfI_X5_look (xm_up I 5 0 0 0) L i j) (xfL_X5_look (xm_up I 5 0 0 0) L i j), 0, 0)) 1 rfl ?_
  refine xK.call [xm_r 5 0, xm_i (xf_X5_chosen (xfI_X5_look (xm_up I 5 0 0 0) L i j) (xfL_X5_look (xm_up I 5 0 0 0) L i j)), xm_i (xf_X5_enough1 (xfI_X5_look (xm_up I 5 0 0 0) L i j) (xfL_X5_look (xm_up I 5 0 0 0) L i j) (xf_X5_chosen (xfI_X5_look (xm_up I 5 0 0 0) L i j) (xfL_X5_look (xm_up I 5 0 0 0) L i j)) 0), xm_i 0] (xd_X5_part (d + 2) (xfI_X5_look (xm_up I 5 0 0 0) L i j) (xfL_X5_look (xm_up I 5 0 0 0) L i j) (xh_oo_look hi hj) (xf_X5_chosen (xfI_X5_look (xm_up I 5 0 0 0) L i j) (xfL_X5_look (xm_up I 5 0 0 0) L i j)) (xf_X5_enough1 (xfI_X5_look (xm_up I 5 0 0 0) L i j) (xfL_X5_look (xm_up I 5 0 0 0) L i j) (xf_X5_chosen (xfI_X5_look (xm_up I 5 0 0 0) L i j) (xfL_X5_look (xm_up I 5 0 0 0) L i j)) 0) 0) rfl rfl rfl (Or.inr ⟨_, _, rfl⟩) (Nat.le_of_ble_eq_true rfl) ?_
  refine xK.run (q := (249, [(0, xm_r 5 0), (1, xm_i (nI i)), (2, xm_i (nI j)), (3, xm_i 7), (4, xm_i (xf_X5_pairOf (nI i) (nI j)))], [xm_i ((xf_X5_part (xfI_X5_look (xm_up I 5 0 0 0) L i j) (xfL_X5_look (xm_up I 5 0 0 0) L i j) (xf_X5_chosen (xfI_X5_look (xm_up I 5 0 0 0) L i j) (xfL_X5_look (xm_up I 5 0 0 0) L i j)) (xf_X5_enough1 (xfI_X5_look (xm_up I 5 0 0 0) L i j) (xfL_X5_look (xm_up I 5 0 0 0) L i j) (xf_X5_chosen (xfI_X5_look (xm_up I 5 0 0 0) L i j) (xfL_X5_look (xm_up I 5 0 0 0) L i j)) 0) 0).toInt32)], xh_M (xfI_X5_look (xm_up I 5 0 0 0) L i j) (xfL_X5_look (xm_up I 5 0 0 0) L i j), 0, 0)) 1 rfl ?_
  exact xK.ret rfl ⟨_, rfl, rfl⟩
set_option linter.unusedVariables false in
def xf_X5_pair8 (I : xh_I) (L : xh_L) (i : Nat) (j : Nat) : Int32 := xf_X5_forFirst (xf_X5_chosen (xfI_X5_look (xm_up I 5 0 0 0) L i j) (xfL_X5_look (xm_up I 5 0 0 0) L i j)) 0
set_option linter.unusedVariables false in
def xfI_X5_pair8 (I : xh_I) (L : xh_L) (i : Nat) (j : Nat) : xh_I := (xfI_X5_look (xm_up I 5 0 0 0) L i j)
set_option linter.unusedVariables false in
def xfL_X5_pair8 (I : xh_I) (L : xh_L) (i : Nat) (j : Nat) : xh_L := (xfL_X5_look (xm_up I 5 0 0 0) L i j)
set_option maxHeartbeats 4000000 in
set_option maxRecDepth 100000 in
theorem xd_X5_pair8 (d : Nat) (I : xh_I) (L : xh_L) (i : Nat) (hi : i < 6) (j : Nat) (hj : j < 6) (hne1 : ¬ nI i = nI j) (hne2 : ¬ nI j = nI i) (hle1 : nI i ≤ nI j) (hle2 : ¬ nI j ≤ nI i) (hlt1 : nI i < nI j) (hlt2 : ¬ nI j < nI i) (hs : xh_V5 I) (h1 : ¬ xf_X5_isThere I L (nI i) = 0) (h2 : ¬ xf_X5_isThere I L (nI j) = 0) : xm_Do xp_pg (d + 5) 99 [xm_r 5 0, xm_i (nI i), xm_i (nI j), xm_i 8] (xh_M I L) (some (xm_i (xf_X5_pair8 I L i j))) (xh_M (xfI_X5_pair8 I L i j) (xfL_X5_pair8 I L i j)) 0 0 := by
  refine xK.of (Nat.le_of_ble_eq_true rfl) rfl ?_
  refine xK.run (q := (3, [(0, xm_r 5 0), (1, xm_i (nI i)), (2, xm_i (nI j)), (3, xm_i 8)], [xm_i (nI i), xm_r 5 0, xm_r 5 0], xh_M I L, 0, 0)) 3 rfl ?_
  refine xK.call [xm_r 5 0, xm_i (nI i)] (xd_X5_isThere (d + 2) I L (nI i)) rfl rfl rfl (Or.inr ⟨_, _, rfl⟩) (Nat.le_of_ble_eq_true rfl) ?_
  refine xK.ifI rfl (fun h9 => absurd h9 h1) (fun _ => ?_)
  refine xK.run (q := (11, [(0, xm_r 5 0), (1, xm_i (nI i)), (2, xm_i (nI j)), (3, xm_i 8)], [xm_i (nI j), xm_r 5 0, xm_r 5 0], xh_M I L, 0, 0)) 2 rfl ?_
  refine xK.call [xm_r 5 0, xm_i (nI j)] (xd_X5_isThere (d + 2) I L (nI j)) rfl rfl rfl (Or.inr ⟨_, _, rfl⟩) (Nat.le_of_ble_eq_true rfl) ?_
  refine xK.ifI rfl (fun h9 => absurd h9 h2) (fun _ => ?_)
  refine xK.run (q := (19, [(0, xm_r 5 0), (1, xm_i (nI i)), (2, xm_i (nI j)), (3, xm_i 8)], [xm_i (nI j), xm_i (nI i), xm_r 5 0], xh_M I L, 0, 0)) 2 rfl ?_
  refine xK.icmp rfl (fun h9 => absurd h9 hne1) (fun _ => ?_)
  refine xK.run (q := (23, [(0, xm_r 5 0), (1, xm_i (nI i)), (2, xm_i (nI j)), (3, xm_i 8)], [xm_i 8, xm_r 5 0], xh_M I L, 0, 0)) 1 rfl ?_
  refine xK.ifI rfl (fun h9 => absurd h9 (by decide)) (fun _ => ?_)
  refine xK.run (q := (29, [(0, xm_r 5 0), (1, xm_i (nI i)), (2, xm_i (nI j)), (3, xm_i 8)], [xm_i 10, xm_i 8, xm_r 5 0], xh_M I L, 0, 0)) 2 rfl ?_
  refine xK.icmp rfl (fun _ => ?_) (fun h9 => absurd (by decide) h9)
  refine xK.run (q := (44, [(0, xm_r 5 0), (1, xm_i (nI i)), (2, xm_i (nI j)), (3, xm_i 8)], [xm_i 0], xh_M (xm_up I 5 0 0 0) L, 0, 0)) 4 rfl ?_
  refine xK.ifI rfl (fun _ => ?_) (fun h9 => absurd (by decide) h9)
  refine xK.run (q := (52, [(0, xm_r 5 0), (1, xm_i (nI i)), (2, xm_i (nI j)), (3, xm_i 8)], [xm_i (nI j), xm_i (nI i), xm_r 5 0], xh_M (xm_up I 5 0 0 0) L, 0, 0)) 3 rfl ?_
  refine xK.call [xm_r 5 0, xm_i (nI i), xm_i (nI j)] (xd_X5_look (d + 3) (xm_up I 5 0 0 0) L i hi j hj hle2 (xh_hd (fun i hi => hs.1 i hi) hi hj)) rfl rfl rfl (Or.inr ⟨_, _, rfl⟩) (Nat.le_of_ble_eq_true rfl) ?_
  refine xK.run (q := (57, [(0, xm_r 5 0), (1, xm_i (nI i)), (2, xm_i (nI j)), (3, xm_i 8)], [xm_i (nI j), xm_i (nI i)], xh_M (xfI_X5_look (xm_up I 5 0 0 0) L i j) (xfL_X5_look (xm_up I 5 0 0 0) L i j), 0, 0)) 2 rfl ?_
  refine xK.call [xm_i (nI i), xm_i (nI j)] (xd_X5_pairOf (d + 3) (xfI_X5_look (xm_up I 5 0 0 0) L i j) (xfL_X5_look (xm_up I 5 0 0 0) L i j) (nI i) (nI j)) rfl rfl rfl (Or.inl rfl) (Nat.le_of_ble_eq_true rfl) ?_
  refine xK.run (q := (251, [(0, xm_r 5 0), (1, xm_i (nI i)), (2, xm_i (nI j)), (3, xm_i 8), (4, xm_i (xf_X5_pairOf (nI i) (nI j)))], [xm_r 5 0], xh_M (xfI_X5_look (xm_up I 5 0 0 0) L i j) (xfL_X5_look (xm_up I 5 0 0 0) L i j), 0, 0)) 4 rfl ?_
  refine xK.call [xm_r 5 0] (xd_X5_chosen d (xfI_X5_look (xm_up I 5 0 0 0) L i j) (xfL_X5_look (xm_up I 5 0 0 0) L i j) (xh_oo_look hi hj)) rfl rfl rfl (Or.inr ⟨_, _, rfl⟩) (Nat.le_of_ble_eq_true rfl) ?_
  refine xK.run (q := (256, [(0, xm_r 5 0), (1, xm_i (nI i)), (2, xm_i (nI j)), (3, xm_i 8), (4, xm_i (xf_X5_pairOf (nI i) (nI j)))], [xm_i (nI j), xm_i (nI i), xm_i (xf_X5_chosen (xfI_X5_look (xm_up I 5 0 0 0) L i j) (xfL_X5_look (xm_up I 5 0 0 0) L i j))], xh_M (xfI_X5_look (xm_up I 5 0 0 0) L i j) (xfL_X5_look (xm_up I 5 0 0 0) L i j), 0, 0)) 2 rfl ?_
  refine xK.icmp rfl (fun _ => ?_) (fun h9 => absurd hle1 h9)
  refine xK.run (q := (264, [(0, xm_r 5 0), (1, xm_i (nI i)), (2, xm_i (nI j)), (3, xm_i 8), (4, xm_i (xf_X5_pairOf (nI i) (nI j)))], [xm_i 0, xm_i (xf_X5_chosen (xfI_X5_look (xm_up I 5 0 0 0) L i j) (xfL_X5_look (xm_up I 5 0 0 0) L i j))], xh_M (xfI_X5_look (xm_up I 5 0 0 0) L i j) (xfL_X5_look (xm_up I 5 0 0 0) L i j), 0, 0)) 1 rfl ?_
  refine xK.call [xm_i (xf_X5_chosen (xfI_X5_look (xm_up I 5 0 0 0) L i j) (xfL_X5_look (xm_up I 5 0 0 0) L i j)), xm_i 0] (xd_X5_forFirst (d + 3) (xfI_X5_look (xm_up I 5 0 0 0) L i j) (xfL_X5_look (xm_up I 5 0 0 0) L i j) (xf_X5_chosen (xfI_X5_look (xm_up I 5 0 0 0) L i j) (xfL_X5_look (xm_up I 5 0 0 0) L i j)) 0) rfl rfl rfl (Or.inl rfl) (Nat.le_of_ble_eq_true rfl) ?_
  exact xK.ret rfl ⟨_, rfl, rfl⟩
set_option linter.unusedVariables false in
def xf_X5_pair9 (I : xh_I) (L : xh_L) (i : Nat) (j : Nat) : Int32 := if (lg_cmp ((xfL_X5_look (xm_up I 5 0 0 0) L i j) 15 (xh_p6 i j) 0) 2147483647) ≤ 0 then (((xfL_X5_look (xm_up I 5 0 0 0) L i j) 15 (xh_p6 i j) 0).toInt32) else ((2147483647 : Int64).toInt32)
set_option linter.unusedVariables false in
def xfI_X5_pair9 (I : xh_I) (L : xh_L) (i : Nat) (j : Nat) : xh_I := if (lg_cmp ((xfL_X5_look (xm_up I 5 0 0 0) L i j) 15 (xh_p6 i j) 0) 2147483647) ≤ 0 then (xfI_X5_look (xm_up I 5 0 0 0) L i j) else (xfI_X5_look (xm_up I 5 0 0 0) L i j)
set_option linter.unusedVariables false in
def xfL_X5_pair9 (I : xh_I) (L : xh_L) (i : Nat) (j : Nat) : xh_L := if (lg_cmp ((xfL_X5_look (xm_up I 5 0 0 0) L i j) 15 (xh_p6 i j) 0) 2147483647) ≤ 0 then (xfL_X5_look (xm_up I 5 0 0 0) L i j) else (xfL_X5_look (xm_up I 5 0 0 0) L i j)
set_option maxHeartbeats 4000000 in
set_option maxRecDepth 100000 in
theorem xd_X5_pair9 (d : Nat) (I : xh_I) (L : xh_L) (i : Nat) (hi : i < 6) (j : Nat) (hj : j < 6) (hne1 : ¬ nI i = nI j) (hne2 : ¬ nI j = nI i) (hle1 : nI i ≤ nI j) (hle2 : ¬ nI j ≤ nI i) (hlt1 : nI i < nI j) (hlt2 : ¬ nI j < nI i) (hs : xh_V5 I) (h1 : ¬ xf_X5_isThere I L (nI i) = 0) (h2 : ¬ xf_X5_isThere I L (nI j) = 0) : xm_Do xp_pg (d + 3) 99 [xm_r 5 0, xm_i (nI i), xm_i (nI j), xm_i 9] (xh_M I L) (some (xm_i (xf_X5_pair9 I L i j))) (xh_M (xfI_X5_pair9 I L i j) (xfL_X5_pair9 I L i j)) 0 0 := by
  refine xK.of (Nat.le_of_ble_eq_true rfl) rfl ?_
  refine xK.run (q := (3, [(0, xm_r 5 0), (1, xm_i (nI i)), (2, xm_i (nI j)), (3, xm_i 9)], [xm_i (nI i), xm_r 5 0, xm_r 5 0], xh_M I L, 0, 0)) 3 rfl ?_
  refine xK.call [xm_r 5 0, xm_i (nI i)] (xd_X5_isThere d I L (nI i)) rfl rfl rfl (Or.inr ⟨_, _, rfl⟩) (Nat.le_of_ble_eq_true rfl) ?_
  refine xK.ifI rfl (fun h9 => absurd h9 h1) (fun _ => ?_)
  refine xK.run (q := (11, [(0, xm_r 5 0), (1, xm_i (nI i)), (2, xm_i (nI j)), (3, xm_i 9)], [xm_i (nI j), xm_r 5 0, xm_r 5 0], xh_M I L, 0, 0)) 2 rfl ?_
  refine xK.call [xm_r 5 0, xm_i (nI j)] (xd_X5_isThere d I L (nI j)) rfl rfl rfl (Or.inr ⟨_, _, rfl⟩) (Nat.le_of_ble_eq_true rfl) ?_
  refine xK.ifI rfl (fun h9 => absurd h9 h2) (fun _ => ?_)
  refine xK.run (q := (19, [(0, xm_r 5 0), (1, xm_i (nI i)), (2, xm_i (nI j)), (3, xm_i 9)], [xm_i (nI j), xm_i (nI i), xm_r 5 0], xh_M I L, 0, 0)) 2 rfl ?_
  refine xK.icmp rfl (fun h9 => absurd h9 hne1) (fun _ => ?_)
  refine xK.run (q := (23, [(0, xm_r 5 0), (1, xm_i (nI i)), (2, xm_i (nI j)), (3, xm_i 9)], [xm_i 9, xm_r 5 0], xh_M I L, 0, 0)) 1 rfl ?_
  refine xK.ifI rfl (fun h9 => absurd h9 (by decide)) (fun _ => ?_)
  refine xK.run (q := (29, [(0, xm_r 5 0), (1, xm_i (nI i)), (2, xm_i (nI j)), (3, xm_i 9)], [xm_i 10, xm_i 9, xm_r 5 0], xh_M I L, 0, 0)) 2 rfl ?_
  refine xK.icmp rfl (fun _ => ?_) (fun h9 => absurd (by decide) h9)
  refine xK.run (q := (44, [(0, xm_r 5 0), (1, xm_i (nI i)), (2, xm_i (nI j)), (3, xm_i 9)], [xm_i 0], xh_M (xm_up I 5 0 0 0) L, 0, 0)) 4 rfl ?_
  refine xK.ifI rfl (fun _ => ?_) (fun h9 => absurd (by decide) h9)
  refine xK.run (q := (52, [(0, xm_r 5 0), (1, xm_i (nI i)), (2, xm_i (nI j)), (3, xm_i 9)], [xm_i (nI j), xm_i (nI i), xm_r 5 0], xh_M (xm_up I 5 0 0 0) L, 0, 0)) 3 rfl ?_
  refine xK.call [xm_r 5 0, xm_i (nI i), xm_i (nI j)] (xd_X5_look (d + 1) (xm_up I 5 0 0 0) L i hi j hj hle2 (xh_hd (fun i hi => hs.1 i hi) hi hj)) rfl rfl rfl (Or.inr ⟨_, _, rfl⟩) (Nat.le_of_ble_eq_true rfl) ?_
  refine xK.run (q := (57, [(0, xm_r 5 0), (1, xm_i (nI i)), (2, xm_i (nI j)), (3, xm_i 9)], [xm_i (nI j), xm_i (nI i)], xh_M (xfI_X5_look (xm_up I 5 0 0 0) L i j) (xfL_X5_look (xm_up I 5 0 0 0) L i j), 0, 0)) 2 rfl ?_
  refine xK.call [xm_i (nI i), xm_i (nI j)] (xd_X5_pairOf (d + 1) (xfI_X5_look (xm_up I 5 0 0 0) L i j) (xfL_X5_look (xm_up I 5 0 0 0) L i j) (nI i) (nI j)) rfl rfl rfl (Or.inl rfl) (Nat.le_of_ble_eq_true rfl) ?_
  refine xK.run (q := (274, [(0, xm_r 5 0), (1, xm_i (nI i)), (2, xm_i (nI j)), (3, xm_i 9), (4, xm_i (xf_X5_pairOf (nI i) (nI j)))], [xm_i (xf_X5_pairOf (nI i) (nI j)), xm_r 15 0], xh_M (xfI_X5_look (xm_up I 5 0 0 0) L i j) (xfL_X5_look (xm_up I 5 0 0 0) L i j), 0, 0)) 6 rfl ?_
  refine xK.lald' rfl rfl (xh_p6_ix hi hj) ?_
  refine xK.run (q := (279, [(0, xm_r 5 0), (1, xm_i (nI i)), (2, xm_i (nI j)), (3, xm_i 9), (4, xm_i (xf_X5_pairOf (nI i) (nI j)))], [xm_i (lg_cmp ((xfL_X5_look (xm_up I 5 0 0 0) L i j) 15 (xh_p6 i j) 0) 2147483647)], xh_M (xfI_X5_look (xm_up I 5 0 0 0) L i j) (xfL_X5_look (xm_up I 5 0 0 0) L i j), 0, 0)) 2 rfl ?_
  refine xK.ifI rfl (fun (h1 : (lg_cmp ((xfL_X5_look (xm_up I 5 0 0 0) L i j) 15 (xh_p6 i j) 0) 2147483647) ≤ 0) => ?_) (fun (h1 : ¬ (lg_cmp ((xfL_X5_look (xm_up I 5 0 0 0) L i j) 15 (xh_p6 i j) 0) 2147483647) ≤ 0) => ?_)
  · skip
    refine xK.run (q := (294, [(0, xm_r 5 0), (1, xm_i (nI i)), (2, xm_i (nI j)), (3, xm_i 9), (4, xm_i (xf_X5_pairOf (nI i) (nI j)))], [xm_i (xf_X5_pairOf (nI i) (nI j)), xm_r 15 0], xh_M (xfI_X5_look (xm_up I 5 0 0 0) L i j) (xfL_X5_look (xm_up I 5 0 0 0) L i j), 0, 0)) 3 rfl ?_
    refine xK.lald' rfl rfl (xh_p6_ix hi hj) ?_
    refine xK.run (q := (296, [(0, xm_r 5 0), (1, xm_i (nI i)), (2, xm_i (nI j)), (3, xm_i 9), (4, xm_i (xf_X5_pairOf (nI i) (nI j)))], [xm_i (((xfL_X5_look (xm_up I 5 0 0 0) L i j) 15 (xh_p6 i j) 0).toInt32)], xh_M (xfI_X5_look (xm_up I 5 0 0 0) L i j) (xfL_X5_look (xm_up I 5 0 0 0) L i j), 0, 0)) 1 rfl ?_
    rw [show xf_X5_pair9 I L i j = (((xfL_X5_look (xm_up I 5 0 0 0) L i j) 15 (xh_p6 i j) 0).toInt32) from by unfold xf_X5_pair9; rw [if_pos h1]]
    rw [show xfI_X5_pair9 I L i j = (xfI_X5_look (xm_up I 5 0 0 0) L i j) from by unfold xfI_X5_pair9; rw [if_pos h1]]
    rw [show xfL_X5_pair9 I L i j = (xfL_X5_look (xm_up I 5 0 0 0) L i j) from by unfold xfL_X5_pair9; rw [if_pos h1]]
    exact xK.ret rfl ⟨_, rfl, rfl⟩
  · skip
    refine xK.run (q := (296, [(0, xm_r 5 0), (1, xm_i (nI i)), (2, xm_i (nI j)), (3, xm_i 9), (4, xm_i (xf_X5_pairOf (nI i) (nI j)))], [xm_i ((2147483647 : Int64).toInt32)], xh_M (xfI_X5_look (xm_up I 5 0 0 0) L i j) (xfL_X5_look (xm_up I 5 0 0 0) L i j), 0, 0)) 3 rfl ?_
    rw [show xf_X5_pair9 I L i j = ((2147483647 : Int64).toInt32) from by unfold xf_X5_pair9; rw [if_neg h1]]
    rw [show xfI_X5_pair9 I L i j = (xfI_X5_look (xm_up I 5 0 0 0) L i j) from by unfold xfI_X5_pair9; rw [if_neg h1]]
    rw [show xfL_X5_pair9 I L i j = (xfL_X5_look (xm_up I 5 0 0 0) L i j) from by unfold xfL_X5_pair9; rw [if_neg h1]]
    exact xK.ret rfl ⟨_, rfl, rfl⟩
set_option linter.unusedVariables false in
def xf_X5_pair10 (I : xh_I) (L : xh_L) (i : Nat) (j : Nat) : Int32 := (xfI_X5_look (xm_up I 5 0 0 0) L i j) 16 (xh_p6 i j) 0
set_option linter.unusedVariables false in
def xfI_X5_pair10 (I : xh_I) (L : xh_L) (i : Nat) (j : Nat) : xh_I := (xfI_X5_look (xm_up I 5 0 0 0) L i j)
set_option linter.unusedVariables false in
def xfL_X5_pair10 (I : xh_I) (L : xh_L) (i : Nat) (j : Nat) : xh_L := (xfL_X5_look (xm_up I 5 0 0 0) L i j)
set_option maxHeartbeats 4000000 in
set_option maxRecDepth 100000 in
theorem xd_X5_pair10 (d : Nat) (I : xh_I) (L : xh_L) (i : Nat) (hi : i < 6) (j : Nat) (hj : j < 6) (hne1 : ¬ nI i = nI j) (hne2 : ¬ nI j = nI i) (hle1 : nI i ≤ nI j) (hle2 : ¬ nI j ≤ nI i) (hlt1 : nI i < nI j) (hlt2 : ¬ nI j < nI i) (hs : xh_V5 I) (h1 : ¬ xf_X5_isThere I L (nI i) = 0) (h2 : ¬ xf_X5_isThere I L (nI j) = 0) : xm_Do xp_pg (d + 3) 99 [xm_r 5 0, xm_i (nI i), xm_i (nI j), xm_i 10] (xh_M I L) (some (xm_i (xf_X5_pair10 I L i j))) (xh_M (xfI_X5_pair10 I L i j) (xfL_X5_pair10 I L i j)) 0 0 := by
  refine xK.of (Nat.le_of_ble_eq_true rfl) rfl ?_
  refine xK.run (q := (3, [(0, xm_r 5 0), (1, xm_i (nI i)), (2, xm_i (nI j)), (3, xm_i 10)], [xm_i (nI i), xm_r 5 0, xm_r 5 0], xh_M I L, 0, 0)) 3 rfl ?_
  refine xK.call [xm_r 5 0, xm_i (nI i)] (xd_X5_isThere d I L (nI i)) rfl rfl rfl (Or.inr ⟨_, _, rfl⟩) (Nat.le_of_ble_eq_true rfl) ?_
  refine xK.ifI rfl (fun h9 => absurd h9 h1) (fun _ => ?_)
  refine xK.run (q := (11, [(0, xm_r 5 0), (1, xm_i (nI i)), (2, xm_i (nI j)), (3, xm_i 10)], [xm_i (nI j), xm_r 5 0, xm_r 5 0], xh_M I L, 0, 0)) 2 rfl ?_
  refine xK.call [xm_r 5 0, xm_i (nI j)] (xd_X5_isThere d I L (nI j)) rfl rfl rfl (Or.inr ⟨_, _, rfl⟩) (Nat.le_of_ble_eq_true rfl) ?_
  refine xK.ifI rfl (fun h9 => absurd h9 h2) (fun _ => ?_)
  refine xK.run (q := (19, [(0, xm_r 5 0), (1, xm_i (nI i)), (2, xm_i (nI j)), (3, xm_i 10)], [xm_i (nI j), xm_i (nI i), xm_r 5 0], xh_M I L, 0, 0)) 2 rfl ?_
  refine xK.icmp rfl (fun h9 => absurd h9 hne1) (fun _ => ?_)
  refine xK.run (q := (23, [(0, xm_r 5 0), (1, xm_i (nI i)), (2, xm_i (nI j)), (3, xm_i 10)], [xm_i 10, xm_r 5 0], xh_M I L, 0, 0)) 1 rfl ?_
  refine xK.ifI rfl (fun h9 => absurd h9 (by decide)) (fun _ => ?_)
  refine xK.run (q := (29, [(0, xm_r 5 0), (1, xm_i (nI i)), (2, xm_i (nI j)), (3, xm_i 10)], [xm_i 10, xm_i 10, xm_r 5 0], xh_M I L, 0, 0)) 2 rfl ?_
  refine xK.icmp rfl (fun _ => ?_) (fun h9 => absurd (by decide) h9)
  refine xK.run (q := (44, [(0, xm_r 5 0), (1, xm_i (nI i)), (2, xm_i (nI j)), (3, xm_i 10)], [xm_i 0], xh_M (xm_up I 5 0 0 0) L, 0, 0)) 4 rfl ?_
  refine xK.ifI rfl (fun _ => ?_) (fun h9 => absurd (by decide) h9)
  refine xK.run (q := (52, [(0, xm_r 5 0), (1, xm_i (nI i)), (2, xm_i (nI j)), (3, xm_i 10)], [xm_i (nI j), xm_i (nI i), xm_r 5 0], xh_M (xm_up I 5 0 0 0) L, 0, 0)) 3 rfl ?_
  refine xK.call [xm_r 5 0, xm_i (nI i), xm_i (nI j)] (xd_X5_look (d + 1) (xm_up I 5 0 0 0) L i hi j hj hle2 (xh_hd (fun i hi => hs.1 i hi) hi hj)) rfl rfl rfl (Or.inr ⟨_, _, rfl⟩) (Nat.le_of_ble_eq_true rfl) ?_
  refine xK.run (q := (57, [(0, xm_r 5 0), (1, xm_i (nI i)), (2, xm_i (nI j)), (3, xm_i 10)], [xm_i (nI j), xm_i (nI i)], xh_M (xfI_X5_look (xm_up I 5 0 0 0) L i j) (xfL_X5_look (xm_up I 5 0 0 0) L i j), 0, 0)) 2 rfl ?_
  refine xK.call [xm_i (nI i), xm_i (nI j)] (xd_X5_pairOf (d + 1) (xfI_X5_look (xm_up I 5 0 0 0) L i j) (xfL_X5_look (xm_up I 5 0 0 0) L i j) (nI i) (nI j)) rfl rfl rfl (Or.inl rfl) (Nat.le_of_ble_eq_true rfl) ?_
  refine xK.run (q := (303, [(0, xm_r 5 0), (1, xm_i (nI i)), (2, xm_i (nI j)), (3, xm_i 10), (4, xm_i (xf_X5_pairOf (nI i) (nI j)))], [xm_i (xf_X5_pairOf (nI i) (nI j)), xm_r 16 0], xh_M (xfI_X5_look (xm_up I 5 0 0 0) L i j) (xfL_X5_look (xm_up I 5 0 0 0) L i j), 0, 0)) 6 rfl ?_
  refine xK.iald' rfl rfl (xh_p6_ix hi hj) ?_
  exact xK.ret rfl ⟨_, rfl, rfl⟩
set_option linter.unusedVariables false in
def xf_X5_pairR0 (I : xh_I) (L : xh_L) (i : Nat) (j : Nat) : Int32 := if (xf_X5_alerts (xfI_X5_lookR (xm_up I 5 0 0 0) L i j) (xfL_X5_lookR (xm_up I 5 0 0 0) L i j)) = 0 then 0 else 1
set_option linter.unusedVariables false in
def xfI_X5_pairR0 (I : xh_I) (L : xh_L) (i : Nat) (j : Nat) : xh_I := if (xf_X5_alerts (xfI_X5_lookR (xm_up I 5 0 0 0) L i j) (xfL_X5_lookR (xm_up I 5 0 0 0) L i j)) = 0 then (xfI_X5_lookR (xm_up I 5 0 0 0) L i j) else (xfI_X5_lookR (xm_up I 5 0 0 0) L i j)
set_option linter.unusedVariables false in
def xfL_X5_pairR0 (I : xh_I) (L : xh_L) (i : Nat) (j : Nat) : xh_L := if (xf_X5_alerts (xfI_X5_lookR (xm_up I 5 0 0 0) L i j) (xfL_X5_lookR (xm_up I 5 0 0 0) L i j)) = 0 then (xfL_X5_lookR (xm_up I 5 0 0 0) L i j) else (xfL_X5_lookR (xm_up I 5 0 0 0) L i j)
set_option maxHeartbeats 4000000 in
set_option maxRecDepth 100000 in
theorem xd_X5_pairR0 (d : Nat) (I : xh_I) (L : xh_L) (i : Nat) (hi : i < 6) (j : Nat) (hj : j < 6) (hne1 : ¬ nI i = nI j) (hne2 : ¬ nI j = nI i) (hle1 : nI i ≤ nI j) (hle2 : ¬ nI j ≤ nI i) (hlt1 : nI i < nI j) (hlt2 : ¬ nI j < nI i) (hs : xh_V5 I) (h1 : ¬ xf_X5_isThere I L (nI j) = 0) (h2 : ¬ xf_X5_isThere I L (nI i) = 0) : xm_Do xp_pg (d + 3) 99 [xm_r 5 0, xm_i (nI j), xm_i (nI i), xm_i 0] (xh_M I L) (some (xm_i (xf_X5_pairR0 I L i j))) (xh_M (xfI_X5_pairR0 I L i j) (xfL_X5_pairR0 I L i j)) 0 0 := by
  refine xK.of (Nat.le_of_ble_eq_true rfl) rfl ?_
  refine xK.run (q := (3, [(0, xm_r 5 0), (1, xm_i (nI j)), (2, xm_i (nI i)), (3, xm_i 0)], [xm_i (nI j), xm_r 5 0, xm_r 5 0], xh_M I L, 0, 0)) 3 rfl ?_
  refine xK.call [xm_r 5 0, xm_i (nI j)] (xd_X5_isThere d I L (nI j)) rfl rfl rfl (Or.inr ⟨_, _, rfl⟩) (Nat.le_of_ble_eq_true rfl) ?_
  refine xK.ifI rfl (fun h9 => absurd h9 h1) (fun _ => ?_)
  refine xK.run (q := (11, [(0, xm_r 5 0), (1, xm_i (nI j)), (2, xm_i (nI i)), (3, xm_i 0)], [xm_i (nI i), xm_r 5 0, xm_r 5 0], xh_M I L, 0, 0)) 2 rfl ?_
  refine xK.call [xm_r 5 0, xm_i (nI i)] (xd_X5_isThere d I L (nI i)) rfl rfl rfl (Or.inr ⟨_, _, rfl⟩) (Nat.le_of_ble_eq_true rfl) ?_
  refine xK.ifI rfl (fun h9 => absurd h9 h2) (fun _ => ?_)
  refine xK.run (q := (19, [(0, xm_r 5 0), (1, xm_i (nI j)), (2, xm_i (nI i)), (3, xm_i 0)], [xm_i (nI i), xm_i (nI j), xm_r 5 0], xh_M I L, 0, 0)) 2 rfl ?_
  refine xK.icmp rfl (fun h9 => absurd h9 hne2) (fun _ => ?_)
  refine xK.run (q := (23, [(0, xm_r 5 0), (1, xm_i (nI j)), (2, xm_i (nI i)), (3, xm_i 0)], [xm_i 0, xm_r 5 0], xh_M I L, 0, 0)) 1 rfl ?_
  refine xK.ifI rfl (fun h9 => absurd h9 (by decide)) (fun _ => ?_)
  refine xK.run (q := (29, [(0, xm_r 5 0), (1, xm_i (nI j)), (2, xm_i (nI i)), (3, xm_i 0)], [xm_i 10, xm_i 0, xm_r 5 0], xh_M I L, 0, 0)) 2 rfl ?_
  refine xK.icmp rfl (fun _ => ?_) (fun h9 => absurd (by decide) h9)
  refine xK.run (q := (44, [(0, xm_r 5 0), (1, xm_i (nI j)), (2, xm_i (nI i)), (3, xm_i 0)], [xm_i 0], xh_M (xm_up I 5 0 0 0) L, 0, 0)) 4 rfl ?_
  refine xK.ifI rfl (fun _ => ?_) (fun h9 => absurd (by decide) h9)
  refine xK.run (q := (52, [(0, xm_r 5 0), (1, xm_i (nI j)), (2, xm_i (nI i)), (3, xm_i 0)], [xm_i (nI i), xm_i (nI j), xm_r 5 0], xh_M (xm_up I 5 0 0 0) L, 0, 0)) 3 rfl ?_
  refine xK.call [xm_r 5 0, xm_i (nI j), xm_i (nI i)] (xd_X5_lookR (d + 1) (xm_up I 5 0 0 0) L i hi j hj hle1 (xh_hd (fun i hi => hs.1 i hi) hi hj)) rfl rfl rfl (Or.inr ⟨_, _, rfl⟩) (Nat.le_of_ble_eq_true rfl) ?_
  refine xK.run (q := (57, [(0, xm_r 5 0), (1, xm_i (nI j)), (2, xm_i (nI i)), (3, xm_i 0)], [xm_i (nI i), xm_i (nI j)], xh_M (xfI_X5_lookR (xm_up I 5 0 0 0) L i j) (xfL_X5_lookR (xm_up I 5 0 0 0) L i j), 0, 0)) 2 rfl ?_
  refine xK.call [xm_i (nI j), xm_i (nI i)] (xd_X5_pairOf (d + 1) (xfI_X5_lookR (xm_up I 5 0 0 0) L i j) (xfL_X5_lookR (xm_up I 5 0 0 0) L i j) (nI j) (nI i)) rfl rfl rfl (Or.inl rfl) (Nat.le_of_ble_eq_true rfl) ?_
  refine xK.run (q := (117, [(0, xm_r 5 0), (1, xm_i (nI j)), (2, xm_i (nI i)), (3, xm_i 0), (4, xm_i (xf_X5_pairOf (nI j) (nI i)))], [xm_r 5 0], xh_M (xfI_X5_lookR (xm_up I 5 0 0 0) L i j) (xfL_X5_lookR (xm_up I 5 0 0 0) L i j), 0, 0)) 4 rfl ?_
  refine xK.call [xm_r 5 0] (xd_X5_alerts d (xfI_X5_lookR (xm_up I 5 0 0 0) L i j) (xfL_X5_lookR (xm_up I 5 0 0 0) L i j)) rfl rfl rfl (Or.inr ⟨_, _, rfl⟩) (Nat.le_of_ble_eq_true rfl) ?_
  refine xK.ifI rfl (fun (h1 : (xf_X5_alerts (xfI_X5_lookR (xm_up I 5 0 0 0) L i j) (xfL_X5_lookR (xm_up I 5 0 0 0) L i j)) = 0) => ?_) (fun (h1 : ¬ (xf_X5_alerts (xfI_X5_lookR (xm_up I 5 0 0 0) L i j) (xfL_X5_lookR (xm_up I 5 0 0 0) L i j)) = 0) => ?_)
  · skip
    refine xK.run (q := (128, [(0, xm_r 5 0), (1, xm_i (nI j)), (2, xm_i (nI i)), (3, xm_i 0), (4, xm_i (xf_X5_pairOf (nI j) (nI i)))], [xm_i 0], xh_M (xfI_X5_lookR (xm_up I 5 0 0 0) L i j) (xfL_X5_lookR (xm_up I 5 0 0 0) L i j), 0, 0)) 1 rfl ?_
    rw [show xf_X5_pairR0 I L i j = 0 from by unfold xf_X5_pairR0; rw [if_pos h1]]
    rw [show xfI_X5_pairR0 I L i j = (xfI_X5_lookR (xm_up I 5 0 0 0) L i j) from by unfold xfI_X5_pairR0; rw [if_pos h1]]
    rw [show xfL_X5_pairR0 I L i j = (xfL_X5_lookR (xm_up I 5 0 0 0) L i j) from by unfold xfL_X5_pairR0; rw [if_pos h1]]
    exact xK.ret rfl ⟨_, rfl, rfl⟩
  · skip
    refine xK.run (q := (128, [(0, xm_r 5 0), (1, xm_i (nI j)), (2, xm_i (nI i)), (3, xm_i 0), (4, xm_i (xf_X5_pairOf (nI j) (nI i)))], [xm_i 1], xh_M (xfI_X5_lookR (xm_up I 5 0 0 0) L i j) (xfL_X5_lookR (xm_up I 5 0 0 0) L i j), 0, 0)) 2 rfl ?_
    rw [show xf_X5_pairR0 I L i j = 1 from by unfold xf_X5_pairR0; rw [if_neg h1]]
    rw [show xfI_X5_pairR0 I L i j = (xfI_X5_lookR (xm_up I 5 0 0 0) L i j) from by unfold xfI_X5_pairR0; rw [if_neg h1]]
    rw [show xfL_X5_pairR0 I L i j = (xfL_X5_lookR (xm_up I 5 0 0 0) L i j) from by unfold xfL_X5_pairR0; rw [if_neg h1]]
    exact xK.ret rfl ⟨_, rfl, rfl⟩
set_option linter.unusedVariables false in
def xf_X5_pairR1 (I : xh_I) (L : xh_L) (i : Nat) (j : Nat) : Int32 := ((xfL_X5_lookR (xm_up I 5 0 0 0) L i j) 5 21 0).toInt32
set_option linter.unusedVariables false in
def xfI_X5_pairR1 (I : xh_I) (L : xh_L) (i : Nat) (j : Nat) : xh_I := (xfI_X5_lookR (xm_up I 5 0 0 0) L i j)
set_option linter.unusedVariables false in
def xfL_X5_pairR1 (I : xh_I) (L : xh_L) (i : Nat) (j : Nat) : xh_L := (xfL_X5_lookR (xm_up I 5 0 0 0) L i j)
set_option maxHeartbeats 4000000 in
set_option maxRecDepth 100000 in
theorem xd_X5_pairR1 (d : Nat) (I : xh_I) (L : xh_L) (i : Nat) (hi : i < 6) (j : Nat) (hj : j < 6) (hne1 : ¬ nI i = nI j) (hne2 : ¬ nI j = nI i) (hle1 : nI i ≤ nI j) (hle2 : ¬ nI j ≤ nI i) (hlt1 : nI i < nI j) (hlt2 : ¬ nI j < nI i) (hs : xh_V5 I) (h1 : ¬ xf_X5_isThere I L (nI j) = 0) (h2 : ¬ xf_X5_isThere I L (nI i) = 0) : xm_Do xp_pg (d + 3) 99 [xm_r 5 0, xm_i (nI j), xm_i (nI i), xm_i 1] (xh_M I L) (some (xm_i (xf_X5_pairR1 I L i j))) (xh_M (xfI_X5_pairR1 I L i j) (xfL_X5_pairR1 I L i j)) 0 0 := by
  refine xK.of (Nat.le_of_ble_eq_true rfl) rfl ?_
  refine xK.run (q := (3, [(0, xm_r 5 0), (1, xm_i (nI j)), (2, xm_i (nI i)), (3, xm_i 1)], [xm_i (nI j), xm_r 5 0, xm_r 5 0], xh_M I L, 0, 0)) 3 rfl ?_
  refine xK.call [xm_r 5 0, xm_i (nI j)] (xd_X5_isThere d I L (nI j)) rfl rfl rfl (Or.inr ⟨_, _, rfl⟩) (Nat.le_of_ble_eq_true rfl) ?_
  refine xK.ifI rfl (fun h9 => absurd h9 h1) (fun _ => ?_)
  refine xK.run (q := (11, [(0, xm_r 5 0), (1, xm_i (nI j)), (2, xm_i (nI i)), (3, xm_i 1)], [xm_i (nI i), xm_r 5 0, xm_r 5 0], xh_M I L, 0, 0)) 2 rfl ?_
  refine xK.call [xm_r 5 0, xm_i (nI i)] (xd_X5_isThere d I L (nI i)) rfl rfl rfl (Or.inr ⟨_, _, rfl⟩) (Nat.le_of_ble_eq_true rfl) ?_
  refine xK.ifI rfl (fun h9 => absurd h9 h2) (fun _ => ?_)
  refine xK.run (q := (19, [(0, xm_r 5 0), (1, xm_i (nI j)), (2, xm_i (nI i)), (3, xm_i 1)], [xm_i (nI i), xm_i (nI j), xm_r 5 0], xh_M I L, 0, 0)) 2 rfl ?_
  refine xK.icmp rfl (fun h9 => absurd h9 hne2) (fun _ => ?_)
  refine xK.run (q := (23, [(0, xm_r 5 0), (1, xm_i (nI j)), (2, xm_i (nI i)), (3, xm_i 1)], [xm_i 1, xm_r 5 0], xh_M I L, 0, 0)) 1 rfl ?_
  refine xK.ifI rfl (fun h9 => absurd h9 (by decide)) (fun _ => ?_)
  refine xK.run (q := (29, [(0, xm_r 5 0), (1, xm_i (nI j)), (2, xm_i (nI i)), (3, xm_i 1)], [xm_i 10, xm_i 1, xm_r 5 0], xh_M I L, 0, 0)) 2 rfl ?_
  refine xK.icmp rfl (fun _ => ?_) (fun h9 => absurd (by decide) h9)
  refine xK.run (q := (44, [(0, xm_r 5 0), (1, xm_i (nI j)), (2, xm_i (nI i)), (3, xm_i 1)], [xm_i 0], xh_M (xm_up I 5 0 0 0) L, 0, 0)) 4 rfl ?_
  refine xK.ifI rfl (fun _ => ?_) (fun h9 => absurd (by decide) h9)
  refine xK.run (q := (52, [(0, xm_r 5 0), (1, xm_i (nI j)), (2, xm_i (nI i)), (3, xm_i 1)], [xm_i (nI i), xm_i (nI j), xm_r 5 0], xh_M (xm_up I 5 0 0 0) L, 0, 0)) 3 rfl ?_
  refine xK.call [xm_r 5 0, xm_i (nI j), xm_i (nI i)] (xd_X5_lookR (d + 1) (xm_up I 5 0 0 0) L i hi j hj hle1 (xh_hd (fun i hi => hs.1 i hi) hi hj)) rfl rfl rfl (Or.inr ⟨_, _, rfl⟩) (Nat.le_of_ble_eq_true rfl) ?_
  refine xK.run (q := (57, [(0, xm_r 5 0), (1, xm_i (nI j)), (2, xm_i (nI i)), (3, xm_i 1)], [xm_i (nI i), xm_i (nI j)], xh_M (xfI_X5_lookR (xm_up I 5 0 0 0) L i j) (xfL_X5_lookR (xm_up I 5 0 0 0) L i j), 0, 0)) 2 rfl ?_
  refine xK.call [xm_i (nI j), xm_i (nI i)] (xd_X5_pairOf (d + 1) (xfI_X5_lookR (xm_up I 5 0 0 0) L i j) (xfL_X5_lookR (xm_up I 5 0 0 0) L i j) (nI j) (nI i)) rfl rfl rfl (Or.inl rfl) (Nat.le_of_ble_eq_true rfl) ?_
  refine xK.run (q := (134, [(0, xm_r 5 0), (1, xm_i (nI j)), (2, xm_i (nI i)), (3, xm_i 1), (4, xm_i (xf_X5_pairOf (nI j) (nI i)))], [xm_i (((xfL_X5_lookR (xm_up I 5 0 0 0) L i j) 5 21 0).toInt32)], xh_M (xfI_X5_lookR (xm_up I 5 0 0 0) L i j) (xfL_X5_lookR (xm_up I 5 0 0 0) L i j), 0, 0)) 6 rfl ?_
  exact xK.ret rfl ⟨_, rfl, rfl⟩
set_option linter.unusedVariables false in
def xf_X5_pairR2 (I : xh_I) (L : xh_L) (i : Nat) (j : Nat) : Int32 := xf_X5_forFirst ((xfI_X5_lookR (xm_up I 5 0 0 0) L i j) 11 (xh_p6 j i) 0) 1
set_option linter.unusedVariables false in
def xfI_X5_pairR2 (I : xh_I) (L : xh_L) (i : Nat) (j : Nat) : xh_I := (xfI_X5_lookR (xm_up I 5 0 0 0) L i j)
set_option linter.unusedVariables false in
def xfL_X5_pairR2 (I : xh_I) (L : xh_L) (i : Nat) (j : Nat) : xh_L := (xfL_X5_lookR (xm_up I 5 0 0 0) L i j)
set_option maxHeartbeats 4000000 in
set_option maxRecDepth 100000 in
theorem xd_X5_pairR2 (d : Nat) (I : xh_I) (L : xh_L) (i : Nat) (hi : i < 6) (j : Nat) (hj : j < 6) (hne1 : ¬ nI i = nI j) (hne2 : ¬ nI j = nI i) (hle1 : nI i ≤ nI j) (hle2 : ¬ nI j ≤ nI i) (hlt1 : nI i < nI j) (hlt2 : ¬ nI j < nI i) (hs : xh_V5 I) (h1 : ¬ xf_X5_isThere I L (nI j) = 0) (h2 : ¬ xf_X5_isThere I L (nI i) = 0) : xm_Do xp_pg (d + 3) 99 [xm_r 5 0, xm_i (nI j), xm_i (nI i), xm_i 2] (xh_M I L) (some (xm_i (xf_X5_pairR2 I L i j))) (xh_M (xfI_X5_pairR2 I L i j) (xfL_X5_pairR2 I L i j)) 0 0 := by
  refine xK.of (Nat.le_of_ble_eq_true rfl) rfl ?_
  refine xK.run (q := (3, [(0, xm_r 5 0), (1, xm_i (nI j)), (2, xm_i (nI i)), (3, xm_i 2)], [xm_i (nI j), xm_r 5 0, xm_r 5 0], xh_M I L, 0, 0)) 3 rfl ?_
  refine xK.call [xm_r 5 0, xm_i (nI j)] (xd_X5_isThere d I L (nI j)) rfl rfl rfl (Or.inr ⟨_, _, rfl⟩) (Nat.le_of_ble_eq_true rfl) ?_
  refine xK.ifI rfl (fun h9 => absurd h9 h1) (fun _ => ?_)
  refine xK.run (q := (11, [(0, xm_r 5 0), (1, xm_i (nI j)), (2, xm_i (nI i)), (3, xm_i 2)], [xm_i (nI i), xm_r 5 0, xm_r 5 0], xh_M I L, 0, 0)) 2 rfl ?_
  refine xK.call [xm_r 5 0, xm_i (nI i)] (xd_X5_isThere d I L (nI i)) rfl rfl rfl (Or.inr ⟨_, _, rfl⟩) (Nat.le_of_ble_eq_true rfl) ?_
  refine xK.ifI rfl (fun h9 => absurd h9 h2) (fun _ => ?_)
  refine xK.run (q := (19, [(0, xm_r 5 0), (1, xm_i (nI j)), (2, xm_i (nI i)), (3, xm_i 2)], [xm_i (nI i), xm_i (nI j), xm_r 5 0], xh_M I L, 0, 0)) 2 rfl ?_
  refine xK.icmp rfl (fun h9 => absurd h9 hne2) (fun _ => ?_)
  refine xK.run (q := (23, [(0, xm_r 5 0), (1, xm_i (nI j)), (2, xm_i (nI i)), (3, xm_i 2)], [xm_i 2, xm_r 5 0], xh_M I L, 0, 0)) 1 rfl ?_
  refine xK.ifI rfl (fun h9 => absurd h9 (by decide)) (fun _ => ?_)
  refine xK.run (q := (29, [(0, xm_r 5 0), (1, xm_i (nI j)), (2, xm_i (nI i)), (3, xm_i 2)], [xm_i 10, xm_i 2, xm_r 5 0], xh_M I L, 0, 0)) 2 rfl ?_
  refine xK.icmp rfl (fun _ => ?_) (fun h9 => absurd (by decide) h9)
  refine xK.run (q := (44, [(0, xm_r 5 0), (1, xm_i (nI j)), (2, xm_i (nI i)), (3, xm_i 2)], [xm_i 0], xh_M (xm_up I 5 0 0 0) L, 0, 0)) 4 rfl ?_
  refine xK.ifI rfl (fun _ => ?_) (fun h9 => absurd (by decide) h9)
  refine xK.run (q := (52, [(0, xm_r 5 0), (1, xm_i (nI j)), (2, xm_i (nI i)), (3, xm_i 2)], [xm_i (nI i), xm_i (nI j), xm_r 5 0], xh_M (xm_up I 5 0 0 0) L, 0, 0)) 3 rfl ?_
  refine xK.call [xm_r 5 0, xm_i (nI j), xm_i (nI i)] (xd_X5_lookR (d + 1) (xm_up I 5 0 0 0) L i hi j hj hle1 (xh_hd (fun i hi => hs.1 i hi) hi hj)) rfl rfl rfl (Or.inr ⟨_, _, rfl⟩) (Nat.le_of_ble_eq_true rfl) ?_
  refine xK.run (q := (57, [(0, xm_r 5 0), (1, xm_i (nI j)), (2, xm_i (nI i)), (3, xm_i 2)], [xm_i (nI i), xm_i (nI j)], xh_M (xfI_X5_lookR (xm_up I 5 0 0 0) L i j) (xfL_X5_lookR (xm_up I 5 0 0 0) L i j), 0, 0)) 2 rfl ?_
  refine xK.call [xm_i (nI j), xm_i (nI i)] (xd_X5_pairOf (d + 1) (xfI_X5_lookR (xm_up I 5 0 0 0) L i j) (xfL_X5_lookR (xm_up I 5 0 0 0) L i j) (nI j) (nI i)) rfl rfl rfl (Or.inl rfl) (Nat.le_of_ble_eq_true rfl) ?_
  refine xK.run (q := (141, [(0, xm_r 5 0), (1, xm_i (nI j)), (2, xm_i (nI i)), (3, xm_i 2), (4, xm_i (xf_X5_pairOf (nI j) (nI i)))], [xm_i (xf_X5_pairOf (nI j) (nI i)), xm_r 11 0], xh_M (xfI_X5_lookR (xm_up I 5 0 0 0) L i j) (xfL_X5_lookR (xm_up I 5 0 0 0) L i j), 0, 0)) 6 rfl ?_
  refine xK.iald' rfl rfl (xh_p6_ix hj hi) ?_
  refine xK.run (q := (144, [(0, xm_r 5 0), (1, xm_i (nI j)), (2, xm_i (nI i)), (3, xm_i 2), (4, xm_i (xf_X5_pairOf (nI j) (nI i)))], [xm_i (nI i), xm_i (nI j), xm_i ((xfI_X5_lookR (xm_up I 5 0 0 0) L i j) 11 (xh_p6 j i) 0)], xh_M (xfI_X5_lookR (xm_up I 5 0 0 0) L i j) (xfL_X5_lookR (xm_up I 5 0 0 0) L i j), 0, 0)) 2 rfl ?_
  refine xK.icmp rfl (fun h9 => absurd h9 hle2) (fun _ => ?_)
  refine xK.run (q := (152, [(0, xm_r 5 0), (1, xm_i (nI j)), (2, xm_i (nI i)), (3, xm_i 2), (4, xm_i (xf_X5_pairOf (nI j) (nI i)))], [xm_i 1, xm_i ((xfI_X5_lookR (xm_up I 5 0 0 0) L i j) 11 (xh_p6 j i) 0)], xh_M (xfI_X5_lookR (xm_up I 5 0 0 0) L i j) (xfL_X5_lookR (xm_up I 5 0 0 0) L i j), 0, 0)) 2 rfl ?_
  refine xK.call [xm_i ((xfI_X5_lookR (xm_up I 5 0 0 0) L i j) 11 (xh_p6 j i) 0), xm_i 1] (xd_X5_forFirst (d + 1) (xfI_X5_lookR (xm_up I 5 0 0 0) L i j) (xfL_X5_lookR (xm_up I 5 0 0 0) L i j) ((xfI_X5_lookR (xm_up I 5 0 0 0) L i j) 11 (xh_p6 j i) 0) 1) rfl rfl rfl (Or.inl rfl) (Nat.le_of_ble_eq_true rfl) ?_
  exact xK.ret rfl ⟨_, rfl, rfl⟩
set_option linter.unusedVariables false in
def xf_X5_pairR3 (I : xh_I) (L : xh_L) (i : Nat) (j : Nat) : Int32 := (xfI_X5_lookR (xm_up I 5 0 0 0) L i j) 12 (xh_p6 j i) 0
set_option linter.unusedVariables false in
def xfI_X5_pairR3 (I : xh_I) (L : xh_L) (i : Nat) (j : Nat) : xh_I := (xfI_X5_lookR (xm_up I 5 0 0 0) L i j)
set_option linter.unusedVariables false in
def xfL_X5_pairR3 (I : xh_I) (L : xh_L) (i : Nat) (j : Nat) : xh_L := (xfL_X5_lookR (xm_up I 5 0 0 0) L i j)
set_option maxHeartbeats 4000000 in
set_option maxRecDepth 100000 in
theorem xd_X5_pairR3 (d : Nat) (I : xh_I) (L : xh_L) (i : Nat) (hi : i < 6) (j : Nat) (hj : j < 6) (hne1 : ¬ nI i = nI j) (hne2 : ¬ nI j = nI i) (hle1 : nI i ≤ nI j) (hle2 : ¬ nI j ≤ nI i) (hlt1 : nI i < nI j) (hlt2 : ¬ nI j < nI i) (hs : xh_V5 I) (h1 : ¬ xf_X5_isThere I L (nI j) = 0) (h2 : ¬ xf_X5_isThere I L (nI i) = 0) : xm_Do xp_pg (d + 3) 99 [xm_r 5 0, xm_i (nI j), xm_i (nI i), xm_i 3] (xh_M I L) (some (xm_i (xf_X5_pairR3 I L i j))) (xh_M (xfI_X5_pairR3 I L i j) (xfL_X5_pairR3 I L i j)) 0 0 := by
  refine xK.of (Nat.le_of_ble_eq_true rfl) rfl ?_
  refine xK.run (q := (3, [(0, xm_r 5 0), (1, xm_i (nI j)), (2, xm_i (nI i)), (3, xm_i 3)], [xm_i (nI j), xm_r 5 0, xm_r 5 0], xh_M I L, 0, 0)) 3 rfl ?_
  refine xK.call [xm_r 5 0, xm_i (nI j)] (xd_X5_isThere d I L (nI j)) rfl rfl rfl (Or.inr ⟨_, _, rfl⟩) (Nat.le_of_ble_eq_true rfl) ?_
  refine xK.ifI rfl (fun h9 => absurd h9 h1) (fun _ => ?_)
  refine xK.run (q := (11, [(0, xm_r 5 0), (1, xm_i (nI j)), (2, xm_i (nI i)), (3, xm_i 3)], [xm_i (nI i), xm_r 5 0, xm_r 5 0], xh_M I L, 0, 0)) 2 rfl ?_
  refine xK.call [xm_r 5 0, xm_i (nI i)] (xd_X5_isThere d I L (nI i)) rfl rfl rfl (Or.inr ⟨_, _, rfl⟩) (Nat.le_of_ble_eq_true rfl) ?_
  refine xK.ifI rfl (fun h9 => absurd h9 h2) (fun _ => ?_)
  refine xK.run (q := (19, [(0, xm_r 5 0), (1, xm_i (nI j)), (2, xm_i (nI i)), (3, xm_i 3)], [xm_i (nI i), xm_i (nI j), xm_r 5 0], xh_M I L, 0, 0)) 2 rfl ?_
  refine xK.icmp rfl (fun h9 => absurd h9 hne2) (fun _ => ?_)
  refine xK.run (q := (23, [(0, xm_r 5 0), (1, xm_i (nI j)), (2, xm_i (nI i)), (3, xm_i 3)], [xm_i 3, xm_r 5 0], xh_M I L, 0, 0)) 1 rfl ?_
  refine xK.ifI rfl (fun h9 => absurd h9 (by decide)) (fun _ => ?_)
  refine xK.run (q := (29, [(0, xm_r 5 0), (1, xm_i (nI j)), (2, xm_i (nI i)), (3, xm_i 3)], [xm_i 10, xm_i 3, xm_r 5 0], xh_M I L, 0, 0)) 2 rfl ?_
  refine xK.icmp rfl (fun _ => ?_) (fun h9 => absurd (by decide) h9)
  refine xK.run (q := (44, [(0, xm_r 5 0), (1, xm_i (nI j)), (2, xm_i (nI i)), (3, xm_i 3)], [xm_i 0], xh_M (xm_up I 5 0 0 0) L, 0, 0)) 4 rfl ?_
  refine xK.ifI rfl (fun _ => ?_) (fun h9 => absurd (by decide) h9)
  refine xK.run (q := (52, [(0, xm_r 5 0), (1, xm_i (nI j)), (2, xm_i (nI i)), (3, xm_i 3)], [xm_i (nI i), xm_i (nI j), xm_r 5 0], xh_M (xm_up I 5 0 0 0) L, 0, 0)) 3 rfl ?_
  refine xK.call [xm_r 5 0, xm_i (nI j), xm_i (nI i)] (xd_X5_lookR (d + 1) (xm_up I 5 0 0 0) L i hi j hj hle1 (xh_hd (fun i hi => hs.1 i hi) hi hj)) rfl rfl rfl (Or.inr ⟨_, _, rfl⟩) (Nat.le_of_ble_eq_true rfl) ?_
  refine xK.run (q := (57, [(0, xm_r 5 0), (1, xm_i (nI j)), (2, xm_i (nI i)), (3, xm_i 3)], [xm_i (nI i), xm_i (nI j)], xh_M (xfI_X5_lookR (xm_up I 5 0 0 0) L i j) (xfL_X5_lookR (xm_up I 5 0 0 0) L i j), 0, 0)) 2 rfl ?_
  refine xK.call [xm_i (nI j), xm_i (nI i)] (xd_X5_pairOf (d + 1) (xfI_X5_lookR (xm_up I 5 0 0 0) L i j) (xfL_X5_lookR (xm_up I 5 0 0 0) L i j) (nI j) (nI i)) rfl rfl rfl (Or.inl rfl) (Nat.le_of_ble_eq_true rfl) ?_
  refine xK.run (q := (162, [(0, xm_r 5 0), (1, xm_i (nI j)), (2, xm_i (nI i)), (3, xm_i 3), (4, xm_i (xf_X5_pairOf (nI j) (nI i)))], [xm_i (xf_X5_pairOf (nI j) (nI i)), xm_r 12 0], xh_M (xfI_X5_lookR (xm_up I 5 0 0 0) L i j) (xfL_X5_lookR (xm_up I 5 0 0 0) L i j), 0, 0)) 6 rfl ?_
  refine xK.iald' rfl rfl (xh_p6_ix hj hi) ?_
  exact xK.ret rfl ⟨_, rfl, rfl⟩
set_option linter.unusedVariables false in
def xf_X5_pairR4 (I : xh_I) (L : xh_L) (i : Nat) (j : Nat) : Int32 := (xfI_X5_lookR (xm_up I 5 0 0 0) L i j) 13 (xh_p6 j i) 0
set_option linter.unusedVariables false in
def xfI_X5_pairR4 (I : xh_I) (L : xh_L) (i : Nat) (j : Nat) : xh_I := (xfI_X5_lookR (xm_up I 5 0 0 0) L i j)
set_option linter.unusedVariables false in
def xfL_X5_pairR4 (I : xh_I) (L : xh_L) (i : Nat) (j : Nat) : xh_L := (xfL_X5_lookR (xm_up I 5 0 0 0) L i j)
set_option maxHeartbeats 4000000 in
set_option maxRecDepth 100000 in
theorem xd_X5_pairR4 (d : Nat) (I : xh_I) (L : xh_L) (i : Nat) (hi : i < 6) (j : Nat) (hj : j < 6) (hne1 : ¬ nI i = nI j) (hne2 : ¬ nI j = nI i) (hle1 : nI i ≤ nI j) (hle2 : ¬ nI j ≤ nI i) (hlt1 : nI i < nI j) (hlt2 : ¬ nI j < nI i) (hs : xh_V5 I) (h1 : ¬ xf_X5_isThere I L (nI j) = 0) (h2 : ¬ xf_X5_isThere I L (nI i) = 0) : xm_Do xp_pg (d + 3) 99 [xm_r 5 0, xm_i (nI j), xm_i (nI i), xm_i 4] (xh_M I L) (some (xm_i (xf_X5_pairR4 I L i j))) (xh_M (xfI_X5_pairR4 I L i j) (xfL_X5_pairR4 I L i j)) 0 0 := by
  refine xK.of (Nat.le_of_ble_eq_true rfl) rfl ?_
  refine xK.run (q := (3, [(0, xm_r 5 0), (1, xm_i (nI j)), (2, xm_i (nI i)), (3, xm_i 4)], [xm_i (nI j), xm_r 5 0, xm_r 5 0], xh_M I L, 0, 0)) 3 rfl ?_
  refine xK.call [xm_r 5 0, xm_i (nI j)] (xd_X5_isThere d I L (nI j)) rfl rfl rfl (Or.inr ⟨_, _, rfl⟩) (Nat.le_of_ble_eq_true rfl) ?_
  refine xK.ifI rfl (fun h9 => absurd h9 h1) (fun _ => ?_)
  refine xK.run (q := (11, [(0, xm_r 5 0), (1, xm_i (nI j)), (2, xm_i (nI i)), (3, xm_i 4)], [xm_i (nI i), xm_r 5 0, xm_r 5 0], xh_M I L, 0, 0)) 2 rfl ?_
  refine xK.call [xm_r 5 0, xm_i (nI i)] (xd_X5_isThere d I L (nI i)) rfl rfl rfl (Or.inr ⟨_, _, rfl⟩) (Nat.le_of_ble_eq_true rfl) ?_
  refine xK.ifI rfl (fun h9 => absurd h9 h2) (fun _ => ?_)
  refine xK.run (q := (19, [(0, xm_r 5 0), (1, xm_i (nI j)), (2, xm_i (nI i)), (3, xm_i 4)], [xm_i (nI i), xm_i (nI j), xm_r 5 0], xh_M I L, 0, 0)) 2 rfl ?_
  refine xK.icmp rfl (fun h9 => absurd h9 hne2) (fun _ => ?_)
  refine xK.run (q := (23, [(0, xm_r 5 0), (1, xm_i (nI j)), (2, xm_i (nI i)), (3, xm_i 4)], [xm_i 4, xm_r 5 0], xh_M I L, 0, 0)) 1 rfl ?_
  refine xK.ifI rfl (fun h9 => absurd h9 (by decide)) (fun _ => ?_)
  refine xK.run (q := (29, [(0, xm_r 5 0), (1, xm_i (nI j)), (2, xm_i (nI i)), (3, xm_i 4)], [xm_i 10, xm_i 4, xm_r 5 0], xh_M I L, 0, 0)) 2 rfl ?_
  refine xK.icmp rfl (fun _ => ?_) (fun h9 => absurd (by decide) h9)
  refine xK.run (q := (44, [(0, xm_r 5 0), (1, xm_i (nI j)), (2, xm_i (nI i)), (3, xm_i 4)], [xm_i 0], xh_M (xm_up I 5 0 0 0) L, 0, 0)) 4 rfl ?_
  refine xK.ifI rfl (fun _ => ?_) (fun h9 => absurd (by decide) h9)
  refine xK.run (q := (52, [(0, xm_r 5 0), (1, xm_i (nI j)), (2, xm_i (nI i)), (3, xm_i 4)], [xm_i (nI i), xm_i (nI j), xm_r 5 0], xh_M (xm_up I 5 0 0 0) L, 0, 0)) 3 rfl ?_
  refine xK.call [xm_r 5 0, xm_i (nI j), xm_i (nI i)] (xd_X5_lookR (d + 1) (xm_up I 5 0 0 0) L i hi j hj hle1 (xh_hd (fun i hi => hs.1 i hi) hi hj)) rfl rfl rfl (Or.inr ⟨_, _, rfl⟩) (Nat.le_of_ble_eq_true rfl) ?_
  refine xK.run (q := (57, [(0, xm_r 5 0), (1, xm_i (nI j)), (2, xm_i (nI i)), (3, xm_i 4)], [xm_i (nI i), xm_i (nI j)], xh_M (xfI_X5_lookR (xm_up I 5 0 0 0) L i j) (xfL_X5_lookR (xm_up I 5 0 0 0) L i j), 0, 0)) 2 rfl ?_
  refine xK.call [xm_i (nI j), xm_i (nI i)] (xd_X5_pairOf (d + 1) (xfI_X5_lookR (xm_up I 5 0 0 0) L i j) (xfL_X5_lookR (xm_up I 5 0 0 0) L i j) (nI j) (nI i)) rfl rfl rfl (Or.inl rfl) (Nat.le_of_ble_eq_true rfl) ?_
  refine xK.run (q := (170, [(0, xm_r 5 0), (1, xm_i (nI j)), (2, xm_i (nI i)), (3, xm_i 4), (4, xm_i (xf_X5_pairOf (nI j) (nI i)))], [xm_i (xf_X5_pairOf (nI j) (nI i)), xm_r 13 0], xh_M (xfI_X5_lookR (xm_up I 5 0 0 0) L i j) (xfL_X5_lookR (xm_up I 5 0 0 0) L i j), 0, 0)) 6 rfl ?_
  refine xK.iald' rfl rfl (xh_p6_ix hj hi) ?_
  exact xK.ret rfl ⟨_, rfl, rfl⟩
set_option linter.unusedVariables false in
def xf_X5_pairR5 (I : xh_I) (L : xh_L) (i : Nat) (j : Nat) : Int32 := if ((xfI_X5_lookR (xm_up I 5 0 0 0) L i j) 14 (xh_p6 j i) 0) = 0 then 0 else 1
set_option linter.unusedVariables false in
def xfI_X5_pairR5 (I : xh_I) (L : xh_L) (i : Nat) (j : Nat) : xh_I := if ((xfI_X5_lookR (xm_up I 5 0 0 0) L i j) 14 (xh_p6 j i) 0) = 0 then (xfI_X5_lookR (xm_up I 5 0 0 0) L i j) else (xfI_X5_lookR (xm_up I 5 0 0 0) L i j)
set_option linter.unusedVariables false in
def xfL_X5_pairR5 (I : xh_I) (L : xh_L) (i : Nat) (j : Nat) : xh_L := if ((xfI_X5_lookR (xm_up I 5 0 0 0) L i j) 14 (xh_p6 j i) 0) = 0 then (xfL_X5_lookR (xm_up I 5 0 0 0) L i j) else (xfL_X5_lookR (xm_up I 5 0 0 0) L i j)
set_option maxHeartbeats 4000000 in
set_option maxRecDepth 100000 in
theorem xd_X5_pairR5 (d : Nat) (I : xh_I) (L : xh_L) (i : Nat) (hi : i < 6) (j : Nat) (hj : j < 6) (hne1 : ¬ nI i = nI j) (hne2 : ¬ nI j = nI i) (hle1 : nI i ≤ nI j) (hle2 : ¬ nI j ≤ nI i) (hlt1 : nI i < nI j) (hlt2 : ¬ nI j < nI i) (hs : xh_V5 I) (h1 : ¬ xf_X5_isThere I L (nI j) = 0) (h2 : ¬ xf_X5_isThere I L (nI i) = 0) : xm_Do xp_pg (d + 3) 99 [xm_r 5 0, xm_i (nI j), xm_i (nI i), xm_i 5] (xh_M I L) (some (xm_i (xf_X5_pairR5 I L i j))) (xh_M (xfI_X5_pairR5 I L i j) (xfL_X5_pairR5 I L i j)) 0 0 := by
  refine xK.of (Nat.le_of_ble_eq_true rfl) rfl ?_
  refine xK.run (q := (3, [(0, xm_r 5 0), (1, xm_i (nI j)), (2, xm_i (nI i)), (3, xm_i 5)], [xm_i (nI j), xm_r 5 0, xm_r 5 0], xh_M I L, 0, 0)) 3 rfl ?_
  refine xK.call [xm_r 5 0, xm_i (nI j)] (xd_X5_isThere d I L (nI j)) rfl rfl rfl (Or.inr ⟨_, _, rfl⟩) (Nat.le_of_ble_eq_true rfl) ?_
  refine xK.ifI rfl (fun h9 => absurd h9 h1) (fun _ => ?_)
  refine xK.run (q := (11, [(0, xm_r 5 0), (1, xm_i (nI j)), (2, xm_i (nI i)), (3, xm_i 5)], [xm_i (nI i), xm_r 5 0, xm_r 5 0], xh_M I L, 0, 0)) 2 rfl ?_
  refine xK.call [xm_r 5 0, xm_i (nI i)] (xd_X5_isThere d I L (nI i)) rfl rfl rfl (Or.inr ⟨_, _, rfl⟩) (Nat.le_of_ble_eq_true rfl) ?_
  refine xK.ifI rfl (fun h9 => absurd h9 h2) (fun _ => ?_)
  refine xK.run (q := (19, [(0, xm_r 5 0), (1, xm_i (nI j)), (2, xm_i (nI i)), (3, xm_i 5)], [xm_i (nI i), xm_i (nI j), xm_r 5 0], xh_M I L, 0, 0)) 2 rfl ?_
  refine xK.icmp rfl (fun h9 => absurd h9 hne2) (fun _ => ?_)
  refine xK.run (q := (23, [(0, xm_r 5 0), (1, xm_i (nI j)), (2, xm_i (nI i)), (3, xm_i 5)], [xm_i 5, xm_r 5 0], xh_M I L, 0, 0)) 1 rfl ?_
  refine xK.ifI rfl (fun h9 => absurd h9 (by decide)) (fun _ => ?_)
  refine xK.run (q := (29, [(0, xm_r 5 0), (1, xm_i (nI j)), (2, xm_i (nI i)), (3, xm_i 5)], [xm_i 10, xm_i 5, xm_r 5 0], xh_M I L, 0, 0)) 2 rfl ?_
  refine xK.icmp rfl (fun _ => ?_) (fun h9 => absurd (by decide) h9)
  refine xK.run (q := (44, [(0, xm_r 5 0), (1, xm_i (nI j)), (2, xm_i (nI i)), (3, xm_i 5)], [xm_i 0], xh_M (xm_up I 5 0 0 0) L, 0, 0)) 4 rfl ?_
  refine xK.ifI rfl (fun _ => ?_) (fun h9 => absurd (by decide) h9)
  refine xK.run (q := (52, [(0, xm_r 5 0), (1, xm_i (nI j)), (2, xm_i (nI i)), (3, xm_i 5)], [xm_i (nI i), xm_i (nI j), xm_r 5 0], xh_M (xm_up I 5 0 0 0) L, 0, 0)) 3 rfl ?_
  refine xK.call [xm_r 5 0, xm_i (nI j), xm_i (nI i)] (xd_X5_lookR (d + 1) (xm_up I 5 0 0 0) L i hi j hj hle1 (xh_hd (fun i hi => hs.1 i hi) hi hj)) rfl rfl rfl (Or.inr ⟨_, _, rfl⟩) (Nat.le_of_ble_eq_true rfl) ?_
  refine xK.run (q := (57, [(0, xm_r 5 0), (1, xm_i (nI j)), (2, xm_i (nI i)), (3, xm_i 5)], [xm_i (nI i), xm_i (nI j)], xh_M (xfI_X5_lookR (xm_up I 5 0 0 0) L i j) (xfL_X5_lookR (xm_up I 5 0 0 0) L i j), 0, 0)) 2 rfl ?_
  refine xK.call [xm_i (nI j), xm_i (nI i)] (xd_X5_pairOf (d + 1) (xfI_X5_lookR (xm_up I 5 0 0 0) L i j) (xfL_X5_lookR (xm_up I 5 0 0 0) L i j) (nI j) (nI i)) rfl rfl rfl (Or.inl rfl) (Nat.le_of_ble_eq_true rfl) ?_
  refine xK.run (q := (178, [(0, xm_r 5 0), (1, xm_i (nI j)), (2, xm_i (nI i)), (3, xm_i 5), (4, xm_i (xf_X5_pairOf (nI j) (nI i)))], [xm_i (xf_X5_pairOf (nI j) (nI i)), xm_r 14 0], xh_M (xfI_X5_lookR (xm_up I 5 0 0 0) L i j) (xfL_X5_lookR (xm_up I 5 0 0 0) L i j), 0, 0)) 6 rfl ?_
  refine xK.zald' rfl rfl (xh_p6_ix hj hi) ?_
  refine xK.ifI rfl (fun (h1 : ((xfI_X5_lookR (xm_up I 5 0 0 0) L i j) 14 (xh_p6 j i) 0) = 0) => ?_) (fun (h1 : ¬ ((xfI_X5_lookR (xm_up I 5 0 0 0) L i j) 14 (xh_p6 j i) 0) = 0) => ?_)
  · skip
    refine xK.run (q := (187, [(0, xm_r 5 0), (1, xm_i (nI j)), (2, xm_i (nI i)), (3, xm_i 5), (4, xm_i (xf_X5_pairOf (nI j) (nI i)))], [xm_i 0], xh_M (xfI_X5_lookR (xm_up I 5 0 0 0) L i j) (xfL_X5_lookR (xm_up I 5 0 0 0) L i j), 0, 0)) 1 rfl ?_
    rw [show xf_X5_pairR5 I L i j = 0 from by unfold xf_X5_pairR5; rw [if_pos h1]]
    rw [show xfI_X5_pairR5 I L i j = (xfI_X5_lookR (xm_up I 5 0 0 0) L i j) from by unfold xfI_X5_pairR5; rw [if_pos h1]]
    rw [show xfL_X5_pairR5 I L i j = (xfL_X5_lookR (xm_up I 5 0 0 0) L i j) from by unfold xfL_X5_pairR5; rw [if_pos h1]]
    exact xK.ret rfl ⟨_, rfl, rfl⟩
  · skip
    refine xK.run (q := (187, [(0, xm_r 5 0), (1, xm_i (nI j)), (2, xm_i (nI i)), (3, xm_i 5), (4, xm_i (xf_X5_pairOf (nI j) (nI i)))], [xm_i 1], xh_M (xfI_X5_lookR (xm_up I 5 0 0 0) L i j) (xfL_X5_lookR (xm_up I 5 0 0 0) L i j), 0, 0)) 2 rfl ?_
    rw [show xf_X5_pairR5 I L i j = 1 from by unfold xf_X5_pairR5; rw [if_neg h1]]
    rw [show xfI_X5_pairR5 I L i j = (xfI_X5_lookR (xm_up I 5 0 0 0) L i j) from by unfold xfI_X5_pairR5; rw [if_neg h1]]
    rw [show xfL_X5_pairR5 I L i j = (xfL_X5_lookR (xm_up I 5 0 0 0) L i j) from by unfold xfL_X5_pairR5; rw [if_neg h1]]
    exact xK.ret rfl ⟨_, rfl, rfl⟩
set_option linter.unusedVariables false in
def xf_X5_pairR6 (I : xh_I) (L : xh_L) (i : Nat) (j : Nat) : Int32 := if ((xfI_X5_lookR (xm_up I 5 0 0 0) L i j) 11 (xh_p6 j i) 0) = 0 then 0 else ((xf_X5_part (xfI_X5_lookR (xm_up I 5 0 0 0) L i j) (xfL_X5_lookR (xm_up I 5 0 0 0) L i j) ((xfI_X5_lookR (xm_up I 5 0 0 0) L i j) 11 (xh_p6 j i) 0) ((xfI_X5_lookR (xm_up I 5 0 0 0) L i j) 12 (xh_p6 j i) 0) ((xfI_X5_lookR (xm_up I 5 0 0 0) L i j) 13 (xh_p6 j i) 0)).toInt32)
set_option linter.unusedVariables false in
def xfI_X5_pairR6 (I : xh_I) (L : xh_L) (i : Nat) (j : Nat) : xh_I := if ((xfI_X5_lookR (xm_up I 5 0 0 0) L i j) 11 (xh_p6 j i) 0) = 0 then (xfI_X5_lookR (xm_up I 5 0 0 0) L i j) else (xfI_X5_lookR (xm_up I 5 0 0 0) L i j)
set_option linter.unusedVariables false in
def xfL_X5_pairR6 (I : xh_I) (L : xh_L) (i : Nat) (j : Nat) : xh_L := if ((xfI_X5_lookR (xm_up I 5 0 0 0) L i j) 11 (xh_p6 j i) 0) = 0 then (xfL_X5_lookR (xm_up I 5 0 0 0) L i j) else (xfL_X5_lookR (xm_up I 5 0 0 0) L i j)
set_option maxHeartbeats 4000000 in
set_option maxRecDepth 100000 in
theorem xd_X5_pairR6 (d : Nat) (I : xh_I) (L : xh_L) (i : Nat) (hi : i < 6) (j : Nat) (hj : j < 6) (hne1 : ¬ nI i = nI j) (hne2 : ¬ nI j = nI i) (hle1 : nI i ≤ nI j) (hle2 : ¬ nI j ≤ nI i) (hlt1 : nI i < nI j) (hlt2 : ¬ nI j < nI i) (hs : xh_V5 I) (h1 : ¬ xf_X5_isThere I L (nI j) = 0) (h2 : ¬ xf_X5_isThere I L (nI i) = 0) : xm_Do xp_pg (d + 3) 99 [xm_r 5 0, xm_i (nI j), xm_i (nI i), xm_i 6] (xh_M I L) (some (xm_i (xf_X5_pairR6 I L i j))) (xh_M (xfI_X5_pairR6 I L i j) (xfL_X5_pairR6 I L i j)) 0 0 := by
  refine xK.of (Nat.le_of_ble_eq_true rfl) rfl ?_
  refine xK.run (q := (3, [(0, xm_r 5 0), (1, xm_i (nI j)), (2, xm_i (nI i)), (3, xm_i 6)], [xm_i (nI j), xm_r 5 0, xm_r 5 0], xh_M I L, 0, 0)) 3 rfl ?_
  refine xK.call [xm_r 5 0, xm_i (nI j)] (xd_X5_isThere d I L (nI j)) rfl rfl rfl (Or.inr ⟨_, _, rfl⟩) (Nat.le_of_ble_eq_true rfl) ?_
  refine xK.ifI rfl (fun h9 => absurd h9 h1) (fun _ => ?_)
  refine xK.run (q := (11, [(0, xm_r 5 0), (1, xm_i (nI j)), (2, xm_i (nI i)), (3, xm_i 6)], [xm_i (nI i), xm_r 5 0, xm_r 5 0], xh_M I L, 0, 0)) 2 rfl ?_
  refine xK.call [xm_r 5 0, xm_i (nI i)] (xd_X5_isThere d I L (nI i)) rfl rfl rfl (Or.inr ⟨_, _, rfl⟩) (Nat.le_of_ble_eq_true rfl) ?_
  refine xK.ifI rfl (fun h9 => absurd h9 h2) (fun _ => ?_)
  refine xK.run (q := (19, [(0, xm_r 5 0), (1, xm_i (nI j)), (2, xm_i (nI i)), (3, xm_i 6)], [xm_i (nI i), xm_i (nI j), xm_r 5 0], xh_M I L, 0, 0)) 2 rfl ?_
  refine xK.icmp rfl (fun h9 => absurd h9 hne2) (fun _ => ?_)
  refine xK.run (q := (23, [(0, xm_r 5 0), (1, xm_i (nI j)), (2, xm_i (nI i)), (3, xm_i 6)], [xm_i 6, xm_r 5 0], xh_M I L, 0, 0)) 1 rfl ?_
  refine xK.ifI rfl (fun h9 => absurd h9 (by decide)) (fun _ => ?_)
  refine xK.run (q := (29, [(0, xm_r 5 0), (1, xm_i (nI j)), (2, xm_i (nI i)), (3, xm_i 6)], [xm_i 10, xm_i 6, xm_r 5 0], xh_M I L, 0, 0)) 2 rfl ?_
  refine xK.icmp rfl (fun _ => ?_) (fun h9 => absurd (by decide) h9)
  refine xK.run (q := (44, [(0, xm_r 5 0), (1, xm_i (nI j)), (2, xm_i (nI i)), (3, xm_i 6)], [xm_i 0], xh_M (xm_up I 5 0 0 0) L, 0, 0)) 4 rfl ?_
  refine xK.ifI rfl (fun _ => ?_) (fun h9 => absurd (by decide) h9)
  refine xK.run (q := (52, [(0, xm_r 5 0), (1, xm_i (nI j)), (2, xm_i (nI i)), (3, xm_i 6)], [xm_i (nI i), xm_i (nI j), xm_r 5 0], xh_M (xm_up I 5 0 0 0) L, 0, 0)) 3 rfl ?_
  refine xK.call [xm_r 5 0, xm_i (nI j), xm_i (nI i)] (xd_X5_lookR (d + 1) (xm_up I 5 0 0 0) L i hi j hj hle1 (xh_hd (fun i hi => hs.1 i hi) hi hj)) rfl rfl rfl (Or.inr ⟨_, _, rfl⟩) (Nat.le_of_ble_eq_true rfl) ?_
  refine xK.run (q := (57, [(0, xm_r 5 0), (1, xm_i (nI j)), (2, xm_i (nI i)), (3, xm_i 6)], [xm_i (nI i), xm_i (nI j)], xh_M (xfI_X5_lookR (xm_up I 5 0 0 0) L i j) (xfL_X5_lookR (xm_up I 5 0 0 0) L i j), 0, 0)) 2 rfl ?_
  refine xK.call [xm_i (nI j), xm_i (nI i)] (xd_X5_pairOf (d + 1) (xfI_X5_lookR (xm_up I 5 0 0 0) L i j) (xfL_X5_lookR (xm_up I 5 0 0 0) L i j) (nI j) (nI i)) rfl rfl rfl (Or.inl rfl) (Nat.le_of_ble_eq_true rfl) ?_
  refine xK.run (q := (194, [(0, xm_r 5 0), (1, xm_i (nI j)), (2, xm_i (nI i)), (3, xm_i 6), (4, xm_i (xf_X5_pairOf (nI j) (nI i)))], [xm_i (xf_X5_pairOf (nI j) (nI i)), xm_r 11 0], xh_M (xfI_X5_lookR (xm_up I 5 0 0 0) L i j) (xfL_X5_lookR (xm_up I 5 0 0 0) L i j), 0, 0)) 6 rfl ?_
  refine xK.iald' rfl rfl (xh_p6_ix hj hi) ?_
  refine xK.ifN rfl (fun (h1 : ((xfI_X5_lookR (xm_up I 5 0 0 0) L i j) 11 (xh_p6 j i) 0) = 0) => ?_) (fun (h1 : ¬ ((xfI_X5_lookR (xm_up I 5 0 0 0) L i j) 11 (xh_p6 j i) 0) = 0) => ?_)
  · skip
    refine xK.run (q := (228, [(0, xm_r 5 0), (1, xm_i (nI j)), (2, xm_i (nI i)), (3, xm_i 6), (4, xm_i (xf_X5_pairOf (nI j) (nI i)))], [xm_i 0], xh_M (xfI_X5_lookR (xm_up I 5 0 0 0) L i j) (xfL_X5_lookR (xm_up I 5 0 0 0) L i j), 0, 0)) 2 rfl ?_
    rw [show xf_X5_pairR6 I L i j = 0 from by unfold xf_X5_pairR6; rw [if_pos h1]]
    rw [show xfI_X5_pairR6 I L i j = (xfI_X5_lookR (xm_up I 5 0 0 0) L i j) from by unfold xfI_X5_pairR6; rw [if_pos h1]]
    rw [show xfL_X5_pairR6 I L i j = (xfL_X5_lookR (xm_up I 5 0 0 0) L i j) from by unfold xfL_X5_pairR6; rw [if_pos h1]]
    exact xK.ret rfl ⟨_, rfl, rfl⟩
  · skip
    refine xK.run (q := (209, [(0, xm_r 5 0), (1, xm_i (nI j)), (2, xm_i (nI i)), (3, xm_i 6), (4, xm_i (xf_X5_pairOf (nI j) (nI i)))], [xm_i (xf_X5_pairOf (nI j) (nI i)), xm_r 11 0, xm_r 5 0], xh_M (xfI_X5_lookR (xm_up I 5 0 0 0) L i j) (xfL_X5_lookR (xm_up I 5 0 0 0) L i j), 0, 0)) 4 rfl ?_
    refine xK.iald' rfl rfl (xh_p6_ix hj hi) ?_
    refine xK.run (q := (216, [(0, xm_r 5 0), (1, xm_i (nI j)), (2, xm_i (nI i)), (3, xm_i 6), (4, xm_i (xf_X5_pairOf (nI j) (nI i)))], [xm_i (xf_X5_pairOf (nI j) (nI i)), xm_r 12 0, xm_i ((xfI_X5_lookR (xm_up I 5 0 0 0) L i j) 11 (xh_p6 j i) 0), xm_r 5 0], xh_M (xfI_X5_lookR (xm_up I 5 0 0 0) L i j) (xfL_X5_lookR (xm_up I 5 0 0 0) L i j), 0, 0)) 3 rfl ?_
    refine xK.iald' rfl rfl (xh_p6_ix hj hi) ?_
    refine xK.run (q := (223, [(0, xm_r 5 0), (1, xm_i (nI j)), (2, xm_i (nI i)), (3, xm_i 6), (4, xm_i (xf_X5_pairOf (nI j) (nI i)))], [xm_i (xf_X5_pairOf (nI j) (nI i)), xm_r 13 0, xm_i ((xfI_X5_lookR (xm_up I 5 0 0 0) L i j) 12 (xh_p6 j i) 0), xm_i ((xfI_X5_lookR (xm_up I 5 0 0 0) L i j) 11 (xh_p6 j i) 0), xm_r 5 0], xh_M (xfI_X5_lookR (xm_up I 5 0 0 0) L i j) (xfL_X5_lookR (xm_up I 5 0 0 0) L i j), 0, 0)) 3 rfl ?_
    refine xK.iald' rfl rfl (xh_p6_ix hj hi) ?_
    refine xK.call [xm_r 5 0, xm_i ((xfI_X5_lookR (xm_up I 5 0 0 0) L i j) 11 (xh_p6 j i) 0), xm_i ((xfI_X5_lookR (xm_up I 5 0 0 0) L i j) 12 (xh_p6 j i) 0), xm_i ((xfI_X5_lookR (xm_up I 5 0 0 0) L i j) 13 (xh_p6 j i) 0)] (xd_X5_part d (xfI_X5_lookR (xm_up I 5 0 0 0) L i j) (xfL_X5_lookR (xm_up I 5 0 0 0) L i j) (xh_oo_lookR hi hj) ((xfI_X5_lookR (xm_up I 5 0 0 0) L i j) 11 (xh_p6 j i) 0) ((xfI_X5_lookR (xm_up I 5 0 0 0) L i j) 12 (xh_p6 j i) 0) ((xfI_X5_lookR (xm_up I 5 0 0 0) L i j) 13 (xh_p6 j i) 0)) rfl rfl rfl (Or.inr ⟨_, _, rfl⟩) (Nat.le_of_ble_eq_true rfl) ?_
    refine xK.run (q := (228, [(0, xm_r 5 0), (1, xm_i (nI j)), (2, xm_i (nI i)), (3, xm_i 6), (4, xm_i (xf_X5_pairOf (nI j) (nI i)))], [xm_i ((xf_X5_part (xfI_X5_lookR (xm_up I 5 0 0 0) L i j) (xfL_X5_lookR (xm_up I 5 0 0 0) L i j) ((xfI_X5_lookR (xm_up I 5 0 0 0) L i j) 11 (xh_p6 j i) 0) ((xfI_X5_lookR (xm_up I 5 0 0 0) L i j) 12 (xh_p6 j i) 0) ((xfI_X5_lookR (xm_up I 5 0 0 0) L i j) 13 (xh_p6 j i) 0)).toInt32)], xh_M (xfI_X5_lookR (xm_up I 5 0 0 0) L i j) (xfL_X5_lookR (xm_up I 5 0 0 0) L i j), 0, 0)) 1 rfl ?_
    rw [show xf_X5_pairR6 I L i j = ((xf_X5_part (xfI_X5_lookR (xm_up I 5 0 0 0) L i j) (xfL_X5_lookR (xm_up I 5 0 0 0) L i j) ((xfI_X5_lookR (xm_up I 5 0 0 0) L i j) 11 (xh_p6 j i) 0) ((xfI_X5_lookR (xm_up I 5 0 0 0) L i j) 12 (xh_p6 j i) 0) ((xfI_X5_lookR (xm_up I 5 0 0 0) L i j) 13 (xh_p6 j i) 0)).toInt32) from by unfold xf_X5_pairR6; rw [if_neg h1]]
    rw [show xfI_X5_pairR6 I L i j = (xfI_X5_lookR (xm_up I 5 0 0 0) L i j) from by unfold xfI_X5_pairR6; rw [if_neg h1]]
    rw [show xfL_X5_pairR6 I L i j = (xfL_X5_lookR (xm_up I 5 0 0 0) L i j) from by unfold xfL_X5_pairR6; rw [if_neg h1]]
    exact xK.ret rfl ⟨_, rfl, rfl⟩
set_option linter.unusedVariables false in
def xf_X5_pairR7 (I : xh_I) (L : xh_L) (i : Nat) (j : Nat) : Int32 := (xf_X5_part (xfI_X5_lookR (xm_up I 5 0 0 0) L i j) (xfL_X5_lookR (xm_up I 5 0 0 0) L i j) (xf_X5_chosen (xfI_X5_lookR (xm_up I 5 0 0 0) L i j) (xfL_X5_lookR (xm_up I 5 0 0 0) L i j)) (xf_X5_enough1 (xfI_X5_lookR (xm_up I 5 0 0 0) L i j) (xfL_X5_lookR (xm_up I 5 0 0 0) L i j) (xf_X5_chosen (xfI_X5_lookR (xm_up I 5 0 0 0) L i j) (xfL_X5_lookR (xm_up I 5 0 0 0) L i j)) 0) 0).toInt32
set_option linter.unusedVariables false in
def xfI_X5_pairR7 (I : xh_I) (L : xh_L) (i : Nat) (j : Nat) : xh_I := (xfI_X5_lookR (xm_up I 5 0 0 0) L i j)
set_option linter.unusedVariables false in
def xfL_X5_pairR7 (I : xh_I) (L : xh_L) (i : Nat) (j : Nat) : xh_L := (xfL_X5_lookR (xm_up I 5 0 0 0) L i j)
set_option maxHeartbeats 4000000 in
set_option maxRecDepth 100000 in
theorem xd_X5_pairR7 (d : Nat) (I : xh_I) (L : xh_L) (i : Nat) (hi : i < 6) (j : Nat) (hj : j < 6) (hne1 : ¬ nI i = nI j) (hne2 : ¬ nI j = nI i) (hle1 : nI i ≤ nI j) (hle2 : ¬ nI j ≤ nI i) (hlt1 : nI i < nI j) (hlt2 : ¬ nI j < nI i) (hs : xh_V5 I) (h1 : ¬ xf_X5_isThere I L (nI j) = 0) (h2 : ¬ xf_X5_isThere I L (nI i) = 0) : xm_Do xp_pg (d + 5) 99 [xm_r 5 0, xm_i (nI j), xm_i (nI i), xm_i 7] (xh_M I L) (some (xm_i (xf_X5_pairR7 I L i j))) (xh_M (xfI_X5_pairR7 I L i j) (xfL_X5_pairR7 I L i j)) 0 0 := by
  refine xK.of (Nat.le_of_ble_eq_true rfl) rfl ?_
  refine xK.run (q := (3, [(0, xm_r 5 0), (1, xm_i (nI j)), (2, xm_i (nI i)), (3, xm_i 7)], [xm_i (nI j), xm_r 5 0, xm_r 5 0], xh_M I L, 0, 0)) 3 rfl ?_
  refine xK.call [xm_r 5 0, xm_i (nI j)] (xd_X5_isThere (d + 2) I L (nI j)) rfl rfl rfl (Or.inr ⟨_, _, rfl⟩) (Nat.le_of_ble_eq_true rfl) ?_
  refine xK.ifI rfl (fun h9 => absurd h9 h1) (fun _ => ?_)
  refine xK.run (q := (11, [(0, xm_r 5 0), (1, xm_i (nI j)), (2, xm_i (nI i)), (3, xm_i 7)], [xm_i (nI i), xm_r 5 0, xm_r 5 0], xh_M I L, 0, 0)) 2 rfl ?_
  refine xK.call [xm_r 5 0, xm_i (nI i)] (xd_X5_isThere (d + 2) I L (nI i)) rfl rfl rfl (Or.inr ⟨_, _, rfl⟩) (Nat.le_of_ble_eq_true rfl) ?_
  refine xK.ifI rfl (fun h9 => absurd h9 h2) (fun _ => ?_)
  refine xK.run (q := (19, [(0, xm_r 5 0), (1, xm_i (nI j)), (2, xm_i (nI i)), (3, xm_i 7)], [xm_i (nI i), xm_i (nI j), xm_r 5 0], xh_M I L, 0, 0)) 2 rfl ?_
  refine xK.icmp rfl (fun h9 => absurd h9 hne2) (fun _ => ?_)
  refine xK.run (q := (23, [(0, xm_r 5 0), (1, xm_i (nI j)), (2, xm_i (nI i)), (3, xm_i 7)], [xm_i 7, xm_r 5 0], xh_M I L, 0, 0)) 1 rfl ?_
  refine xK.ifI rfl (fun h9 => absurd h9 (by decide)) (fun _ => ?_)
  refine xK.run (q := (29, [(0, xm_r 5 0), (1, xm_i (nI j)), (2, xm_i (nI i)), (3, xm_i 7)], [xm_i 10, xm_i 7, xm_r 5 0], xh_M I L, 0, 0)) 2 rfl ?_
  refine xK.icmp rfl (fun _ => ?_) (fun h9 => absurd (by decide) h9)
  refine xK.run (q := (44, [(0, xm_r 5 0), (1, xm_i (nI j)), (2, xm_i (nI i)), (3, xm_i 7)], [xm_i 0], xh_M (xm_up I 5 0 0 0) L, 0, 0)) 4 rfl ?_
  refine xK.ifI rfl (fun _ => ?_) (fun h9 => absurd (by decide) h9)
  refine xK.run (q := (52, [(0, xm_r 5 0), (1, xm_i (nI j)), (2, xm_i (nI i)), (3, xm_i 7)], [xm_i (nI i), xm_i (nI j), xm_r 5 0], xh_M (xm_up I 5 0 0 0) L, 0, 0)) 3 rfl ?_
  refine xK.call [xm_r 5 0, xm_i (nI j), xm_i (nI i)] (xd_X5_lookR (d + 3) (xm_up I 5 0 0 0) L i hi j hj hle1 (xh_hd (fun i hi => hs.1 i hi) hi hj)) rfl rfl rfl (Or.inr ⟨_, _, rfl⟩) (Nat.le_of_ble_eq_true rfl) ?_
  refine xK.run (q := (57, [(0, xm_r 5 0), (1, xm_i (nI j)), (2, xm_i (nI i)), (3, xm_i 7)], [xm_i (nI i), xm_i (nI j)], xh_M (xfI_X5_lookR (xm_up I 5 0 0 0) L i j) (xfL_X5_lookR (xm_up I 5 0 0 0) L i j), 0, 0)) 2 rfl ?_
  refine xK.call [xm_i (nI j), xm_i (nI i)] (xd_X5_pairOf (d + 3) (xfI_X5_lookR (xm_up I 5 0 0 0) L i j) (xfL_X5_lookR (xm_up I 5 0 0 0) L i j) (nI j) (nI i)) rfl rfl rfl (Or.inl rfl) (Nat.le_of_ble_eq_true rfl) ?_
  refine xK.run (q := (231, [(0, xm_r 5 0), (1, xm_i (nI j)), (2, xm_i (nI i)), (3, xm_i 7), (4, xm_i (xf_X5_pairOf (nI j) (nI i)))], [xm_r 5 0, xm_r 5 0], xh_M (xfI_X5_lookR (xm_up I 5 0 0 0) L i j) (xfL_X5_lookR (xm_up I 5 0 0 0) L i j), 0, 0)) 5 rfl ?_
  refine xK.call [xm_r 5 0] (xd_X5_chosen d (xfI_X5_lookR (xm_up I 5 0 0 0) L i j) (xfL_X5_lookR (xm_up I 5 0 0 0) L i j) (xh_oo_lookR hi hj)) rfl rfl rfl (Or.inr ⟨_, _, rfl⟩) (Nat.le_of_ble_eq_true rfl) ?_
  refine xK.run (q := (236, [(0, xm_r 5 0), (1, xm_i (nI j)), (2, xm_i (nI i)), (3, xm_i 7), (4, xm_i (xf_X5_pairOf (nI j) (nI i)))], [xm_r 5 0, xm_r 5 0, xm_i (xf_X5_chosen (xfI_X5_lookR (xm_up I 5 0 0 0) L i j) (xfL_X5_lookR (xm_up I 5 0 0 0) L i j)), xm_r 5 0], xh_M (xfI_X5_lookR (xm_up I 5 0 0 0) L i j) (xfL_X5_lookR (xm_up I 5 0 0 0) L i j), 0, 0)) 2 rfl ?_
  refine xK.call [xm_r 5 0] (xd_X5_chosen d (xfI_X5_lookR (xm_up I 5 0 0 0) L i j) (xfL_X5_lookR (xm_up I 5 0 0 0) L i j) (xh_oo_lookR hi hj)) rfl rfl rfl (Or.inr ⟨_, _, rfl⟩) (Nat.le_of_ble_eq_true rfl) ?_
  refine xK.run (q := (241, [(0, xm_r 5 0), (1, xm_i (nI j)), (2, xm_i (nI i)), (3, xm_i 7), (4, xm_i (xf_X5_pairOf (nI j) (nI i)))], [xm_i 0, xm_i 1, xm_i (xf_X5_chosen (xfI_X5_lookR (xm_up I 5 0 0 0) L i j) (xfL_X5_lookR (xm_up I 5 0 0 0) L i j)), xm_r 5 0, xm_i (xf_X5_chosen (xfI_X5_lookR (xm_up I 5 0 0 0) L i j) (xfL_X5_lookR (xm_up I 5 0 0 0) L i j)), xm_r 5 0], xh_M (xfI_X5_lookR (xm_up I 5 0 0 0) L i j) (xfL_X5_lookR (xm_up I 5 0 0 0) L i j), 0, 0)) 2 rfl ?_
  refine xK.call [xm_r 5 0, xm_i (xf_X5_chosen (xfI_X5_lookR (xm_up I 5 0 0 0) L i j) (xfL_X5_lookR (xm_up I 5 0 0 0) L i j)), xm_i 1, xm_i 0] (xd_X5_enough1 (d + 1) (xfI_X5_lookR (xm_up I 5 0 0 0) L i j) (xfL_X5_lookR (xm_up I 5 0 0 0) L i j) (xh_oo_lookR hi hj) (xf_X5_chosen (xfI_X5_lookR (xm_up I 5 0 0 0) L i j) (xfL_X5_lookR (xm_up I 5 0 0 0) L i j)) 0) rfl rfl rfl (Or.inr ⟨_, _, rfl⟩) (Nat.le_of_ble_eq_true rfl) ?_
  refine xK.run (q := (245, [(0, xm_r 5 0), (1, xm_i (nI j)), (2, xm_i (nI i)), (3, xm_i 7), (4, xm_i (xf_X5_pairOf (nI j) (nI i)))], [xm_i 0, xm_i (xf_X5_enough1 (xfI_X5_lookR (xm_up I 5 0 0 0) L i j) (xfL_X5_lookR (xm_up I 5 0 0 0) L i j) (xf_X5_chosen (xfI_X5_lookR (xm_up I 5 0 0 0) L i j) (xfL_X5_lookR (xm_up I 5 0 0 0) L i j)) 0), xm_i (xf_X5_chosen (xfI_X5_lookR (xm_up I 5 0 0 0) L i j) (xfL_X5_lookR (xm_up I 5 0 0 0) L i j)), xm_r 5 0], xh_M (xfI_X5_lookR (xm_up I 5 0 0 0) L i j) (xfL_X5_lookR (xm_up I 5 0 0 0) L i j), 0, 0)) 1 rfl ?_
  refine xK.call [xm_r 5 0, xm_i (xf_X5_chosen (xfI_X5_lookR (xm_up I 5 0 0 0) L i j) (xfL_X5_lookR (xm_up I 5 0 0 0) L i j)), xm_i (xf_X5_enough1 (xfI_X5_lookR (xm_up I 5 0 0 0) L i j) (xfL_X5_lookR (xm_up I 5 0 0 0) L i j) (xf_X5_chosen (xfI_X5_lookR (xm_up I 5 0 0 0) L i j) (xfL_X5_lookR (xm_up I 5 0 0 0) L i j)) 0), xm_i 0] (xd_X5_part (d + 2) (xfI_X5_lookR (xm_up I 5 0 0 0) L i j) (xfL_X5_lookR (xm_up I 5 0 0 0) L i j) (xh_oo_lookR hi hj) (xf_X5_chosen (xfI_X5_lookR (xm_up I 5 0 0 0) L i j) (xfL_X5_lookR (xm_up I 5 0 0 0) L i j)) (xf_X5_enough1 (xfI_X5_lookR (xm_up I 5 0 0 0) L i j) (xfL_X5_lookR (xm_up I 5 0 0 0) L i j) (xf_X5_chosen (xfI_X5_lookR (xm_up I 5 0 0 0) L i j) (xfL_X5_lookR (xm_up I 5 0 0 0) L i j)) 0) 0) rfl rfl rfl (Or.inr ⟨_, _, rfl⟩) (Nat.le_of_ble_eq_true rfl) ?_
  refine xK.run (q := (249, [(0, xm_r 5 0), (1, xm_i (nI j)), (2, xm_i (nI i)), (3, xm_i 7), (4, xm_i (xf_X5_pairOf (nI j) (nI i)))], [xm_i ((xf_X5_part (xfI_X5_lookR (xm_up I 5 0 0 0) L i j) (xfL_X5_lookR (xm_up I 5 0 0 0) L i j) (xf_X5_chosen (xfI_X5_lookR (xm_up I 5 0 0 0) L i j) (xfL_X5_lookR (xm_up I 5 0 0 0) L i j)) (xf_X5_enough1 (xfI_X5_lookR (xm_up I 5 0 0 0) L i j) (xfL_X5_lookR (xm_up I 5 0 0 0) L i j) (xf_X5_chosen (xfI_X5_lookR (xm_up I 5 0 0 0) L i j) (xfL_X5_lookR (xm_up I 5 0 0 0) L i j)) 0) 0).toInt32)], xh_M (xfI_X5_lookR (xm_up I 5 0 0 0) L i j) (xfL_X5_lookR (xm_up I 5 0 0 0) L i j), 0, 0)) 1 rfl ?_
  exact xK.ret rfl ⟨_, rfl, rfl⟩
set_option linter.unusedVariables false in
def xf_X5_pairR8 (I : xh_I) (L : xh_L) (i : Nat) (j : Nat) : Int32 := xf_X5_forFirst (xf_X5_chosen (xfI_X5_lookR (xm_up I 5 0 0 0) L i j) (xfL_X5_lookR (xm_up I 5 0 0 0) L i j)) 1
set_option linter.unusedVariables false in
def xfI_X5_pairR8 (I : xh_I) (L : xh_L) (i : Nat) (j : Nat) : xh_I := (xfI_X5_lookR (xm_up I 5 0 0 0) L i j)
set_option linter.unusedVariables false in
def xfL_X5_pairR8 (I : xh_I) (L : xh_L) (i : Nat) (j : Nat) : xh_L := (xfL_X5_lookR (xm_up I 5 0 0 0) L i j)
set_option maxHeartbeats 4000000 in
set_option maxRecDepth 100000 in
theorem xd_X5_pairR8 (d : Nat) (I : xh_I) (L : xh_L) (i : Nat) (hi : i < 6) (j : Nat) (hj : j < 6) (hne1 : ¬ nI i = nI j) (hne2 : ¬ nI j = nI i) (hle1 : nI i ≤ nI j) (hle2 : ¬ nI j ≤ nI i) (hlt1 : nI i < nI j) (hlt2 : ¬ nI j < nI i) (hs : xh_V5 I) (h1 : ¬ xf_X5_isThere I L (nI j) = 0) (h2 : ¬ xf_X5_isThere I L (nI i) = 0) : xm_Do xp_pg (d + 5) 99 [xm_r 5 0, xm_i (nI j), xm_i (nI i), xm_i 8] (xh_M I L) (some (xm_i (xf_X5_pairR8 I L i j))) (xh_M (xfI_X5_pairR8 I L i j) (xfL_X5_pairR8 I L i j)) 0 0 := by
  refine xK.of (Nat.le_of_ble_eq_true rfl) rfl ?_
  refine xK.run (q := (3, [(0, xm_r 5 0), (1, xm_i (nI j)), (2, xm_i (nI i)), (3, xm_i 8)], [xm_i (nI j), xm_r 5 0, xm_r 5 0], xh_M I L, 0, 0)) 3 rfl ?_
  refine xK.call [xm_r 5 0, xm_i (nI j)] (xd_X5_isThere (d + 2) I L (nI j)) rfl rfl rfl (Or.inr ⟨_, _, rfl⟩) (Nat.le_of_ble_eq_true rfl) ?_
  refine xK.ifI rfl (fun h9 => absurd h9 h1) (fun _ => ?_)
  refine xK.run (q := (11, [(0, xm_r 5 0), (1, xm_i (nI j)), (2, xm_i (nI i)), (3, xm_i 8)], [xm_i (nI i), xm_r 5 0, xm_r 5 0], xh_M I L, 0, 0)) 2 rfl ?_
  refine xK.call [xm_r 5 0, xm_i (nI i)] (xd_X5_isThere (d + 2) I L (nI i)) rfl rfl rfl (Or.inr ⟨_, _, rfl⟩) (Nat.le_of_ble_eq_true rfl) ?_
  refine xK.ifI rfl (fun h9 => absurd h9 h2) (fun _ => ?_)
  refine xK.run (q := (19, [(0, xm_r 5 0), (1, xm_i (nI j)), (2, xm_i (nI i)), (3, xm_i 8)], [xm_i (nI i), xm_i (nI j), xm_r 5 0], xh_M I L, 0, 0)) 2 rfl ?_
  refine xK.icmp rfl (fun h9 => absurd h9 hne2) (fun _ => ?_)
  refine xK.run (q := (23, [(0, xm_r 5 0), (1, xm_i (nI j)), (2, xm_i (nI i)), (3, xm_i 8)], [xm_i 8, xm_r 5 0], xh_M I L, 0, 0)) 1 rfl ?_
  refine xK.ifI rfl (fun h9 => absurd h9 (by decide)) (fun _ => ?_)
  refine xK.run (q := (29, [(0, xm_r 5 0), (1, xm_i (nI j)), (2, xm_i (nI i)), (3, xm_i 8)], [xm_i 10, xm_i 8, xm_r 5 0], xh_M I L, 0, 0)) 2 rfl ?_
  refine xK.icmp rfl (fun _ => ?_) (fun h9 => absurd (by decide) h9)
  refine xK.run (q := (44, [(0, xm_r 5 0), (1, xm_i (nI j)), (2, xm_i (nI i)), (3, xm_i 8)], [xm_i 0], xh_M (xm_up I 5 0 0 0) L, 0, 0)) 4 rfl ?_
  refine xK.ifI rfl (fun _ => ?_) (fun h9 => absurd (by decide) h9)
  refine xK.run (q := (52, [(0, xm_r 5 0), (1, xm_i (nI j)), (2, xm_i (nI i)), (3, xm_i 8)], [xm_i (nI i), xm_i (nI j), xm_r 5 0], xh_M (xm_up I 5 0 0 0) L, 0, 0)) 3 rfl ?_
  refine xK.call [xm_r 5 0, xm_i (nI j), xm_i (nI i)] (xd_X5_lookR (d + 3) (xm_up I 5 0 0 0) L i hi j hj hle1 (xh_hd (fun i hi => hs.1 i hi) hi hj)) rfl rfl rfl (Or.inr ⟨_, _, rfl⟩) (Nat.le_of_ble_eq_true rfl) ?_
  refine xK.run (q := (57, [(0, xm_r 5 0), (1, xm_i (nI j)), (2, xm_i (nI i)), (3, xm_i 8)], [xm_i (nI i), xm_i (nI j)], xh_M (xfI_X5_lookR (xm_up I 5 0 0 0) L i j) (xfL_X5_lookR (xm_up I 5 0 0 0) L i j), 0, 0)) 2 rfl ?_
  refine xK.call [xm_i (nI j), xm_i (nI i)] (xd_X5_pairOf (d + 3) (xfI_X5_lookR (xm_up I 5 0 0 0) L i j) (xfL_X5_lookR (xm_up I 5 0 0 0) L i j) (nI j) (nI i)) rfl rfl rfl (Or.inl rfl) (Nat.le_of_ble_eq_true rfl) ?_
  refine xK.run (q := (251, [(0, xm_r 5 0), (1, xm_i (nI j)), (2, xm_i (nI i)), (3, xm_i 8), (4, xm_i (xf_X5_pairOf (nI j) (nI i)))], [xm_r 5 0], xh_M (xfI_X5_lookR (xm_up I 5 0 0 0) L i j) (xfL_X5_lookR (xm_up I 5 0 0 0) L i j), 0, 0)) 4 rfl ?_
  refine xK.call [xm_r 5 0] (xd_X5_chosen d (xfI_X5_lookR (xm_up I 5 0 0 0) L i j) (xfL_X5_lookR (xm_up I 5 0 0 0) L i j) (xh_oo_lookR hi hj)) rfl rfl rfl (Or.inr ⟨_, _, rfl⟩) (Nat.le_of_ble_eq_true rfl) ?_
  refine xK.run (q := (256, [(0, xm_r 5 0), (1, xm_i (nI j)), (2, xm_i (nI i)), (3, xm_i 8), (4, xm_i (xf_X5_pairOf (nI j) (nI i)))], [xm_i (nI i), xm_i (nI j), xm_i (xf_X5_chosen (xfI_X5_lookR (xm_up I 5 0 0 0) L i j) (xfL_X5_lookR (xm_up I 5 0 0 0) L i j))], xh_M (xfI_X5_lookR (xm_up I 5 0 0 0) L i j) (xfL_X5_lookR (xm_up I 5 0 0 0) L i j), 0, 0)) 2 rfl ?_
  refine xK.icmp rfl (fun h9 => absurd h9 hle2) (fun _ => ?_)
  refine xK.run (q := (264, [(0, xm_r 5 0), (1, xm_i (nI j)), (2, xm_i (nI i)), (3, xm_i 8), (4, xm_i (xf_X5_pairOf (nI j) (nI i)))], [xm_i 1, xm_i (xf_X5_chosen (xfI_X5_lookR (xm_up I 5 0 0 0) L i j) (xfL_X5_lookR (xm_up I 5 0 0 0) L i j))], xh_M (xfI_X5_lookR (xm_up I 5 0 0 0) L i j) (xfL_X5_lookR (xm_up I 5 0 0 0) L i j), 0, 0)) 2 rfl ?_
  refine xK.call [xm_i (xf_X5_chosen (xfI_X5_lookR (xm_up I 5 0 0 0) L i j) (xfL_X5_lookR (xm_up I 5 0 0 0) L i j)), xm_i 1] (xd_X5_forFirst (d + 3) (xfI_X5_lookR (xm_up I 5 0 0 0) L i j) (xfL_X5_lookR (xm_up I 5 0 0 0) L i j) (xf_X5_chosen (xfI_X5_lookR (xm_up I 5 0 0 0) L i j) (xfL_X5_lookR (xm_up I 5 0 0 0) L i j)) 1) rfl rfl rfl (Or.inl rfl) (Nat.le_of_ble_eq_true rfl) ?_
  exact xK.ret rfl ⟨_, rfl, rfl⟩
set_option linter.unusedVariables false in
def xf_X5_pairR9 (I : xh_I) (L : xh_L) (i : Nat) (j : Nat) : Int32 := if (lg_cmp ((xfL_X5_lookR (xm_up I 5 0 0 0) L i j) 15 (xh_p6 j i) 0) 2147483647) ≤ 0 then (((xfL_X5_lookR (xm_up I 5 0 0 0) L i j) 15 (xh_p6 j i) 0).toInt32) else ((2147483647 : Int64).toInt32)
set_option linter.unusedVariables false in
def xfI_X5_pairR9 (I : xh_I) (L : xh_L) (i : Nat) (j : Nat) : xh_I := if (lg_cmp ((xfL_X5_lookR (xm_up I 5 0 0 0) L i j) 15 (xh_p6 j i) 0) 2147483647) ≤ 0 then (xfI_X5_lookR (xm_up I 5 0 0 0) L i j) else (xfI_X5_lookR (xm_up I 5 0 0 0) L i j)
set_option linter.unusedVariables false in
def xfL_X5_pairR9 (I : xh_I) (L : xh_L) (i : Nat) (j : Nat) : xh_L := if (lg_cmp ((xfL_X5_lookR (xm_up I 5 0 0 0) L i j) 15 (xh_p6 j i) 0) 2147483647) ≤ 0 then (xfL_X5_lookR (xm_up I 5 0 0 0) L i j) else (xfL_X5_lookR (xm_up I 5 0 0 0) L i j)
set_option maxHeartbeats 4000000 in
set_option maxRecDepth 100000 in
theorem xd_X5_pairR9 (d : Nat) (I : xh_I) (L : xh_L) (i : Nat) (hi : i < 6) (j : Nat) (hj : j < 6) (hne1 : ¬ nI i = nI j) (hne2 : ¬ nI j = nI i) (hle1 : nI i ≤ nI j) (hle2 : ¬ nI j ≤ nI i) (hlt1 : nI i < nI j) (hlt2 : ¬ nI j < nI i) (hs : xh_V5 I) (h1 : ¬ xf_X5_isThere I L (nI j) = 0) (h2 : ¬ xf_X5_isThere I L (nI i) = 0) : xm_Do xp_pg (d + 3) 99 [xm_r 5 0, xm_i (nI j), xm_i (nI i), xm_i 9] (xh_M I L) (some (xm_i (xf_X5_pairR9 I L i j))) (xh_M (xfI_X5_pairR9 I L i j) (xfL_X5_pairR9 I L i j)) 0 0 := by
  refine xK.of (Nat.le_of_ble_eq_true rfl) rfl ?_
  refine xK.run (q := (3, [(0, xm_r 5 0), (1, xm_i (nI j)), (2, xm_i (nI i)), (3, xm_i 9)], [xm_i (nI j), xm_r 5 0, xm_r 5 0], xh_M I L, 0, 0)) 3 rfl ?_
  refine xK.call [xm_r 5 0, xm_i (nI j)] (xd_X5_isThere d I L (nI j)) rfl rfl rfl (Or.inr ⟨_, _, rfl⟩) (Nat.le_of_ble_eq_true rfl) ?_
  refine xK.ifI rfl (fun h9 => absurd h9 h1) (fun _ => ?_)
  refine xK.run (q := (11, [(0, xm_r 5 0), (1, xm_i (nI j)), (2, xm_i (nI i)), (3, xm_i 9)], [xm_i (nI i), xm_r 5 0, xm_r 5 0], xh_M I L, 0, 0)) 2 rfl ?_
  refine xK.call [xm_r 5 0, xm_i (nI i)] (xd_X5_isThere d I L (nI i)) rfl rfl rfl (Or.inr ⟨_, _, rfl⟩) (Nat.le_of_ble_eq_true rfl) ?_
  refine xK.ifI rfl (fun h9 => absurd h9 h2) (fun _ => ?_)
  refine xK.run (q := (19, [(0, xm_r 5 0), (1, xm_i (nI j)), (2, xm_i (nI i)), (3, xm_i 9)], [xm_i (nI i), xm_i (nI j), xm_r 5 0], xh_M I L, 0, 0)) 2 rfl ?_
  refine xK.icmp rfl (fun h9 => absurd h9 hne2) (fun _ => ?_)
  refine xK.run (q := (23, [(0, xm_r 5 0), (1, xm_i (nI j)), (2, xm_i (nI i)), (3, xm_i 9)], [xm_i 9, xm_r 5 0], xh_M I L, 0, 0)) 1 rfl ?_
  refine xK.ifI rfl (fun h9 => absurd h9 (by decide)) (fun _ => ?_)
  refine xK.run (q := (29, [(0, xm_r 5 0), (1, xm_i (nI j)), (2, xm_i (nI i)), (3, xm_i 9)], [xm_i 10, xm_i 9, xm_r 5 0], xh_M I L, 0, 0)) 2 rfl ?_
  refine xK.icmp rfl (fun _ => ?_) (fun h9 => absurd (by decide) h9)
  refine xK.run (q := (44, [(0, xm_r 5 0), (1, xm_i (nI j)), (2, xm_i (nI i)), (3, xm_i 9)], [xm_i 0], xh_M (xm_up I 5 0 0 0) L, 0, 0)) 4 rfl ?_
  refine xK.ifI rfl (fun _ => ?_) (fun h9 => absurd (by decide) h9)
  refine xK.run (q := (52, [(0, xm_r 5 0), (1, xm_i (nI j)), (2, xm_i (nI i)), (3, xm_i 9)], [xm_i (nI i), xm_i (nI j), xm_r 5 0], xh_M (xm_up I 5 0 0 0) L, 0, 0)) 3 rfl ?_
  refine xK.call [xm_r 5 0, xm_i (nI j), xm_i (nI i)] (xd_X5_lookR (d + 1) (xm_up I 5 0 0 0) L i hi j hj hle1 (xh_hd (fun i hi => hs.1 i hi) hi hj)) rfl rfl rfl (Or.inr ⟨_, _, rfl⟩) (Nat.le_of_ble_eq_true rfl) ?_
  refine xK.run (q := (57, [(0, xm_r 5 0), (1, xm_i (nI j)), (2, xm_i (nI i)), (3, xm_i 9)], [xm_i (nI i), xm_i (nI j)], xh_M (xfI_X5_lookR (xm_up I 5 0 0 0) L i j) (xfL_X5_lookR (xm_up I 5 0 0 0) L i j), 0, 0)) 2 rfl ?_
  refine xK.call [xm_i (nI j), xm_i (nI i)] (xd_X5_pairOf (d + 1) (xfI_X5_lookR (xm_up I 5 0 0 0) L i j) (xfL_X5_lookR (xm_up I 5 0 0 0) L i j) (nI j) (nI i)) rfl rfl rfl (Or.inl rfl) (Nat.le_of_ble_eq_true rfl) ?_
  refine xK.run (q := (274, [(0, xm_r 5 0), (1, xm_i (nI j)), (2, xm_i (nI i)), (3, xm_i 9), (4, xm_i (xf_X5_pairOf (nI j) (nI i)))], [xm_i (xf_X5_pairOf (nI j) (nI i)), xm_r 15 0], xh_M (xfI_X5_lookR (xm_up I 5 0 0 0) L i j) (xfL_X5_lookR (xm_up I 5 0 0 0) L i j), 0, 0)) 6 rfl ?_
  refine xK.lald' rfl rfl (xh_p6_ix hj hi) ?_
  refine xK.run (q := (279, [(0, xm_r 5 0), (1, xm_i (nI j)), (2, xm_i (nI i)), (3, xm_i 9), (4, xm_i (xf_X5_pairOf (nI j) (nI i)))], [xm_i (lg_cmp ((xfL_X5_lookR (xm_up I 5 0 0 0) L i j) 15 (xh_p6 j i) 0) 2147483647)], xh_M (xfI_X5_lookR (xm_up I 5 0 0 0) L i j) (xfL_X5_lookR (xm_up I 5 0 0 0) L i j), 0, 0)) 2 rfl ?_
  refine xK.ifI rfl (fun (h1 : (lg_cmp ((xfL_X5_lookR (xm_up I 5 0 0 0) L i j) 15 (xh_p6 j i) 0) 2147483647) ≤ 0) => ?_) (fun (h1 : ¬ (lg_cmp ((xfL_X5_lookR (xm_up I 5 0 0 0) L i j) 15 (xh_p6 j i) 0) 2147483647) ≤ 0) => ?_)
  · skip
    refine xK.run (q := (294, [(0, xm_r 5 0), (1, xm_i (nI j)), (2, xm_i (nI i)), (3, xm_i 9), (4, xm_i (xf_X5_pairOf (nI j) (nI i)))], [xm_i (xf_X5_pairOf (nI j) (nI i)), xm_r 15 0], xh_M (xfI_X5_lookR (xm_up I 5 0 0 0) L i j) (xfL_X5_lookR (xm_up I 5 0 0 0) L i j), 0, 0)) 3 rfl ?_
    refine xK.lald' rfl rfl (xh_p6_ix hj hi) ?_
    refine xK.run (q := (296, [(0, xm_r 5 0), (1, xm_i (nI j)), (2, xm_i (nI i)), (3, xm_i 9), (4, xm_i (xf_X5_pairOf (nI j) (nI i)))], [xm_i (((xfL_X5_lookR (xm_up I 5 0 0 0) L i j) 15 (xh_p6 j i) 0).toInt32)], xh_M (xfI_X5_lookR (xm_up I 5 0 0 0) L i j) (xfL_X5_lookR (xm_up I 5 0 0 0) L i j), 0, 0)) 1 rfl ?_
    rw [show xf_X5_pairR9 I L i j = (((xfL_X5_lookR (xm_up I 5 0 0 0) L i j) 15 (xh_p6 j i) 0).toInt32) from by unfold xf_X5_pairR9; rw [if_pos h1]]
    rw [show xfI_X5_pairR9 I L i j = (xfI_X5_lookR (xm_up I 5 0 0 0) L i j) from by unfold xfI_X5_pairR9; rw [if_pos h1]]
    rw [show xfL_X5_pairR9 I L i j = (xfL_X5_lookR (xm_up I 5 0 0 0) L i j) from by unfold xfL_X5_pairR9; rw [if_pos h1]]
    exact xK.ret rfl ⟨_, rfl, rfl⟩
  · skip
    refine xK.run (q := (296, [(0, xm_r 5 0), (1, xm_i (nI j)), (2, xm_i (nI i)), (3, xm_i 9), (4, xm_i (xf_X5_pairOf (nI j) (nI i)))], [xm_i ((2147483647 : Int64).toInt32)], xh_M (xfI_X5_lookR (xm_up I 5 0 0 0) L i j) (xfL_X5_lookR (xm_up I 5 0 0 0) L i j), 0, 0)) 3 rfl ?_
    rw [show xf_X5_pairR9 I L i j = ((2147483647 : Int64).toInt32) from by unfold xf_X5_pairR9; rw [if_neg h1]]
    rw [show xfI_X5_pairR9 I L i j = (xfI_X5_lookR (xm_up I 5 0 0 0) L i j) from by unfold xfI_X5_pairR9; rw [if_neg h1]]
    rw [show xfL_X5_pairR9 I L i j = (xfL_X5_lookR (xm_up I 5 0 0 0) L i j) from by unfold xfL_X5_pairR9; rw [if_neg h1]]
    exact xK.ret rfl ⟨_, rfl, rfl⟩
set_option linter.unusedVariables false in
def xf_X5_pairR10 (I : xh_I) (L : xh_L) (i : Nat) (j : Nat) : Int32 := (xfI_X5_lookR (xm_up I 5 0 0 0) L i j) 16 (xh_p6 j i) 0
set_option linter.unusedVariables false in
def xfI_X5_pairR10 (I : xh_I) (L : xh_L) (i : Nat) (j : Nat) : xh_I := (xfI_X5_lookR (xm_up I 5 0 0 0) L i j)
set_option linter.unusedVariables false in
def xfL_X5_pairR10 (I : xh_I) (L : xh_L) (i : Nat) (j : Nat) : xh_L := (xfL_X5_lookR (xm_up I 5 0 0 0) L i j)
set_option maxHeartbeats 4000000 in
set_option maxRecDepth 100000 in
theorem xd_X5_pairR10 (d : Nat) (I : xh_I) (L : xh_L) (i : Nat) (hi : i < 6) (j : Nat) (hj : j < 6) (hne1 : ¬ nI i = nI j) (hne2 : ¬ nI j = nI i) (hle1 : nI i ≤ nI j) (hle2 : ¬ nI j ≤ nI i) (hlt1 : nI i < nI j) (hlt2 : ¬ nI j < nI i) (hs : xh_V5 I) (h1 : ¬ xf_X5_isThere I L (nI j) = 0) (h2 : ¬ xf_X5_isThere I L (nI i) = 0) : xm_Do xp_pg (d + 3) 99 [xm_r 5 0, xm_i (nI j), xm_i (nI i), xm_i 10] (xh_M I L) (some (xm_i (xf_X5_pairR10 I L i j))) (xh_M (xfI_X5_pairR10 I L i j) (xfL_X5_pairR10 I L i j)) 0 0 := by
  refine xK.of (Nat.le_of_ble_eq_true rfl) rfl ?_
  refine xK.run (q := (3, [(0, xm_r 5 0), (1, xm_i (nI j)), (2, xm_i (nI i)), (3, xm_i 10)], [xm_i (nI j), xm_r 5 0, xm_r 5 0], xh_M I L, 0, 0)) 3 rfl ?_
  refine xK.call [xm_r 5 0, xm_i (nI j)] (xd_X5_isThere d I L (nI j)) rfl rfl rfl (Or.inr ⟨_, _, rfl⟩) (Nat.le_of_ble_eq_true rfl) ?_
  refine xK.ifI rfl (fun h9 => absurd h9 h1) (fun _ => ?_)
  refine xK.run (q := (11, [(0, xm_r 5 0), (1, xm_i (nI j)), (2, xm_i (nI i)), (3, xm_i 10)], [xm_i (nI i), xm_r 5 0, xm_r 5 0], xh_M I L, 0, 0)) 2 rfl ?_
  refine xK.call [xm_r 5 0, xm_i (nI i)] (xd_X5_isThere d I L (nI i)) rfl rfl rfl (Or.inr ⟨_, _, rfl⟩) (Nat.le_of_ble_eq_true rfl) ?_
  refine xK.ifI rfl (fun h9 => absurd h9 h2) (fun _ => ?_)
  refine xK.run (q := (19, [(0, xm_r 5 0), (1, xm_i (nI j)), (2, xm_i (nI i)), (3, xm_i 10)], [xm_i (nI i), xm_i (nI j), xm_r 5 0], xh_M I L, 0, 0)) 2 rfl ?_
  refine xK.icmp rfl (fun h9 => absurd h9 hne2) (fun _ => ?_)
  refine xK.run (q := (23, [(0, xm_r 5 0), (1, xm_i (nI j)), (2, xm_i (nI i)), (3, xm_i 10)], [xm_i 10, xm_r 5 0], xh_M I L, 0, 0)) 1 rfl ?_
  refine xK.ifI rfl (fun h9 => absurd h9 (by decide)) (fun _ => ?_)
  refine xK.run (q := (29, [(0, xm_r 5 0), (1, xm_i (nI j)), (2, xm_i (nI i)), (3, xm_i 10)], [xm_i 10, xm_i 10, xm_r 5 0], xh_M I L, 0, 0)) 2 rfl ?_
  refine xK.icmp rfl (fun _ => ?_) (fun h9 => absurd (by decide) h9)
  refine xK.run (q := (44, [(0, xm_r 5 0), (1, xm_i (nI j)), (2, xm_i (nI i)), (3, xm_i 10)], [xm_i 0], xh_M (xm_up I 5 0 0 0) L, 0, 0)) 4 rfl ?_
  refine xK.ifI rfl (fun _ => ?_) (fun h9 => absurd (by decide) h9)
  refine xK.run (q := (52, [(0, xm_r 5 0), (1, xm_i (nI j)), (2, xm_i (nI i)), (3, xm_i 10)], [xm_i (nI i), xm_i (nI j), xm_r 5 0], xh_M (xm_up I 5 0 0 0) L, 0, 0)) 3 rfl ?_
  refine xK.call [xm_r 5 0, xm_i (nI j), xm_i (nI i)] (xd_X5_lookR (d + 1) (xm_up I 5 0 0 0) L i hi j hj hle1 (xh_hd (fun i hi => hs.1 i hi) hi hj)) rfl rfl rfl (Or.inr ⟨_, _, rfl⟩) (Nat.le_of_ble_eq_true rfl) ?_
  refine xK.run (q := (57, [(0, xm_r 5 0), (1, xm_i (nI j)), (2, xm_i (nI i)), (3, xm_i 10)], [xm_i (nI i), xm_i (nI j)], xh_M (xfI_X5_lookR (xm_up I 5 0 0 0) L i j) (xfL_X5_lookR (xm_up I 5 0 0 0) L i j), 0, 0)) 2 rfl ?_
  refine xK.call [xm_i (nI j), xm_i (nI i)] (xd_X5_pairOf (d + 1) (xfI_X5_lookR (xm_up I 5 0 0 0) L i j) (xfL_X5_lookR (xm_up I 5 0 0 0) L i j) (nI j) (nI i)) rfl rfl rfl (Or.inl rfl) (Nat.le_of_ble_eq_true rfl) ?_
  refine xK.run (q := (303, [(0, xm_r 5 0), (1, xm_i (nI j)), (2, xm_i (nI i)), (3, xm_i 10), (4, xm_i (xf_X5_pairOf (nI j) (nI i)))], [xm_i (xf_X5_pairOf (nI j) (nI i)), xm_r 16 0], xh_M (xfI_X5_lookR (xm_up I 5 0 0 0) L i j) (xfL_X5_lookR (xm_up I 5 0 0 0) L i j), 0, 0)) 6 rfl ?_
  refine xK.iald' rfl rfl (xh_p6_ix hj hi) ?_
  exact xK.ret rfl ⟨_, rfl, rfl⟩
