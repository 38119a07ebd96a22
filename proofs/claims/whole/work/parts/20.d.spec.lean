/-! WHAT METHODS COMPUTE (by program) -/
set_option linter.unusedVariables false in
def xfI_X1_review (I : xh_I) (L : xh_L) (k : Nat) : xh_I := if (I 1 9 k) = 0 then (if (xf_X1_alerts I L k) = 0 then I else (xm_up (xfI_X1_takeSense (xm_up I 1 9 k 1) L k (xf_X1_chosenSense (xm_up I 1 9 k 1) L k (xf_X1_timeLeft I L k)) (xf_X1_timeLeft I L k)) 3 0 0 (((xfI_X1_takeSense (xm_up I 1 9 k 1) L k (xf_X1_chosenSense (xm_up I 1 9 k 1) L k (xf_X1_timeLeft I L k)) (xf_X1_timeLeft I L k)) 3 0 0) + 1))) else (if (xf_X1_alerts I L k) = 0 then (if (lg_cmp (xf_X1_closing I L k) 0) < 0 then (if (xf_X1_mustTurn (xm_up I 1 7 k ((I 1 7 k) + 1)) L k (xf_X1_timeLeft I L k)) = 0 then (xfI_X1_strengthen (xm_up I 1 7 k ((I 1 7 k) + 1)) L k (xf_X1_timeLeft I L k)) else (if (I 1 6 k) = 0 then (xm_up (xm_up (xfI_X1_takeSense (xm_up I 1 7 k ((I 1 7 k) + 1)) L k 1 (xf_X1_timeLeft I L k)) 1 8 k 1) 3 1 0 (((xfI_X1_takeSense (xm_up I 1 7 k ((I 1 7 k) + 1)) L k 1 (xf_X1_timeLeft I L k)) 3 1 0) + 1)) else (xm_up (xm_up (xfI_X1_takeSense (xm_up I 1 7 k ((I 1 7 k) + 1)) L k 0 (xf_X1_timeLeft I L k)) 1 8 k 1) 3 1 0 (((xfI_X1_takeSense (xm_up I 1 7 k ((I 1 7 k) + 1)) L k 0 (xf_X1_timeLeft I L k)) 3 1 0) + 1)))) else (xm_up (xfI_X1_dropAdvice I L k) 3 3 0 (((xfI_X1_dropAdvice I L k) 3 3 0) + 1))) else (if (xf_X1_mustTurn (xm_up I 1 7 k ((I 1 7 k) + 1)) L k (xf_X1_timeLeft I L k)) = 0 then (xfI_X1_strengthen (xm_up I 1 7 k ((I 1 7 k) + 1)) L k (xf_X1_timeLeft I L k)) else (if (I 1 6 k) = 0 then (xm_up (xm_up (xfI_X1_takeSense (xm_up I 1 7 k ((I 1 7 k) + 1)) L k 1 (xf_X1_timeLeft I L k)) 1 8 k 1) 3 1 0 (((xfI_X1_takeSense (xm_up I 1 7 k ((I 1 7 k) + 1)) L k 1 (xf_X1_timeLeft I L k)) 3 1 0) + 1)) else (xm_up (xm_up (xfI_X1_takeSense (xm_up I 1 7 k ((I 1 7 k) + 1)) L k 0 (xf_X1_timeLeft I L k)) 1 8 k 1) 3 1 0 (((xfI_X1_takeSense (xm_up I 1 7 k ((I 1 7 k) + 1)) L k 0 (xf_X1_timeLeft I L k)) 3 1 0) + 1)))))
set_option maxHeartbeats 4000000 in
set_option maxRecDepth 100000 in
theorem xd_X1_review (d : Nat) (I : xh_I) (L : xh_L) (k : Nat) (hf : ¬ I 1 9 k = 0 → I 1 10 k = 1 ∨ I 1 10 k = 2 ∨ I 1 10 k = 3 ∨ I 1 10 k = 4) : xm_Do xp_pg (d + 5) 21 [xm_r 1 k] (xh_M I L) none (xh_M (xfI_X1_review I L k) L) 0 0 := by
  refine xK.of (Nat.le_of_ble_eq_true rfl) rfl ?_
  refine xK.run (q := (1, [(0, xm_r 1 k)], [xm_r 1 k], xh_M I L, 0, 0)) 1 rfl ?_
  refine xK.call [xm_r 1 k] (xd_X1_alerts d I L k) rfl rfl rfl (Or.inr ⟨_, _, rfl⟩) (Nat.le_of_ble_eq_true rfl) ?_
  refine xK.run (q := (6, [(0, xm_r 1 k), (1, xm_i (xf_X1_alerts I L k))], [xm_r 1 k], xh_M I L, 0, 0)) 2 rfl ?_
  refine xK.call [xm_r 1 k] (xd_X1_timeLeft (d + 2) I L k) rfl rfl rfl (Or.inr ⟨_, _, rfl⟩) (Nat.le_of_ble_eq_true rfl) ?_
  refine xK.run (q := (14, [(0, xm_r 1 k), (1, xm_i (xf_X1_alerts I L k)), (2, xm_i (xf_X1_timeLeft I L k))], [xm_i (I 1 9 k)], xh_M I L, 0, 0)) 3 rfl ?_
  refine xK.ifN rfl (fun h1 => ?_) (fun h1 => ?_)
  · skip
    refine xK.run (q := (18, [(0, xm_r 1 k), (1, xm_i (xf_X1_alerts I L k)), (2, xm_i (xf_X1_timeLeft I L k))], [xm_i (xf_X1_alerts I L k)], xh_M I L, 0, 0)) 1 rfl ?_
    refine xK.ifI rfl (fun h2 => ?_) (fun h2 => ?_)
    · skip
      rw [show xfI_X1_review I L k = I from by unfold xfI_X1_review; rw [if_pos h1, if_pos h2]]
      exact xK.ret rfl ⟨rfl, rfl⟩
    · skip
      refine xK.run (q := (23, [(0, xm_r 1 k), (1, xm_i (xf_X1_alerts I L k)), (2, xm_i (xf_X1_timeLeft I L k))], [xm_i 1, xm_r 1 k], xh_M I L, 0, 0)) 2 rfl ?_
      refine xK.putZ rfl (Or.inr rfl) ?_
      refine xK.run (q := (29, [(0, xm_r 1 k), (1, xm_i (xf_X1_alerts I L k)), (2, xm_i (xf_X1_timeLeft I L k))], [xm_i (xf_X1_timeLeft I L k), xm_r 1 k, xm_r 1 k], xh_M (xm_up I 1 9 k 1) L, 0, 0)) 3 rfl ?_
      refine xK.call [xm_r 1 k, xm_i (xf_X1_timeLeft I L k)] (xd_X1_chosenSense d (xm_up I 1 9 k 1) L k (xf_X1_timeLeft I L k)) rfl rfl rfl (Or.inr ⟨_, _, rfl⟩) (Nat.le_of_ble_eq_true rfl) ?_
      refine xK.run (q := (33, [(0, xm_r 1 k), (1, xm_i (xf_X1_alerts I L k)), (2, xm_i (xf_X1_timeLeft I L k))], [xm_i (xf_X1_timeLeft I L k), xm_i (xf_X1_chosenSense (xm_up I 1 9 k 1) L k (xf_X1_timeLeft I L k)), xm_r 1 k], xh_M (xm_up I 1 9 k 1) L, 0, 0)) 1 rfl ?_
      refine xK.call [xm_r 1 k, xm_i (xf_X1_chosenSense (xm_up I 1 9 k 1) L k (xf_X1_timeLeft I L k)), xm_i (xf_X1_timeLeft I L k)] (xd_X1_takeSense d (xm_up I 1 9 k 1) L k (xf_X1_chosenSense (xm_up I 1 9 k 1) L k (xf_X1_timeLeft I L k)) (xz_X1_chosenSense (xm_up I 1 9 k 1) L k (xf_X1_timeLeft I L k)) (xf_X1_timeLeft I L k)) rfl rfl rfl (Or.inr ⟨_, _, rfl⟩) (Nat.le_of_ble_eq_true rfl) ?_
      refine xK.run (q := (146, [(0, xm_r 1 k), (1, xm_i (xf_X1_alerts I L k)), (2, xm_i (xf_X1_timeLeft I L k))], [], xh_M (xm_up (xfI_X1_takeSense (xm_up I 1 9 k 1) L k (xf_X1_chosenSense (xm_up I 1 9 k 1) L k (xf_X1_timeLeft I L k)) (xf_X1_timeLeft I L k)) 3 0 0 (((xfI_X1_takeSense (xm_up I 1 9 k 1) L k (xf_X1_chosenSense (xm_up I 1 9 k 1) L k (xf_X1_timeLeft I L k)) (xf_X1_timeLeft I L k)) 3 0 0) + 1)) L, 0, 0)) 8 rfl ?_
      rw [show xfI_X1_review I L k = (xm_up (xfI_X1_takeSense (xm_up I 1 9 k 1) L k (xf_X1_chosenSense (xm_up I 1 9 k 1) L k (xf_X1_timeLeft I L k)) (xf_X1_timeLeft I L k)) 3 0 0 (((xfI_X1_takeSense (xm_up I 1 9 k 1) L k (xf_X1_chosenSense (xm_up I 1 9 k 1) L k (xf_X1_timeLeft I L k)) (xf_X1_timeLeft I L k)) 3 0 0) + 1)) from by unfold xfI_X1_review; rw [if_pos h1, if_neg h2]]
      exact xK.ret rfl ⟨rfl, rfl⟩
  · skip
    refine xK.run (q := (53, [(0, xm_r 1 k), (1, xm_i (xf_X1_alerts I L k)), (2, xm_i (xf_X1_timeLeft I L k))], [xm_i (xf_X1_alerts I L k)], xh_M I L, 0, 0)) 1 rfl ?_
    refine xK.ifN rfl (fun h3 => ?_) (fun h3 => ?_)
    · skip
      refine xK.run (q := (57, [(0, xm_r 1 k), (1, xm_i (xf_X1_alerts I L k)), (2, xm_i (xf_X1_timeLeft I L k))], [xm_r 1 k], xh_M I L, 0, 0)) 1 rfl ?_
      refine xK.call [xm_r 1 k] (xd_X1_closing (d + 3) I L k) rfl rfl rfl (Or.inr ⟨_, _, rfl⟩) (Nat.le_of_ble_eq_true rfl) ?_
      refine xK.run (q := (62, [(0, xm_r 1 k), (1, xm_i (xf_X1_alerts I L k)), (2, xm_i (xf_X1_timeLeft I L k))], [xm_i (lg_cmp (xf_X1_closing I L k) 0)], xh_M I L, 0, 0)) 2 rfl ?_
      refine xK.ifI rfl (fun h4 => ?_) (fun h4 => ?_)
      · skip
        refine xK.run (q := (97, [(0, xm_r 1 k), (1, xm_i (xf_X1_alerts I L k)), (2, xm_i (xf_X1_timeLeft I L k))], [xm_i (xf_X1_timeLeft I L k), xm_r 1 k], xh_M (xm_up I 1 7 k ((I 1 7 k) + 1)) L, 0, 0)) 8 rfl ?_
        refine xK.call [xm_r 1 k, xm_i (xf_X1_timeLeft I L k)] (xd_X1_mustTurn (d + 1) (xm_up I 1 7 k ((I 1 7 k) + 1)) L k (xf_X1_timeLeft I L k)) rfl rfl rfl (Or.inr ⟨_, _, rfl⟩) (Nat.le_of_ble_eq_true rfl) ?_
        refine xK.ifI rfl (fun h5 => ?_) (fun h5 => ?_)
        · skip
          refine xK.run (q := (143, [(0, xm_r 1 k), (1, xm_i (xf_X1_alerts I L k)), (2, xm_i (xf_X1_timeLeft I L k))], [xm_i (xf_X1_timeLeft I L k), xm_r 1 k], xh_M (xm_up I 1 7 k ((I 1 7 k) + 1)) L, 0, 0)) 2 rfl ?_
          refine xK.call [xm_r 1 k, xm_i (xf_X1_timeLeft I L k)] (xd_X1_strengthen d (xm_up I 1 7 k ((I 1 7 k) + 1)) L k (xf_X1_timeLeft I L k) (hf h1)) rfl rfl rfl (Or.inr ⟨_, _, rfl⟩) (Nat.le_of_ble_eq_true rfl) ?_
          rw [show xfI_X1_review I L k = (xfI_X1_strengthen (xm_up I 1 7 k ((I 1 7 k) + 1)) L k (xf_X1_timeLeft I L k)) from by unfold xfI_X1_review; rw [if_neg h1, if_pos h3, if_pos h4, if_pos h5]]
          exact xK.ret rfl ⟨rfl, rfl⟩
        · skip
          refine xK.run (q := (108, [(0, xm_r 1 k), (1, xm_i (xf_X1_alerts I L k)), (2, xm_i (xf_X1_timeLeft I L k))], [xm_i (I 1 6 k), xm_r 1 k], xh_M (xm_up I 1 7 k ((I 1 7 k) + 1)) L, 0, 0)) 3 rfl ?_
          refine xK.ifN rfl (fun h6 => ?_) (fun h6 => ?_)
          · skip
            refine xK.run (q := (117, [(0, xm_r 1 k), (1, xm_i (xf_X1_alerts I L k)), (2, xm_i (xf_X1_timeLeft I L k))], [xm_i (xf_X1_timeLeft I L k), xm_i 1, xm_r 1 k], xh_M (xm_up I 1 7 k ((I 1 7 k) + 1)) L, 0, 0)) 3 rfl ?_
            refine xK.call [xm_r 1 k, xm_i 1, xm_i (xf_X1_timeLeft I L k)] (xd_X1_takeSense d (xm_up I 1 7 k ((I 1 7 k) + 1)) L k 1 (Or.inr rfl) (xf_X1_timeLeft I L k)) rfl rfl rfl (Or.inr ⟨_, _, rfl⟩) (Nat.le_of_ble_eq_true rfl) ?_
            refine xK.run (q := (122, [(0, xm_r 1 k), (1, xm_i (xf_X1_alerts I L k)), (2, xm_i (xf_X1_timeLeft I L k))], [xm_i 1, xm_r 1 k], xh_M (xfI_X1_takeSense (xm_up I 1 7 k ((I 1 7 k) + 1)) L k 1 (xf_X1_timeLeft I L k)) L, 0, 0)) 2 rfl ?_
            refine xK.putZ rfl (Or.inr rfl) ?_
            refine xK.run (q := (146, [(0, xm_r 1 k), (1, xm_i (xf_X1_alerts I L k)), (2, xm_i (xf_X1_timeLeft I L k))], [], xh_M (xm_up (xm_up (xfI_X1_takeSense (xm_up I 1 7 k ((I 1 7 k) + 1)) L k 1 (xf_X1_timeLeft I L k)) 1 8 k 1) 3 1 0 (((xfI_X1_takeSense (xm_up I 1 7 k ((I 1 7 k) + 1)) L k 1 (xf_X1_timeLeft I L k)) 3 1 0) + 1)) L, 0, 0)) 8 rfl ?_
            rw [show xfI_X1_review I L k = (xm_up (xm_up (xfI_X1_takeSense (xm_up I 1 7 k ((I 1 7 k) + 1)) L k 1 (xf_X1_timeLeft I L k)) 1 8 k 1) 3 1 0 (((xfI_X1_takeSense (xm_up I 1 7 k ((I 1 7 k) + 1)) L k 1 (xf_X1_timeLeft I L k)) 3 1 0) + 1)) from by unfold xfI_X1_review; rw [if_neg h1, if_pos h3, if_pos h4, if_neg h5, if_pos h6]]
            exact xK.ret rfl ⟨rfl, rfl⟩
          · skip
            refine xK.run (q := (117, [(0, xm_r 1 k), (1, xm_i (xf_X1_alerts I L k)), (2, xm_i (xf_X1_timeLeft I L k))], [xm_i (xf_X1_timeLeft I L k), xm_i 0, xm_r 1 k], xh_M (xm_up I 1 7 k ((I 1 7 k) + 1)) L, 0, 0)) 2 rfl ?_
            refine xK.call [xm_r 1 k, xm_i 0, xm_i (xf_X1_timeLeft I L k)] (xd_X1_takeSense d (xm_up I 1 7 k ((I 1 7 k) + 1)) L k 0 (Or.inl rfl) (xf_X1_timeLeft I L k)) rfl rfl rfl (Or.inr ⟨_, _, rfl⟩) (Nat.le_of_ble_eq_true rfl) ?_
            refine xK.run (q := (122, [(0, xm_r 1 k), (1, xm_i (xf_X1_alerts I L k)), (2, xm_i (xf_X1_timeLeft I L k))], [xm_i 1, xm_r 1 k], xh_M (xfI_X1_takeSense (xm_up I 1 7 k ((I 1 7 k) + 1)) L k 0 (xf_X1_timeLeft I L k)) L, 0, 0)) 2 rfl ?_
            refine xK.putZ rfl (Or.inr rfl) ?_
            refine xK.run (q := (146, [(0, xm_r 1 k), (1, xm_i (xf_X1_alerts I L k)), (2, xm_i (xf_X1_timeLeft I L k))], [], xh_M (xm_up (xm_up (xfI_X1_takeSense (xm_up I 1 7 k ((I 1 7 k) + 1)) L k 0 (xf_X1_timeLeft I L k)) 1 8 k 1) 3 1 0 (((xfI_X1_takeSense (xm_up I 1 7 k ((I 1 7 k) + 1)) L k 0 (xf_X1_timeLeft I L k)) 3 1 0) + 1)) L, 0, 0)) 8 rfl ?_
            rw [show xfI_X1_review I L k = (xm_up (xm_up (xfI_X1_takeSense (xm_up I 1 7 k ((I 1 7 k) + 1)) L k 0 (xf_X1_timeLeft I L k)) 1 8 k 1) 3 1 0 (((xfI_X1_takeSense (xm_up I 1 7 k ((I 1 7 k) + 1)) L k 0 (xf_X1_timeLeft I L k)) 3 1 0) + 1)) from by unfold xfI_X1_review; rw [if_neg h1, if_pos h3, if_pos h4, if_neg h5, if_neg h6]]
            exact xK.ret rfl ⟨rfl, rfl⟩
      · skip
        refine xK.run (q := (66, [(0, xm_r 1 k), (1, xm_i (xf_X1_alerts I L k)), (2, xm_i (xf_X1_timeLeft I L k))], [xm_r 1 k], xh_M I L, 0, 0)) 1 rfl ?_
        refine xK.call [xm_r 1 k] (xd_X1_dropAdvice (d + 3) I L k) rfl rfl rfl (Or.inr ⟨_, _, rfl⟩) (Nat.le_of_ble_eq_true rfl) ?_
        refine xK.run (q := (146, [(0, xm_r 1 k), (1, xm_i (xf_X1_alerts I L k)), (2, xm_i (xf_X1_timeLeft I L k))], [], xh_M (xm_up (xfI_X1_dropAdvice I L k) 3 3 0 (((xfI_X1_dropAdvice I L k) 3 3 0) + 1)) L, 0, 0)) 8 rfl ?_
        rw [show xfI_X1_review I L k = (xm_up (xfI_X1_dropAdvice I L k) 3 3 0 (((xfI_X1_dropAdvice I L k) 3 3 0) + 1)) from by unfold xfI_X1_review; rw [if_neg h1, if_pos h3, if_neg h4]]
        exact xK.ret rfl ⟨rfl, rfl⟩
    · skip
      refine xK.run (q := (97, [(0, xm_r 1 k), (1, xm_i (xf_X1_alerts I L k)), (2, xm_i (xf_X1_timeLeft I L k))], [xm_i (xf_X1_timeLeft I L k), xm_r 1 k], xh_M (xm_up I 1 7 k ((I 1 7 k) + 1)) L, 0, 0)) 8 rfl ?_
      refine xK.call [xm_r 1 k, xm_i (xf_X1_timeLeft I L k)] (xd_X1_mustTurn (d + 1) (xm_up I 1 7 k ((I 1 7 k) + 1)) L k (xf_X1_timeLeft I L k)) rfl rfl rfl (Or.inr ⟨_, _, rfl⟩) (Nat.le_of_ble_eq_true rfl) ?_
      refine xK.ifI rfl (fun h7 => ?_) (fun h7 => ?_)
      · skip
        refine xK.run (q := (143, [(0, xm_r 1 k), (1, xm_i (xf_X1_alerts I L k)), (2, xm_i (xf_X1_timeLeft I L k))], [xm_i (xf_X1_timeLeft I L k), xm_r 1 k], xh_M (xm_up I 1 7 k ((I 1 7 k) + 1)) L, 0, 0)) 2 rfl ?_
        refine xK.call [xm_r 1 k, xm_i (xf_X1_timeLeft I L k)] (xd_X1_strengthen d (xm_up I 1 7 k ((I 1 7 k) + 1)) L k (xf_X1_timeLeft I L k) (hf h1)) rfl rfl rfl (Or.inr ⟨_, _, rfl⟩) (Nat.le_of_ble_eq_true rfl) ?_
        rw [show xfI_X1_review I L k = (xfI_X1_strengthen (xm_up I 1 7 k ((I 1 7 k) + 1)) L k (xf_X1_timeLeft I L k)) from by unfold xfI_X1_review; rw [if_neg h1, if_neg h3, if_pos h7]]
        exact xK.ret rfl ⟨rfl, rfl⟩
      · skip
        refine xK.run (q := (108, [(0, xm_r 1 k), (1, xm_i (xf_X1_alerts I L k)), (2, xm_i (xf_X1_timeLeft I L k))], [xm_i (I 1 6 k), xm_r 1 k], xh_M (xm_up I 1 7 k ((I 1 7 k) + 1)) L, 0, 0)) 3 rfl ?_
        refine xK.ifN rfl (fun h8 => ?_) (fun h8 => ?_)
        · skip
          refine xK.run (q := (117, [(0, xm_r 1 k), (1, xm_i (xf_X1_alerts I L k)), (2, xm_i (xf_X1_timeLeft I L k))], [xm_i (xf_X1_timeLeft I L k), xm_i 1, xm_r 1 k], xh_M (xm_up I 1 7 k ((I 1 7 k) + 1)) L, 0, 0)) 3 rfl ?_
          refine xK.call [xm_r 1 k, xm_i 1, xm_i (xf_X1_timeLeft I L k)] (xd_X1_takeSense d (xm_up I 1 7 k ((I 1 7 k) + 1)) L k 1 (Or.inr rfl) (xf_X1_timeLeft I L k)) rfl rfl rfl (Or.inr ⟨_, _, rfl⟩) (Nat.le_of_ble_eq_true rfl) ?_
          refine xK.run (q := (122, [(0, xm_r 1 k), (1, xm_i (xf_X1_alerts I L k)), (2, xm_i (xf_X1_timeLeft I L k))], [xm_i 1, xm_r 1 k], xh_M (xfI_X1_takeSense (xm_up I 1 7 k ((I 1 7 k) + 1)) L k 1 (xf_X1_timeLeft I L k)) L, 0, 0)) 2 rfl ?_
          refine xK.putZ rfl (Or.inr rfl) ?_
          refine xK.run (q := (146, [(0, xm_r 1 k), (1, xm_i (xf_X1_alerts I L k)), (2, xm_i (xf_X1_timeLeft I L k))], [], xh_M (xm_up (xm_up (xfI_X1_takeSense (xm_up I 1 7 k ((I 1 7 k) + 1)) L k 1 (xf_X1_timeLeft I L k)) 1 8 k 1) 3 1 0 (((xfI_X1_takeSense (xm_up I 1 7 k ((I 1 7 k) + 1)) L k 1 (xf_X1_timeLeft I L k)) 3 1 0) + 1)) L, 0, 0)) 8 rfl ?_
          rw [show xfI_X1_review I L k = (xm_up (xm_up (xfI_X1_takeSense (xm_up I 1 7 k ((I 1 7 k) + 1)) L k 1 (xf_X1_timeLeft I L k)) 1 8 k 1) 3 1 0 (((xfI_X1_takeSense (xm_up I 1 7 k ((I 1 7 k) + 1)) L k 1 (xf_X1_timeLeft I L k)) 3 1 0) + 1)) from by unfold xfI_X1_review; rw [if_neg h1, if_neg h3, if_neg h7, if_pos h8]]
          exact xK.ret rfl ⟨rfl, rfl⟩
        · skip
          refine xK.run (q := (117, [(0, xm_r 1 k), (1, xm_i (xf_X1_alerts I L k)), (2, xm_i (xf_X1_timeLeft I L k))], [xm_i (xf_X1_timeLeft I L k), xm_i 0, xm_r 1 k], xh_M (xm_up I 1 7 k ((I 1 7 k) + 1)) L, 0, 0)) 2 rfl ?_
          refine xK.call [xm_r 1 k, xm_i 0, xm_i (xf_X1_timeLeft I L k)] (xd_X1_takeSense d (xm_up I 1 7 k ((I 1 7 k) + 1)) L k 0 (Or.inl rfl) (xf_X1_timeLeft I L k)) rfl rfl rfl (Or.inr ⟨_, _, rfl⟩) (Nat.le_of_ble_eq_true rfl) ?_
          refine xK.run (q := (122, [(0, xm_r 1 k), (1, xm_i (xf_X1_alerts I L k)), (2, xm_i (xf_X1_timeLeft I L k))], [xm_i 1, xm_r 1 k], xh_M (xfI_X1_takeSense (xm_up I 1 7 k ((I 1 7 k) + 1)) L k 0 (xf_X1_timeLeft I L k)) L, 0, 0)) 2 rfl ?_
          refine xK.putZ rfl (Or.inr rfl) ?_
          refine xK.run (q := (146, [(0, xm_r 1 k), (1, xm_i (xf_X1_alerts I L k)), (2, xm_i (xf_X1_timeLeft I L k))], [], xh_M (xm_up (xm_up (xfI_X1_takeSense (xm_up I 1 7 k ((I 1 7 k) + 1)) L k 0 (xf_X1_timeLeft I L k)) 1 8 k 1) 3 1 0 (((xfI_X1_takeSense (xm_up I 1 7 k ((I 1 7 k) + 1)) L k 0 (xf_X1_timeLeft I L k)) 3 1 0) + 1)) L, 0, 0)) 8 rfl ?_
          rw [show xfI_X1_review I L k = (xm_up (xm_up (xfI_X1_takeSense (xm_up I 1 7 k ((I 1 7 k) + 1)) L k 0 (xf_X1_timeLeft I L k)) 1 8 k 1) 3 1 0 (((xfI_X1_takeSense (xm_up I 1 7 k ((I 1 7 k) + 1)) L k 0 (xf_X1_timeLeft I L k)) 3 1 0) + 1)) from by unfold xfI_X1_review; rw [if_neg h1, if_neg h3, if_neg h7, if_neg h8]]
          exact xK.ret rfl ⟨rfl, rfl⟩
set_option linter.unusedVariables false in
def xf_X1_answer0 (I : xh_I) (L : xh_L) (k : Nat) (b : Int32) : Int32 := if (xf_X1_alerts I L k) = 0 then 0 else 1
set_option maxHeartbeats 4000000 in
set_option maxRecDepth 100000 in
theorem xd_X1_answer0 (d : Nat) (I : xh_I) (L : xh_L) (k : Nat) (b : Int32) : xm_Do xp_pg (d + 5) 25 [xm_r 1 k, xm_i 0, xm_i b] (xh_M I L) (some (xm_i (xf_X1_answer0 I L k b))) (xh_M I L) 0 0 := by
  refine xK.of (Nat.le_of_ble_eq_true rfl) rfl ?_
  refine xK.run (q := (57, [(0, xm_r 1 k), (1, xm_i 0), (2, xm_i b)], [xm_r 1 k], xh_M I L, 0, 0)) 3 rfl ?_
  refine xK.call [xm_r 1 k] (xd_X1_alerts d I L k) rfl rfl rfl (Or.inr ⟨_, _, rfl⟩) (Nat.le_of_ble_eq_true rfl) ?_
  refine xK.ifI rfl (fun h1 => ?_) (fun h1 => ?_)
  · skip
    refine xK.run (q := (68, [(0, xm_r 1 k), (1, xm_i 0), (2, xm_i b)], [xm_i 0], xh_M I L, 0, 0)) 1 rfl ?_
    rw [show xf_X1_answer0 I L k b = 0 from by unfold xf_X1_answer0; rw [if_pos h1]]
    exact xK.ret rfl ⟨_, rfl, rfl⟩
  · skip
    refine xK.run (q := (68, [(0, xm_r 1 k), (1, xm_i 0), (2, xm_i b)], [xm_i 1], xh_M I L, 0, 0)) 2 rfl ?_
    rw [show xf_X1_answer0 I L k b = 1 from by unfold xf_X1_answer0; rw [if_neg h1]]
    exact xK.ret rfl ⟨_, rfl, rfl⟩
set_option linter.unusedVariables false in
def xf_X1_answer1 (I : xh_I) (L : xh_L) (k : Nat) (b : Int32) : Int32 := xf_X1_timeLeft I L k
set_option maxHeartbeats 4000000 in
set_option maxRecDepth 100000 in
theorem xd_X1_answer1 (d : Nat) (I : xh_I) (L : xh_L) (k : Nat) (b : Int32) : xm_Do xp_pg (d + 3) 25 [xm_r 1 k, xm_i 1, xm_i b] (xh_M I L) (some (xm_i (xf_X1_answer1 I L k b))) (xh_M I L) 0 0 := by
  refine xK.of (Nat.le_of_ble_eq_true rfl) rfl ?_
  refine xK.run (q := (70, [(0, xm_r 1 k), (1, xm_i 1), (2, xm_i b)], [xm_r 1 k], xh_M I L, 0, 0)) 3 rfl ?_
  refine xK.call [xm_r 1 k] (xd_X1_timeLeft d I L k) rfl rfl rfl (Or.inr ⟨_, _, rfl⟩) (Nat.le_of_ble_eq_true rfl) ?_
  exact xK.ret rfl ⟨_, rfl, rfl⟩
set_option linter.unusedVariables false in
def xf_X1_answer2 (I : xh_I) (L : xh_L) (k : Nat) (b : Int32) : Int32 := if (I 1 9 k) = 0 then 0 else (xf_X1_senseFor I L (I 1 6 k) b)
set_option maxHeartbeats 4000000 in
set_option maxRecDepth 100000 in
theorem xd_X1_answer2 (d : Nat) (I : xh_I) (L : xh_L) (k : Nat) (b : Int32) : xm_Do xp_pg (d + 2) 25 [xm_r 1 k, xm_i 2, xm_i b] (xh_M I L) (some (xm_i (xf_X1_answer2 I L k b))) (xh_M I L) 0 0 := by
  refine xK.of (Nat.le_of_ble_eq_true rfl) rfl ?_
  refine xK.run (q := (78, [(0, xm_r 1 k), (1, xm_i 2), (2, xm_i b)], [xm_i (I 1 9 k)], xh_M I L, 0, 0)) 4 rfl ?_
  refine xK.ifI rfl (fun h1 => ?_) (fun h1 => ?_)
  · skip
    refine xK.run (q := (93, [(0, xm_r 1 k), (1, xm_i 2), (2, xm_i b)], [xm_i 0], xh_M I L, 0, 0)) 1 rfl ?_
    rw [show xf_X1_answer2 I L k b = 0 from by unfold xf_X1_answer2; rw [if_pos h1]]
    exact xK.ret rfl ⟨_, rfl, rfl⟩
  · skip
    refine xK.run (q := (86, [(0, xm_r 1 k), (1, xm_i 2), (2, xm_i b)], [xm_i b, xm_i (I 1 6 k)], xh_M I L, 0, 0)) 3 rfl ?_
    refine xK.call [xm_i (I 1 6 k), xm_i b] (xd_X1_senseFor d I L (I 1 6 k) b) rfl rfl rfl (Or.inl rfl) (Nat.le_of_ble_eq_true rfl) ?_
    refine xK.run (q := (93, [(0, xm_r 1 k), (1, xm_i 2), (2, xm_i b)], [xm_i (xf_X1_senseFor I L (I 1 6 k) b)], xh_M I L, 0, 0)) 1 rfl ?_
    rw [show xf_X1_answer2 I L k b = (xf_X1_senseFor I L (I 1 6 k) b) from by unfold xf_X1_answer2; rw [if_neg h1]]
    exact xK.ret rfl ⟨_, rfl, rfl⟩
set_option linter.unusedVariables false in
def xf_X1_answer3 (I : xh_I) (L : xh_L) (k : Nat) (b : Int32) : Int32 := I 1 10 k
set_option maxHeartbeats 4000000 in
set_option maxRecDepth 100000 in
theorem xd_X1_answer3 (d : Nat) (I : xh_I) (L : xh_L) (k : Nat) (b : Int32) : xm_Do xp_pg (d + 1) 25 [xm_r 1 k, xm_i 3, xm_i b] (xh_M I L) (some (xm_i (xf_X1_answer3 I L k b))) (xh_M I L) 0 0 := by
  refine xK.of (Nat.le_of_ble_eq_true rfl) rfl ?_
  refine xK.run (q := (98, [(0, xm_r 1 k), (1, xm_i 3), (2, xm_i b)], [xm_i (I 1 10 k)], xh_M I L, 0, 0)) 4 rfl ?_
  exact xK.ret rfl ⟨_, rfl, rfl⟩
set_option linter.unusedVariables false in
def xf_X1_answer4 (I : xh_I) (L : xh_L) (k : Nat) (b : Int32) : Int32 := I 1 7 k
set_option maxHeartbeats 4000000 in
set_option maxRecDepth 100000 in
theorem xd_X1_answer4 (d : Nat) (I : xh_I) (L : xh_L) (k : Nat) (b : Int32) : xm_Do xp_pg (d + 1) 25 [xm_r 1 k, xm_i 4, xm_i b] (xh_M I L) (some (xm_i (xf_X1_answer4 I L k b))) (xh_M I L) 0 0 := by
  refine xK.of (Nat.le_of_ble_eq_true rfl) rfl ?_
  refine xK.run (q := (103, [(0, xm_r 1 k), (1, xm_i 4), (2, xm_i b)], [xm_i (I 1 7 k)], xh_M I L, 0, 0)) 4 rfl ?_
  exact xK.ret rfl ⟨_, rfl, rfl⟩
set_option linter.unusedVariables false in
def xf_X1_answer5 (I : xh_I) (L : xh_L) (k : Nat) (b : Int32) : Int32 := if (I 1 8 k) = 0 then 0 else 1
set_option maxHeartbeats 4000000 in
set_option maxRecDepth 100000 in
theorem xd_X1_answer5 (d : Nat) (I : xh_I) (L : xh_L) (k : Nat) (b : Int32) : xm_Do xp_pg (d + 1) 25 [xm_r 1 k, xm_i 5, xm_i b] (xh_M I L) (some (xm_i (xf_X1_answer5 I L k b))) (xh_M I L) 0 0 := by
  refine xK.of (Nat.le_of_ble_eq_true rfl) rfl ?_
  refine xK.run (q := (108, [(0, xm_r 1 k), (1, xm_i 5), (2, xm_i b)], [xm_i (I 1 8 k)], xh_M I L, 0, 0)) 4 rfl ?_
  refine xK.ifI rfl (fun h1 => ?_) (fun h1 => ?_)
  · skip
    refine xK.run (q := (116, [(0, xm_r 1 k), (1, xm_i 5), (2, xm_i b)], [xm_i 0], xh_M I L, 0, 0)) 1 rfl ?_
    rw [show xf_X1_answer5 I L k b = 0 from by unfold xf_X1_answer5; rw [if_pos h1]]
    exact xK.ret rfl ⟨_, rfl, rfl⟩
  · skip
    refine xK.run (q := (116, [(0, xm_r 1 k), (1, xm_i 5), (2, xm_i b)], [xm_i 1], xh_M I L, 0, 0)) 2 rfl ?_
    rw [show xf_X1_answer5 I L k b = 1 from by unfold xf_X1_answer5; rw [if_neg h1]]
    exact xK.ret rfl ⟨_, rfl, rfl⟩
set_option linter.unusedVariables false in
def xf_X1_answer6 (I : xh_I) (L : xh_L) (k : Nat) (b : Int32) : Int32 := if (I 1 9 k) = 0 then 0 else (xf_X1_parting I L k (I 1 6 k) (I 1 10 k) (I 1 7 k) (xf_X1_timeLeft I L k))
set_option maxHeartbeats 4000000 in
set_option maxRecDepth 100000 in
theorem xd_X1_answer6 (d : Nat) (I : xh_I) (L : xh_L) (k : Nat) (b : Int32) : xm_Do xp_pg (d + 3) 25 [xm_r 1 k, xm_i 6, xm_i b] (xh_M I L) (some (xm_i (xf_X1_answer6 I L k b))) (xh_M I L) 0 0 := by
  refine xK.of (Nat.le_of_ble_eq_true rfl) rfl ?_
  refine xK.run (q := (121, [(0, xm_r 1 k), (1, xm_i 6), (2, xm_i b)], [xm_i (I 1 9 k)], xh_M I L, 0, 0)) 4 rfl ?_
  refine xK.ifI rfl (fun h1 => ?_) (fun h1 => ?_)
  · skip
    refine xK.run (q := (148, [(0, xm_r 1 k), (1, xm_i 6), (2, xm_i b)], [xm_i 0], xh_M I L, 0, 0)) 1 rfl ?_
    rw [show xf_X1_answer6 I L k b = 0 from by unfold xf_X1_answer6; rw [if_pos h1]]
    exact xK.ret rfl ⟨_, rfl, rfl⟩
  · skip
    refine xK.run (q := (138, [(0, xm_r 1 k), (1, xm_i 6), (2, xm_i b)], [xm_r 1 k, xm_i (I 1 7 k), xm_i (I 1 10 k), xm_i (I 1 6 k), xm_r 1 k], xh_M I L, 0, 0)) 8 rfl ?_
    refine xK.call [xm_r 1 k] (xd_X1_timeLeft d I L k) rfl rfl rfl (Or.inr ⟨_, _, rfl⟩) (Nat.le_of_ble_eq_true rfl) ?_
    refine xK.call [xm_r 1 k, xm_i (I 1 6 k), xm_i (I 1 10 k), xm_i (I 1 7 k), xm_i (xf_X1_timeLeft I L k)] (xd_X1_parting d I L k (I 1 6 k) (I 1 10 k) (I 1 7 k) (xf_X1_timeLeft I L k)) rfl rfl rfl (Or.inr ⟨_, _, rfl⟩) (Nat.le_of_ble_eq_true rfl) ?_
    refine xK.run (q := (148, [(0, xm_r 1 k), (1, xm_i 6), (2, xm_i b)], [xm_i (xf_X1_parting I L k (I 1 6 k) (I 1 10 k) (I 1 7 k) (xf_X1_timeLeft I L k))], xh_M I L, 0, 0)) 1 rfl ?_
    rw [show xf_X1_answer6 I L k b = (xf_X1_parting I L k (I 1 6 k) (I 1 10 k) (I 1 7 k) (xf_X1_timeLeft I L k)) from by unfold xf_X1_answer6; rw [if_neg h1]]
    exact xK.ret rfl ⟨_, rfl, rfl⟩
set_option linter.unusedVariables false in
def xf_X1_answer7 (I : xh_I) (L : xh_L) (k : Nat) (b : Int32) : Int32 := xf_X1_chosenParting I L k (xf_X1_timeLeft I L k)
set_option maxHeartbeats 4000000 in
set_option maxRecDepth 100000 in
theorem xd_X1_answer7 (d : Nat) (I : xh_I) (L : xh_L) (k : Nat) (b : Int32) : xm_Do xp_pg (d + 6) 25 [xm_r 1 k, xm_i 7, xm_i b] (xh_M I L) (some (xm_i (xf_X1_answer7 I L k b))) (xh_M I L) 0 0 := by
  refine xK.of (Nat.le_of_ble_eq_true rfl) rfl ?_
  refine xK.run (q := (151, [(0, xm_r 1 k), (1, xm_i 7), (2, xm_i b)], [xm_r 1 k, xm_r 1 k], xh_M I L, 0, 0)) 4 rfl ?_
  refine xK.call [xm_r 1 k] (xd_X1_timeLeft (d + 3) I L k) rfl rfl rfl (Or.inr ⟨_, _, rfl⟩) (Nat.le_of_ble_eq_true rfl) ?_
  refine xK.call [xm_r 1 k, xm_i (xf_X1_timeLeft I L k)] (xd_X1_chosenParting d I L k (xf_X1_timeLeft I L k)) rfl rfl rfl (Or.inr ⟨_, _, rfl⟩) (Nat.le_of_ble_eq_true rfl) ?_
  exact xK.ret rfl ⟨_, rfl, rfl⟩
set_option linter.unusedVariables false in
def xf_X1_answer8 (I : xh_I) (L : xh_L) (k : Nat) (b : Int32) : Int32 := xf_X1_senseFor I L (xf_X1_chosenSense I L k (xf_X1_timeLeft I L k)) b
set_option maxHeartbeats 4000000 in
set_option maxRecDepth 100000 in
theorem xd_X1_answer8 (d : Nat) (I : xh_I) (L : xh_L) (k : Nat) (b : Int32) : xm_Do xp_pg (d + 5) 25 [xm_r 1 k, xm_i 8, xm_i b] (xh_M I L) (some (xm_i (xf_X1_answer8 I L k b))) (xh_M I L) 0 0 := by
  refine xK.of (Nat.le_of_ble_eq_true rfl) rfl ?_
  refine xK.run (q := (160, [(0, xm_r 1 k), (1, xm_i 8), (2, xm_i b)], [xm_r 1 k, xm_r 1 k], xh_M I L, 0, 0)) 4 rfl ?_
  refine xK.call [xm_r 1 k] (xd_X1_timeLeft (d + 2) I L k) rfl rfl rfl (Or.inr ⟨_, _, rfl⟩) (Nat.le_of_ble_eq_true rfl) ?_
  refine xK.call [xm_r 1 k, xm_i (xf_X1_timeLeft I L k)] (xd_X1_chosenSense d I L k (xf_X1_timeLeft I L k)) rfl rfl rfl (Or.inr ⟨_, _, rfl⟩) (Nat.le_of_ble_eq_true rfl) ?_
  refine xK.run (q := (167, [(0, xm_r 1 k), (1, xm_i 8), (2, xm_i b)], [xm_i b, xm_i (xf_X1_chosenSense I L k (xf_X1_timeLeft I L k))], xh_M I L, 0, 0)) 1 rfl ?_
  refine xK.call [xm_i (xf_X1_chosenSense I L k (xf_X1_timeLeft I L k)), xm_i b] (xd_X1_senseFor (d + 3) I L (xf_X1_chosenSense I L k (xf_X1_timeLeft I L k)) b) rfl rfl rfl (Or.inl rfl) (Nat.le_of_ble_eq_true rfl) ?_
  exact xK.ret rfl ⟨_, rfl, rfl⟩
set_option linter.unusedVariables false in
def xf_X1_answer9 (I : xh_I) (L : xh_L) (k : Nat) (b : Int32) : Int32 := (xo_minL (L 1 4 k) 2147483647).toInt32
set_option maxHeartbeats 4000000 in
set_option maxRecDepth 100000 in
theorem xd_X1_answer9 (d : Nat) (I : xh_I) (L : xh_L) (k : Nat) (b : Int32) : xm_Do xp_pg (d + 1) 25 [xm_r 1 k, xm_i 9, xm_i b] (xh_M I L) (some (xm_i (xf_X1_answer9 I L k b))) (xh_M I L) 0 0 := by
  refine xK.of (Nat.le_of_ble_eq_true rfl) rfl ?_
  refine xK.run (q := (182, [(0, xm_r 1 k), (1, xm_i 9), (2, xm_i b)], [xm_i ((xo_minL (L 1 4 k) 2147483647).toInt32)], xh_M I L, 0, 0)) 7 rfl ?_
  exact xK.ret rfl ⟨_, rfl, rfl⟩
set_option linter.unusedVariables false in
def xf_X1_answer10 (I : xh_I) (L : xh_L) (k : Nat) (b : Int32) : Int32 := I 1 5 k
set_option maxHeartbeats 4000000 in
set_option maxRecDepth 100000 in
theorem xd_X1_answer10 (d : Nat) (I : xh_I) (L : xh_L) (k : Nat) (b : Int32) : xm_Do xp_pg (d + 1) 25 [xm_r 1 k, xm_i 10, xm_i b] (xh_M I L) (some (xm_i (xf_X1_answer10 I L k b))) (xh_M I L) 0 0 := by
  refine xK.of (Nat.le_of_ble_eq_true rfl) rfl ?_
  refine xK.run (q := (187, [(0, xm_r 1 k), (1, xm_i 10), (2, xm_i b)], [xm_i (I 1 5 k)], xh_M I L, 0, 0)) 4 rfl ?_
  exact xK.ret rfl ⟨_, rfl, rfl⟩
set_option linter.unusedVariables false in
def xf_X0_answer0 (I : xh_I) (L : xh_L) (i : Nat) : Int32 := I 0 2 i
set_option maxHeartbeats 4000000 in
set_option maxRecDepth 100000 in
theorem xd_X0_answer0 (d : Nat) (I : xh_I) (L : xh_L) (i : Nat) : xm_Do xp_pg (d + 1) 12 [xm_r 0 i, xm_i 0] (xh_M I L) (some (xm_i (xf_X0_answer0 I L i))) (xh_M I L) 0 0 := by
  refine xK.of (Nat.le_of_ble_eq_true rfl) rfl ?_
  refine xK.run (q := (44, [(0, xm_r 0 i), (1, xm_i 0)], [xm_i (I 0 2 i)], xh_M I L, 0, 0)) 4 rfl ?_
  exact xK.ret rfl ⟨_, rfl, rfl⟩
set_option linter.unusedVariables false in
def xf_X0_answer1 (I : xh_I) (L : xh_L) (i : Nat) : Int32 := I 0 3 i
set_option maxHeartbeats 4000000 in
set_option maxRecDepth 100000 in
theorem xd_X0_answer1 (d : Nat) (I : xh_I) (L : xh_L) (i : Nat) : xm_Do xp_pg (d + 1) 12 [xm_r 0 i, xm_i 1] (xh_M I L) (some (xm_i (xf_X0_answer1 I L i))) (xh_M I L) 0 0 := by
  refine xK.of (Nat.le_of_ble_eq_true rfl) rfl ?_
  refine xK.run (q := (49, [(0, xm_r 0 i), (1, xm_i 1)], [xm_i (I 0 3 i)], xh_M I L, 0, 0)) 4 rfl ?_
  exact xK.ret rfl ⟨_, rfl, rfl⟩
set_option linter.unusedVariables false in
def xf_X0_answer2 (I : xh_I) (L : xh_L) (i : Nat) : Int32 := I 0 4 i
set_option maxHeartbeats 4000000 in
set_option maxRecDepth 100000 in
theorem xd_X0_answer2 (d : Nat) (I : xh_I) (L : xh_L) (i : Nat) : xm_Do xp_pg (d + 1) 12 [xm_r 0 i, xm_i 2] (xh_M I L) (some (xm_i (xf_X0_answer2 I L i))) (xh_M I L) 0 0 := by
  refine xK.of (Nat.le_of_ble_eq_true rfl) rfl ?_
  refine xK.run (q := (54, [(0, xm_r 0 i), (1, xm_i 2)], [xm_i (I 0 4 i)], xh_M I L, 0, 0)) 4 rfl ?_
  exact xK.ret rfl ⟨_, rfl, rfl⟩
set_option linter.unusedVariables false in
def xf_X0_answer3 (I : xh_I) (L : xh_L) (i : Nat) : Int32 := I 0 5 i
set_option maxHeartbeats 4000000 in
set_option maxRecDepth 100000 in
theorem xd_X0_answer3 (d : Nat) (I : xh_I) (L : xh_L) (i : Nat) : xm_Do xp_pg (d + 1) 12 [xm_r 0 i, xm_i 3] (xh_M I L) (some (xm_i (xf_X0_answer3 I L i))) (xh_M I L) 0 0 := by
  refine xK.of (Nat.le_of_ble_eq_true rfl) rfl ?_
  refine xK.run (q := (59, [(0, xm_r 0 i), (1, xm_i 3)], [xm_i (I 0 5 i)], xh_M I L, 0, 0)) 4 rfl ?_
  exact xK.ret rfl ⟨_, rfl, rfl⟩
set_option linter.unusedVariables false in
def xf_X0_answer4 (I : xh_I) (L : xh_L) (i : Nat) : Int32 := I 0 6 i
set_option maxHeartbeats 4000000 in
set_option maxRecDepth 100000 in
theorem xd_X0_answer4 (d : Nat) (I : xh_I) (L : xh_L) (i : Nat) : xm_Do xp_pg (d + 1) 12 [xm_r 0 i, xm_i 4] (xh_M I L) (some (xm_i (xf_X0_answer4 I L i))) (xh_M I L) 0 0 := by
  refine xK.of (Nat.le_of_ble_eq_true rfl) rfl ?_
  refine xK.run (q := (64, [(0, xm_r 0 i), (1, xm_i 4)], [xm_i (I 0 6 i)], xh_M I L, 0, 0)) 4 rfl ?_
  exact xK.ret rfl ⟨_, rfl, rfl⟩
set_option linter.unusedVariables false in
def xf_X0_answer5 (I : xh_I) (L : xh_L) (i : Nat) : Int32 := I 0 7 i
set_option maxHeartbeats 4000000 in
set_option maxRecDepth 100000 in
theorem xd_X0_answer5 (d : Nat) (I : xh_I) (L : xh_L) (i : Nat) : xm_Do xp_pg (d + 1) 12 [xm_r 0 i, xm_i 5] (xh_M I L) (some (xm_i (xf_X0_answer5 I L i))) (xh_M I L) 0 0 := by
  refine xK.of (Nat.le_of_ble_eq_true rfl) rfl ?_
  refine xK.run (q := (69, [(0, xm_r 0 i), (1, xm_i 5)], [xm_i (I 0 7 i)], xh_M I L, 0, 0)) 4 rfl ?_
  exact xK.ret rfl ⟨_, rfl, rfl⟩
set_option linter.unusedVariables false in
def xf_X0_answer6 (I : xh_I) (L : xh_L) (i : Nat) : Int32 := if (I 0 1 i) = 0 then 0 else 1
set_option maxHeartbeats 4000000 in
set_option maxRecDepth 100000 in
theorem xd_X0_answer6 (d : Nat) (I : xh_I) (L : xh_L) (i : Nat) : xm_Do xp_pg (d + 1) 12 [xm_r 0 i, xm_i 6] (xh_M I L) (some (xm_i (xf_X0_answer6 I L i))) (xh_M I L) 0 0 := by
  refine xK.of (Nat.le_of_ble_eq_true rfl) rfl ?_
  refine xK.run (q := (74, [(0, xm_r 0 i), (1, xm_i 6)], [xm_i (I 0 1 i)], xh_M I L, 0, 0)) 4 rfl ?_
  refine xK.ifI rfl (fun h1 => ?_) (fun h1 => ?_)
  · skip
    refine xK.run (q := (82, [(0, xm_r 0 i), (1, xm_i 6)], [xm_i 0], xh_M I L, 0, 0)) 1 rfl ?_
    rw [show xf_X0_answer6 I L i = 0 from by unfold xf_X0_answer6; rw [if_pos h1]]
    exact xK.ret rfl ⟨_, rfl, rfl⟩
  · skip
    refine xK.run (q := (82, [(0, xm_r 0 i), (1, xm_i 6)], [xm_i 1], xh_M I L, 0, 0)) 2 rfl ?_
    rw [show xf_X0_answer6 I L i = 1 from by unfold xf_X0_answer6; rw [if_neg h1]]
    exact xK.ret rfl ⟨_, rfl, rfl⟩
set_option linter.unusedVariables false in
def xf_X3_answer0 (I : xh_I) (L : xh_L)  : Int32 := I 3 0 0
set_option maxHeartbeats 4000000 in
set_option maxRecDepth 100000 in
theorem xd_X3_answer0 (d : Nat) (I : xh_I) (L : xh_L) : xm_Do xp_pg (d + 1) 52 [xm_r 3 0, xm_i 0] (xh_M I L) (some (xm_i (xf_X3_answer0 I L))) (xh_M I L) 0 0 := by
  refine xK.of (Nat.le_of_ble_eq_true rfl) rfl ?_
  refine xK.run (q := (36, [(0, xm_r 3 0), (1, xm_i 0)], [xm_i (I 3 0 0)], xh_M I L, 0, 0)) 4 rfl ?_
  exact xK.ret rfl ⟨_, rfl, rfl⟩
set_option linter.unusedVariables false in
def xf_X3_answer1 (I : xh_I) (L : xh_L)  : Int32 := I 3 1 0
set_option maxHeartbeats 4000000 in
set_option maxRecDepth 100000 in
theorem xd_X3_answer1 (d : Nat) (I : xh_I) (L : xh_L) : xm_Do xp_pg (d + 1) 52 [xm_r 3 0, xm_i 1] (xh_M I L) (some (xm_i (xf_X3_answer1 I L))) (xh_M I L) 0 0 := by
  refine xK.of (Nat.le_of_ble_eq_true rfl) rfl ?_
  refine xK.run (q := (41, [(0, xm_r 3 0), (1, xm_i 1)], [xm_i (I 3 1 0)], xh_M I L, 0, 0)) 4 rfl ?_
  exact xK.ret rfl ⟨_, rfl, rfl⟩
set_option linter.unusedVariables false in
def xf_X3_answer2 (I : xh_I) (L : xh_L)  : Int32 := I 3 2 0
set_option maxHeartbeats 4000000 in
set_option maxRecDepth 100000 in
theorem xd_X3_answer2 (d : Nat) (I : xh_I) (L : xh_L) : xm_Do xp_pg (d + 1) 52 [xm_r 3 0, xm_i 2] (xh_M I L) (some (xm_i (xf_X3_answer2 I L))) (xh_M I L) 0 0 := by
  refine xK.of (Nat.le_of_ble_eq_true rfl) rfl ?_
  refine xK.run (q := (46, [(0, xm_r 3 0), (1, xm_i 2)], [xm_i (I 3 2 0)], xh_M I L, 0, 0)) 4 rfl ?_
  exact xK.ret rfl ⟨_, rfl, rfl⟩
set_option linter.unusedVariables false in
def xf_X3_answer3 (I : xh_I) (L : xh_L)  : Int32 := I 3 3 0
set_option maxHeartbeats 4000000 in
set_option maxRecDepth 100000 in
theorem xd_X3_answer3 (d : Nat) (I : xh_I) (L : xh_L) : xm_Do xp_pg (d + 1) 52 [xm_r 3 0, xm_i 3] (xh_M I L) (some (xm_i (xf_X3_answer3 I L))) (xh_M I L) 0 0 := by
  refine xK.of (Nat.le_of_ble_eq_true rfl) rfl ?_
  refine xK.run (q := (51, [(0, xm_r 3 0), (1, xm_i 3)], [xm_i (I 3 3 0)], xh_M I L, 0, 0)) 4 rfl ?_
  exact xK.ret rfl ⟨_, rfl, rfl⟩
set_option linter.unusedVariables false in
def xf_X3_answer4 (I : xh_I) (L : xh_L)  : Int32 := I 3 4 0
set_option maxHeartbeats 4000000 in
set_option maxRecDepth 100000 in
theorem xd_X3_answer4 (d : Nat) (I : xh_I) (L : xh_L) : xm_Do xp_pg (d + 1) 52 [xm_r 3 0, xm_i 4] (xh_M I L) (some (xm_i (xf_X3_answer4 I L))) (xh_M I L) 0 0 := by
  refine xK.of (Nat.le_of_ble_eq_true rfl) rfl ?_
  refine xK.run (q := (56, [(0, xm_r 3 0), (1, xm_i 4)], [xm_i (I 3 4 0)], xh_M I L, 0, 0)) 4 rfl ?_
  exact xK.ret rfl ⟨_, rfl, rfl⟩
set_option linter.unusedVariables false in
def xf_X1_answer (I : xh_I) (L : xh_L) (k : Nat) (b : Int32) (a : Int32) : Int32 := if a = 0 then xf_X1_answer0 I L k b else (if a = 1 then xf_X1_answer1 I L k b else (if a = 2 then xf_X1_answer2 I L k b else (if a = 3 then xf_X1_answer3 I L k b else (if a = 4 then xf_X1_answer4 I L k b else (if a = 5 then xf_X1_answer5 I L k b else (if a = 6 then xf_X1_answer6 I L k b else (if a = 7 then xf_X1_answer7 I L k b else (if a = 8 then xf_X1_answer8 I L k b else (if a = 9 then xf_X1_answer9 I L k b else (xf_X1_answer10 I L k b))))))))))
theorem xd_X1_answer (d : Nat) (I : xh_I) (L : xh_L) (k : Nat) (b : Int32) (a : Int32) (hc : a = 0 ∨ a = 1 ∨ a = 2 ∨ a = 3 ∨ a = 4 ∨ a = 5 ∨ a = 6 ∨ a = 7 ∨ a = 8 ∨ a = 9 ∨ a = 10) : xm_Do xp_pg (d + 6) 25 [xm_r 1 k, xm_i a, xm_i b] (xh_M I L) (some (xm_i (xf_X1_answer I L k b a))) (xh_M I L) 0 0 := by
  rcases hc with rfl | rfl | rfl | rfl | rfl | rfl | rfl | rfl | rfl | rfl | rfl
  · rw [show xf_X1_answer I L k b 0 = xf_X1_answer0 I L k b from by unfold xf_X1_answer; rw [if_pos rfl]]
    exact xd_X1_answer0 (d + 1) I L k b
  · rw [show xf_X1_answer I L k b 1 = xf_X1_answer1 I L k b from by unfold xf_X1_answer; rw [if_neg (by decide), if_pos rfl]]
    exact xd_X1_answer1 (d + 3) I L k b
  · rw [show xf_X1_answer I L k b 2 = xf_X1_answer2 I L k b from by unfold xf_X1_answer; rw [if_neg (by decide), if_neg (by decide), if_pos rfl]]
    exact xd_X1_answer2 (d + 4) I L k b
  · rw [show xf_X1_answer I L k b 3 = xf_X1_answer3 I L k b from by unfold xf_X1_answer; rw [if_neg (by decide), if_neg (by decide), if_neg (by decide), if_pos rfl]]
    exact xd_X1_answer3 (d + 5) I L k b
  · rw [show xf_X1_answer I L k b 4 = xf_X1_answer4 I L k b from by unfold xf_X1_answer; rw [if_neg (by decide), if_neg (by decide), if_neg (by decide), if_neg (by decide), if_pos rfl]]
    exact xd_X1_answer4 (d + 5) I L k b
  · rw [show xf_X1_answer I L k b 5 = xf_X1_answer5 I L k b from by unfold xf_X1_answer; rw [if_neg (by decide), if_neg (by decide), if_neg (by decide), if_neg (by decide), if_neg (by decide), if_pos rfl]]
    exact xd_X1_answer5 (d + 5) I L k b
  · rw [show xf_X1_answer I L k b 6 = xf_X1_answer6 I L k b from by unfold xf_X1_answer; rw [if_neg (by decide), if_neg (by decide), if_neg (by decide), if_neg (by decide), if_neg (by decide), if_neg (by decide), if_pos rfl]]
    exact xd_X1_answer6 (d + 3) I L k b
  · rw [show xf_X1_answer I L k b 7 = xf_X1_answer7 I L k b from by unfold xf_X1_answer; rw [if_neg (by decide), if_neg (by decide), if_neg (by decide), if_neg (by decide), if_neg (by decide), if_neg (by decide), if_neg (by decide), if_pos rfl]]
    exact xd_X1_answer7 d I L k b
  · rw [show xf_X1_answer I L k b 8 = xf_X1_answer8 I L k b from by unfold xf_X1_answer; rw [if_neg (by decide), if_neg (by decide), if_neg (by decide), if_neg (by decide), if_neg (by decide), if_neg (by decide), if_neg (by decide), if_neg (by decide), if_pos rfl]]
    exact xd_X1_answer8 (d + 1) I L k b
  · rw [show xf_X1_answer I L k b 9 = xf_X1_answer9 I L k b from by unfold xf_X1_answer; rw [if_neg (by decide), if_neg (by decide), if_neg (by decide), if_neg (by decide), if_neg (by decide), if_neg (by decide), if_neg (by decide), if_neg (by decide), if_neg (by decide), if_pos rfl]]
    exact xd_X1_answer9 (d + 5) I L k b
  · rw [show xf_X1_answer I L k b 10 = xf_X1_answer10 I L k b from by unfold xf_X1_answer; rw [if_neg (by decide), if_neg (by decide), if_neg (by decide), if_neg (by decide), if_neg (by decide), if_neg (by decide), if_neg (by decide), if_neg (by decide), if_neg (by decide), if_neg (by decide)]]
    exact xd_X1_answer10 (d + 5) I L k b
set_option linter.unusedVariables false in
def xf_X0_answer (I : xh_I) (L : xh_L) (i : Nat) (a : Int32) : Int32 := if a = 0 then xf_X0_answer0 I L i else (if a = 1 then xf_X0_answer1 I L i else (if a = 2 then xf_X0_answer2 I L i else (if a = 3 then xf_X0_answer3 I L i else (if a = 4 then xf_X0_answer4 I L i else (if a = 5 then xf_X0_answer5 I L i else (xf_X0_answer6 I L i))))))
theorem xd_X0_answer (d : Nat) (I : xh_I) (L : xh_L) (i : Nat) (a : Int32) (hc : a = 0 ∨ a = 1 ∨ a = 2 ∨ a = 3 ∨ a = 4 ∨ a = 5 ∨ a = 6) : xm_Do xp_pg (d + 1) 12 [xm_r 0 i, xm_i a] (xh_M I L) (some (xm_i (xf_X0_answer I L i a))) (xh_M I L) 0 0 := by
  rcases hc with rfl | rfl | rfl | rfl | rfl | rfl | rfl
  · rw [show xf_X0_answer I L i 0 = xf_X0_answer0 I L i from by unfold xf_X0_answer; rw [if_pos rfl]]
    exact xd_X0_answer0 d I L i
  · rw [show xf_X0_answer I L i 1 = xf_X0_answer1 I L i from by unfold xf_X0_answer; rw [if_neg (by decide), if_pos rfl]]
    exact xd_X0_answer1 d I L i
  · rw [show xf_X0_answer I L i 2 = xf_X0_answer2 I L i from by unfold xf_X0_answer; rw [if_neg (by decide), if_neg (by decide), if_pos rfl]]
    exact xd_X0_answer2 d I L i
  · rw [show xf_X0_answer I L i 3 = xf_X0_answer3 I L i from by unfold xf_X0_answer; rw [if_neg (by decide), if_neg (by decide), if_neg (by decide), if_pos rfl]]
    exact xd_X0_answer3 d I L i
  · rw [show xf_X0_answer I L i 4 = xf_X0_answer4 I L i from by unfold xf_X0_answer; rw [if_neg (by decide), if_neg (by decide), if_neg (by decide), if_neg (by decide), if_pos rfl]]
    exact xd_X0_answer4 d I L i
  · rw [show xf_X0_answer I L i 5 = xf_X0_answer5 I L i from by unfold xf_X0_answer; rw [if_neg (by decide), if_neg (by decide), if_neg (by decide), if_neg (by decide), if_neg (by decide), if_pos rfl]]
    exact xd_X0_answer5 d I L i
  · rw [show xf_X0_answer I L i 6 = xf_X0_answer6 I L i from by unfold xf_X0_answer; rw [if_neg (by decide), if_neg (by decide), if_neg (by decide), if_neg (by decide), if_neg (by decide), if_neg (by decide)]]
    exact xd_X0_answer6 d I L i
set_option linter.unusedVariables false in
def xf_X3_answer (I : xh_I) (L : xh_L)  (a : Int32) : Int32 := if a = 0 then xf_X3_answer0 I L  else (if a = 1 then xf_X3_answer1 I L  else (if a = 2 then xf_X3_answer2 I L  else (if a = 3 then xf_X3_answer3 I L  else (xf_X3_answer4 I L ))))
theorem xd_X3_answer (d : Nat) (I : xh_I) (L : xh_L)  (a : Int32) (hc : a = 0 ∨ a = 1 ∨ a = 2 ∨ a = 3 ∨ a = 4) : xm_Do xp_pg (d + 1) 52 [xm_r 3 0, xm_i a] (xh_M I L) (some (xm_i (xf_X3_answer I L  a))) (xh_M I L) 0 0 := by
  rcases hc with rfl | rfl | rfl | rfl | rfl
  · rw [show xf_X3_answer I L  0 = xf_X3_answer0 I L  from by unfold xf_X3_answer; rw [if_pos rfl]]
    exact xd_X3_answer0 d I L 
  · rw [show xf_X3_answer I L  1 = xf_X3_answer1 I L  from by unfold xf_X3_answer; rw [if_neg (by decide), if_pos rfl]]
    exact xd_X3_answer1 d I L 
  · rw [show xf_X3_answer I L  2 = xf_X3_answer2 I L  from by unfold xf_X3_answer; rw [if_neg (by decide), if_neg (by decide), if_pos rfl]]
    exact xd_X3_answer2 d I L 
  · rw [show xf_X3_answer I L  3 = xf_X3_answer3 I L  from by unfold xf_X3_answer; rw [if_neg (by decide), if_neg (by decide), if_neg (by decide), if_pos rfl]]
    exact xd_X3_answer3 d I L 
  · rw [show xf_X3_answer I L  4 = xf_X3_answer4 I L  from by unfold xf_X3_answer; rw [if_neg (by decide), if_neg (by decide), if_neg (by decide), if_neg (by decide)]]
    exact xd_X3_answer4 d I L
