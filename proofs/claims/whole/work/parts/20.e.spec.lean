/-! WHAT METHODS COMPUTE (by program) -/
set_option linter.unusedVariables false in
def xf_X2_allows (I : xh_I) (L : xh_L) (a : Int32) (b : Int32) : Int32 := if a < 0 then 0 else (if 7 ≤ a then 0 else (if b < (xm_tb 0 a.toNatClampNeg) then 0 else (if (xm_tb 1 a.toNatClampNeg) < b then 0 else 1)))
set_option maxHeartbeats 4000000 in
set_option maxRecDepth 100000 in
theorem xd_X2_allows (d : Nat) (I : xh_I) (L : xh_L) (a : Int32) (b : Int32) : xm_Do xp_pg (d + 1) 42 [xm_i a, xm_i b] (xh_M I L) (some (xm_i (xf_X2_allows I L a b))) (xh_M I L) 0 0 := by
  refine xK.of (Nat.le_of_ble_eq_true rfl) rfl ?_
  refine xK.run (q := (1, [(0, xm_i a), (1, xm_i b)], [xm_i a], xh_M I L, 0, 0)) 1 rfl ?_
  refine xK.ifI rfl (fun h1 => ?_) (fun h1 => ?_)
  · skip
    refine xK.run (q := (35, [(0, xm_i a), (1, xm_i b)], [xm_i 0], xh_M I L, 0, 0)) 1 rfl ?_
    rw [show xf_X2_allows I L a b = 0 from by unfold xf_X2_allows; rw [if_pos h1]]
    exact xK.ret rfl ⟨_, (Or.inl rfl), rfl, rfl⟩
  · skip
    refine xK.run (q := (9, [(0, xm_i a), (1, xm_i b)], [xm_i 7, xm_i a], xh_M I L, 0, 0)) 3 rfl ?_
    refine xK.icmp rfl (fun h2 => ?_) (fun h2 => ?_)
    · skip
      refine xK.run (q := (35, [(0, xm_i a), (1, xm_i b)], [xm_i 0], xh_M I L, 0, 0)) 1 rfl ?_
      rw [show xf_X2_allows I L a b = 0 from by unfold xf_X2_allows; rw [if_neg h1, if_pos h2]]
      exact xK.ret rfl ⟨_, (Or.inl rfl), rfl, rfl⟩
    · skip
      refine xK.run (q := (17, [(0, xm_i a), (1, xm_i b)], [xm_i a, xm_r 21 0, xm_i b], xh_M I L, 0, 0)) 3 rfl ?_
      refine xK.tald (k := 0) rfl (xh_ix_p (b := 7) (by decide) h1 h2).1 ?_
      refine xK.icmp rfl (fun h3 => ?_) (fun h3 => ?_)
      · skip
        refine xK.run (q := (35, [(0, xm_i a), (1, xm_i b)], [xm_i 0], xh_M I L, 0, 0)) 1 rfl ?_
        rw [show xf_X2_allows I L a b = 0 from by unfold xf_X2_allows; rw [if_neg h1, if_neg h2, if_pos h3]]
        exact xK.ret rfl ⟨_, (Or.inl rfl), rfl, rfl⟩
      · skip
        refine xK.run (q := (26, [(0, xm_i a), (1, xm_i b)], [xm_i a, xm_r 22 0, xm_i b], xh_M I L, 0, 0)) 3 rfl ?_
        refine xK.tald (k := 1) rfl (xh_ix_p (b := 7) (by decide) h1 h2).1 ?_
        refine xK.icmp rfl (fun h4 => ?_) (fun h4 => ?_)
        · skip
          refine xK.run (q := (35, [(0, xm_i a), (1, xm_i b)], [xm_i 0], xh_M I L, 0, 0)) 1 rfl ?_
          rw [show xf_X2_allows I L a b = 0 from by unfold xf_X2_allows; rw [if_neg h1, if_neg h2, if_neg h3, if_pos h4]]
          exact xK.ret rfl ⟨_, (Or.inl rfl), rfl, rfl⟩
        · skip
          refine xK.run (q := (35, [(0, xm_i a), (1, xm_i b)], [xm_i 1], xh_M I L, 0, 0)) 2 rfl ?_
          rw [show xf_X2_allows I L a b = 1 from by unfold xf_X2_allows; rw [if_neg h1, if_neg h2, if_neg h3, if_neg h4]]
          exact xK.ret rfl ⟨_, (Or.inr rfl), rfl, rfl⟩
theorem xz_X2_allows (I : xh_I) (L : xh_L) (a : Int32) (b : Int32) : xf_X2_allows I L a b = 0 ∨ xf_X2_allows I L a b = 1 := by
  unfold xf_X2_allows
  (repeat' split) <;> first | exact Or.inl rfl | exact Or.inr rfl
set_option linter.unusedVariables false in
def xf_X2_exchange (I : xh_I) (L : xh_L) (j : Nat) (b : Int32) : Int32 := I 6 j 0
set_option linter.unusedVariables false in
def xfI_X2_exchange (I : xh_I) (L : xh_L) (j : Nat) (b : Int32) : xh_I := (xm_up I 6 j 0 b)
set_option maxHeartbeats 4000000 in
set_option maxRecDepth 100000 in
theorem xd_X2_exchange (d : Nat) (I : xh_I) (L : xh_L) (j : Nat) (hj : j < 7) (b : Int32) : xm_Do xp_pg (d + 1) 43 [xm_r 2 0, xm_i (nI j), xm_i b] (xh_M I L) (some (xm_i (xf_X2_exchange I L j b))) (xh_M (xfI_X2_exchange I L j b) L) 0 0 := by
  refine xK.of (Nat.le_of_ble_eq_true rfl) rfl ?_
  refine xK.run (q := (5, [(0, xm_r 2 0), (1, xm_i (nI j)), (2, xm_i b)], [xm_i (nI j), xm_r 6 0], xh_M I L, 0, 0)) 3 rfl ?_
  refine xK.iald rfl rfl (xh_ix_nI (N := 7) hj (by decide)) ?_
  refine xK.run (q := (13, [(0, xm_r 2 0), (1, xm_i (nI j)), (2, xm_i b), (3, xm_i (I 6 j 0))], [xm_i b, xm_i (nI j), xm_r 6 0], xh_M I L, 0, 0)) 5 rfl ?_
  refine xK.iast rfl rfl (xh_ix_nI (N := 7) hj (by decide)) ?_
  refine xK.run (q := (15, [(0, xm_r 2 0), (1, xm_i (nI j)), (2, xm_i b), (3, xm_i (I 6 j 0))], [xm_i (I 6 j 0)], xh_M (xm_up I 6 j 0 b) L, 0, 0)) 1 rfl ?_
  exact xK.ret rfl ⟨_, rfl, rfl⟩
set_option linter.unusedVariables false in
def xf_X4_isNumber (I : xh_I) (L : xh_L) (a : Int32) : Int32 := if a < 0 then 0 else (if 6 ≤ a then 0 else 1)
set_option maxHeartbeats 4000000 in
set_option maxRecDepth 100000 in
theorem xd_X4_isNumber (d : Nat) (I : xh_I) (L : xh_L) (a : Int32) : xm_Do xp_pg (d + 1) 63 [xm_i a] (xh_M I L) (some (xm_i (xf_X4_isNumber I L a))) (xh_M I L) 0 0 := by
  refine xK.of (Nat.le_of_ble_eq_true rfl) rfl ?_
  refine xK.run (q := (1, [(0, xm_i a)], [xm_i a], xh_M I L, 0, 0)) 1 rfl ?_
  refine xK.ifI rfl (fun h1 => ?_) (fun h1 => ?_)
  · skip
    refine xK.run (q := (15, [(0, xm_i a)], [xm_i 0], xh_M I L, 0, 0)) 1 rfl ?_
    rw [show xf_X4_isNumber I L a = 0 from by unfold xf_X4_isNumber; rw [if_pos h1]]
    exact xK.ret rfl ⟨_, (Or.inl rfl), rfl, rfl⟩
  · skip
    refine xK.run (q := (7, [(0, xm_i a)], [xm_i 6, xm_i a], xh_M I L, 0, 0)) 2 rfl ?_
    refine xK.icmp rfl (fun h2 => ?_) (fun h2 => ?_)
    · skip
      refine xK.run (q := (15, [(0, xm_i a)], [xm_i 0], xh_M I L, 0, 0)) 1 rfl ?_
      rw [show xf_X4_isNumber I L a = 0 from by unfold xf_X4_isNumber; rw [if_neg h1, if_pos h2]]
      exact xK.ret rfl ⟨_, (Or.inl rfl), rfl, rfl⟩
    · skip
      refine xK.run (q := (15, [(0, xm_i a)], [xm_i 1], xh_M I L, 0, 0)) 2 rfl ?_
      rw [show xf_X4_isNumber I L a = 1 from by unfold xf_X4_isNumber; rw [if_neg h1, if_neg h2]]
      exact xK.ret rfl ⟨_, (Or.inr rfl), rfl, rfl⟩
theorem xz_X4_isNumber (I : xh_I) (L : xh_L) (a : Int32) : xf_X4_isNumber I L a = 0 ∨ xf_X4_isNumber I L a = 1 := by
  unfold xf_X4_isNumber
  (repeat' split) <;> first | exact Or.inl rfl | exact Or.inr rfl
theorem xh_num {I : xh_I} {L : xh_L} {a : Int32} (h : ¬ xf_X4_isNumber I L a = 0) : xh_ix a a.toNatClampNeg 6 ∧ a.toNatClampNeg < 6 := by
  unfold xf_X4_isNumber at h
  by_cases h0 : a < 0
  · rw [if_pos h0] at h; exact absurd rfl h
  · by_cases h1 : (6 : Int32) ≤ a
    · rw [if_neg h0, if_pos h1] at h; exact absurd rfl h
    · exact xh_ix_p (by decide) h0 h1
set_option linter.unusedVariables false in
def xf_X4_isThere (I : xh_I) (L : xh_L) (a : Int32) : Int32 := if (xf_X4_isNumber I L a) = 0 then 0 else (if (I 0 0 a.toNatClampNeg) = 0 then 0 else 1)
set_option maxHeartbeats 4000000 in
set_option maxRecDepth 100000 in
theorem xd_X4_isThere (d : Nat) (I : xh_I) (L : xh_L) (a : Int32) : xm_Do xp_pg (d + 2) 64 [xm_r 4 0, xm_i a] (xh_M I L) (some (xm_i (xf_X4_isThere I L a))) (xh_M I L) 0 0 := by
  refine xK.of (Nat.le_of_ble_eq_true rfl) rfl ?_
  refine xK.run (q := (1, [(0, xm_r 4 0), (1, xm_i a)], [xm_i a], xh_M I L, 0, 0)) 1 rfl ?_
  refine xK.call [xm_i a] (xd_X4_isNumber d I L a) rfl rfl rfl (Or.inl rfl) (Nat.le_of_ble_eq_true rfl) ?_
  refine xK.ifI rfl (fun h1 => ?_) (fun h1 => ?_)
  · skip
    refine xK.run (q := (24, [(0, xm_r 4 0), (1, xm_i a)], [xm_i 0], xh_M I L, 0, 0)) 1 rfl ?_
    rw [show xf_X4_isThere I L a = 0 from by unfold xf_X4_isThere; rw [if_pos h1]]
    exact xK.ret rfl ⟨_, (Or.inl rfl), rfl, rfl⟩
  · skip
    refine xK.run (q := (12, [(0, xm_r 4 0), (1, xm_i a)], [xm_i a, xm_r 18 0], xh_M I L, 0, 0)) 3 rfl ?_
    refine xK.aald rfl rfl (xh_num h1).1 (xh_R18 (xh_num h1).2) ?_
    refine xK.run (q := (16, [(0, xm_r 4 0), (1, xm_i a)], [xm_i (I 0 0 a.toNatClampNeg)], xh_M I L, 0, 0)) 1 rfl ?_
    refine xK.ifI rfl (fun h2 => ?_) (fun h2 => ?_)
    · skip
      refine xK.run (q := (24, [(0, xm_r 4 0), (1, xm_i a)], [xm_i 0], xh_M I L, 0, 0)) 1 rfl ?_
      rw [show xf_X4_isThere I L a = 0 from by unfold xf_X4_isThere; rw [if_neg h1, if_pos h2]]
      exact xK.ret rfl ⟨_, (Or.inl rfl), rfl, rfl⟩
    · skip
      refine xK.run (q := (24, [(0, xm_r 4 0), (1, xm_i a)], [xm_i 1], xh_M I L, 0, 0)) 2 rfl ?_
      rw [show xf_X4_isThere I L a = 1 from by unfold xf_X4_isThere; rw [if_neg h1, if_neg h2]]
      exact xK.ret rfl ⟨_, (Or.inr rfl), rfl, rfl⟩
theorem xz_X4_isThere (I : xh_I) (L : xh_L) (a : Int32) : xf_X4_isThere I L a = 0 ∨ xf_X4_isThere I L a = 1 := by
  unfold xf_X4_isThere
  (repeat' split) <;> first | exact Or.inl rfl | exact Or.inr rfl
set_option linter.unusedVariables false in
def xf_X4_pairNumber (I : xh_I) (L : xh_L) (a : Int32) (b : Int32) : Int32 := ((((a * (11 - a)) / 2) + b) - a) - 1
set_option maxHeartbeats 4000000 in
set_option maxRecDepth 100000 in
theorem xd_X4_pairNumber (d : Nat) (I : xh_I) (L : xh_L) (a : Int32) (b : Int32) : xm_Do xp_pg (d + 1) 65 [xm_i a, xm_i b] (xh_M I L) (some (xm_i (xf_X4_pairNumber I L a b))) (xh_M I L) 0 0 := by
  refine xK.of (Nat.le_of_ble_eq_true rfl) rfl ?_
  refine xK.run (q := (7, [(0, xm_i a), (1, xm_i b)], [xm_i 2, xm_i (a * (11 - a))], xh_M I L, 0, 0)) 6 rfl ?_
  refine xK.div rfl (by decide) ?_
  refine xK.run (q := (14, [(0, xm_i a), (1, xm_i b)], [xm_i (((((a * (11 - a)) / 2) + b) - a) - 1)], xh_M I L, 0, 0)) 6 rfl ?_
  exact xK.ret rfl ⟨_, rfl, rfl⟩
