/-! WHAT THE REFERENCE COMPUTES (by program) -/
set_option linter.unusedVariables false in
def xf_X5_isNumber (a : Int32) : Int32 := if a < 0 then 0 else (if 6 ≤ a then 0 else 1)
set_option maxHeartbeats 4000000 in
set_option maxRecDepth 100000 in
theorem xd_X5_isNumber (d : Nat) (I : xh_I) (L : xh_L) (a : Int32) : xm_Do xp_pg (d + 1) 74 [xm_i a] (xh_M I L) (some (xm_i (xf_X5_isNumber a))) (xh_M I L) 0 0 := by
  refine xK.of (Nat.le_of_ble_eq_true rfl) rfl ?_
  refine xK.run (q := (1, [(0, xm_i a)], [xm_i a], xh_M I L, 0, 0)) 1 rfl ?_
  refine xK.ifI rfl (fun (h1 : a < 0) => ?_) (fun (h1 : ¬ a < 0) => ?_)
  · skip
    refine xK.run (q := (15, [(0, xm_i a)], [xm_i 0], xh_M I L, 0, 0)) 1 rfl ?_
    rw [show xf_X5_isNumber a = 0 from by unfold xf_X5_isNumber; rw [if_pos h1]]
    exact xK.ret rfl ⟨_, (Or.inl rfl), rfl, rfl⟩
  · skip
    refine xK.run (q := (7, [(0, xm_i a)], [xm_i 6, xm_i a], xh_M I L, 0, 0)) 2 rfl ?_
    refine xK.icmp rfl (fun (h2 : 6 ≤ a) => ?_) (fun (h2 : ¬ 6 ≤ a) => ?_)
    · skip
      refine xK.run (q := (15, [(0, xm_i a)], [xm_i 0], xh_M I L, 0, 0)) 1 rfl ?_
      rw [show xf_X5_isNumber a = 0 from by unfold xf_X5_isNumber; rw [if_neg h1, if_pos h2]]
      exact xK.ret rfl ⟨_, (Or.inl rfl), rfl, rfl⟩
    · skip
      refine xK.run (q := (15, [(0, xm_i a)], [xm_i 1], xh_M I L, 0, 0)) 2 rfl ?_
      rw [show xf_X5_isNumber a = 1 from by unfold xf_X5_isNumber; rw [if_neg h1, if_neg h2]]
      exact xK.ret rfl ⟨_, (Or.inr rfl), rfl, rfl⟩
theorem xz_X5_isNumber (a : Int32) : xf_X5_isNumber a = 0 ∨ xf_X5_isNumber a = 1 := by
  unfold xf_X5_isNumber
  (repeat' split) <;> first | exact Or.inl rfl | exact Or.inr rfl
set_option linter.unusedVariables false in
def xf_X5_within (a : Int32) (b : Int32) : Int32 := if a < (-b) then 0 else (if b < a then 0 else 1)
set_option maxHeartbeats 4000000 in
set_option maxRecDepth 100000 in
theorem xd_X5_within (d : Nat) (I : xh_I) (L : xh_L) (a : Int32) (b : Int32) : xm_Do xp_pg (d + 1) 76 [xm_i a, xm_i b] (xh_M I L) (some (xm_i (xf_X5_within a b))) (xh_M I L) 0 0 := by
  refine xK.of (Nat.le_of_ble_eq_true rfl) rfl ?_
  refine xK.run (q := (3, [(0, xm_i a), (1, xm_i b)], [xm_i (-b), xm_i a], xh_M I L, 0, 0)) 3 rfl ?_
  refine xK.icmp rfl (fun (h1 : a < (-b)) => ?_) (fun (h1 : ¬ a < (-b)) => ?_)
  · skip
    refine xK.run (q := (16, [(0, xm_i a), (1, xm_i b)], [xm_i 0], xh_M I L, 0, 0)) 1 rfl ?_
    rw [show xf_X5_within a b = 0 from by unfold xf_X5_within; rw [if_pos h1]]
    exact xK.ret rfl ⟨_, (Or.inl rfl), rfl, rfl⟩
  · skip
    refine xK.run (q := (8, [(0, xm_i a), (1, xm_i b)], [xm_i b, xm_i a], xh_M I L, 0, 0)) 2 rfl ?_
    refine xK.icmp rfl (fun (h2 : b < a) => ?_) (fun (h2 : ¬ b < a) => ?_)
    · skip
      refine xK.run (q := (16, [(0, xm_i a), (1, xm_i b)], [xm_i 0], xh_M I L, 0, 0)) 1 rfl ?_
      rw [show xf_X5_within a b = 0 from by unfold xf_X5_within; rw [if_neg h1, if_pos h2]]
      exact xK.ret rfl ⟨_, (Or.inl rfl), rfl, rfl⟩
    · skip
      refine xK.run (q := (16, [(0, xm_i a), (1, xm_i b)], [xm_i 1], xh_M I L, 0, 0)) 2 rfl ?_
      rw [show xf_X5_within a b = 1 from by unfold xf_X5_within; rw [if_neg h1, if_neg h2]]
      exact xK.ret rfl ⟨_, (Or.inr rfl), rfl, rfl⟩
theorem xz_X5_within (a : Int32) (b : Int32) : xf_X5_within a b = 0 ∨ xf_X5_within a b = 1 := by
  unfold xf_X5_within
  (repeat' split) <;> first | exact Or.inl rfl | exact Or.inr rfl
set_option linter.unusedVariables false in
def xf_X5_pairOf (a : Int32) (b : Int32) : Int32 := if b ≤ a then ((6 * b) + a) else ((6 * a) + b)
set_option maxHeartbeats 4000000 in
set_option maxRecDepth 100000 in
theorem xd_X5_pairOf (d : Nat) (I : xh_I) (L : xh_L) (a : Int32) (b : Int32) : xm_Do xp_pg (d + 1) 77 [xm_i a, xm_i b] (xh_M I L) (some (xm_i (xf_X5_pairOf a b))) (xh_M I L) 0 0 := by
  refine xK.of (Nat.le_of_ble_eq_true rfl) rfl ?_
  refine xK.run (q := (2, [(0, xm_i a), (1, xm_i b)], [xm_i b, xm_i a], xh_M I L, 0, 0)) 2 rfl ?_
  refine xK.icmp rfl (fun (h1 : b ≤ a) => ?_) (fun (h1 : ¬ b ≤ a) => ?_)
  · skip
    refine xK.run (q := (20, [(0, xm_i a), (1, xm_i b)], [xm_i ((6 * b) + a)], xh_M I L, 0, 0)) 5 rfl ?_
    rw [show xf_X5_pairOf a b = ((6 * b) + a) from by unfold xf_X5_pairOf; rw [if_pos h1]]
    exact xK.ret rfl ⟨_, rfl, rfl⟩
  · skip
    refine xK.run (q := (20, [(0, xm_i a), (1, xm_i b)], [xm_i ((6 * a) + b)], xh_M I L, 0, 0)) 6 rfl ?_
    rw [show xf_X5_pairOf a b = ((6 * a) + b) from by unfold xf_X5_pairOf; rw [if_neg h1]]
    exact xK.ret rfl ⟨_, rfl, rfl⟩
set_option linter.unusedVariables false in
def xf_X5_bounded (a : Int32) (b : Int32) : Int32 := if (-b) ≤ a then (if a ≤ b then a else b) else (-b)
set_option maxHeartbeats 4000000 in
set_option maxRecDepth 100000 in
theorem xd_X5_bounded (d : Nat) (I : xh_I) (L : xh_L) (a : Int32) (b : Int32) : xm_Do xp_pg (d + 1) 91 [xm_i a, xm_i b] (xh_M I L) (some (xm_i (xf_X5_bounded a b))) (xh_M I L) 0 0 := by
  refine xK.of (Nat.le_of_ble_eq_true rfl) rfl ?_
  refine xK.run (q := (3, [(0, xm_i a), (1, xm_i b)], [xm_i (-b), xm_i a], xh_M I L, 0, 0)) 3 rfl ?_
  refine xK.icmp rfl (fun (h1 : (-b) ≤ a) => ?_) (fun (h1 : ¬ (-b) ≤ a) => ?_)
  · skip
    refine xK.run (q := (13, [(0, xm_i a), (1, xm_i b)], [xm_i b, xm_i a], xh_M I L, 0, 0)) 2 rfl ?_
    refine xK.icmp rfl (fun (h2 : a ≤ b) => ?_) (fun (h2 : ¬ a ≤ b) => ?_)
    · skip
      refine xK.run (q := (21, [(0, xm_i a), (1, xm_i b)], [xm_i a], xh_M I L, 0, 0)) 1 rfl ?_
      rw [show xf_X5_bounded a b = a from by unfold xf_X5_bounded; rw [if_pos h1, if_pos h2]]
      exact xK.ret rfl ⟨_, rfl, rfl⟩
    · skip
      refine xK.run (q := (21, [(0, xm_i a), (1, xm_i b)], [xm_i b], xh_M I L, 0, 0)) 2 rfl ?_
      rw [show xf_X5_bounded a b = b from by unfold xf_X5_bounded; rw [if_pos h1, if_neg h2]]
      exact xK.ret rfl ⟨_, rfl, rfl⟩
  · skip
    refine xK.run (q := (21, [(0, xm_i a), (1, xm_i b)], [xm_i (-b)], xh_M I L, 0, 0)) 3 rfl ?_
    rw [show xf_X5_bounded a b = (-b) from by unfold xf_X5_bounded; rw [if_neg h1]]
    exact xK.ret rfl ⟨_, rfl, rfl⟩
set_option linter.unusedVariables false in
def xf_X5_plain (a : Int64) : Int64 := if 0 ≤ (lg_cmp a 0) then a else (-a)
set_option maxHeartbeats 4000000 in
set_option maxRecDepth 100000 in
theorem xd_X5_plain (d : Nat) (I : xh_I) (L : xh_L) (a : Int64) : xm_Do xp_pg (d + 1) 85 [xm_l a] (xh_M I L) (some (xm_l (xf_X5_plain a))) (xh_M I L) 0 0 := by
  refine xK.of (Nat.le_of_ble_eq_true rfl) rfl ?_
  refine xK.run (q := (3, [(0, xm_l a)], [xm_i (lg_cmp a 0)], xh_M I L, 0, 0)) 3 rfl ?_
  refine xK.ifI rfl (fun (h1 : 0 ≤ (lg_cmp a 0)) => ?_) (fun (h1 : ¬ 0 ≤ (lg_cmp a 0)) => ?_)
  · skip
    refine xK.run (q := (12, [(0, xm_l a)], [xm_l a], xh_M I L, 0, 0)) 1 rfl ?_
    rw [show xf_X5_plain a = a from by unfold xf_X5_plain; rw [if_pos h1]]
    exact xK.ret rfl ⟨_, rfl, rfl⟩
  · skip
    refine xK.run (q := (12, [(0, xm_l a)], [xm_l (-a)], xh_M I L, 0, 0)) 3 rfl ?_
    rw [show xf_X5_plain a = (-a) from by unfold xf_X5_plain; rw [if_neg h1]]
    exact xK.ret rfl ⟨_, rfl, rfl⟩
set_option linter.unusedVariables false in
def xf_X5_forFirst (a : Int32) (b : Int32) : Int32 := if a = 0 then 0 else (if b = 0 then a else (3 - a))
set_option maxHeartbeats 4000000 in
set_option maxRecDepth 100000 in
theorem xd_X5_forFirst (d : Nat) (I : xh_I) (L : xh_L) (a : Int32) (b : Int32) : xm_Do xp_pg (d + 1) 98 [xm_i a, xm_i b] (xh_M I L) (some (xm_i (xf_X5_forFirst a b))) (xh_M I L) 0 0 := by
  refine xK.of (Nat.le_of_ble_eq_true rfl) rfl ?_
  refine xK.run (q := (1, [(0, xm_i a), (1, xm_i b)], [xm_i a], xh_M I L, 0, 0)) 1 rfl ?_
  refine xK.ifN rfl (fun (h1 : a = 0) => ?_) (fun (h1 : ¬ a = 0) => ?_)
  · skip
    refine xK.run (q := (19, [(0, xm_i a), (1, xm_i b)], [xm_i 0], xh_M I L, 0, 0)) 2 rfl ?_
    rw [show xf_X5_forFirst a b = 0 from by unfold xf_X5_forFirst; rw [if_pos h1]]
    exact xK.ret rfl ⟨_, rfl, rfl⟩
  · skip
    refine xK.run (q := (9, [(0, xm_i a), (1, xm_i b)], [xm_i b], xh_M I L, 0, 0)) 1 rfl ?_
    refine xK.ifI rfl (fun (h2 : b = 0) => ?_) (fun (h2 : ¬ b = 0) => ?_)
    · skip
      refine xK.run (q := (19, [(0, xm_i a), (1, xm_i b)], [xm_i a], xh_M I L, 0, 0)) 1 rfl ?_
      rw [show xf_X5_forFirst a b = a from by unfold xf_X5_forFirst; rw [if_neg h1, if_pos h2]]
      exact xK.ret rfl ⟨_, rfl, rfl⟩
    · skip
      refine xK.run (q := (19, [(0, xm_i a), (1, xm_i b)], [xm_i (3 - a)], xh_M I L, 0, 0)) 4 rfl ?_
      rw [show xf_X5_forFirst a b = (3 - a) from by unfold xf_X5_forFirst; rw [if_neg h1, if_neg h2]]
      exact xK.ret rfl ⟨_, rfl, rfl⟩
set_option linter.unusedVariables false in
def xf_X5_thrown (I : xh_I) (L : xh_L)  : Int32 := I 5 0 0
set_option maxHeartbeats 4000000 in
set_option maxRecDepth 100000 in
theorem xd_X5_thrown (d : Nat) (I : xh_I) (L : xh_L) : xm_Do xp_pg (d + 1) 72 [xm_r 5 0] (xh_M I L) (some (xm_i (xf_X5_thrown I L))) (xh_M I L) 0 0 := by
  refine xK.of (Nat.le_of_ble_eq_true rfl) rfl ?_
  refine xK.run (q := (4, [(0, xm_r 5 0)], [xm_i (I 5 0 0)], xh_M I L, 0, 0)) 2 rfl ?_
  exact xK.ret rfl ⟨_, rfl, rfl⟩
theorem xh_num5 {a : Int32} (h : ¬ xf_X5_isNumber a = 0) : xh_ix a a.toNatClampNeg 6 ∧ a.toNatClampNeg < 6 := by
  unfold xf_X5_isNumber at h
  by_cases h0 : a < 0
  · rw [if_pos h0] at h; exact absurd rfl h
  · by_cases h1 : (6 : Int32) ≤ a
    · rw [if_neg h0, if_pos h1] at h; exact absurd rfl h
    · exact xh_ix_p (by decide) h0 h1
def xh_p6 (i j : Nat) : Nat := if i < j then 6 * i + j else 6 * j + i
theorem xh_p6_ix : ∀ {i : Nat}, i < 6 → ∀ {j : Nat}, j < 6 → xh_ix (xf_X5_pairOf (nI i) (nI j)) (xh_p6 i j) 36 := by
  unfold xf_X5_pairOf
  decide
theorem xh_ix60 : ∀ {i : Nat}, i < 6 → xh_ix (6 * nI i) (6 * i) 36 := by decide
theorem xh_ix6 : ∀ {i : Nat}, i < 6 → ∀ {c : Nat}, c < 6 → xh_ix (6 * nI i + nI c) (6 * i + c) 36 := by decide
theorem xh_ix6' {a : Int32} (ha : xh_ix a a.toNatClampNeg 6) {c : Nat} (hc : c < 6) : xh_ix (6 * a + nI c) (6 * a.toNatClampNeg + c) 36 := by
  obtain ⟨e, l⟩ := xh_ix_eq ha (by decide)
  have h9 := xh_ix6 l hc
  rw [← e] at h9
  exact h9
abbrev xh_oo (I : xh_I) : Prop := xh_ix (I 5 12 0) (I 5 12 0).toNatClampNeg 6 ∧ xh_ix (I 5 13 0) (I 5 13 0).toNatClampNeg 6
set_option linter.unusedVariables false in
def xf_X5_isThere (I : xh_I) (L : xh_L) (a : Int32) : Int32 := if (xf_X5_isNumber a) = 0 then 0 else (if (I 8 a.toNatClampNeg 0) = 0 then 0 else 1)
set_option maxHeartbeats 4000000 in
set_option maxRecDepth 100000 in
theorem xd_X5_isThere (d : Nat) (I : xh_I) (L : xh_L) (a : Int32) : xm_Do xp_pg (d + 2) 75 [xm_r 5 0, xm_i a] (xh_M I L) (some (xm_i (xf_X5_isThere I L a))) (xh_M I L) 0 0 := by
  refine xK.of (Nat.le_of_ble_eq_true rfl) rfl ?_
  refine xK.run (q := (1, [(0, xm_r 5 0), (1, xm_i a)], [xm_i a], xh_M I L, 0, 0)) 1 rfl ?_
  refine xK.call [xm_i a] (xd_X5_isNumber d I L a) rfl rfl rfl (Or.inl rfl) (Nat.le_of_ble_eq_true rfl) ?_
  refine xK.ifI rfl (fun (h1 : (xf_X5_isNumber a) = 0) => ?_) (fun (h1 : ¬ (xf_X5_isNumber a) = 0) => ?_)
  · skip
    refine xK.run (q := (21, [(0, xm_r 5 0), (1, xm_i a)], [xm_i 0], xh_M I L, 0, 0)) 1 rfl ?_
    rw [show xf_X5_isThere I L a = 0 from by unfold xf_X5_isThere; rw [if_pos h1]]
    exact xK.ret rfl ⟨_, (Or.inl rfl), rfl, rfl⟩
  · skip
    refine xK.run (q := (12, [(0, xm_r 5 0), (1, xm_i a)], [xm_i a, xm_r 8 0], xh_M I L, 0, 0)) 3 rfl ?_
    refine xK.zald' rfl rfl (xh_num5 h1).1 ?_
    refine xK.ifI rfl (fun (h2 : (I 8 a.toNatClampNeg 0) = 0) => ?_) (fun (h2 : ¬ (I 8 a.toNatClampNeg 0) = 0) => ?_)
    · skip
      refine xK.run (q := (21, [(0, xm_r 5 0), (1, xm_i a)], [xm_i 0], xh_M I L, 0, 0)) 1 rfl ?_
      rw [show xf_X5_isThere I L a = 0 from by unfold xf_X5_isThere; rw [if_neg h1, if_pos h2]]
      exact xK.ret rfl ⟨_, (Or.inl rfl), rfl, rfl⟩
    · skip
      refine xK.run (q := (21, [(0, xm_r 5 0), (1, xm_i a)], [xm_i 1], xh_M I L, 0, 0)) 2 rfl ?_
      rw [show xf_X5_isThere I L a = 1 from by unfold xf_X5_isThere; rw [if_neg h1, if_neg h2]]
      exact xK.ret rfl ⟨_, (Or.inr rfl), rfl, rfl⟩
theorem xz_X5_isThere (I : xh_I) (L : xh_L) (a : Int32) : xf_X5_isThere I L a = 0 ∨ xf_X5_isThere I L a = 1 := by
  unfold xf_X5_isThere
  (repeat' split) <;> first | exact Or.inl rfl | exact Or.inr rfl
set_option linter.unusedVariables false in
def xfI_X5_measure (I : xh_I) (L : xh_L) (i : Nat) (j : Nat) : xh_I := if 0 ≤ ((I 10 (6 * j + 2) 0) - (I 10 (6 * i + 2) 0)) then (if 0 ≤ (lg_cmp (((((I 10 (6 * j) 0) - (I 10 (6 * i) 0)).toInt64) * (((I 10 (6 * j) 0) - (I 10 (6 * i) 0)).toInt64)) + ((((I 10 (6 * j + 1) 0) - (I 10 (6 * i + 1) 0)).toInt64) * (((I 10 (6 * j + 1) 0) - (I 10 (6 * i + 1) 0)).toInt64))) (L 15 (xh_p6 i j) 0)) then (if (I 16 (xh_p6 i j) 0) ≤ ((I 10 (6 * j + 2) 0) - (I 10 (6 * i + 2) 0)) then (xm_up I 16 (xh_p6 i j) 0 (I 16 (xh_p6 i j) 0)) else (xm_up I 16 (xh_p6 i j) 0 ((I 10 (6 * j + 2) 0) - (I 10 (6 * i + 2) 0)))) else (if (I 16 (xh_p6 i j) 0) ≤ ((I 10 (6 * j + 2) 0) - (I 10 (6 * i + 2) 0)) then (xm_up I 16 (xh_p6 i j) 0 (I 16 (xh_p6 i j) 0)) else (xm_up I 16 (xh_p6 i j) 0 ((I 10 (6 * j + 2) 0) - (I 10 (6 * i + 2) 0))))) else (if 0 ≤ (lg_cmp (((((I 10 (6 * j) 0) - (I 10 (6 * i) 0)).toInt64) * (((I 10 (6 * j) 0) - (I 10 (6 * i) 0)).toInt64)) + ((((I 10 (6 * j + 1) 0) - (I 10 (6 * i + 1) 0)).toInt64) * (((I 10 (6 * j + 1) 0) - (I 10 (6 * i + 1) 0)).toInt64))) (L 15 (xh_p6 i j) 0)) then (if (I 16 (xh_p6 i j) 0) ≤ (-((I 10 (6 * j + 2) 0) - (I 10 (6 * i + 2) 0))) then (xm_up I 16 (xh_p6 i j) 0 (I 16 (xh_p6 i j) 0)) else (xm_up I 16 (xh_p6 i j) 0 (-((I 10 (6 * j + 2) 0) - (I 10 (6 * i + 2) 0))))) else (if (I 16 (xh_p6 i j) 0) ≤ (-((I 10 (6 * j + 2) 0) - (I 10 (6 * i + 2) 0))) then (xm_up I 16 (xh_p6 i j) 0 (I 16 (xh_p6 i j) 0)) else (xm_up I 16 (xh_p6 i j) 0 (-((I 10 (6 * j + 2) 0) - (I 10 (6 * i + 2) 0))))))
set_option linter.unusedVariables false in
def xfL_X5_measure (I : xh_I) (L : xh_L) (i : Nat) (j : Nat) : xh_L := if 0 ≤ ((I 10 (6 * j + 2) 0) - (I 10 (6 * i + 2) 0)) then (if 0 ≤ (lg_cmp (((((I 10 (6 * j) 0) - (I 10 (6 * i) 0)).toInt64) * (((I 10 (6 * j) 0) - (I 10 (6 * i) 0)).toInt64)) + ((((I 10 (6 * j + 1) 0) - (I 10 (6 * i + 1) 0)).toInt64) * (((I 10 (6 * j + 1) 0) - (I 10 (6 * i + 1) 0)).toInt64))) (L 15 (xh_p6 i j) 0)) then (if (I 16 (xh_p6 i j) 0) ≤ ((I 10 (6 * j + 2) 0) - (I 10 (6 * i + 2) 0)) then (xm_up L 15 (xh_p6 i j) 0 (L 15 (xh_p6 i j) 0)) else (xm_up L 15 (xh_p6 i j) 0 (L 15 (xh_p6 i j) 0))) else (if (I 16 (xh_p6 i j) 0) ≤ ((I 10 (6 * j + 2) 0) - (I 10 (6 * i + 2) 0)) then (xm_up L 15 (xh_p6 i j) 0 (((((I 10 (6 * j) 0) - (I 10 (6 * i) 0)).toInt64) * (((I 10 (6 * j) 0) - (I 10 (6 * i) 0)).toInt64)) + ((((I 10 (6 * j + 1) 0) - (I 10 (6 * i + 1) 0)).toInt64) * (((I 10 (6 * j + 1) 0) - (I 10 (6 * i + 1) 0)).toInt64)))) else (xm_up L 15 (xh_p6 i j) 0 (((((I 10 (6 * j) 0) - (I 10 (6 * i) 0)).toInt64) * (((I 10 (6 * j) 0) - (I 10 (6 * i) 0)).toInt64)) + ((((I 10 (6 * j + 1) 0) - (I 10 (6 * i + 1) 0)).toInt64) * (((I 10 (6 * j + 1) 0) - (I 10 (6 * i + 1) 0)).toInt64)))))) else (if 0 ≤ (lg_cmp (((((I 10 (6 * j) 0) - (I 10 (6 * i) 0)).toInt64) * (((I 10 (6 * j) 0) - (I 10 (6 * i) 0)).toInt64)) + ((((I 10 (6 * j + 1) 0) - (I 10 (6 * i + 1) 0)).toInt64) * (((I 10 (6 * j + 1) 0) - (I 10 (6 * i + 1) 0)).toInt64))) (L 15 (xh_p6 i j) 0)) then (if (I 16 (xh_p6 i j) 0) ≤ (-((I 10 (6 * j + 2) 0) - (I 10 (6 * i + 2) 0))) then (xm_up L 15 (xh_p6 i j) 0 (L 15 (xh_p6 i j) 0)) else (xm_up L 15 (xh_p6 i j) 0 (L 15 (xh_p6 i j) 0))) else (if (I 16 (xh_p6 i j) 0) ≤ (-((I 10 (6 * j + 2) 0) - (I 10 (6 * i + 2) 0))) then (xm_up L 15 (xh_p6 i j) 0 (((((I 10 (6 * j) 0) - (I 10 (6 * i) 0)).toInt64) * (((I 10 (6 * j) 0) - (I 10 (6 * i) 0)).toInt64)) + ((((I 10 (6 * j + 1) 0) - (I 10 (6 * i + 1) 0)).toInt64) * (((I 10 (6 * j + 1) 0) - (I 10 (6 * i + 1) 0)).toInt64)))) else (xm_up L 15 (xh_p6 i j) 0 (((((I 10 (6 * j) 0) - (I 10 (6 * i) 0)).toInt64) * (((I 10 (6 * j) 0) - (I 10 (6 * i) 0)).toInt64)) + ((((I 10 (6 * j + 1) 0) - (I 10 (6 * i + 1) 0)).toInt64) * (((I 10 (6 * j + 1) 0) - (I 10 (6 * i + 1) 0)).toInt64))))))
set_option maxHeartbeats 4000000 in
set_option maxRecDepth 100000 in
theorem xd_X5_measure (d : Nat) (I : xh_I) (L : xh_L) (i : Nat) (hi : i < 6) (j : Nat) (hj : j < 6) : xm_Do xp_pg (d + 2) 79 [xm_r 5 0, xm_i (nI i), xm_i (nI j)] (xh_M I L) none (xh_M (xfI_X5_measure I L i j) (xfL_X5_measure I L i j)) 0 0 := by
  refine xK.of (Nat.le_of_ble_eq_true rfl) rfl ?_
  refine xK.run (q := (2, [(0, xm_r 5 0), (1, xm_i (nI i)), (2, xm_i (nI j))], [xm_i (nI j), xm_i (nI i)], xh_M I L, 0, 0)) 2 rfl ?_
  refine xK.call [xm_i (nI i), xm_i (nI j)] (xd_X5_pairOf d I L (nI i) (nI j)) rfl rfl rfl (Or.inl rfl) (Nat.le_of_ble_eq_true rfl) ?_
  refine xK.run (q := (14, [(0, xm_r 5 0), (1, xm_i (nI i)), (2, xm_i (nI j)), (3, xm_i (xf_X5_pairOf (nI i) (nI j)))], [xm_i (6 * (nI j)), xm_r 10 0], xh_M I L, 0, 0)) 6 rfl ?_
  refine xK.iald' rfl rfl (xh_ix60 hj) ?_
  refine xK.run (q := (23, [(0, xm_r 5 0), (1, xm_i (nI i)), (2, xm_i (nI j)), (3, xm_i (xf_X5_pairOf (nI i) (nI j)))], [xm_i (6 * (nI i)), xm_r 10 0, xm_i (I 10 (6 * j) 0)], xh_M I L, 0, 0)) 5 rfl ?_
  refine xK.iald' rfl rfl (xh_ix60 hi) ?_
  refine xK.run (q := (38, [(0, xm_r 5 0), (1, xm_i (nI i)), (2, xm_i (nI j)), (3, xm_i (xf_X5_pairOf (nI i) (nI j))), (4, xm_l (((I 10 (6 * j) 0) - (I 10 (6 * i) 0)).toInt64))], [xm_i ((6 * (nI j)) + 1), xm_r 10 0], xh_M I L, 0, 0)) 10 rfl ?_
  refine xK.iald' rfl rfl (xh_ix6 hj (c := 1) (by decide)) ?_
  refine xK.run (q := (49, [(0, xm_r 5 0), (1, xm_i (nI i)), (2, xm_i (nI j)), (3, xm_i (xf_X5_pairOf (nI i) (nI j))), (4, xm_l (((I 10 (6 * j) 0) - (I 10 (6 * i) 0)).toInt64))], [xm_i ((6 * (nI i)) + 1), xm_r 10 0, xm_i (I 10 (6 * j + 1) 0)], xh_M I L, 0, 0)) 7 rfl ?_
  refine xK.iald' rfl rfl (xh_ix6 hi (c := 1) (by decide)) ?_
  refine xK.run (q := (64, [(0, xm_r 5 0), (1, xm_i (nI i)), (2, xm_i (nI j)), (3, xm_i (xf_X5_pairOf (nI i) (nI j))), (4, xm_l (((I 10 (6 * j) 0) - (I 10 (6 * i) 0)).toInt64)), (6, xm_l (((I 10 (6 * j + 1) 0) - (I 10 (6 * i + 1) 0)).toInt64))], [xm_i ((6 * (nI j)) + 2), xm_r 10 0], xh_M I L, 0, 0)) 10 rfl ?_
  refine xK.iald' rfl rfl (xh_ix6 hj (c := 2) (by decide)) ?_
  refine xK.run (q := (75, [(0, xm_r 5 0), (1, xm_i (nI i)), (2, xm_i (nI j)), (3, xm_i (xf_X5_pairOf (nI i) (nI j))), (4, xm_l (((I 10 (6 * j) 0) - (I 10 (6 * i) 0)).toInt64)), (6, xm_l (((I 10 (6 * j + 1) 0) - (I 10 (6 * i + 1) 0)).toInt64))], [xm_i ((6 * (nI i)) + 2), xm_r 10 0, xm_i (I 10 (6 * j + 2) 0)], xh_M I L, 0, 0)) 7 rfl ?_
  refine xK.iald' rfl rfl (xh_ix6 hi (c := 2) (by decide)) ?_
  refine xK.run (q := (81, [(0, xm_r 5 0), (1, xm_i (nI i)), (2, xm_i (nI j)), (3, xm_i (xf_X5_pairOf (nI i) (nI j))), (4, xm_l (((I 10 (6 * j) 0) - (I 10 (6 * i) 0)).toInt64)), (6, xm_l (((I 10 (6 * j + 1) 0) - (I 10 (6 * i + 1) 0)).toInt64)), (8, xm_i ((I 10 (6 * j + 2) 0) - (I 10 (6 * i + 2) 0)))], [xm_i ((I 10 (6 * j + 2) 0) - (I 10 (6 * i + 2) 0))], xh_M I L, 0, 0)) 3 rfl ?_
  refine xK.ifI rfl (fun (h1 : 0 ≤ ((I 10 (6 * j + 2) 0) - (I 10 (6 * i + 2) 0))) => ?_) (fun (h1 : ¬ 0 ≤ ((I 10 (6 * j + 2) 0) - (I 10 (6 * i + 2) 0))) => ?_)
  · skip
    refine xK.run (q := (119, [(0, xm_r 5 0), (1, xm_i (nI i)), (2, xm_i (nI j)), (3, xm_i (xf_X5_pairOf (nI i) (nI j))), (4, xm_l (((I 10 (6 * j) 0) - (I 10 (6 * i) 0)).toInt64)), (6, xm_l (((I 10 (6 * j + 1) 0) - (I 10 (6 * i + 1) 0)).toInt64)), (8, xm_i ((I 10 (6 * j + 2) 0) - (I 10 (6 * i + 2) 0))), (9, xm_i ((I 10 (6 * j + 2) 0) - (I 10 (6 * i + 2) 0))), (10, xm_l (((((I 10 (6 * j) 0) - (I 10 (6 * i) 0)).toInt64) * (((I 10 (6 * j) 0) - (I 10 (6 * i) 0)).toInt64)) + ((((I 10 (6 * j + 1) 0) - (I 10 (6 * i + 1) 0)).toInt64) * (((I 10 (6 * j + 1) 0) - (I 10 (6 * i + 1) 0)).toInt64))))], [xm_i (xf_X5_pairOf (nI i) (nI j)), xm_r 15 0, xm_l (((((I 10 (6 * j) 0) - (I 10 (6 * i) 0)).toInt64) * (((I 10 (6 * j) 0) - (I 10 (6 * i) 0)).toInt64)) + ((((I 10 (6 * j + 1) 0) - (I 10 (6 * i + 1) 0)).toInt64) * (((I 10 (6 * j + 1) 0) - (I 10 (6 * i + 1) 0)).toInt64))), xm_i (xf_X5_pairOf (nI i) (nI j)), xm_r 15 0], xh_M I L, 0, 0)) 17 rfl ?_
    refine xK.lald' rfl rfl (xh_p6_ix hi hj) ?_
    refine xK.run (q := (121, [(0, xm_r 5 0), (1, xm_i (nI i)), (2, xm_i (nI j)), (3, xm_i (xf_X5_pairOf (nI i) (nI j))), (4, xm_l (((I 10 (6 * j) 0) - (I 10 (6 * i) 0)).toInt64)), (6, xm_l (((I 10 (6 * j + 1) 0) - (I 10 (6 * i + 1) 0)).toInt64)), (8, xm_i ((I 10 (6 * j + 2) 0) - (I 10 (6 * i + 2) 0))), (9, xm_i ((I 10 (6 * j + 2) 0) - (I 10 (6 * i + 2) 0))), (10, xm_l (((((I 10 (6 * j) 0) - (I 10 (6 * i) 0)).toInt64) * (((I 10 (6 * j) 0) - (I 10 (6 * i) 0)).toInt64)) + ((((I 10 (6 * j + 1) 0) - (I 10 (6 * i + 1) 0)).toInt64) * (((I 10 (6 * j + 1) 0) - (I 10 (6 * i + 1) 0)).toInt64))))], [xm_i (lg_cmp (((((I 10 (6 * j) 0) - (I 10 (6 * i) 0)).toInt64) * (((I 10 (6 * j) 0) - (I 10 (6 * i) 0)).toInt64)) + ((((I 10 (6 * j + 1) 0) - (I 10 (6 * i + 1) 0)).toInt64) * (((I 10 (6 * j + 1) 0) - (I 10 (6 * i + 1) 0)).toInt64))) (L 15 (xh_p6 i j) 0)), xm_i (xf_X5_pairOf (nI i) (nI j)), xm_r 15 0], xh_M I L, 0, 0)) 1 rfl ?_
    refine xK.ifI rfl (fun (h2 : 0 ≤ (lg_cmp (((((I 10 (6 * j) 0) - (I 10 (6 * i) 0)).toInt64) * (((I 10 (6 * j) 0) - (I 10 (6 * i) 0)).toInt64)) + ((((I 10 (6 * j + 1) 0) - (I 10 (6 * i + 1) 0)).toInt64) * (((I 10 (6 * j + 1) 0) - (I 10 (6 * i + 1) 0)).toInt64))) (L 15 (xh_p6 i j) 0))) => ?_) (fun (h2 : ¬ 0 ≤ (lg_cmp (((((I 10 (6 * j) 0) - (I 10 (6 * i) 0)).toInt64) * (((I 10 (6 * j) 0) - (I 10 (6 * i) 0)).toInt64)) + ((((I 10 (6 * j + 1) 0) - (I 10 (6 * i + 1) 0)).toInt64) * (((I 10 (6 * j + 1) 0) - (I 10 (6 * i + 1) 0)).toInt64))) (L 15 (xh_p6 i j) 0))) => ?_)
    · skip
      refine xK.run (q := (134, [(0, xm_r 5 0), (1, xm_i (nI i)), (2, xm_i (nI j)), (3, xm_i (xf_X5_pairOf (nI i) (nI j))), (4, xm_l (((I 10 (6 * j) 0) - (I 10 (6 * i) 0)).toInt64)), (6, xm_l (((I 10 (6 * j + 1) 0) - (I 10 (6 * i + 1) 0)).toInt64)), (8, xm_i ((I 10 (6 * j + 2) 0) - (I 10 (6 * i + 2) 0))), (9, xm_i ((I 10 (6 * j + 2) 0) - (I 10 (6 * i + 2) 0))), (10, xm_l (((((I 10 (6 * j) 0) - (I 10 (6 * i) 0)).toInt64) * (((I 10 (6 * j) 0) - (I 10 (6 * i) 0)).toInt64)) + ((((I 10 (6 * j + 1) 0) - (I 10 (6 * i + 1) 0)).toInt64) * (((I 10 (6 * j + 1) 0) - (I 10 (6 * i + 1) 0)).toInt64))))], [xm_i (xf_X5_pairOf (nI i) (nI j)), xm_r 15 0, xm_i (xf_X5_pairOf (nI i) (nI j)), xm_r 15 0], xh_M I L, 0, 0)) 3 rfl ?_
      refine xK.lald' rfl rfl (xh_p6_ix hi hj) ?_
      refine xK.last' rfl rfl (xh_p6_ix hi hj) ?_
      refine xK.run (q := (148, [(0, xm_r 5 0), (1, xm_i (nI i)), (2, xm_i (nI j)), (3, xm_i (xf_X5_pairOf (nI i) (nI j))), (4, xm_l (((I 10 (6 * j) 0) - (I 10 (6 * i) 0)).toInt64)), (6, xm_l (((I 10 (6 * j + 1) 0) - (I 10 (6 * i + 1) 0)).toInt64)), (8, xm_i ((I 10 (6 * j + 2) 0) - (I 10 (6 * i + 2) 0))), (9, xm_i ((I 10 (6 * j + 2) 0) - (I 10 (6 * i + 2) 0))), (10, xm_l (((((I 10 (6 * j) 0) - (I 10 (6 * i) 0)).toInt64) * (((I 10 (6 * j) 0) - (I 10 (6 * i) 0)).toInt64)) + ((((I 10 (6 * j + 1) 0) - (I 10 (6 * i + 1) 0)).toInt64) * (((I 10 (6 * j + 1) 0) - (I 10 (6 * i + 1) 0)).toInt64))))], [xm_i (xf_X5_pairOf (nI i) (nI j)), xm_r 16 0, xm_i ((I 10 (6 * j + 2) 0) - (I 10 (6 * i + 2) 0)), xm_i (xf_X5_pairOf (nI i) (nI j)), xm_r 16 0], xh_M I (xm_up L 15 (xh_p6 i j) 0 (L 15 (xh_p6 i j) 0)), 0, 0)) 7 rfl ?_
      refine xK.iald' rfl rfl (xh_p6_ix hi hj) ?_
      refine xK.icmp rfl (fun (h3 : (I 16 (xh_p6 i j) 0) ≤ ((I 10 (6 * j + 2) 0) - (I 10 (6 * i + 2) 0))) => ?_) (fun (h3 : ¬ (I 16 (xh_p6 i j) 0) ≤ ((I 10 (6 * j + 2) 0) - (I 10 (6 * i + 2) 0))) => ?_)
      · skip
        refine xK.run (q := (162, [(0, xm_r 5 0), (1, xm_i (nI i)), (2, xm_i (nI j)), (3, xm_i (xf_X5_pairOf (nI i) (nI j))), (4, xm_l (((I 10 (6 * j) 0) - (I 10 (6 * i) 0)).toInt64)), (6, xm_l (((I 10 (6 * j + 1) 0) - (I 10 (6 * i + 1) 0)).toInt64)), (8, xm_i ((I 10 (6 * j + 2) 0) - (I 10 (6 * i + 2) 0))), (9, xm_i ((I 10 (6 * j + 2) 0) - (I 10 (6 * i + 2) 0))), (10, xm_l (((((I 10 (6 * j) 0) - (I 10 (6 * i) 0)).toInt64) * (((I 10 (6 * j) 0) - (I 10 (6 * i) 0)).toInt64)) + ((((I 10 (6 * j + 1) 0) - (I 10 (6 * i + 1) 0)).toInt64) * (((I 10 (6 * j + 1) 0) - (I 10 (6 * i + 1) 0)).toInt64))))], [xm_i (xf_X5_pairOf (nI i) (nI j)), xm_r 16 0, xm_i (xf_X5_pairOf (nI i) (nI j)), xm_r 16 0], xh_M I (xm_up L 15 (xh_p6 i j) 0 (L 15 (xh_p6 i j) 0)), 0, 0)) 3 rfl ?_
        refine xK.iald' rfl rfl (xh_p6_ix hi hj) ?_
        refine xK.iast' rfl rfl (xh_p6_ix hi hj) ?_
        rw [show xfI_X5_measure I L i j = (xm_up I 16 (xh_p6 i j) 0 (I 16 (xh_p6 i j) 0)) from by unfold xfI_X5_measure; rw [if_pos h1, if_pos h2, if_pos h3]]
        rw [show xfL_X5_measure I L i j = (xm_up L 15 (xh_p6 i j) 0 (L 15 (xh_p6 i j) 0)) from by unfold xfL_X5_measure; rw [if_pos h1, if_pos h2, if_pos h3]]
        exact xK.ret rfl ⟨rfl, rfl⟩
      · skip
        refine xK.run (q := (163, [(0, xm_r 5 0), (1, xm_i (nI i)), (2, xm_i (nI j)), (3, xm_i (xf_X5_pairOf (nI i) (nI j))), (4, xm_l (((I 10 (6 * j) 0) - (I 10 (6 * i) 0)).toInt64)), (6, xm_l (((I 10 (6 * j + 1) 0) - (I 10 (6 * i + 1) 0)).toInt64)), (8, xm_i ((I 10 (6 * j + 2) 0) - (I 10 (6 * i + 2) 0))), (9, xm_i ((I 10 (6 * j + 2) 0) - (I 10 (6 * i + 2) 0))), (10, xm_l (((((I 10 (6 * j) 0) - (I 10 (6 * i) 0)).toInt64) * (((I 10 (6 * j) 0) - (I 10 (6 * i) 0)).toInt64)) + ((((I 10 (6 * j + 1) 0) - (I 10 (6 * i + 1) 0)).toInt64) * (((I 10 (6 * j + 1) 0) - (I 10 (6 * i + 1) 0)).toInt64))))], [xm_i ((I 10 (6 * j + 2) 0) - (I 10 (6 * i + 2) 0)), xm_i (xf_X5_pairOf (nI i) (nI j)), xm_r 16 0], xh_M I (xm_up L 15 (xh_p6 i j) 0 (L 15 (xh_p6 i j) 0)), 0, 0)) 2 rfl ?_
        refine xK.iast' rfl rfl (xh_p6_ix hi hj) ?_
        rw [show xfI_X5_measure I L i j = (xm_up I 16 (xh_p6 i j) 0 ((I 10 (6 * j + 2) 0) - (I 10 (6 * i + 2) 0))) from by unfold xfI_X5_measure; rw [if_pos h1, if_pos h2, if_neg h3]]
        rw [show xfL_X5_measure I L i j = (xm_up L 15 (xh_p6 i j) 0 (L 15 (xh_p6 i j) 0)) from by unfold xfL_X5_measure; rw [if_pos h1, if_pos h2, if_neg h3]]
        exact xK.ret rfl ⟨rfl, rfl⟩
    · skip
      refine xK.run (q := (135, [(0, xm_r 5 0), (1, xm_i (nI i)), (2, xm_i (nI j)), (3, xm_i (xf_X5_pairOf (nI i) (nI j))), (4, xm_l (((I 10 (6 * j) 0) - (I 10 (6 * i) 0)).toInt64)), (6, xm_l (((I 10 (6 * j + 1) 0) - (I 10 (6 * i + 1) 0)).toInt64)), (8, xm_i ((I 10 (6 * j + 2) 0) - (I 10 (6 * i + 2) 0))), (9, xm_i ((I 10 (6 * j + 2) 0) - (I 10 (6 * i + 2) 0))), (10, xm_l (((((I 10 (6 * j) 0) - (I 10 (6 * i) 0)).toInt64) * (((I 10 (6 * j) 0) - (I 10 (6 * i) 0)).toInt64)) + ((((I 10 (6 * j + 1) 0) - (I 10 (6 * i + 1) 0)).toInt64) * (((I 10 (6 * j + 1) 0) - (I 10 (6 * i + 1) 0)).toInt64))))], [xm_l (((((I 10 (6 * j) 0) - (I 10 (6 * i) 0)).toInt64) * (((I 10 (6 * j) 0) - (I 10 (6 * i) 0)).toInt64)) + ((((I 10 (6 * j + 1) 0) - (I 10 (6 * i + 1) 0)).toInt64) * (((I 10 (6 * j + 1) 0) - (I 10 (6 * i + 1) 0)).toInt64))), xm_i (xf_X5_pairOf (nI i) (nI j)), xm_r 15 0], xh_M I L, 0, 0)) 2 rfl ?_
      refine xK.last' rfl rfl (xh_p6_ix hi hj) ?_
      refine xK.run (q := (148, [(0, xm_r 5 0), (1, xm_i (nI i)), (2, xm_i (nI j)), (3, xm_i (xf_X5_pairOf (nI i) (nI j))), (4, xm_l (((I 10 (6 * j) 0) - (I 10 (6 * i) 0)).toInt64)), (6, xm_l (((I 10 (6 * j + 1) 0) - (I 10 (6 * i + 1) 0)).toInt64)), (8, xm_i ((I 10 (6 * j + 2) 0) - (I 10 (6 * i + 2) 0))), (9, xm_i ((I 10 (6 * j + 2) 0) - (I 10 (6 * i + 2) 0))), (10, xm_l (((((I 10 (6 * j) 0) - (I 10 (6 * i) 0)).toInt64) * (((I 10 (6 * j) 0) - (I 10 (6 * i) 0)).toInt64)) + ((((I 10 (6 * j + 1) 0) - (I 10 (6 * i + 1) 0)).toInt64) * (((I 10 (6 * j + 1) 0) - (I 10 (6 * i + 1) 0)).toInt64))))], [xm_i (xf_X5_pairOf (nI i) (nI j)), xm_r 16 0, xm_i ((I 10 (6 * j + 2) 0) - (I 10 (6 * i + 2) 0)), xm_i (xf_X5_pairOf (nI i) (nI j)), xm_r 16 0], xh_M I (xm_up L 15 (xh_p6 i j) 0 (((((I 10 (6 * j) 0) - (I 10 (6 * i) 0)).toInt64) * (((I 10 (6 * j) 0) - (I 10 (6 * i) 0)).toInt64)) + ((((I 10 (6 * j + 1) 0) - (I 10 (6 * i + 1) 0)).toInt64) * (((I 10 (6 * j + 1) 0) - (I 10 (6 * i + 1) 0)).toInt64)))), 0, 0)) 7 rfl ?_
      refine xK.iald' rfl rfl (xh_p6_ix hi hj) ?_
      refine xK.icmp rfl (fun (h4 : (I 16 (xh_p6 i j) 0) ≤ ((I 10 (6 * j + 2) 0) - (I 10 (6 * i + 2) 0))) => ?_) (fun (h4 : ¬ (I 16 (xh_p6 i j) 0) ≤ ((I 10 (6 * j + 2) 0) - (I 10 (6 * i + 2) 0))) => ?_)
      · skip
        refine xK.run (q := (162, [(0, xm_r 5 0), (1, xm_i (nI i)), (2, xm_i (nI j)), (3, xm_i (xf_X5_pairOf (nI i) (nI j))), (4, xm_l (((I 10 (6 * j) 0) - (I 10 (6 * i) 0)).toInt64)), (6, xm_l (((I 10 (6 * j + 1) 0) - (I 10 (6 * i + 1) 0)).toInt64)), (8, xm_i ((I 10 (6 * j + 2) 0) - (I 10 (6 * i + 2) 0))), (9, xm_i ((I 10 (6 * j + 2) 0) - (I 10 (6 * i + 2) 0))), (10, xm_l (((((I 10 (6 * j) 0) - (I 10 (6 * i) 0)).toInt64) * (((I 10 (6 * j) 0) - (I 10 (6 * i) 0)).toInt64)) + ((((I 10 (6 * j + 1) 0) - (I 10 (6 * i + 1) 0)).toInt64) * (((I 10 (6 * j + 1) 0) - (I 10 (6 * i + 1) 0)).toInt64))))], [xm_i (xf_X5_pairOf (nI i) (nI j)), xm_r 16 0, xm_i (xf_X5_pairOf (nI i) (nI j)), xm_r 16 0], xh_M I (xm_up L 15 (xh_p6 i j) 0 (((((I 10 (6 * j) 0) - (I 10 (6 * i) 0)).toInt64) * (((I 10 (6 * j) 0) - (I 10 (6 * i) 0)).toInt64)) + ((((I 10 (6 * j + 1) 0) - (I 10 (6 * i + 1) 0)).toInt64) * (((I 10 (6 * j + 1) 0) - (I 10 (6 * i + 1) 0)).toInt64)))), 0, 0)) 3 rfl ?_
        refine xK.iald' rfl rfl (xh_p6_ix hi hj) ?_
        refine xK.iast' rfl rfl (xh_p6_ix hi hj) ?_
        rw [show xfI_X5_measure I L i j = (xm_up I 16 (xh_p6 i j) 0 (I 16 (xh_p6 i j) 0)) from by unfold xfI_X5_measure; rw [if_pos h1, if_neg h2, if_pos h4]]
        rw [show xfL_X5_measure I L i j = (xm_up L 15 (xh_p6 i j) 0 (((((I 10 (6 * j) 0) - (I 10 (6 * i) 0)).toInt64) * (((I 10 (6 * j) 0) - (I 10 (6 * i) 0)).toInt64)) + ((((I 10 (6 * j + 1) 0) - (I 10 (6 * i + 1) 0)).toInt64) * (((I 10 (6 * j + 1) 0) - (I 10 (6 * i + 1) 0)).toInt64)))) from by unfold xfL_X5_measure; rw [if_pos h1, if_neg h2, if_pos h4]]
        exact xK.ret rfl ⟨rfl, rfl⟩
      · skip
        refine xK.run (q := (163, [(0, xm_r 5 0), (1, xm_i (nI i)), (2, xm_i (nI j)), (3, xm_i (xf_X5_pairOf (nI i) (nI j))), (4, xm_l (((I 10 (6 * j) 0) - (I 10 (6 * i) 0)).toInt64)), (6, xm_l (((I 10 (6 * j + 1) 0) - (I 10 (6 * i + 1) 0)).toInt64)), (8, xm_i ((I 10 (6 * j + 2) 0) - (I 10 (6 * i + 2) 0))), (9, xm_i ((I 10 (6 * j + 2) 0) - (I 10 (6 * i + 2) 0))), (10, xm_l (((((I 10 (6 * j) 0) - (I 10 (6 * i) 0)).toInt64) * (((I 10 (6 * j) 0) - (I 10 (6 * i) 0)).toInt64)) + ((((I 10 (6 * j + 1) 0) - (I 10 (6 * i + 1) 0)).toInt64) * (((I 10 (6 * j + 1) 0) - (I 10 (6 * i + 1) 0)).toInt64))))], [xm_i ((I 10 (6 * j + 2) 0) - (I 10 (6 * i + 2) 0)), xm_i (xf_X5_pairOf (nI i) (nI j)), xm_r 16 0], xh_M I (xm_up L 15 (xh_p6 i j) 0 (((((I 10 (6 * j) 0) - (I 10 (6 * i) 0)).toInt64) * (((I 10 (6 * j) 0) - (I 10 (6 * i) 0)).toInt64)) + ((((I 10 (6 * j + 1) 0) - (I 10 (6 * i + 1) 0)).toInt64) * (((I 10 (6 * j + 1) 0) - (I 10 (6 * i + 1) 0)).toInt64)))), 0, 0)) 2 rfl ?_
        refine xK.iast' rfl rfl (xh_p6_ix hi hj) ?_
        rw [show xfI_X5_measure I L i j = (xm_up I 16 (xh_p6 i j) 0 ((I 10 (6 * j + 2) 0) - (I 10 (6 * i + 2) 0))) from by unfold xfI_X5_measure; rw [if_pos h1, if_neg h2, if_neg h4]]
        rw [show xfL_X5_measure I L i j = (xm_up L 15 (xh_p6 i j) 0 (((((I 10 (6 * j) 0) - (I 10 (6 * i) 0)).toInt64) * (((I 10 (6 * j) 0) - (I 10 (6 * i) 0)).toInt64)) + ((((I 10 (6 * j + 1) 0) - (I 10 (6 * i + 1) 0)).toInt64) * (((I 10 (6 * j + 1) 0) - (I 10 (6 * i + 1) 0)).toInt64)))) from by unfold xfL_X5_measure; rw [if_pos h1, if_neg h2, if_neg h4]]
        exact xK.ret rfl ⟨rfl, rfl⟩
  · skip
    refine xK.run (q := (119, [(0, xm_r 5 0), (1, xm_i (nI i)), (2, xm_i (nI j)), (3, xm_i (xf_X5_pairOf (nI i) (nI j))), (4, xm_l (((I 10 (6 * j) 0) - (I 10 (6 * i) 0)).toInt64)), (6, xm_l (((I 10 (6 * j + 1) 0) - (I 10 (6 * i + 1) 0)).toInt64)), (8, xm_i ((I 10 (6 * j + 2) 0) - (I 10 (6 * i + 2) 0))), (9, xm_i (-((I 10 (6 * j + 2) 0) - (I 10 (6 * i + 2) 0)))), (10, xm_l (((((I 10 (6 * j) 0) - (I 10 (6 * i) 0)).toInt64) * (((I 10 (6 * j) 0) - (I 10 (6 * i) 0)).toInt64)) + ((((I 10 (6 * j + 1) 0) - (I 10 (6 * i + 1) 0)).toInt64) * (((I 10 (6 * j + 1) 0) - (I 10 (6 * i + 1) 0)).toInt64))))], [xm_i (xf_X5_pairOf (nI i) (nI j)), xm_r 15 0, xm_l (((((I 10 (6 * j) 0) - (I 10 (6 * i) 0)).toInt64) * (((I 10 (6 * j) 0) - (I 10 (6 * i) 0)).toInt64)) + ((((I 10 (6 * j + 1) 0) - (I 10 (6 * i + 1) 0)).toInt64) * (((I 10 (6 * j + 1) 0) - (I 10 (6 * i + 1) 0)).toInt64))), xm_i (xf_X5_pairOf (nI i) (nI j)), xm_r 15 0], xh_M I L, 0, 0)) 19 rfl ?_
    refine xK.lald' rfl rfl (xh_p6_ix hi hj) ?_
    refine xK.run (q := (121, [(0, xm_r 5 0), (1, xm_i (nI i)), (2, xm_i (nI j)), (3, xm_i (xf_X5_pairOf (nI i) (nI j))), (4, xm_l (((I 10 (6 * j) 0) - (I 10 (6 * i) 0)).toInt64)), (6, xm_l (((I 10 (6 * j + 1) 0) - (I 10 (6 * i + 1) 0)).toInt64)), (8, xm_i ((I 10 (6 * j + 2) 0) - (I 10 (6 * i + 2) 0))), (9, xm_i (-((I 10 (6 * j + 2) 0) - (I 10 (6 * i + 2) 0)))), (10, xm_l (((((I 10 (6 * j) 0) - (I 10 (6 * i) 0)).toInt64) * (((I 10 (6 * j) 0) - (I 10 (6 * i) 0)).toInt64)) + ((((I 10 (6 * j + 1) 0) - (I 10 (6 * i + 1) 0)).toInt64) * (((I 10 (6 * j + 1) 0) - (I 10 (6 * i + 1) 0)).toInt64))))], [xm_i (lg_cmp (((((I 10 (6 * j) 0) - (I 10 (6 * i) 0)).toInt64) * (((I 10 (6 * j) 0) - (I 10 (6 * i) 0)).toInt64)) + ((((I 10 (6 * j + 1) 0) - (I 10 (6 * i + 1) 0)).toInt64) * (((I 10 (6 * j + 1) 0) - (I 10 (6 * i + 1) 0)).toInt64))) (L 15 (xh_p6 i j) 0)), xm_i (xf_X5_pairOf (nI i) (nI j)), xm_r 15 0], xh_M I L, 0, 0)) 1 rfl ?_
    refine xK.ifI rfl (fun (h5 : 0 ≤ (lg_cmp (((((I 10 (6 * j) 0) - (I 10 (6 * i) 0)).toInt64) * (((I 10 (6 * j) 0) - (I 10 (6 * i) 0)).toInt64)) + ((((I 10 (6 * j + 1) 0) - (I 10 (6 * i + 1) 0)).toInt64) * (((I 10 (6 * j + 1) 0) - (I 10 (6 * i + 1) 0)).toInt64))) (L 15 (xh_p6 i j) 0))) => ?_) (fun (h5 : ¬ 0 ≤ (lg_cmp (((((I 10 (6 * j) 0) - (I 10 (6 * i) 0)).toInt64) * (((I 10 (6 * j) 0) - (I 10 (6 * i) 0)).toInt64)) + ((((I 10 (6 * j + 1) 0) - (I 10 (6 * i + 1) 0)).toInt64) * (((I 10 (6 * j + 1) 0) - (I 10 (6 * i + 1) 0)).toInt64))) (L 15 (xh_p6 i j) 0))) => ?_)
    · skip
      refine xK.run (q := (134, [(0, xm_r 5 0), (1, xm_i (nI i)), (2, xm_i (nI j)), (3, xm_i (xf_X5_pairOf (nI i) (nI j))), (4, xm_l (((I 10 (6 * j) 0) - (I 10 (6 * i) 0)).toInt64)), (6, xm_l (((I 10 (6 * j + 1) 0) - (I 10 (6 * i + 1) 0)).toInt64)), (8, xm_i ((I 10 (6 * j + 2) 0) - (I 10 (6 * i + 2) 0))), (9, xm_i (-((I 10 (6 * j + 2) 0) - (I 10 (6 * i + 2) 0)))), (10, xm_l (((((I 10 (6 * j) 0) - (I 10 (6 * i) 0)).toInt64) * (((I 10 (6 * j) 0) - (I 10 (6 * i) 0)).toInt64)) + ((((I 10 (6 * j + 1) 0) - (I 10 (6 * i + 1) 0)).toInt64) * (((I 10 (6 * j + 1) 0) - (I 10 (6 * i + 1) 0)).toInt64))))], [xm_i (xf_X5_pairOf (nI i) (nI j)), xm_r 15 0, xm_i (xf_X5_pairOf (nI i) (nI j)), xm_r 15 0], xh_M I L, 0, 0)) 3 rfl ?_
      refine xK.lald' rfl rfl (xh_p6_ix hi hj) ?_
      refine xK.last' rfl rfl (xh_p6_ix hi hj) ?_
      refine xK.run (q := (148, [(0, xm_r 5 0), (1, xm_i (nI i)), (2, xm_i (nI j)), (3, xm_i (xf_X5_pairOf (nI i) (nI j))), (4, xm_l (((I 10 (6 * j) 0) - (I 10 (6 * i) 0)).toInt64)), (6, xm_l (((I 10 (6 * j + 1) 0) - (I 10 (6 * i + 1) 0)).toInt64)), (8, xm_i ((I 10 (6 * j + 2) 0) - (I 10 (6 * i + 2) 0))), (9, xm_i (-((I 10 (6 * j + 2) 0) - (I 10 (6 * i + 2) 0)))), (10, xm_l (((((I 10 (6 * j) 0) - (I 10 (6 * i) 0)).toInt64) * (((I 10 (6 * j) 0) - (I 10 (6 * i) 0)).toInt64)) + ((((I 10 (6 * j + 1) 0) - (I 10 (6 * i + 1) 0)).toInt64) * (((I 10 (6 * j + 1) 0) - (I 10 (6 * i + 1) 0)).toInt64))))], [xm_i (xf_X5_pairOf (nI i) (nI j)), xm_r 16 0, xm_i (-((I 10 (6 * j + 2) 0) - (I 10 (6 * i + 2) 0))), xm_i (xf_X5_pairOf (nI i) (nI j)), xm_r 16 0], xh_M I (xm_up L 15 (xh_p6 i j) 0 (L 15 (xh_p6 i j) 0)), 0, 0)) 7 rfl ?_
      refine xK.iald' rfl rfl (xh_p6_ix hi hj) ?_
      refine xK.icmp rfl (fun (h6 : (I 16 (xh_p6 i j) 0) ≤ (-((I 10 (6 * j + 2) 0) - (I 10 (6 * i + 2) 0)))) => ?_) (fun (h6 : ¬ (I 16 (xh_p6 i j) 0) ≤ (-((I 10 (6 * j + 2) 0) - (I 10 (6 * i + 2) 0)))) => ?_)
      · skip
        refine xK.run (q := (162, [(0, xm_r 5 0), (1, xm_i (nI i)), (2, xm_i (nI j)), (3, xm_i (xf_X5_pairOf (nI i) (nI j))), (4, xm_l (((I 10 (6 * j) 0) - (I 10 (6 * i) 0)).toInt64)), (6, xm_l (((I 10 (6 * j + 1) 0) - (I 10 (6 * i + 1) 0)).toInt64)), (8, xm_i ((I 10 (6 * j + 2) 0) - (I 10 (6 * i + 2) 0))), (9, xm_i (-((I 10 (6 * j + 2) 0) - (I 10 (6 * i + 2) 0)))), (10, xm_l (((((I 10 (6 * j) 0) - (I 10 (6 * i) 0)).toInt64) * (((I 10 (6 * j) 0) - (I 10 (6 * i) 0)).toInt64)) + ((((I 10 (6 * j + 1) 0) - (I 10 (6 * i + 1) 0)).toInt64) * (((I 10 (6 * j + 1) 0) - (I 10 (6 * i + 1) 0)).toInt64))))], [xm_i (xf_X5_pairOf (nI i) (nI j)), xm_r 16 0, xm_i (xf_X5_pairOf (nI i) (nI j)), xm_r 16 0], xh_M I (xm_up L 15 (xh_p6 i j) 0 (L 15 (xh_p6 i j) 0)), 0, 0)) 3 rfl ?_
        refine xK.iald' rfl rfl (xh_p6_ix hi hj) ?_
        refine xK.iast' rfl rfl (xh_p6_ix hi hj) ?_
        rw [show xfI_X5_measure I L i j = (xm_up I 16 (xh_p6 i j) 0 (I 16 (xh_p6 i j) 0)) from by unfold xfI_X5_measure; rw [if_neg h1, if_pos h5, if_pos h6]]
        rw [show xfL_X5_measure I L i j = (xm_up L 15 (xh_p6 i j) 0 (L 15 (xh_p6 i j) 0)) from by unfold xfL_X5_measure; rw [if_neg h1, if_pos h5, if_pos h6]]
        exact xK.ret rfl ⟨rfl, rfl⟩
      · skip
        refine xK.run (q := (163, [(0, xm_r 5 0), (1, xm_i (nI i)), (2, xm_i (nI j)), (3, xm_i (xf_X5_pairOf (nI i) (nI j))), (4, xm_l (((I 10 (6 * j) 0) - (I 10 (6 * i) 0)).toInt64)), (6, xm_l (((I 10 (6 * j + 1) 0) - (I 10 (6 * i + 1) 0)).toInt64)), (8, xm_i ((I 10 (6 * j + 2) 0) - (I 10 (6 * i + 2) 0))), (9, xm_i (-((I 10 (6 * j + 2) 0) - (I 10 (6 * i + 2) 0)))), (10, xm_l (((((I 10 (6 * j) 0) - (I 10 (6 * i) 0)).toInt64) * (((I 10 (6 * j) 0) - (I 10 (6 * i) 0)).toInt64)) + ((((I 10 (6 * j + 1) 0) - (I 10 (6 * i + 1) 0)).toInt64) * (((I 10 (6 * j + 1) 0) - (I 10 (6 * i + 1) 0)).toInt64))))], [xm_i (-((I 10 (6 * j + 2) 0) - (I 10 (6 * i + 2) 0))), xm_i (xf_X5_pairOf (nI i) (nI j)), xm_r 16 0], xh_M I (xm_up L 15 (xh_p6 i j) 0 (L 15 (xh_p6 i j) 0)), 0, 0)) 2 rfl ?_
        refine xK.iast' rfl rfl (xh_p6_ix hi hj) ?_
        rw [show xfI_X5_measure I L i j = (xm_up I 16 (xh_p6 i j) 0 (-((I 10 (6 * j + 2) 0) - (I 10 (6 * i + 2) 0)))) from by unfold xfI_X5_measure; rw [if_neg h1, if_pos h5, if_neg h6]]
        rw [show xfL_X5_measure I L i j = (xm_up L 15 (xh_p6 i j) 0 (L 15 (xh_p6 i j) 0)) from by unfold xfL_X5_measure; rw [if_neg h1, if_pos h5, if_neg h6]]
        exact xK.ret rfl ⟨rfl, rfl⟩
    · skip
      refine xK.run (q := (135, [(0, xm_r 5 0), (1, xm_i (nI i)), (2, xm_i (nI j)), (3, xm_i (xf_X5_pairOf (nI i) (nI j))), (4, xm_l (((I 10 (6 * j) 0) - (I 10 (6 * i) 0)).toInt64)), (6, xm_l (((I 10 (6 * j + 1) 0) - (I 10 (6 * i + 1) 0)).toInt64)), (8, xm_i ((I 10 (6 * j + 2) 0) - (I 10 (6 * i + 2) 0))), (9, xm_i (-((I 10 (6 * j + 2) 0) - (I 10 (6 * i + 2) 0)))), (10, xm_l (((((I 10 (6 * j) 0) - (I 10 (6 * i) 0)).toInt64) * (((I 10 (6 * j) 0) - (I 10 (6 * i) 0)).toInt64)) + ((((I 10 (6 * j + 1) 0) - (I 10 (6 * i + 1) 0)).toInt64) * (((I 10 (6 * j + 1) 0) - (I 10 (6 * i + 1) 0)).toInt64))))], [xm_l (((((I 10 (6 * j) 0) - (I 10 (6 * i) 0)).toInt64) * (((I 10 (6 * j) 0) - (I 10 (6 * i) 0)).toInt64)) + ((((I 10 (6 * j + 1) 0) - (I 10 (6 * i + 1) 0)).toInt64) * (((I 10 (6 * j + 1) 0) - (I 10 (6 * i + 1) 0)).toInt64))), xm_i (xf_X5_pairOf (nI i) (nI j)), xm_r 15 0], xh_M I L, 0, 0)) 2 rfl ?_
      refine xK.last' rfl rfl (xh_p6_ix hi hj) ?_
      refine xK.run (q := (148, [(0, xm_r 5 0), (1, xm_i (nI i)), (2, xm_i (nI j)), (3, xm_i (xf_X5_pairOf (nI i) (nI j))), (4, xm_l (((I 10 (6 * j) 0) - (I 10 (6 * i) 0)).toInt64)), (6, xm_l (((I 10 (6 * j + 1) 0) - (I 10 (6 * i + 1) 0)).toInt64)), (8, xm_i ((I 10 (6 * j + 2) 0) - (I 10 (6 * i + 2) 0))), (9, xm_i (-((I 10 (6 * j + 2) 0) - (I 10 (6 * i + 2) 0)))), (10, xm_l (((((I 10 (6 * j) 0) - (I 10 (6 * i) 0)).toInt64) * (((I 10 (6 * j) 0) - (I 10 (6 * i) 0)).toInt64)) + ((((I 10 (6 * j + 1) 0) - (I 10 (6 * i + 1) 0)).toInt64) * (((I 10 (6 * j + 1) 0) - (I 10 (6 * i + 1) 0)).toInt64))))], [xm_i (xf_X5_pairOf (nI i) (nI j)), xm_r 16 0, xm_i (-((I 10 (6 * j + 2) 0) - (I 10 (6 * i + 2) 0))), xm_i (xf_X5_pairOf (nI i) (nI j)), xm_r 16 0], xh_M I (xm_up L 15 (xh_p6 i j) 0 (((((I 10 (6 * j) 0) - (I 10 (6 * i) 0)).toInt64) * (((I 10 (6 * j) 0) - (I 10 (6 * i) 0)).toInt64)) + ((((I 10 (6 * j + 1) 0) - (I 10 (6 * i + 1) 0)).toInt64) * (((I 10 (6 * j + 1) 0) - (I 10 (6 * i + 1) 0)).toInt64)))), 0, 0)) 7 rfl ?_
      refine xK.iald' rfl rfl (xh_p6_ix hi hj) ?_
      refine xK.icmp rfl (fun (h7 : (I 16 (xh_p6 i j) 0) ≤ (-((I 10 (6 * j + 2) 0) - (I 10 (6 * i + 2) 0)))) => ?_) (fun (h7 : ¬ (I 16 (xh_p6 i j) 0) ≤ (-((I 10 (6 * j + 2) 0) - (I 10 (6 * i + 2) 0)))) => ?_)
      · skip
        refine xK.run (q := (162, [(0, xm_r 5 0), (1, xm_i (nI i)), (2, xm_i (nI j)), (3, xm_i (xf_X5_pairOf (nI i) (nI j))), (4, xm_l (((I 10 (6 * j) 0) - (I 10 (6 * i) 0)).toInt64)), (6, xm_l (((I 10 (6 * j + 1) 0) - (I 10 (6 * i + 1) 0)).toInt64)), (8, xm_i ((I 10 (6 * j + 2) 0) - (I 10 (6 * i + 2) 0))), (9, xm_i (-((I 10 (6 * j + 2) 0) - (I 10 (6 * i + 2) 0)))), (10, xm_l (((((I 10 (6 * j) 0) - (I 10 (6 * i) 0)).toInt64) * (((I 10 (6 * j) 0) - (I 10 (6 * i) 0)).toInt64)) + ((((I 10 (6 * j + 1) 0) - (I 10 (6 * i + 1) 0)).toInt64) * (((I 10 (6 * j + 1) 0) - (I 10 (6 * i + 1) 0)).toInt64))))], [xm_i (xf_X5_pairOf (nI i) (nI j)), xm_r 16 0, xm_i (xf_X5_pairOf (nI i) (nI j)), xm_r 16 0], xh_M I (xm_up L 15 (xh_p6 i j) 0 (((((I 10 (6 * j) 0) - (I 10 (6 * i) 0)).toInt64) * (((I 10 (6 * j) 0) - (I 10 (6 * i) 0)).toInt64)) + ((((I 10 (6 * j + 1) 0) - (I 10 (6 * i + 1) 0)).toInt64) * (((I 10 (6 * j + 1) 0) - (I 10 (6 * i + 1) 0)).toInt64)))), 0, 0)) 3 rfl ?_
        refine xK.iald' rfl rfl (xh_p6_ix hi hj) ?_
        refine xK.iast' rfl rfl (xh_p6_ix hi hj) ?_
        rw [show xfI_X5_measure I L i j = (xm_up I 16 (xh_p6 i j) 0 (I 16 (xh_p6 i j) 0)) from by unfold xfI_X5_measure; rw [if_neg h1, if_neg h5, if_pos h7]]
        rw [show xfL_X5_measure I L i j = (xm_up L 15 (xh_p6 i j) 0 (((((I 10 (6 * j) 0) - (I 10 (6 * i) 0)).toInt64) * (((I 10 (6 * j) 0) - (I 10 (6 * i) 0)).toInt64)) + ((((I 10 (6 * j + 1) 0) - (I 10 (6 * i + 1) 0)).toInt64) * (((I 10 (6 * j + 1) 0) - (I 10 (6 * i + 1) 0)).toInt64)))) from by unfold xfL_X5_measure; rw [if_neg h1, if_neg h5, if_pos h7]]
        exact xK.ret rfl ⟨rfl, rfl⟩
      · skip
        refine xK.run (q := (163, [(0, xm_r 5 0), (1, xm_i (nI i)), (2, xm_i (nI j)), (3, xm_i (xf_X5_pairOf (nI i) (nI j))), (4, xm_l (((I 10 (6 * j) 0) - (I 10 (6 * i) 0)).toInt64)), (6, xm_l (((I 10 (6 * j + 1) 0) - (I 10 (6 * i + 1) 0)).toInt64)), (8, xm_i ((I 10 (6 * j + 2) 0) - (I 10 (6 * i + 2) 0))), (9, xm_i (-((I 10 (6 * j + 2) 0) - (I 10 (6 * i + 2) 0)))), (10, xm_l (((((I 10 (6 * j) 0) - (I 10 (6 * i) 0)).toInt64) * (((I 10 (6 * j) 0) - (I 10 (6 * i) 0)).toInt64)) + ((((I 10 (6 * j + 1) 0) - (I 10 (6 * i + 1) 0)).toInt64) * (((I 10 (6 * j + 1) 0) - (I 10 (6 * i + 1) 0)).toInt64))))], [xm_i (-((I 10 (6 * j + 2) 0) - (I 10 (6 * i + 2) 0))), xm_i (xf_X5_pairOf (nI i) (nI j)), xm_r 16 0], xh_M I (xm_up L 15 (xh_p6 i j) 0 (((((I 10 (6 * j) 0) - (I 10 (6 * i) 0)).toInt64) * (((I 10 (6 * j) 0) - (I 10 (6 * i) 0)).toInt64)) + ((((I 10 (6 * j + 1) 0) - (I 10 (6 * i + 1) 0)).toInt64) * (((I 10 (6 * j + 1) 0) - (I 10 (6 * i + 1) 0)).toInt64)))), 0, 0)) 2 rfl ?_
        refine xK.iast' rfl rfl (xh_p6_ix hi hj) ?_
        rw [show xfI_X5_measure I L i j = (xm_up I 16 (xh_p6 i j) 0 (-((I 10 (6 * j + 2) 0) - (I 10 (6 * i + 2) 0)))) from by unfold xfI_X5_measure; rw [if_neg h1, if_neg h5, if_neg h7]]
        rw [show xfL_X5_measure I L i j = (xm_up L 15 (xh_p6 i j) 0 (((((I 10 (6 * j) 0) - (I 10 (6 * i) 0)).toInt64) * (((I 10 (6 * j) 0) - (I 10 (6 * i) 0)).toInt64)) + ((((I 10 (6 * j + 1) 0) - (I 10 (6 * i + 1) 0)).toInt64) * (((I 10 (6 * j + 1) 0) - (I 10 (6 * i + 1) 0)).toInt64)))) from by unfold xfL_X5_measure; rw [if_neg h1, if_neg h5, if_neg h7]]
        exact xK.ret rfl ⟨rfl, rfl⟩
