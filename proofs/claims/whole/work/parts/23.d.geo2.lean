/-! A LOOK GIVES THE GEOMETRY -/
theorem xk_lookI {I : xh_I} {L : xh_L} {i j c k : Nat} (hc : c ≠ 5) : xfI_X5_look I L i j c k 0 = I c k 0 := by
  unfold xfI_X5_look
  (repeat' split) <;> exact (xm_up_c hc).trans (xm_up_c hc)
theorem xk_lookL {I : xh_I} {L : xh_L} {i j c k : Nat} (hc : c ≠ 5) : xfL_X5_look I L i j c k 0 = L c k 0 := by
  unfold xfL_X5_look
  (repeat' split) <;> simp only [xm_up_c hc]
theorem xk_look12 {I : xh_I} {L : xh_L} {i j : Nat} : xfI_X5_look I L i j 5 12 0 = nI i ∧ xfI_X5_look I L i j 5 13 0 = nI j := by
  unfold xfI_X5_look
  (repeat' split) <;> exact ⟨rfl, rfl⟩
theorem xk_look14 {I : xh_I} {L : xh_L} {i j : Nat} : xfL_X5_look I L i j 5 14 0 = (I 10 (6 * j) 0 - I 10 (6 * i) 0).toInt64 ∧ xfL_X5_look I L i j 5 15 0 = (I 10 (6 * j + 1) 0 - I 10 (6 * i + 1) 0).toInt64 ∧ xfL_X5_look I L i j 5 16 0 = (I 10 (6 * j + 2) 0 - I 10 (6 * i + 2) 0).toInt64 := by
  unfold xfL_X5_look
  (repeat' split) <;> exact ⟨rfl, rfl, rfl⟩
theorem xk_look17 {I : xh_I} {L : xh_L} {i j : Nat} : xfL_X5_look I L i j 5 17 0 = (I 10 (6 * j + 3) 0 - I 10 (6 * i + 3) 0).toInt64 ∧ xfL_X5_look I L i j 5 18 0 = (I 10 (6 * j + 4) 0 - I 10 (6 * i + 4) 0).toInt64 ∧ xfL_X5_look I L i j 5 19 0 = (I 10 (6 * j + 5) 0 - I 10 (6 * i + 5) 0).toInt64 := by
  unfold xfL_X5_look
  (repeat' split) <;> exact ⟨rfl, rfl, rfl⟩
/-- closing, and the speeds' square -/
def xk_cl (I : xh_I) (i j : Nat) : Int64 := (((((I 10 (6 * j) 0) - (I 10 (6 * i) 0)).toInt64) * (((I 10 (6 * j + 3) 0) - (I 10 (6 * i + 3) 0)).toInt64)) + ((((I 10 (6 * j + 1) 0) - (I 10 (6 * i + 1) 0)).toInt64) * (((I 10 (6 * j + 4) 0) - (I 10 (6 * i + 4) 0)).toInt64)))
def xk_sq (I : xh_I) (i j : Nat) : Int64 := (((((I 10 (6 * j + 3) 0) - (I 10 (6 * i + 3) 0)).toInt64) * (((I 10 (6 * j + 3) 0) - (I 10 (6 * i + 3) 0)).toInt64)) + ((((I 10 (6 * j + 4) 0) - (I 10 (6 * i + 4) 0)).toInt64) * (((I 10 (6 * j + 4) 0) - (I 10 (6 * i + 4) 0)).toInt64)))
theorem xk_look20 {I : xh_I} {L : xh_L} {i j : Nat} : xfL_X5_look I L i j 5 20 0 = xk_cl I i j := by
  unfold xfL_X5_look
  (repeat' split) <;> rfl
theorem xk_look21 {I : xh_I} {L : xh_L} {i j : Nat} : xfL_X5_look I L i j 5 21 0 = if lg_cmp (xk_cl I i j) 0 < 0 then (if lg_cmp ((-(xk_cl I i j)) / xk_sq I i j) ((I 7 0 0).toInt64) ≤ 0 then (-(xk_cl I i j)) / xk_sq I i j else (I 7 0 0).toInt64) else (if lg_cmp 0 ((I 7 0 0).toInt64) ≤ 0 then 0 else (I 7 0 0).toInt64) := by
  unfold xfL_X5_look
  by_cases c1 : lg_cmp (xk_cl I i j) 0 < 0
  · rw [if_pos c1, if_pos (show lg_cmp (((((I 10 (6 * j) 0) - (I 10 (6 * i) 0)).toInt64) * (((I 10 (6 * j + 3) 0) - (I 10 (6 * i + 3) 0)).toInt64)) + ((((I 10 (6 * j + 1) 0) - (I 10 (6 * i + 1) 0)).toInt64) * (((I 10 (6 * j + 4) 0) - (I 10 (6 * i + 4) 0)).toInt64))) 0 < 0 from c1)]
    by_cases c2 : lg_cmp ((-(xk_cl I i j)) / xk_sq I i j) ((I 7 0 0).toInt64) ≤ 0
    · rw [if_pos c2]
      refine Eq.trans (congrFun (congrFun (congrFun (if_pos c2) 5) 21) 0) ?_
      rfl
    · rw [if_neg c2]
      refine Eq.trans (congrFun (congrFun (congrFun (if_neg c2) 5) 21) 0) ?_
      rfl
  · rw [if_neg c1, if_neg (show ¬ lg_cmp (((((I 10 (6 * j) 0) - (I 10 (6 * i) 0)).toInt64) * (((I 10 (6 * j + 3) 0) - (I 10 (6 * i + 3) 0)).toInt64)) + ((((I 10 (6 * j + 1) 0) - (I 10 (6 * i + 1) 0)).toInt64) * (((I 10 (6 * j + 4) 0) - (I 10 (6 * i + 4) 0)).toInt64))) 0 < 0 from c1)]
    by_cases c2 : lg_cmp 0 ((I 7 0 0).toInt64) ≤ 0
    · rw [if_pos c2, if_pos c2]
      rfl
    · rw [if_neg c2, if_neg c2]
      rfl
theorem xr_sub64 {a b : Int32} {m : Int} (ha : xb m a) (hb : xb m b) (hm : m ≤ 1000000) : -(2 * m) ≤ (a - b).toInt64.toInt ∧ (a - b).toInt64.toInt ≤ 2 * m := by
  rw [t64, i32_sub (by omega)]
  omega
/-- the time left, in both -/
theorem xr_tl {c q : Int64} {t : Int32} (hc : -2000000000 ≤ c.toInt ∧ c.toInt ≤ 2000000000) (hq : 0 ≤ q.toInt ∧ q.toInt ≤ 10000000) (hz : lg_cmp c 0 < 0 → ¬ q = 0) (ht : xn 100 t) :
    ∃ tl : Int32, tl = (if 0 ≤ (lg_cmp c 0) then 0 else (if (lg_cmp q 0) = 0 then 0 else ((xo_minL ((-c) / q) (t.toInt64)).toInt32))) ∧ xn 100 tl ∧ tl.toInt64 = (if lg_cmp c 0 < 0 then (if lg_cmp ((-c) / q) t.toInt64 ≤ 0 then (-c) / q else t.toInt64) else (if lg_cmp 0 t.toInt64 ≤ 0 then 0 else t.toInt64)) := by
  refine ⟨_, rfl, ?_⟩
  have e0 : (0 : Int64).toInt = 0 := rfl
  by_cases c1 : lg_cmp c 0 < 0
  · have hc0 : c.toInt < 0 := by rw [lg_cmp_lt, Int64.lt_iff_toInt_lt, e0] at c1; exact c1
    have hq0 : ¬ lg_cmp q 0 = 0 := fun h9 => hz c1 ((lg_cmp_eq _ _).mp h9)
    have hq1 : ¬ q.toInt = 0 := fun h9 => hz c1 (i64_ext (h9.trans e0.symm))
    rw [if_pos c1, if_neg (Int32.not_le.mpr c1), if_neg hq0]
    have hn : (-c).toInt = -c.toInt := i64_neg (by omega)
    have hd : ((-c) / q).toInt = (-c.toInt).tdiv q.toInt := by
      rw [Int64.toInt_div, hn]
      have h1 : 0 ≤ (-c.toInt).tdiv q.toInt := Int.tdiv_nonneg (by omega) (by omega)
      have h2 : (-c.toInt).tdiv q.toInt ≤ -c.toInt := Int.tdiv_le_self _ (by omega)
      apply Int.bmod_eq_of_le <;> omega
    have h1 : 0 ≤ (-c.toInt).tdiv q.toInt := Int.tdiv_nonneg (by omega) (by omega)
    have hm : ∀ x : Int64, 0 ≤ x.toInt ∧ x.toInt ≤ 100 → x.toInt32.toInt = x.toInt := by
      intro x hx
      rw [Int64.toInt_toInt32]
      apply Int.bmod_eq_of_le <;> omega
    unfold xo_minL
    by_cases c2 : lg_cmp ((-c) / q) t.toInt64 ≤ 0
    · have c3 : (-c) / q ≤ t.toInt64 := (lg_cmp_le _ _).mp c2
      have c4 : ((-c) / q).toInt ≤ t.toInt := by rw [Int64.le_iff_toInt_le, t64] at c3; exact c3
      rw [if_pos c2, if_neg (Int64.not_lt.mpr c3)]
      have h9 := hm ((-c) / q) ⟨by rw [hd]; exact h1, by omega⟩
      refine ⟨⟨by rw [h9, hd]; exact h1, by rw [h9]; omega⟩, i64_ext (by rw [t64, h9])⟩
    · have c3 : t.toInt64 < (-c) / q := Int64.not_le.mp (fun h9 => c2 ((lg_cmp_le _ _).mpr h9))
      rw [if_neg c2, if_pos c3]
      have h9 := hm t.toInt64 (by rw [t64]; exact ht)
      rw [t64] at h9
      refine ⟨by rw [xn, h9]; exact ht, i64_ext (by rw [t64, h9, t64])⟩
  · rw [if_neg c1, if_pos (Int32.not_lt.mp c1), if_pos (by rw [lg_cmp_le, Int64.le_iff_toInt_le, t64, e0]; exact ht.1)]
    exact ⟨by decide, rfl⟩
theorem xg_look {Ic Ir : xh_I} {Lc Lr : xh_L} {k : Nat} (hl : xh_lo k < 6 ∧ xh_hi k < 6) (hr : xh_rg Ic (xh_lo k) ∧ xh_rg Ic (xh_hi k)) (ht : xh_tk Ic Ir (xh_lo k) ∧ xh_tk Ic Ir (xh_hi k)) (hs : xh_se Ic Ir) : xh_Geo Ic k (xfI_X5_look Ir Lr (xh_lo k) (xh_hi k)) (xfL_X5_look Ir Lr (xh_lo k) (xh_hi k)) (xf_X1_timeLeft Ic Lc k) := by
  obtain ⟨t1, t2⟩ := ht
  obtain ⟨⟨⟨q1, q2, q3⟩, ⟨q4, q5, q6⟩⟩, ⟨⟨p1, p2, p3⟩, ⟨p4, p5, p6⟩⟩⟩ := hr
  have a0 : Ic 0 2 (xh_lo k) = Ir 10 (6 * xh_lo k) 0 := t1 0 (by decide)
  have a1 : Ic 0 3 (xh_lo k) = Ir 10 (6 * xh_lo k + 1) 0 := t1 1 (by decide)
  have a2 : Ic 0 4 (xh_lo k) = Ir 10 (6 * xh_lo k + 2) 0 := t1 2 (by decide)
  have a3 : Ic 0 5 (xh_lo k) = Ir 10 (6 * xh_lo k + 3) 0 := t1 3 (by decide)
  have a4 : Ic 0 6 (xh_lo k) = Ir 10 (6 * xh_lo k + 4) 0 := t1 4 (by decide)
  have a5 : Ic 0 7 (xh_lo k) = Ir 10 (6 * xh_lo k + 5) 0 := t1 5 (by decide)
  have b0 : Ic 0 2 (xh_hi k) = Ir 10 (6 * xh_hi k) 0 := t2 0 (by decide)
  have b1 : Ic 0 3 (xh_hi k) = Ir 10 (6 * xh_hi k + 1) 0 := t2 1 (by decide)
  have b2 : Ic 0 4 (xh_hi k) = Ir 10 (6 * xh_hi k + 2) 0 := t2 2 (by decide)
  have b3 : Ic 0 5 (xh_hi k) = Ir 10 (6 * xh_hi k + 3) 0 := t2 3 (by decide)
  have b4 : Ic 0 6 (xh_hi k) = Ir 10 (6 * xh_hi k + 4) 0 := t2 4 (by decide)
  have b5 : Ic 0 7 (xh_hi k) = Ir 10 (6 * xh_hi k + 5) 0 := t2 5 (by decide)
  have eC : xk_cl Ir (xh_lo k) (xh_hi k) = xf_X1_closing Ic Lc k := by
    unfold xk_cl xf_X1_closing
    rw [← a0, ← a1, ← a3, ← a4, ← b0, ← b1, ← b3, ← b4]
  have eQ : xk_sq Ir (xh_lo k) (xh_hi k) = ((((Ic 0 5 (xh_hi k)) - (Ic 0 5 (xh_lo k))).toInt64) * (((Ic 0 5 (xh_hi k)) - (Ic 0 5 (xh_lo k))).toInt64)) + ((((Ic 0 6 (xh_hi k)) - (Ic 0 6 (xh_lo k))).toInt64) * (((Ic 0 6 (xh_hi k)) - (Ic 0 6 (xh_lo k))).toInt64)) := by
    unfold xk_sq
    rw [← a3, ← a4, ← b3, ← b4]
  have s0 : Ic 6 0 0 = Ir 7 0 0 := hs.1 0 (by decide)
  have dx := xr_sub64 p1 q1 (by decide)
  have dy := xr_sub64 p2 q2 (by decide)
  have du := xr_sub64 p4 q4 (by decide)
  have dv := xr_sub64 p5 q5 (by decide)
  have m1 := xr_mb2 dx du
  have m2 := xr_mb2 dy dv
  have hC : -2000000000 ≤ (xf_X1_closing Ic Lc k).toInt ∧ (xf_X1_closing Ic Lc k).toInt ≤ 2000000000 := by
    unfold xf_X1_closing
    rw [i64_add, i64_mul (by omega), i64_mul (by omega)]
    · omega
    · rw [i64_mul (by omega), i64_mul (by omega)]; omega
  have n1 := xr_mb2 du du
  have n2 := xr_mb2 dv dv
  have sqn : ∀ x : Int, 0 ≤ x * x := by
    intro x
    rcases Int.le_total 0 x with h | h
    · exact Int.mul_nonneg h h
    · exact Int.mul_nonneg_of_nonpos_of_nonpos h h
  have g1 := sqn (Ic 0 5 (xh_hi k) - Ic 0 5 (xh_lo k)).toInt64.toInt
  have g2 := sqn (Ic 0 6 (xh_hi k) - Ic 0 6 (xh_lo k)).toInt64.toInt
  have hQ : 0 ≤ (xk_sq Ir (xh_lo k) (xh_hi k)).toInt ∧ (xk_sq Ir (xh_lo k) (xh_hi k)).toInt ≤ 10000000 := by
    rw [eQ, i64_add, i64_mul (by omega), i64_mul (by omega)]
    · omega
    · rw [i64_mul (by omega), i64_mul (by omega)]; omega
  have hZ : lg_cmp (xf_X1_closing Ic Lc k) 0 < 0 → ¬ xk_sq Ir (xh_lo k) (xh_hi k) = 0 := by
    intro h1 h2
    rw [eQ] at h2
    obtain ⟨z1, z2⟩ := xh_sq du dv h2
    unfold xf_X1_closing at h1
    rw [z1, z2, Int64.mul_zero, Int64.mul_zero] at h1
    exact absurd h1 (by decide)
  obtain ⟨tl, e1, e2, e3⟩ := xr_tl hC hQ hZ hs.2.1
  have eTL : xf_X1_timeLeft Ic Lc k = tl := by
    rw [e1, eQ]
    rfl
  rw [eTL]
  refine ⟨hl, ⟨⟨⟨q1, q2, q3⟩, ⟨q4, q5, q6⟩⟩, ⟨⟨p1, p2, p3⟩, ⟨p4, p5, p6⟩⟩⟩, ⟨fun c hc => (t1 c hc).trans (xk_lookI (by decide)).symm, fun c hc => (t2 c hc).trans (xk_lookI (by decide)).symm⟩, ⟨fun c hc => (hs.1 c hc).trans (xk_lookI (by decide)).symm, hs.2⟩, xk_look12, ?_, ?_, ?_, ?_, e2⟩
  · obtain ⟨h1, h2, h3⟩ := xk_look14 (I := Ir) (L := Lr) (i := xh_lo k) (j := xh_hi k)
    rw [h1, h2, h3, a0, a1, a2, b0, b1, b2]
    exact ⟨rfl, rfl, rfl⟩
  · obtain ⟨h1, h2, h3⟩ := xk_look17 (I := Ir) (L := Lr) (i := xh_lo k) (j := xh_hi k)
    rw [h1, h2, h3, a3, a4, a5, b3, b4, b5]
    exact ⟨rfl, rfl, rfl⟩
  · rw [xk_look20, eC]
    rfl
  · rw [xk_look21, eC, e3, s0]
