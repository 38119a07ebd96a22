/-! ALERTS, AND WHAT A LOOK FINDS -/
theorem xr_mb2 {x y m n : Int} (hx : -m ≤ x ∧ x ≤ m) (hy : -n ≤ y ∧ y ≤ n) : -(m * n) ≤ x * y ∧ x * y ≤ m * n := by
  rcases Int.le_total 0 y with h | h
  · exact xr_mb hx ⟨h, hy.2⟩
  · have h1 := xr_mb (y := -y) (n := n) hx ⟨by omega, by omega⟩
    rw [Int.mul_neg] at h1
    omega
theorem xr_abs {a : Int32} (h : xb 1000000 a) : (xo_abs a).toInt = if 0 ≤ a.toInt then a.toInt else -a.toInt := by
  unfold xo_abs
  have e0 : (0 : Int32).toInt = 0 := rfl
  by_cases h1 : 0 ≤ a
  · rw [if_pos h1, if_pos (by rw [Int32.le_iff_toInt_le, e0] at h1; exact h1)]
  · rw [if_neg h1, if_neg (by rw [Int32.le_iff_toInt_le, e0] at h1; exact h1), i32_sub (by rw [e0]; omega), e0]
    omega
theorem xr_plain {a : Int64} (h : -1000000 ≤ a.toInt) : (xf_X5_plain a).toInt = if 0 ≤ a.toInt then a.toInt else -a.toInt := by
  unfold xf_X5_plain
  have e0 : (0 : Int64).toInt = 0 := rfl
  by_cases h1 : 0 ≤ lg_cmp a 0
  · rw [if_pos h1, if_pos (by rw [lg_cmp_ge, Int64.le_iff_toInt_le, e0] at h1; exact h1)]
  · rw [if_neg h1, if_neg (by rw [lg_cmp_ge, Int64.le_iff_toInt_le, e0] at h1; exact h1), i64_neg (by omega)]
theorem xr_opp (z w : Int) : 0 ≤ z * w ↔ ¬ ((0 < z ∧ w < 0) ∨ (z < 0 ∧ 0 < w)) := by
  rcases Int.lt_trichotomy z 0 with h | h | h
  · rcases Int.lt_trichotomy w 0 with g | g | g
    · have := Int.mul_pos_of_neg_of_neg h g
      omega
    · subst g; rw [Int.mul_zero]; omega
    · have := Int.mul_neg_of_neg_of_pos h g
      omega
  · subst h; rw [Int.zero_mul]; omega
  · rcases Int.lt_trichotomy w 0 with g | g | g
    · have := Int.mul_neg_of_pos_of_neg h g
      omega
    · subst g; rw [Int.mul_zero]; omega
    · have := Int.mul_pos h g
      omega
theorem xr_alH {I Ir : xh_I} {L Lr : xh_L} {z w : Int32} (hz : xb 40000 z) (hw : xb 120 w) (h16 : Lr 5 16 0 = z.toInt64) (h19 : Lr 5 19 0 = w.toInt64) (s0 : I 6 0 0 = Ir 7 0 0) (s3 : I 6 3 0 = Ir 7 3 0) (ht : xn 100 (I 6 0 0)) :
    xf_alH Ir Lr = if (xo_abs z) ≤ (xf_X2_high I L) then 1 else (if 0 ≤ (z * w) then 0 else (if ((xf_X2_time I L) * (xo_abs w)) < (xo_abs z) then 0 else 1)) := by
  have e0 : (0 : Int64).toInt = 0 := rfl
  have ez : (0 : Int32).toInt = 0 := rfl
  have az := xr_abs (a := z) (by rw [xb]; omega)
  have aw := xr_abs (a := w) (by rw [xb]; omega)
  have pz := xr_plain (a := z.toInt64) (by rw [t64]; omega)
  have pw := xr_plain (a := w.toInt64) (by rw [t64]; omega)
  rw [t64] at pz pw
  have hA : (lg_cmp (xf_X5_plain z.toInt64) ((I 6 3 0).toInt64) ≤ 0) ↔ (xo_abs z) ≤ (xf_X2_high I L) := by
    rw [lg_cmp_le, Int64.le_iff_toInt_le, pz, t64, Int32.le_iff_toInt_le, az]
    exact Iff.rfl
  have m1 : ((I 6 0 0).toInt64 * xf_X5_plain w.toInt64).toInt = (I 6 0 0).toInt * (if 0 ≤ w.toInt then w.toInt else -w.toInt) := by
    have h9 := xr_mb2 (x := (I 6 0 0).toInt) (y := if 0 ≤ w.toInt then w.toInt else -w.toInt) (m := 100) (n := 120) (by omega) (by split <;> omega)
    rw [i64_mul (by rw [t64, pw]; omega), t64, pw]
  have m2 : ((xf_X2_time I L) * (xo_abs w)).toInt = (I 6 0 0).toInt * (if 0 ≤ w.toInt then w.toInt else -w.toInt) := by
    have h9 := xr_mb2 (x := (I 6 0 0).toInt) (y := if 0 ≤ w.toInt then w.toInt else -w.toInt) (m := 100) (n := 120) (by omega) (by split <;> omega)
    unfold xf_X2_time
    rw [i32_mul (by rw [aw]; omega), aw]
  have hB : (0 < lg_cmp (xf_X5_plain z.toInt64) (((I 6 0 0).toInt64) * (xf_X5_plain w.toInt64))) ↔ ((xf_X2_time I L) * (xo_abs w)) < (xo_abs z) := by
    rw [lg_cmp_gt, Int64.lt_iff_toInt_lt, m1, pz, Int32.lt_iff_toInt_lt, m2, az]
  have hm : (z * w).toInt = z.toInt * w.toInt := by
    have h9 := xr_mb2 hz hw
    exact i32_mul (by omega)
  have hO : 0 ≤ z * w ↔ ¬ ((0 < z.toInt ∧ w.toInt < 0) ∨ (z.toInt < 0 ∧ 0 < w.toInt)) := by
    rw [Int32.le_iff_toInt_le, hm, ez]
    exact xr_opp _ _
  have hK : ∀ o : Int32, xf_alK Ir Lr o = if (xo_abs z) ≤ (xf_X2_high I L) then 1 else (if o = 0 then 0 else (if ((xf_X2_time I L) * (xo_abs w)) < (xo_abs z) then 0 else 1)) := by
    intro o
    unfold xf_alK
    rw [h16, h19, ← s3, ← s0]
    by_cases c1 : (xo_abs z) ≤ (xf_X2_high I L)
    · rw [if_pos c1, if_pos (hA.mpr c1)]
    · rw [if_neg c1, if_neg (fun h9 => c1 (hA.mp h9))]
      by_cases c2 : o = 0
      · rw [if_pos c2, if_pos c2]
      · rw [if_neg c2, if_neg c2]
        by_cases c3 : ((xf_X2_time I L) * (xo_abs w)) < (xo_abs z)
        · rw [if_pos c3, if_pos (hB.mpr c3)]
        · rw [if_neg c3, if_neg (fun h9 => c3 (hB.mp h9))]
  have k0 : ¬ ((0 < z.toInt ∧ w.toInt < 0) ∨ (z.toInt < 0 ∧ 0 < w.toInt)) → xf_alK Ir Lr 0 = if (xo_abs z) ≤ (xf_X2_high I L) then 1 else (if 0 ≤ (z * w) then 0 else (if ((xf_X2_time I L) * (xo_abs w)) < (xo_abs z) then 0 else 1)) := by
    intro h9
    rw [hK, if_pos rfl, if_pos (hO.mpr h9)]
  have k1 : ((0 < z.toInt ∧ w.toInt < 0) ∨ (z.toInt < 0 ∧ 0 < w.toInt)) → xf_alK Ir Lr 1 = if (xo_abs z) ≤ (xf_X2_high I L) then 1 else (if 0 ≤ (z * w) then 0 else (if ((xf_X2_time I L) * (xo_abs w)) < (xo_abs z) then 0 else 1)) := by
    intro h9
    rw [hK, if_neg (show ¬ (1 : Int32) = 0 by decide), if_neg (fun h8 => hO.mp h8 h9)]
  have zl : (lg_cmp z.toInt64 0 ≤ 0) ↔ z.toInt ≤ 0 := by rw [lg_cmp_le, Int64.le_iff_toInt_le, t64, e0]
  have zg : (0 ≤ lg_cmp z.toInt64 0) ↔ 0 ≤ z.toInt := by rw [lg_cmp_ge, Int64.le_iff_toInt_le, t64, e0]
  have wl : (lg_cmp w.toInt64 0 ≤ 0) ↔ w.toInt ≤ 0 := by rw [lg_cmp_le, Int64.le_iff_toInt_le, t64, e0]
  have wn : (lg_cmp w.toInt64 0 < 0) ↔ w.toInt < 0 := by rw [lg_cmp_lt, Int64.lt_iff_toInt_lt, t64, e0]
  unfold xf_alH
  rw [h16, h19]
  by_cases c1 : z.toInt ≤ 0
  · rw [if_pos (zl.mpr c1)]
    by_cases c2 : 0 ≤ z.toInt
    · rw [if_pos (zg.mpr c2)]
      exact k0 (by omega)
    · rw [if_neg (fun h9 => c2 (zg.mp h9))]
      by_cases c3 : w.toInt ≤ 0
      · rw [if_pos (wl.mpr c3)]
        exact k0 (by omega)
      · rw [if_neg (fun h9 => c3 (wl.mp h9))]
        exact k1 (by omega)
  · rw [if_neg (fun h9 => c1 (zl.mp h9))]
    by_cases c2 : w.toInt < 0
    · rw [if_pos (wn.mpr c2)]
      exact k1 (by omega)
    · rw [if_neg (fun h9 => c2 (wn.mp h9)), if_pos (zg.mpr (by omega))]
      exact k0 (by omega)
section GEO2
variable {Ic Ir : xh_I} {Lc Lr : xh_L} {k : Nat} {tl : Int32}
theorem xg_al (G : xh_Geo Ic k Ir Lr tl) : xf_X5_alerts Ir Lr = xf_X1_alerts Ic Lc k := by
  obtain ⟨⟨l1, l2⟩, ⟨r1, r2⟩, ⟨t1, t2⟩, ⟨se, st, sd, -⟩, ⟨⟨o1, o2⟩, ⟨x14, x15, x16⟩, ⟨x17, x18, x19⟩, x20, hL, htl⟩⟩ := G
  have b1 := r1.1.2.2
  have b2 := r2.1.2.2
  have b3 := r1.2.2.2
  have b4 := r2.2.2.2
  have hz : xb 40000 (Ic 0 4 (xh_hi k) - Ic 0 4 (xh_lo k)) := by rw [xb, i32_sub (by omega)]; omega
  have hw : xb 120 (Ic 0 7 (xh_hi k) - Ic 0 7 (xh_lo k)) := by rw [xb, i32_sub (by omega)]; omega
  have hH : xf_alH Ir Lr = xf_X1_meetsInHeight Ic Lc k := xr_alH (L := Lc) hz hw x16 x19 (se 0 (by decide)) (se 3 (by decide)) st
  have eD : ((Lr 5 14 0) * (Lr 5 14 0)) + ((Lr 5 15 0) * (Lr 5 15 0)) = xf_X1_distanceSquared Ic Lc k := by rw [x14, x15]; rfl
  have s1 : Ic 6 1 0 = Ir 7 1 0 := se 1 (by decide)
  have s2 : Ic 6 2 0 = Ir 7 2 0 := se 2 (by decide)
  have s0 : Ic 6 0 0 = Ir 7 0 0 := se 0 (by decide)
  have eN : ((Ir 7 1 0).toInt64) * ((Ir 7 1 0).toInt64) = xf_X1_nearSquared Ic Lc k := by rw [← s1]; rfl
  have eC : Lr 5 20 0 = xf_X1_closing Ic Lc k := x20
  have eT : (Ir 7 0 0).toInt64 = (xf_X2_time Ic Lc).toInt64 := by rw [← s0]; rfl
  have eM : ((Ir 7 2 0).toInt64) * ((Ir 7 2 0).toInt64) = ((xf_X2_miss Ic Lc).toInt64) * ((xf_X2_miss Ic Lc).toInt64) := by rw [← s2]; rfl
  have hM : xf_X1_meetsInHeight Ic Lc k = if xf_X1_meetsInHeight Ic Lc k = 0 then 0 else 1 := by
    rcases xz_X1_meetsInHeight Ic Lc k with h | h
    · rw [h]; rfl
    · rw [h]; rfl
  have h01 : ¬ (1 : Int32) = 0 := by decide
  unfold xf_X5_alerts xf_X1_alerts
  rw [eD, eN, eC, eT, eM, x14, x15, x17, x18, hH]
  unfold xf_X1_isNear xf_X1_comesNearInTime xf_X1_passesNear
  by_cases c1 : lg_cmp (xf_X1_distanceSquared Ic Lc k) (xf_X1_nearSquared Ic Lc k) ≤ 0
  · rw [if_pos c1, if_neg (Int32.not_lt.mpr c1), if_neg h01]
    exact hM
  · rw [if_neg c1, if_pos (Int32.not_le.mp c1), if_pos rfl]
    by_cases c2 : 0 ≤ lg_cmp (xf_X1_closing Ic Lc k) 0
    · rw [if_pos c2, if_pos c2, if_pos rfl]
    · rw [if_neg c2, if_neg c2]
      by_cases c3 : lg_cmp ((xf_X1_distanceSquared Ic Lc k) - (xf_X1_nearSquared Ic Lc k)) (((xf_X2_time Ic Lc).toInt64) * (-(xf_X1_closing Ic Lc k))) ≤ 0
      · rw [if_pos c3, if_neg (Int32.not_lt.mpr c3), if_neg h01]
        split
        · rename_i c4
          rw [if_neg (Int32.not_lt.mpr c4), if_neg h01]
          exact hM
        · rename_i c4
          rw [if_pos (Int32.not_le.mp c4), if_pos rfl]
      · rw [if_neg c3, if_pos (Int32.not_le.mp c3), if_pos rfl]
end GEO2
