/-! NUMBERS: ints and longs that stay within their bounds -/
theorem i32_add {a b : Int32} (h : -2147483648 ≤ a.toInt + b.toInt ∧ a.toInt + b.toInt ≤ 2147483647) : (a + b).toInt = a.toInt + b.toInt := by
  rw [Int32.toInt_add]
  apply Int.bmod_eq_of_le <;> omega
theorem i32_sub {a b : Int32} (h : -2147483648 ≤ a.toInt - b.toInt ∧ a.toInt - b.toInt ≤ 2147483647) : (a - b).toInt = a.toInt - b.toInt := by
  rw [Int32.toInt_sub]
  apply Int.bmod_eq_of_le <;> omega
theorem i32_mul {a b : Int32} (h : -2147483648 ≤ a.toInt * b.toInt ∧ a.toInt * b.toInt ≤ 2147483647) : (a * b).toInt = a.toInt * b.toInt := by
  rw [Int32.toInt_mul]
  apply Int.bmod_eq_of_le <;> omega
theorem i32_neg {a : Int32} (h : -2147483648 < a.toInt) : (-a).toInt = -a.toInt := by
  have h1 := Int32.toInt_lt a
  rw [Int32.toInt_neg]
  apply Int.bmod_eq_of_le <;> omega
theorem i64_add {a b : Int64} (h : -9223372036854775808 ≤ a.toInt + b.toInt ∧ a.toInt + b.toInt ≤ 9223372036854775807) : (a + b).toInt = a.toInt + b.toInt := by
  rw [Int64.toInt_add]
  apply Int.bmod_eq_of_le <;> omega
theorem i64_sub {a b : Int64} (h : -9223372036854775808 ≤ a.toInt - b.toInt ∧ a.toInt - b.toInt ≤ 9223372036854775807) : (a - b).toInt = a.toInt - b.toInt := by
  rw [Int64.toInt_sub]
  apply Int.bmod_eq_of_le <;> omega
theorem i64_mul {a b : Int64} (h : -9223372036854775808 ≤ a.toInt * b.toInt ∧ a.toInt * b.toInt ≤ 9223372036854775807) : (a * b).toInt = a.toInt * b.toInt := by
  rw [Int64.toInt_mul]
  apply Int.bmod_eq_of_le <;> omega
theorem i64_neg {a : Int64} (h : -9223372036854775808 < a.toInt) : (-a).toInt = -a.toInt := by
  have h1 := Int64.toInt_lt a
  rw [Int64.toInt_neg]
  apply Int.bmod_eq_of_le <;> omega
theorem xr_mb {x y m n : Int} (hx : -m ≤ x ∧ x ≤ m) (hy : 0 ≤ y ∧ y ≤ n) : -(m * n) ≤ x * y ∧ x * y ≤ m * n := by
  have hm : 0 ≤ m := by omega
  have h1 : x * y ≤ m * y := Int.mul_le_mul_of_nonneg_right hx.2 hy.1
  have h2 : (-m) * y ≤ x * y := Int.mul_le_mul_of_nonneg_right hx.1 hy.1
  have h3 : m * y ≤ m * n := Int.mul_le_mul_of_nonneg_left hy.2 hm
  rw [Int.neg_mul] at h2
  omega
abbrev xb (m : Int) (a : Int32) : Prop := -m ≤ a.toInt ∧ a.toInt ≤ m
abbrev xn (m : Int) (a : Int32) : Prop := 0 ≤ a.toInt ∧ a.toInt ≤ m
theorem t64 (a : Int32) : a.toInt64.toInt = a.toInt := Int32.toInt_toInt64 a
theorem i64_ext {a b : Int64} (h : a.toInt = b.toInt) : a = b := Int64.toInt_inj.mp h
theorem i32_ext {a b : Int32} (h : a.toInt = b.toInt) : a = b := Int32.toInt_inj.mp h
/-- a height: z + v b + w c -/
theorem xr_e32 {z v w b c : Int32} (hz : xb 20000 z) (hv : xb 60 v) (hw : xb 60 w) (hb : xn 100 b) (hc : xn 100 c) : ((z + (v * b)) + (w * c)).toInt = z.toInt + v.toInt * b.toInt + w.toInt * c.toInt := by
  have h1 := xr_mb hv hb
  have h2 := xr_mb hw hc
  rw [i32_add, i32_add, i32_mul (by omega), i32_mul (by omega)]
  · rw [i32_mul (by omega)]; omega
  · rw [i32_add, i32_mul (by omega), i32_mul (by omega)]
    · omega
    · rw [i32_mul (by omega)]; omega
theorem xr_e64 {z v w b c : Int64} (hz : -20000 ≤ z.toInt ∧ z.toInt ≤ 20000) (hv : -60 ≤ v.toInt ∧ v.toInt ≤ 60) (hw : -60 ≤ w.toInt ∧ w.toInt ≤ 60) (hb : 0 ≤ b.toInt ∧ b.toInt ≤ 100) (hc : 0 ≤ c.toInt ∧ c.toInt ≤ 100) : ((z + (v * b)) + (w * c)).toInt = z.toInt + v.toInt * b.toInt + w.toInt * c.toInt := by
  have h1 := xr_mb hv hb
  have h2 := xr_mb hw hc
  rw [i64_add, i64_add, i64_mul (by omega), i64_mul (by omega)]
  · rw [i64_mul (by omega)]; omega
  · rw [i64_add, i64_mul (by omega), i64_mul (by omega)]
    · omega
    · rw [i64_mul (by omega)]; omega
theorem xr_eb {z v w b c : Int} (hz : -20000 ≤ z ∧ z ≤ 20000) (hv : -60 ≤ v ∧ v ≤ 60) (hw : -60 ≤ w ∧ w ≤ 60) (hb : 0 ≤ b ∧ b ≤ 100) (hc : 0 ≤ c ∧ c ≤ 100) : -40000 ≤ z + v * b + w * c ∧ z + v * b + w * c ≤ 40000 := by
  have h1 := xr_mb hv hb
  have h2 := xr_mb hw hc
  omega
theorem xr_s4 {s : Int32} (h : xh_s4 s) : (12 * s).toInt = 12 * s.toInt ∧ ((-12) * s).toInt = (-12) * s.toInt ∧ (12 * s.toInt64).toInt = 12 * s.toInt ∧ ((-12) * s.toInt64).toInt = (-12) * s.toInt ∧ 1 ≤ s.toInt ∧ s.toInt ≤ 4 := by
  rcases h with rfl | rfl | rfl | rfl <;> decide
def xr_up (z v s b c : Int) : Int := z + v * b + (if v ≤ 12 * s then 12 * s else v) * c
def xr_dn (z v s b c : Int) : Int := z + v * b + (if -12 * s ≤ v then -12 * s else v) * c
theorem xr_upC {I : xh_I} {L : xh_L} {i : Nat} {s b c : Int32} (hz : xb 20000 (I 0 4 i)) (hv : xb 60 (I 0 7 i)) (hs : xh_s4 s) (hb : xn 100 b) (hc : xn 100 c) : (xf_X0_heightGoingUp I L i s b c).toInt = xr_up (I 0 4 i).toInt (I 0 7 i).toInt s.toInt b.toInt c.toInt := by
  obtain ⟨e1, e2, e3, e4, e5, e6⟩ := xr_s4 hs
  unfold xf_X0_heightGoingUp xr_up
  by_cases h : I 0 7 i ≤ 12 * s
  · rw [if_pos h, if_pos (by rw [Int32.le_iff_toInt_le, e1] at h; exact h), xr_e32 hz hv (by rw [xb, e1]; omega) hb hc, e1]
  · rw [if_neg h, if_neg (by rw [Int32.le_iff_toInt_le, e1] at h; exact h), xr_e32 hz hv hv hb hc]
theorem xr_dnC {I : xh_I} {L : xh_L} {i : Nat} {s b c : Int32} (hz : xb 20000 (I 0 4 i)) (hv : xb 60 (I 0 7 i)) (hs : xh_s4 s) (hb : xn 100 b) (hc : xn 100 c) : (xf_X0_heightGoingDown I L i s b c).toInt = xr_dn (I 0 4 i).toInt (I 0 7 i).toInt s.toInt b.toInt c.toInt := by
  obtain ⟨e1, e2, e3, e4, e5, e6⟩ := xr_s4 hs
  unfold xf_X0_heightGoingDown xr_dn
  by_cases h : (-12) * s ≤ I 0 7 i
  · rw [if_pos h, if_pos (by rw [Int32.le_iff_toInt_le, e2] at h; exact h), xr_e32 hz hv (by rw [xb, e2]; omega) hb hc, e2]
  · rw [if_neg h, if_neg (by rw [Int32.le_iff_toInt_le, e2] at h; exact h), xr_e32 hz hv hv hb hc]
theorem xr_upb {z v s b c : Int} (hz : -20000 ≤ z ∧ z ≤ 20000) (hv : -60 ≤ v ∧ v ≤ 60) (hs : 1 ≤ s ∧ s ≤ 4) (hb : 0 ≤ b ∧ b ≤ 100) (hc : 0 ≤ c ∧ c ≤ 100) : (-40000 ≤ xr_up z v s b c ∧ xr_up z v s b c ≤ 40000) ∧ (-40000 ≤ xr_dn z v s b c ∧ xr_dn z v s b c ≤ 40000) := by
  unfold xr_up xr_dn
  constructor
  · split
    · exact xr_eb hz hv (by omega) hb hc
    · exact xr_eb hz hv hv hb hc
  · split
    · exact xr_eb hz hv (by omega) hb hc
    · exact xr_eb hz hv hv hb hc
/-- how long before, of the time left -/
def xr_bf (t dl s : Int) : Int := if 0 ≤ (if dl < t then dl else t) - s then (if dl < t then dl else t) - s else 0
theorem xr_bf_b {t dl s : Int} (ht : 0 ≤ t ∧ t ≤ 100) (hd : 0 ≤ dl ∧ dl ≤ 20) (hs : 0 ≤ s ∧ s ≤ 1000000) : (0 ≤ xr_bf t dl s ∧ xr_bf t dl s ≤ 100) ∧ (0 ≤ t - xr_bf t dl s ∧ t - xr_bf t dl s ≤ 100) := by
  unfold xr_bf
  split <;> split <;> omega
theorem xo_max_i (x y : Int32) : (xo_max x y).toInt = if x.toInt < y.toInt then y.toInt else x.toInt := by
  unfold xo_max
  by_cases h : x < y
  · rw [if_pos h, if_pos (Int32.lt_iff_toInt_lt.mp h)]
  · rw [if_neg h, if_neg (fun h9 => h (Int32.lt_iff_toInt_lt.mpr h9))]
theorem xo_min_i (x y : Int32) : (xo_min x y).toInt = if y.toInt < x.toInt then y.toInt else x.toInt := by
  unfold xo_min
  by_cases h : y < x
  · rw [if_pos h, if_pos (Int32.lt_iff_toInt_lt.mp h)]
  · rw [if_neg h, if_neg (fun h9 => h (Int32.lt_iff_toInt_lt.mpr h9))]
theorem xr_bfC {t dl s : Int32} (ht : xn 100 t) (hd : xn 20 dl) (hs : xn 1000000 s) : (xo_max 0 ((xo_min t dl) - s)).toInt = xr_bf t.toInt dl.toInt s.toInt ∧ (t - (xo_max 0 ((xo_min t dl) - s))).toInt = t.toInt - xr_bf t.toInt dl.toInt s.toInt := by
  have e1 := xo_min_i t dl
  have e2 : ((xo_min t dl) - s).toInt = (xo_min t dl).toInt - s.toInt := i32_sub (by rw [e1]; split <;> omega)
  have e3 : (xo_max 0 ((xo_min t dl) - s)).toInt = xr_bf t.toInt dl.toInt s.toInt := by
    rw [xo_max_i, e2, e1]
    unfold xr_bf
    have e0 : (0 : Int32).toInt = 0 := rfl
    rw [e0]
    split <;> split <;> split <;> omega
  refine ⟨e3, ?_⟩
  have hb := xr_bf_b ht hd hs
  rw [i32_sub (by rw [e3]; omega), e3]
theorem xr_partC {I : xh_I} {L : xh_L} {k : Nat} {u f s t : Int32} (h1 : xb 20000 (I 0 4 (xh_lo k)) ∧ xb 60 (I 0 7 (xh_lo k))) (h2 : xb 20000 (I 0 4 (xh_hi k)) ∧ xb 60 (I 0 7 (xh_hi k))) (hf : xh_s4 f) (hd : xn 20 (I 6 5 0)) (ht : xn 100 t) (hs : xn 1000000 s) :
    (xf_X1_parting I L k u f s t).toInt = if u = 0 then xr_up (I 0 4 (xh_hi k)).toInt (I 0 7 (xh_hi k)).toInt f.toInt (xr_bf t.toInt (I 6 5 0).toInt s.toInt) (t.toInt - xr_bf t.toInt (I 6 5 0).toInt s.toInt) - xr_dn (I 0 4 (xh_lo k)).toInt (I 0 7 (xh_lo k)).toInt f.toInt (xr_bf t.toInt (I 6 5 0).toInt s.toInt) (t.toInt - xr_bf t.toInt (I 6 5 0).toInt s.toInt) else xr_up (I 0 4 (xh_lo k)).toInt (I 0 7 (xh_lo k)).toInt f.toInt (xr_bf t.toInt (I 6 5 0).toInt s.toInt) (t.toInt - xr_bf t.toInt (I 6 5 0).toInt s.toInt) - xr_dn (I 0 4 (xh_hi k)).toInt (I 0 7 (xh_hi k)).toInt f.toInt (xr_bf t.toInt (I 6 5 0).toInt s.toInt) (t.toInt - xr_bf t.toInt (I 6 5 0).toInt s.toInt) := by
  obtain ⟨e1, e2⟩ := xr_bfC ht hd hs
  have hb := xr_bf_b ht hd hs
  have hb1 : xn 100 (xo_max 0 ((xo_min t (I 6 5 0)) - s)) := by rw [xn, e1]; exact hb.1
  have hb2 : xn 100 (t - (xo_max 0 ((xo_min t (I 6 5 0)) - s))) := by rw [xn, e2]; exact hb.2
  obtain ⟨-, -, -, -, g5, g6⟩ := xr_s4 hf
  have b1 := xr_upb h1.1 h1.2 ⟨g5, g6⟩ hb.1 hb.2
  have b2 := xr_upb h2.1 h2.2 ⟨g5, g6⟩ hb.1 hb.2
  unfold xf_X1_parting xf_X2_delay
  by_cases hu : u = 0
  · rw [if_pos hu, if_pos hu, i32_sub, xr_upC h2.1 h2.2 hf hb1 hb2, xr_dnC h1.1 h1.2 hf hb1 hb2, e1, e2]
    rw [xr_upC h2.1 h2.2 hf hb1 hb2, xr_dnC h1.1 h1.2 hf hb1 hb2, e1, e2]
    omega
  · rw [if_neg hu, if_neg hu, i32_sub, xr_upC h1.1 h1.2 hf hb1 hb2, xr_dnC h2.1 h2.2 hf hb1 hb2, e1, e2]
    rw [xr_upC h1.1 h1.2 hf hb1 hb2, xr_dnC h2.1 h2.2 hf hb1 hb2, e1, e2]
    omega
