/-! WHAT THE REFERENCE COMPUTES (by program) -/
/-- speeds are bounded; advice has a strength of 1 to 4 -/
def xh_Sp (I : xh_I) : Prop := ∀ i, i < 6 → (-500 ≤ (I 10 (6 * i + 3) 0).toInt ∧ (I 10 (6 * i + 3) 0).toInt ≤ 500) ∧ (-500 ≤ (I 10 (6 * i + 4) 0).toInt ∧ (I 10 (6 * i + 4) 0).toInt ≤ 500)
def xh_S5 (I : xh_I) : Prop := ∀ q, ¬ I 11 q 0 = 0 → xh_s4 (I 12 q 0)
abbrev xh_V5 (I : xh_I) : Prop := xh_Sp I ∧ xh_S5 I
theorem xh_sub {a b : Int32} {m : Int} (ha : -m ≤ a.toInt ∧ a.toInt ≤ m) (hb : -m ≤ b.toInt ∧ b.toInt ≤ m) (hm : m ≤ 1000000) : (a - b).toInt = a.toInt - b.toInt := by
  rw [Int32.toInt_sub]
  apply Int.bmod_eq_of_le <;> omega
theorem xh_sq {x y : Int64} (hx : -1000 ≤ x.toInt ∧ x.toInt ≤ 1000) (hy : -1000 ≤ y.toInt ∧ y.toInt ≤ 1000) (h : x * x + y * y = 0) : x = 0 ∧ y = 0 := by
  have hb : ∀ z : Int, -1000 ≤ z ∧ z ≤ 1000 → 0 ≤ z * z ∧ z * z ≤ 1000000 := by
    intro z hz
    refine ⟨by
      rcases Int.le_total 0 z with h9 | h9
      · exact Int.mul_nonneg h9 h9
      · exact Int.mul_nonneg_of_nonpos_of_nonpos h9 h9, ?_⟩
    have h1 : z * z ≤ 1000 * 1000 := by
      rcases Int.le_total 0 z with h9 | h9
      · exact Int.mul_le_mul hz.2 hz.2 h9 (by decide)
      · have h8 : (-z) * (-z) ≤ 1000 * 1000 := Int.mul_le_mul (by omega) (by omega) (by omega) (by decide)
        rwa [Int.neg_mul_neg] at h8
    exact h1
  have h1 := hb _ hx
  have h2 := hb _ hy
  have e1 : (x * x).toInt = x.toInt * x.toInt := by
    rw [Int64.toInt_mul]
    apply Int.bmod_eq_of_le <;> omega
  have e2 : (y * y).toInt = y.toInt * y.toInt := by
    rw [Int64.toInt_mul]
    apply Int.bmod_eq_of_le <;> omega
  have e3 : (x * x + y * y).toInt = x.toInt * x.toInt + y.toInt * y.toInt := by
    rw [Int64.toInt_add, e1, e2]
    apply Int.bmod_eq_of_le <;> omega
  rw [h] at e3
  have e4 : x.toInt * x.toInt + y.toInt * y.toInt = 0 := by rw [← e3]; rfl
  have e5 : x.toInt * x.toInt = 0 := by omega
  have e6 : y.toInt * y.toInt = 0 := by omega
  refine ⟨Int64.toInt_inj.mp ?_, Int64.toInt_inj.mp ?_⟩
  · rcases Int.mul_eq_zero.mp e5 with h9 | h9 <;> rw [h9] <;> rfl
  · rcases Int.mul_eq_zero.mp e6 with h9 | h9 <;> rw [h9] <;> rfl
theorem xh_hd {I : xh_I} (h : xh_Sp I) {i j : Nat} (hi : i < 6) (hj : j < 6) : (lg_cmp (((((I 10 (6 * j) 0) - (I 10 (6 * i) 0)).toInt64) * (((I 10 (6 * j + 3) 0) - (I 10 (6 * i + 3) 0)).toInt64)) + ((((I 10 (6 * j + 1) 0) - (I 10 (6 * i + 1) 0)).toInt64) * (((I 10 (6 * j + 4) 0) - (I 10 (6 * i + 4) 0)).toInt64))) 0) < 0 → ¬ (((((I 10 (6 * j + 3) 0) - (I 10 (6 * i + 3) 0)).toInt64) * (((I 10 (6 * j + 3) 0) - (I 10 (6 * i + 3) 0)).toInt64)) + ((((I 10 (6 * j + 4) 0) - (I 10 (6 * i + 4) 0)).toInt64) * (((I 10 (6 * j + 4) 0) - (I 10 (6 * i + 4) 0)).toInt64))) = 0 := by
  intro hc hz
  have r1 : -1000 ≤ ((I 10 (6 * j + 3) 0) - (I 10 (6 * i + 3) 0)).toInt64.toInt ∧ ((I 10 (6 * j + 3) 0) - (I 10 (6 * i + 3) 0)).toInt64.toInt ≤ 1000 := by
    rw [Int32.toInt_toInt64, xh_sub (h j hj).1 (h i hi).1 (by decide)]
    have := (h j hj).1
    have := (h i hi).1
    omega
  have r2 : -1000 ≤ ((I 10 (6 * j + 4) 0) - (I 10 (6 * i + 4) 0)).toInt64.toInt ∧ ((I 10 (6 * j + 4) 0) - (I 10 (6 * i + 4) 0)).toInt64.toInt ≤ 1000 := by
    rw [Int32.toInt_toInt64, xh_sub (h j hj).2 (h i hi).2 (by decide)]
    have := (h j hj).2
    have := (h i hi).2
    omega
  obtain ⟨e1, e2⟩ := xh_sq r1 r2 hz
  rw [e1, e2, Int64.mul_zero, Int64.mul_zero] at hc
  exact absurd hc (by decide)
theorem xh5_en1 (I : xh_I) (L : xh_L) (w t : Int32) : xh_s4 (xf_X5_enough1 I L w t) := by
  unfold xf_X5_enough1
  (repeat' split) <;> first | exact Or.inl rfl | exact Or.inr (Or.inl rfl) | exact Or.inr (Or.inr (Or.inl rfl)) | exact Or.inr (Or.inr (Or.inr rfl))
theorem xh5_en2 (I : xh_I) (L : xh_L) (w t : Int32) : xh_s4 (xf_X5_enough2 I L w t) := by
  unfold xf_X5_enough2
  (repeat' split) <;> first | exact Or.inl rfl | exact Or.inr (Or.inl rfl) | exact Or.inr (Or.inr (Or.inl rfl)) | exact Or.inr (Or.inr (Or.inr rfl))
theorem xh5_en3 (I : xh_I) (L : xh_L) (w t : Int32) : xh_s4 (xf_X5_enough3 I L w t) := by
  unfold xf_X5_enough3
  (repeat' split) <;> first | exact Or.inl rfl | exact Or.inr (Or.inl rfl) | exact Or.inr (Or.inr (Or.inl rfl)) | exact Or.inr (Or.inr (Or.inr rfl))
theorem xh5_en (I : xh_I) (L : xh_L) (w f t : Int32) : xh_s4 (xf_X5_enough I L w f t) := by
  unfold xf_X5_enough
  split
  · exact xh5_en1 I L w t
  · split
    · exact xh5_en2 I L w t
    · split
      · exact xh5_en3 I L w t
      · exact Or.inr (Or.inr (Or.inr rfl))
theorem xh_S5_begin {I : xh_I} {L : xh_L} {p w : Int32} (h : ∀ q, q ≠ p.toNatClampNeg → ¬ I 11 q 0 = 0 → xh_s4 (I 12 q 0)) : xh_S5 (xfI_X5_begin I L p w) := by
  intro q hq
  by_cases e9 : q = p.toNatClampNeg
  · subst e9
    show xh_s4 (xm_up _ 12 p.toNatClampNeg 0 _ 12 p.toNatClampNeg 0)
    rw [xm_up_s]
    exact xh5_en1 _ _ _ _
  · have h8 : ¬ xm_up I 11 p.toNatClampNeg 0 w 11 q 0 = 0 := hq
    rw [xm_up_k e9] at h8
    show xh_s4 (xm_up _ 12 p.toNatClampNeg 0 _ 12 q 0)
    rw [xm_up_k e9]
    exact h q e9 h8
theorem xh_S5_put {J K : xh_I} {p : Nat} {v : Int32} (hv : xh_s4 v) (hJ : xh_S5 J) (h1 : ∀ q, K 11 q 0 = J 11 q 0) (h2 : ∀ q, K 12 q 0 = xm_up J 12 p 0 v 12 q 0) : xh_S5 K := by
  intro q hq
  rw [h1] at hq
  rw [h2]
  by_cases e9 : q = p
  · subst e9; rw [xm_up_s]; exact hv
  · rw [xm_up_k e9]; exact hJ q hq
theorem xh_S5_zero {I K : xh_I} {p : Nat} (h : xh_S5 I) (h1 : ∀ q, K 11 q 0 = xm_up I 11 p 0 0 11 q 0) (h2 : ∀ q, K 12 q 0 = xm_up I 12 p 0 0 12 q 0) : xh_S5 K := by
  intro q hq
  rw [h1] at hq
  rw [h2]
  by_cases e9 : q = p
  · subst e9; rw [xm_up_s] at hq; exact absurd rfl hq
  · rw [xm_up_k e9] at hq ⊢; exact h q hq
theorem xh_S5_advC {I : xh_I} {L : xh_L} {p b : Int32} (h : xh_S5 I) : xh_S5 (xfI_advC I L p b) := by
  unfold xfI_advC
  split
  · exact xh_S5_put (p := p.toNatClampNeg) (xh5_en I L (I 11 p.toNatClampNeg 0) (I 12 p.toNatClampNeg 0) (I 13 p.toNatClampNeg 0)) h (fun _ => rfl) (fun _ => rfl)
  · exact xh_S5_put (p := p.toNatClampNeg) (xh5_en I L (I 11 p.toNatClampNeg 0) (I 12 p.toNatClampNeg 0) (I 13 p.toNatClampNeg 0)) h (fun _ => rfl) (fun _ => rfl)
theorem xh_S5_begin' {I : xh_I} {L : xh_L} {p w : Int32} (h : xh_S5 I) : xh_S5 (xfI_X5_begin I L p w) := xh_S5_begin (fun q _ hn => h q hn)
theorem xh_S5_14 {J : xh_I} {p k : Nat} {v w : Int32} (h : xh_S5 J) : xh_S5 (xm_up (xm_up J 14 p 0 v) 17 k 0 w) := fun q hq => h q hq
theorem xh_S5_advB {I : xh_I} {L : xh_L} {p b : Int32} (h : xh_S5 I) : xh_S5 (xfI_advB I L p b) := by
  unfold xfI_advB
  split
  · exact xh_S5_advC h
  · split
    · exact xh_S5_advC h
    · split
      · split
        · exact xh_S5_advC h
        · exact xh_S5_14 (xh_S5_begin' h)
      · exact xh_S5_advC h
theorem xh_S5_advA {I : xh_I} {L : xh_L} {p : Int32} (h : xh_S5 I) : xh_S5 (xfI_advA I L p) := by
  have hs : xh_S5 (xm_up I 13 p.toNatClampNeg 0 (I 13 p.toNatClampNeg 0 + 1)) := fun q hq => h q hq
  unfold xfI_advA
  split
  · exact xh_S5_advB hs
  · exact xh_S5_advB hs
theorem xh_S5_advise {I : xh_I} {L : xh_L} {p : Int32} (h : xh_S5 I) : xh_S5 (xfI_X5_advise I L p) := by
  unfold xfI_X5_advise
  split
  · split
    · exact h
    · exact xh_S5_14 (xh_S5_begin' h)
  · split
    · split
      · exact xh_S5_advA h
      · exact xh_S5_zero (p := p.toNatClampNeg) h (fun _ => rfl) (fun _ => rfl)
    · exact xh_S5_advA h
/-- what advice doesn't touch -/
def xh_un (I K : xh_I) : Prop := ∀ c, ¬ (11 ≤ c ∧ c ≤ 14 ∨ c = 17) → ∀ k i, K c k i = I c k i
theorem xm_up_c {α : Type} {f : Nat → Nat → Nat → α} {c k i : Nat} {v : α} {c' k' i' : Nat} (h : c' ≠ c) : xm_up f c k i v c' k' i' = f c' k' i' := by simp [xm_up, h]
theorem xh_un_up {I K : xh_I} {c k i : Nat} {v : Int32} (h : xh_un I K) (hc : 11 ≤ c ∧ c ≤ 14 ∨ c = 17) : xh_un I (xm_up K c k i v) := by
  intro c' hc' k' i'
  rw [xm_up_c (c' := c') (c := c) (fun e9 => hc' (by rw [e9]; exact hc))]
  exact h c' hc' k' i'
theorem xh_un_r {I : xh_I} : xh_un I I := fun _ _ _ _ => rfl
theorem xh_un_begin {I K : xh_I} {L : xh_L} {p w : Int32} (h : xh_un I K) : xh_un I (xfI_X5_begin K L p w) := xh_un_up (xh_un_up (xh_un_up h (by decide)) (by decide)) (by decide)
theorem xh_un_advC {I K : xh_I} {L : xh_L} {p b : Int32} (h : xh_un I K) : xh_un I (xfI_advC K L p b) := by
  unfold xfI_advC
  split <;> exact xh_un_up (xh_un_up h (by decide)) (by decide)
theorem xh_un_advB {I K : xh_I} {L : xh_L} {p b : Int32} (h : xh_un I K) : xh_un I (xfI_advB K L p b) := by
  unfold xfI_advB
  split
  · exact xh_un_advC h
  · split
    · exact xh_un_advC h
    · split
      · split
        · exact xh_un_advC h
        · exact xh_un_up (xh_un_up (xh_un_begin h) (by decide)) (by decide)
      · exact xh_un_advC h
theorem xh_un_advA {I K : xh_I} {L : xh_L} {p : Int32} (h : xh_un I K) : xh_un I (xfI_advA K L p) := by
  unfold xfI_advA
  split <;> exact xh_un_advB (xh_un_up h (by decide))
theorem xh_un_advise {I K : xh_I} {L : xh_L} {p : Int32} (h : xh_un I K) : xh_un I (xfI_X5_advise K L p) := by
  unfold xfI_X5_advise
  split
  · split
    · exact h
    · exact xh_un_up (xh_un_up (xh_un_begin h) (by decide)) (by decide)
  · split
    · split
      · exact xh_un_advA h
      · exact xh_un_up (xh_un_up (xh_un_up (xh_un_up (xh_un_up h (by decide)) (by decide)) (by decide)) (by decide)) (by decide)
    · exact xh_un_advA h
