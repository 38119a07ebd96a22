/-! GEOMETRY: the class and the reference alike -/
theorem xr_ge {x y : Int32} : (0 ≤ lg_cmp x.toInt64 y.toInt64) ↔ y ≤ x := by
  rw [lg_cmp_ge, Int64.le_iff_toInt_le, t64, t64, Int32.le_iff_toInt_le]
theorem xr_le {x y : Int32} : (lg_cmp x.toInt64 y.toInt64 ≤ 0) ↔ x ≤ y := by
  rw [lg_cmp_le, Int64.le_iff_toInt_le, t64, t64, Int32.le_iff_toInt_le]
theorem xr_lt {x y : Int32} : (lg_cmp x.toInt64 y.toInt64 < 0) ↔ x < y := by
  rw [lg_cmp_lt, Int64.lt_iff_toInt_lt, t64, t64, Int32.lt_iff_toInt_lt]
theorem xr_eq {x y : Int32} : (lg_cmp x.toInt64 y.toInt64 = 0) ↔ x = y := by
  rw [lg_cmp_eq, ← Int64.toInt_inj, t64, t64, Int32.toInt_inj]
theorem xr_in64 {z v s : Int32} {b c : Int64} {bf cf : Int} (hz : xb 20000 z) (hv : xb 60 v) (hs : xh_s4 s) (hb : b.toInt = bf) (hc : c.toInt = cf) (h1 : 0 ≤ bf ∧ bf ≤ 100) (h2 : 0 ≤ cf ∧ cf ≤ 100) (u : Int32) :
    (if u = 0 then (if 0 ≤ (lg_cmp (v.toInt64) ((-12) * s.toInt64)) then (((z.toInt64) + ((v.toInt64) * b)) + (((-12) * s.toInt64) * c)) else (((z.toInt64) + ((v.toInt64) * b)) + ((v.toInt64) * c))) else (if (lg_cmp (v.toInt64) (12 * s.toInt64)) ≤ 0 then (((z.toInt64) + ((v.toInt64) * b)) + ((12 * s.toInt64) * c)) else (((z.toInt64) + ((v.toInt64) * b)) + ((v.toInt64) * c)))).toInt = if u = 0 then xr_dn z.toInt v.toInt s.toInt bf cf else xr_up z.toInt v.toInt s.toInt bf cf := by
  obtain ⟨e1, e2, e3, e4, e5, e6⟩ := xr_s4 hs
  have gz : -20000 ≤ z.toInt64.toInt ∧ z.toInt64.toInt ≤ 20000 := by rw [t64]; exact hz
  have gv : -60 ≤ v.toInt64.toInt ∧ v.toInt64.toInt ≤ 60 := by rw [t64]; exact hv
  have gb : 0 ≤ b.toInt ∧ b.toInt ≤ 100 := by rw [hb]; exact h1
  have gc : 0 ≤ c.toInt ∧ c.toInt ≤ 100 := by rw [hc]; exact h2
  by_cases hu : u = 0
  · rw [if_pos hu, if_pos hu]
    unfold xr_dn
    by_cases h : 0 ≤ lg_cmp v.toInt64 ((-12) * s.toInt64)
    · rw [if_pos h, if_pos (by rw [lg_cmp_ge, Int64.le_iff_toInt_le, e4, t64] at h; exact h), xr_e64 gz gv (by rw [e4]; omega) gb gc, e4, t64, t64, hb, hc]
    · rw [if_neg h, if_neg (by rw [lg_cmp_ge, Int64.le_iff_toInt_le, e4, t64] at h; exact h), xr_e64 gz gv gv gb gc, t64, t64, hb, hc]
  · rw [if_neg hu, if_neg hu]
    unfold xr_up
    by_cases h : lg_cmp v.toInt64 (12 * s.toInt64) ≤ 0
    · rw [if_pos h, if_pos (by rw [lg_cmp_le, Int64.le_iff_toInt_le, e3, t64] at h; exact h), xr_e64 gz gv (by rw [e3]; omega) gb gc, e3, t64, t64, hb, hc]
    · rw [if_neg h, if_neg (by rw [lg_cmp_le, Int64.le_iff_toInt_le, e3, t64] at h; exact h), xr_e64 gz gv gv gb gc, t64, t64, hb, hc]
theorem xr_heR {I : xh_I} {L : xh_L} {a u s t tl : Int32} (hL : L 5 21 0 = tl.toInt64) (hz : xb 20000 (I 10 (6 * a.toNatClampNeg + 2) 0)) (hv : xb 60 (I 10 (6 * a.toNatClampNeg + 5) 0)) (hs : xh_s4 s) (hd : xn 20 (I 7 5 0)) (ht : xn 100 tl) (hq : xn 1000000 t) :
    (xf_X5_height I L a u s t).toInt = if u = 0 then xr_dn (I 10 (6 * a.toNatClampNeg + 2) 0).toInt (I 10 (6 * a.toNatClampNeg + 5) 0).toInt s.toInt (xr_bf tl.toInt (I 7 5 0).toInt t.toInt) (tl.toInt - xr_bf tl.toInt (I 7 5 0).toInt t.toInt) else xr_up (I 10 (6 * a.toNatClampNeg + 2) 0).toInt (I 10 (6 * a.toNatClampNeg + 5) 0).toInt s.toInt (xr_bf tl.toInt (I 7 5 0).toInt t.toInt) (tl.toInt - xr_bf tl.toInt (I 7 5 0).toInt t.toInt) := by
  have hb := xr_bf_b ht hd hq
  have e0 : (0 : Int64).toInt = 0 := rfl
  have q1 : ((I 7 5 0).toInt64 - t.toInt64).toInt = (I 7 5 0).toInt - t.toInt := by
    rw [i64_sub (by rw [t64, t64]; omega), t64, t64]
  have q2 : (tl.toInt64 - t.toInt64).toInt = tl.toInt - t.toInt := by
    rw [i64_sub (by rw [t64, t64]; omega), t64, t64]
  have cc : ∀ {b : Int64}, b.toInt = xr_bf tl.toInt (I 7 5 0).toInt t.toInt → (tl.toInt64 - b).toInt = tl.toInt - xr_bf tl.toInt (I 7 5 0).toInt t.toInt := by
    intro b h9
    rw [i64_sub (by rw [t64, h9]; omega), t64, h9]
  unfold xf_X5_height
  rw [hL]
  by_cases h1 : 0 ≤ lg_cmp tl.toInt64 (I 7 5 0).toInt64
  · have g1 := xr_ge.mp h1
    rw [Int32.le_iff_toInt_le] at g1
    rw [if_pos h1]
    by_cases h2 : 0 ≤ lg_cmp ((I 7 5 0).toInt64 - t.toInt64) 0
    · have g2 := (lg_cmp_ge _ _).mp h2
      rw [Int64.le_iff_toInt_le, q1, e0] at g2
      rw [if_pos h2]
      have e1 : ((I 7 5 0).toInt64 - t.toInt64).toInt = xr_bf tl.toInt (I 7 5 0).toInt t.toInt := by
        rw [q1]
        unfold xr_bf
        (repeat' split) <;> omega
      exact xr_in64 hz hv hs e1 (cc e1) hb.1 hb.2 u
    · have g2 : ¬ (0 : Int64) ≤ _ := fun h9 => h2 ((lg_cmp_ge _ _).mpr h9)
      rw [Int64.le_iff_toInt_le, q1, e0] at g2
      rw [if_neg h2]
      have e1 : (0 : Int64).toInt = xr_bf tl.toInt (I 7 5 0).toInt t.toInt := by
        rw [e0]
        unfold xr_bf
        (repeat' split) <;> omega
      exact xr_in64 hz hv hs e1 (cc e1) hb.1 hb.2 u
  · have g1 : ¬ I 7 5 0 ≤ tl := fun h9 => h1 (xr_ge.mpr h9)
    rw [Int32.le_iff_toInt_le] at g1
    rw [if_neg h1]
    by_cases h2 : 0 ≤ lg_cmp (tl.toInt64 - t.toInt64) 0
    · have g2 := (lg_cmp_ge _ _).mp h2
      rw [Int64.le_iff_toInt_le, q2, e0] at g2
      rw [if_pos h2]
      have e1 : (tl.toInt64 - t.toInt64).toInt = xr_bf tl.toInt (I 7 5 0).toInt t.toInt := by
        rw [q2]
        unfold xr_bf
        (repeat' split) <;> omega
      exact xr_in64 hz hv hs e1 (cc e1) hb.1 hb.2 u
    · have g2 : ¬ (0 : Int64) ≤ _ := fun h9 => h2 ((lg_cmp_ge _ _).mpr h9)
      rw [Int64.le_iff_toInt_le, q2, e0] at g2
      rw [if_neg h2]
      have e1 : (0 : Int64).toInt = xr_bf tl.toInt (I 7 5 0).toInt t.toInt := by
        rw [e0]
        unfold xr_bf
        (repeat' split) <;> omega
      exact xr_in64 hz hv hs e1 (cc e1) hb.1 hb.2 u
/-- an aircraft within its bounds; its track in both; the settings in both; what was looked at -/
def xh_rg (I : xh_I) (i : Nat) : Prop := (xb 200000 (I 0 2 i) ∧ xb 200000 (I 0 3 i) ∧ xb 20000 (I 0 4 i)) ∧ (xb 500 (I 0 5 i) ∧ xb 500 (I 0 6 i) ∧ xb 60 (I 0 7 i))
def xh_tk (Ic Ir : xh_I) (i : Nat) : Prop := ∀ c, c < 6 → Ic 0 (2 + c) i = Ir 10 (6 * i + c) 0
def xh_se (Ic Ir : xh_I) : Prop := (∀ c, c < 7 → Ic 6 c 0 = Ir 7 c 0) ∧ xn 100 (Ic 6 0 0) ∧ xn 20 (Ic 6 5 0) ∧ xn 60 (Ic 6 6 0)
def xh_lk (Ic : xh_I) (k : Nat) (Ir : xh_I) (Lr : xh_L) (tl : Int32) : Prop := (Ir 5 12 0 = nI (xh_lo k) ∧ Ir 5 13 0 = nI (xh_hi k)) ∧ (Lr 5 14 0 = (Ic 0 2 (xh_hi k) - Ic 0 2 (xh_lo k)).toInt64 ∧ Lr 5 15 0 = (Ic 0 3 (xh_hi k) - Ic 0 3 (xh_lo k)).toInt64 ∧ Lr 5 16 0 = (Ic 0 4 (xh_hi k) - Ic 0 4 (xh_lo k)).toInt64) ∧ (Lr 5 17 0 = (Ic 0 5 (xh_hi k) - Ic 0 5 (xh_lo k)).toInt64 ∧ Lr 5 18 0 = (Ic 0 6 (xh_hi k) - Ic 0 6 (xh_lo k)).toInt64 ∧ Lr 5 19 0 = (Ic 0 7 (xh_hi k) - Ic 0 7 (xh_lo k)).toInt64) ∧ Lr 5 20 0 = xf_X1_closing Ic Lr k ∧ Lr 5 21 0 = tl.toInt64 ∧ xn 100 tl
def xh_Geo (Ic : xh_I) (k : Nat) (Ir : xh_I) (Lr : xh_L) (tl : Int32) : Prop := (xh_lo k < 6 ∧ xh_hi k < 6) ∧ (xh_rg Ic (xh_lo k) ∧ xh_rg Ic (xh_hi k)) ∧ (xh_tk Ic Ir (xh_lo k) ∧ xh_tk Ic Ir (xh_hi k)) ∧ xh_se Ic Ir ∧ xh_lk Ic k Ir Lr tl
def xh_w (u : Int32) : Int32 := if u = 0 then 2 else 1
section GEO
variable {Ic Ir : xh_I} {Lc Lr : xh_L} {k : Nat} {tl : Int32}
theorem xg_part (G : xh_Geo Ic k Ir Lr tl) {u s t : Int32} (hs : xh_s4 s) (ht : xn 1000000 t) : xf_X5_part Ir Lr (xh_w u) s t = (xf_X1_parting Ic Lc k u s t tl).toInt64 := by
  obtain ⟨⟨l1, l2⟩, ⟨r1, r2⟩, ⟨t1, t2⟩, ⟨se, -, sd, -⟩, ⟨⟨o1, o2⟩, -, -, -, hL, htl⟩⟩ := G
  have e1 : (Ir 5 12 0).toNatClampNeg = xh_lo k := by rw [o1]; exact nI_clamp (by omega)
  have e2 : (Ir 5 13 0).toNatClampNeg = xh_hi k := by rw [o2]; exact nI_clamp (by omega)
  have d5 : Ic 6 5 0 = Ir 7 5 0 := se 5 (by decide)
  have z1 : Ic 0 4 (xh_lo k) = Ir 10 (6 * xh_lo k + 2) 0 := t1 2 (by decide)
  have z2 : Ic 0 4 (xh_hi k) = Ir 10 (6 * xh_hi k + 2) 0 := t2 2 (by decide)
  have v1 : Ic 0 7 (xh_lo k) = Ir 10 (6 * xh_lo k + 5) 0 := t1 5 (by decide)
  have v2 : Ic 0 7 (xh_hi k) = Ir 10 (6 * xh_hi k + 5) 0 := t2 5 (by decide)
  have hC := xr_partC (I := Ic) (L := Lc) (k := k) (u := u) (f := s) (s := t) (t := tl) ⟨r1.1.2.2, r1.2.2.2⟩ ⟨r2.1.2.2, r2.2.2.2⟩ hs sd htl ht
  have sd' : xn 20 (Ir 7 5 0) := by rw [← d5]; exact sd
  have h1 : ∀ u9 : Int32, (xf_X5_height Ir Lr (Ir 5 12 0) u9 s t).toInt = if u9 = 0 then xr_dn (Ic 0 4 (xh_lo k)).toInt (Ic 0 7 (xh_lo k)).toInt s.toInt (xr_bf tl.toInt (Ic 6 5 0).toInt t.toInt) (tl.toInt - xr_bf tl.toInt (Ic 6 5 0).toInt t.toInt) else xr_up (Ic 0 4 (xh_lo k)).toInt (Ic 0 7 (xh_lo k)).toInt s.toInt (xr_bf tl.toInt (Ic 6 5 0).toInt t.toInt) (tl.toInt - xr_bf tl.toInt (Ic 6 5 0).toInt t.toInt) := by
    intro u9
    have h9 := xr_heR (I := Ir) (a := Ir 5 12 0) (u := u9) hL (by rw [e1, ← z1]; exact r1.1.2.2) (by rw [e1, ← v1]; exact r1.2.2.2) hs sd' htl ht
    rw [e1, ← z1, ← v1, ← d5] at h9
    exact h9
  have h2 : ∀ u9 : Int32, (xf_X5_height Ir Lr (Ir 5 13 0) u9 s t).toInt = if u9 = 0 then xr_dn (Ic 0 4 (xh_hi k)).toInt (Ic 0 7 (xh_hi k)).toInt s.toInt (xr_bf tl.toInt (Ic 6 5 0).toInt t.toInt) (tl.toInt - xr_bf tl.toInt (Ic 6 5 0).toInt t.toInt) else xr_up (Ic 0 4 (xh_hi k)).toInt (Ic 0 7 (xh_hi k)).toInt s.toInt (xr_bf tl.toInt (Ic 6 5 0).toInt t.toInt) (tl.toInt - xr_bf tl.toInt (Ic 6 5 0).toInt t.toInt) := by
    intro u9
    have h9 := xr_heR (I := Ir) (a := Ir 5 13 0) (u := u9) hL (by rw [e2, ← z2]; exact r2.1.2.2) (by rw [e2, ← v2]; exact r2.2.2.2) hs sd' htl ht
    rw [e2, ← z2, ← v2, ← d5] at h9
    exact h9
  have hb := xr_bf_b htl sd ht
  obtain ⟨-, -, -, -, g5, g6⟩ := xr_s4 hs
  have b1 := xr_upb r1.1.2.2 r1.2.2.2 ⟨g5, g6⟩ hb.1 hb.2
  have b2 := xr_upb r2.1.2.2 r2.2.2.2 ⟨g5, g6⟩ hb.1 hb.2
  have hU1 := (h1 1).trans (if_neg (by decide))
  have hD1 := (h1 0).trans (if_pos rfl)
  have hU2 := (h2 1).trans (if_neg (by decide))
  have hD2 := (h2 0).trans (if_pos rfl)
  apply i64_ext
  rw [t64, hC]
  unfold xf_X5_part xh_w
  by_cases hu : u = 0
  · rw [if_pos hu, if_pos hu, if_neg (by decide), if_pos rfl, i64_sub (by rw [hU2, hD1]; omega), hU2, hD1]
  · rw [if_neg hu, if_neg hu, if_pos rfl, if_neg (by decide), i64_sub (by rw [hU1, hD2]; omega), hU1, hD2]
theorem xg_pw (G : xh_Geo Ic k Ir Lr tl) {u s t : Int32} (hs : xh_s4 s) (ht : xn 1000000 t) : (0 ≤ lg_cmp (xf_X5_part Ir Lr (xh_w u) s t) ((Ir 7 4 0).toInt64)) ↔ ¬ xf_X1_parting Ic Lc k u s t tl < xf_X2_wanted Ic Lc := by
  have d4 : Ic 6 4 0 = Ir 7 4 0 := G.2.2.2.1.1 4 (by decide)
  rw [xg_part (Lc := Lc) G hs ht, ← d4, xr_ge]
  exact Int32.not_lt.symm
theorem xg_en1 (G : xh_Geo Ic k Ir Lr tl) {u t : Int32} (ht : xn 1000000 t) : xf_X5_enough1 Ir Lr (xh_w u) t = xf_X1_enough1 Ic Lc k u t tl := by
  have h1 := xg_pw (Lc := Lc) G (u := u) (s := 1) (Or.inl rfl) ht
  have h2 := xg_pw (Lc := Lc) G (u := u) (s := 2) (Or.inr (Or.inl rfl)) ht
  have h3 := xg_pw (Lc := Lc) G (u := u) (s := 3) (Or.inr (Or.inr (Or.inl rfl))) ht
  unfold xf_X5_enough1 xf_X1_enough1
  by_cases c1 : xf_X1_parting Ic Lc k u 1 t tl < xf_X2_wanted Ic Lc
  · rw [if_pos c1, if_neg (fun h9 => h1.mp h9 c1)]
    by_cases c2 : xf_X1_parting Ic Lc k u 2 t tl < xf_X2_wanted Ic Lc
    · rw [if_pos c2, if_neg (fun h9 => h2.mp h9 c2)]
      by_cases c3 : xf_X1_parting Ic Lc k u 3 t tl < xf_X2_wanted Ic Lc
      · rw [if_pos c3, if_neg (fun h9 => h3.mp h9 c3)]
      · rw [if_neg c3, if_pos (h3.mpr c3)]
    · rw [if_neg c2, if_pos (h2.mpr c2)]
  · rw [if_neg c1, if_pos (h1.mpr c1)]
theorem xg_en2 (G : xh_Geo Ic k Ir Lr tl) {u t : Int32} (ht : xn 1000000 t) : xf_X5_enough2 Ir Lr (xh_w u) t = xf_X1_enough2 Ic Lc k u t tl := by
  have h2 := xg_pw (Lc := Lc) G (u := u) (s := 2) (Or.inr (Or.inl rfl)) ht
  have h3 := xg_pw (Lc := Lc) G (u := u) (s := 3) (Or.inr (Or.inr (Or.inl rfl))) ht
  unfold xf_X5_enough2 xf_X1_enough2
  by_cases c2 : xf_X1_parting Ic Lc k u 2 t tl < xf_X2_wanted Ic Lc
  · rw [if_pos c2, if_neg (fun h9 => h2.mp h9 c2)]
    by_cases c3 : xf_X1_parting Ic Lc k u 3 t tl < xf_X2_wanted Ic Lc
    · rw [if_pos c3, if_neg (fun h9 => h3.mp h9 c3)]
    · rw [if_neg c3, if_pos (h3.mpr c3)]
  · rw [if_neg c2, if_pos (h2.mpr c2)]
theorem xg_en3 (G : xh_Geo Ic k Ir Lr tl) {u t : Int32} (ht : xn 1000000 t) : xf_X5_enough3 Ir Lr (xh_w u) t = xf_X1_enough3 Ic Lc k u t tl := by
  have h3 := xg_pw (Lc := Lc) G (u := u) (s := 3) (Or.inr (Or.inr (Or.inl rfl))) ht
  unfold xf_X5_enough3 xf_X1_enough3
  by_cases c3 : xf_X1_parting Ic Lc k u 3 t tl < xf_X2_wanted Ic Lc
  · rw [if_pos c3, if_neg (fun h9 => h3.mp h9 c3)]
  · rw [if_neg c3, if_pos (h3.mpr c3)]
theorem xg_en (G : xh_Geo Ic k Ir Lr tl) {u f t : Int32} (ht : xn 1000000 t) : xf_X5_enough Ir Lr (xh_w u) f t = xf_X1_enough Ic Lc k u f t tl := by
  unfold xf_X5_enough xf_X1_enough
  rw [xg_en1 (Lc := Lc) G ht, xg_en2 (Lc := Lc) G ht, xg_en3 (Lc := Lc) G ht]
  rfl
theorem xn0 : xn 1000000 0 := by decide
theorem xg_ch (G : xh_Geo Ic k Ir Lr tl) : xf_X5_chosen Ir Lr = xh_w (xf_X1_chosenSense Ic Lc k tl) := by
  have a1 : xf_X5_enough1 Ir Lr 1 0 = xf_X1_enough1 Ic Lc k 1 0 tl := xg_en1 (Lc := Lc) (u := 1) G xn0
  have a2 : xf_X5_enough1 Ir Lr 2 0 = xf_X1_enough1 Ic Lc k 0 0 tl := xg_en1 (Lc := Lc) (u := 0) G xn0
  have p1 : ∀ s, xh_s4 s → xf_X5_part Ir Lr 1 s 0 = (xf_X1_parting Ic Lc k 1 s 0 tl).toInt64 := fun s hs => xg_part (Lc := Lc) (u := 1) G hs xn0
  have p2 : ∀ s, xh_s4 s → xf_X5_part Ir Lr 2 s 0 = (xf_X1_parting Ic Lc k 0 s 0 tl).toInt64 := fun s hs => xg_part (Lc := Lc) (u := 0) G hs xn0
  have z16 := G.2.2.2.2.2.1.2.2
  have r1 := G.2.1.1.1.2.2
  have r2 := G.2.1.2.1.2.2
  have w0 : xh_w 0 = 2 := rfl
  have w1 : xh_w 1 = 1 := rfl
  unfold xf_X5_chosen xf_X1_chosenSense
  rw [a1, a2, p1 _ (xh_en1 Ic Lc k 1 0 tl), p2 _ (xh_en1 Ic Lc k 0 0 tl)]
  by_cases c1 : xf_X1_enough1 Ic Lc k 1 0 tl = xf_X1_enough1 Ic Lc k 0 0 tl
  · rw [if_pos c1, if_pos c1]
    by_cases c2 : xf_X1_parting Ic Lc k 1 (xf_X1_enough1 Ic Lc k 1 0 tl) 0 tl = xf_X1_parting Ic Lc k 0 (xf_X1_enough1 Ic Lc k 0 0 tl) 0 tl
    · rw [if_pos c2, if_pos (xr_eq.mpr c2), z16]
      have hz : (0 < lg_cmp (Ic 0 4 (xh_hi k) - Ic 0 4 (xh_lo k)).toInt64 0) ↔ Ic 0 4 (xh_lo k) < Ic 0 4 (xh_hi k) := by
        rw [lg_cmp_gt, Int64.lt_iff_toInt_lt, t64, i32_sub (by omega), Int32.lt_iff_toInt_lt]
        show (0 : Int) < _ ↔ _
        omega
      by_cases c3 : Ic 0 4 (xh_lo k) < Ic 0 4 (xh_hi k)
      · rw [if_pos c3, if_pos (hz.mpr c3)]; rfl
      · rw [if_neg c3, if_neg (fun h9 => c3 (hz.mp h9))]; rfl
    · rw [if_neg c2, if_neg (fun h9 => c2 (xr_eq.mp h9))]
      by_cases c3 : xf_X1_parting Ic Lc k 1 (xf_X1_enough1 Ic Lc k 1 0 tl) 0 tl ≤ xf_X1_parting Ic Lc k 0 (xf_X1_enough1 Ic Lc k 0 0 tl) 0 tl
      · rw [if_pos c3, if_pos (xr_le.mpr c3)]; rfl
      · rw [if_neg c3, if_neg (fun h9 => c3 (xr_le.mp h9))]; rfl
  · rw [if_neg c1, if_neg c1]
    by_cases c3 : xf_X1_enough1 Ic Lc k 0 0 tl ≤ xf_X1_enough1 Ic Lc k 1 0 tl
    · rw [if_pos c3, if_pos c3]; rfl
    · rw [if_neg c3, if_neg c3]; rfl
end GEO
