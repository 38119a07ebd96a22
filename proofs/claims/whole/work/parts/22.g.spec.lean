/-! WHAT THE REFERENCE COMPUTES (by program) -/
theorem xh_oo_look {I : xh_I} {L : xh_L} {i j : Nat} (hi : i < 6) (hj : j < 6) : xh_oo (xfI_X5_look I L i j) := by
  have h : ∀ {n : Nat}, n < 6 → xh_ix (nI n) (nI n).toNatClampNeg 6 := fun h => ⟨rfl, (xh_ix_nI h (by decide)).2⟩
  have e1 : xfI_X5_look I L i j 5 12 0 = nI i := by unfold xfI_X5_look; (repeat' split) <;> rfl
  have e2 : xfI_X5_look I L i j 5 13 0 = nI j := by unfold xfI_X5_look; (repeat' split) <;> rfl
  exact ⟨by rw [e1]; exact h hi, by rw [e2]; exact h hj⟩
theorem xh_adv_ix : ∀ {i : Nat}, i < 6 → ∀ {j : Nat}, j < 6 → xh_ix (6 * nI i + nI j) (6 * nI i + nI j).toNatClampNeg 36 := by decide
theorem xh_V5_look {I : xh_I} {L : xh_L} {i j : Nat} (h : xh_V5 I) : xh_V5 (xfI_X5_look I L i j) := by
  unfold xfI_X5_look
  (repeat' split) <;> exact ⟨fun i hi => h.1 i hi, fun q hq => h.2 q hq⟩
theorem xh_V5_advise {I : xh_I} {L : xh_L} {p : Int32} (h : xh_V5 I) : xh_V5 (xfI_X5_advise I L p) := by
  refine ⟨?_, xh_S5_advise h.2⟩
  have e9 : ∀ q, xfI_X5_advise I L p 10 q 0 = I 10 q 0 := fun q => xh_un_advise xh_un_r 10 (by decide) q 0
  intro i hi
  rw [e9, e9]
  exact h.1 i hi
set_option linter.unusedVariables false in
def xg_advI (m : Int32) (k : Int32) (i : Nat) : Nat → Nat → xh_I → xh_L → xh_I × xh_L
  | 0, j, I, L => (I, L)
  | n + 1, j, I, L => if (I 8 i 0) = 0 then (xg_advI m k i n (j + 1) I L) else (if (I 8 j 0) = 0 then (xg_advI m k i n (j + 1) I L) else (xg_advI m k i n (j + 1) (xfI_X5_advise (xfI_X5_look I L i j) (xfL_X5_look I L i j) ((6 * (nI i)) + (nI j))) (xfL_X5_look I L i j)))
set_option maxHeartbeats 4000000 in
set_option maxRecDepth 100000 in
theorem xl_advI (d : Nat) (m : Int32) (k : Int32) (i : Nat) (hi : i < 6) {E : Nat → xm_S → Prop} (hE : xm_Ei E) : ∀ (n j : Nat), j + n = 6 → i < j → ∀ (I : xh_I) (L : xh_L) , xh_V5 I → xK (d + 5) xt_X5_step 140 ([(0, xm_r 5 0), (1, xm_i m), (2, xm_i k), (3, xm_i (nI i)), (4, xm_i 6)], [], xh_M (xg_advI m k i n j I L ).1 (xg_advI m k i n j I L ).2, 0, 0) E → xK (d + 5) xt_X5_step 90 ([(0, xm_r 5 0), (1, xm_i m), (2, xm_i k), (3, xm_i (nI i)), (4, xm_i (nI j))], [], xh_M I L, 0, 0) E := by
  have hmo := xmt_X5_step
  intro n
  induction n with
  | zero =>
    intro j hj hjj I L  hv hk
    have hjN : j = 6 := by omega
    subst hjN
    refine xK.run (q := (94, ([(0, xm_r 5 0), (1, xm_i m), (2, xm_i k), (3, xm_i (nI i)), (4, xm_i (nI 6))], [xm_i 6, xm_i (nI 6)], xh_M I L, 0, 0))) 2 rfl ?_
    exact xK.icmp rfl (fun _ => hk) (fun h9 => absurd (by decide) h9)
  | succ n ih =>
    intro j hj hjj I L  hv hk
    have hj8 : j < 6 := by omega
    have hj9 : ¬ (6 : Int32) ≤ nI j := nI_ge (b := 6) hj8 (by decide)
    refine xK.run (q := (94, [(0, xm_r 5 0), (1, xm_i m), (2, xm_i k), (3, xm_i (nI i)), (4, xm_i (nI j))], [xm_i 6, xm_i (nI j)], xh_M I L, 0, 0)) 2 rfl ?_
    refine xK.icmp rfl (fun h9 => absurd h9 hj9) (fun _ => ?_)
    refine xK.run (q := (102, [(0, xm_r 5 0), (1, xm_i m), (2, xm_i k), (3, xm_i (nI i)), (4, xm_i (nI j))], [xm_i (nI i), xm_r 8 0], xh_M I L, 0, 0)) 3 rfl ?_
    refine xK.zald' rfl rfl (xh_ix_nI (N := 6) hi (by decide)) ?_
    refine xK.ifI rfl (fun (h1 : (I 8 i 0) = 0) => ?_) (fun (h1 : ¬ (I 8 i 0) = 0) => ?_)
    · skip
      refine xK.run (q := (90, [(0, xm_r 5 0), (1, xm_i m), (2, xm_i k), (3, xm_i (nI i)), (4, xm_i ((nI j) + 1))], [], xh_M I L, 0, 0)) 2 rfl ?_
      refine xK.forget (a := [(0, xm_r 5 0), (1, xm_i m), (2, xm_i k), (3, xm_i (nI i)), (4, xm_i ((nI j) + 1))]) hmo hE (of_decide_eq_true rfl) ⟨rfl, rfl, rfl, rfl, rfl, trivial⟩ ?_
      rw [nI_1 j]
      refine ih (j + 1) (by omega) (by omega) I L hv ?_
      rw [show xg_advI m k i (n + 1) j I L  = xg_advI m k i n (j + 1) I L from by rw [xg_advI]; rw [if_pos h1]] at hk
      exact hk
    · skip
      refine xK.run (q := (112, [(0, xm_r 5 0), (1, xm_i m), (2, xm_i k), (3, xm_i (nI i)), (4, xm_i (nI j))], [xm_i (nI j), xm_r 8 0], xh_M I L, 0, 0)) 3 rfl ?_
      refine xK.zald' rfl rfl (xh_ix_nI (N := 6) hj8 (by decide)) ?_
      refine xK.ifI rfl (fun (h2 : (I 8 j 0) = 0) => ?_) (fun (h2 : ¬ (I 8 j 0) = 0) => ?_)
      · skip
        refine xK.run (q := (90, [(0, xm_r 5 0), (1, xm_i m), (2, xm_i k), (3, xm_i (nI i)), (4, xm_i ((nI j) + 1))], [], xh_M I L, 0, 0)) 2 rfl ?_
        refine xK.forget (a := [(0, xm_r 5 0), (1, xm_i m), (2, xm_i k), (3, xm_i (nI i)), (4, xm_i ((nI j) + 1))]) hmo hE (of_decide_eq_true rfl) ⟨rfl, rfl, rfl, rfl, rfl, trivial⟩ ?_
        rw [nI_1 j]
        refine ih (j + 1) (by omega) (by omega) I L hv ?_
        rw [show xg_advI m k i (n + 1) j I L  = xg_advI m k i n (j + 1) I L from by rw [xg_advI]; rw [if_neg h1, if_pos h2]] at hk
        exact hk
      · skip
        refine xK.run (q := (120, [(0, xm_r 5 0), (1, xm_i m), (2, xm_i k), (3, xm_i (nI i)), (4, xm_i (nI j))], [xm_i (nI j), xm_i (nI i), xm_r 5 0], xh_M I L, 0, 0)) 3 rfl ?_
        refine xK.call [xm_r 5 0, xm_i (nI i), xm_i (nI j)] (xd_X5_look (d + 4) I L i hi j hj8 (nI_ge hjj (by omega)) (xh_hd hv.1 hi hj8)) rfl rfl rfl (Or.inr ⟨_, _, rfl⟩) (Nat.le_of_ble_eq_true rfl) ?_
        refine xK.run (q := (131, [(0, xm_r 5 0), (1, xm_i m), (2, xm_i k), (3, xm_i (nI i)), (4, xm_i (nI j))], [xm_i ((6 * (nI i)) + (nI j)), xm_r 5 0], xh_M (xfI_X5_look I L i j) (xfL_X5_look I L i j), 0, 0)) 6 rfl ?_
        refine xK.call [xm_r 5 0, xm_i ((6 * (nI i)) + (nI j))] (xd_X5_advise d (xfI_X5_look I L i j) (xfL_X5_look I L i j) (xh_oo_look hi hj8) ((6 * (nI i)) + (nI j)) (xh_adv_ix hi hj8) ((xh_V5_look hv).2 _)) rfl rfl rfl (Or.inr ⟨_, _, rfl⟩) (Nat.le_of_ble_eq_true rfl) ?_
        refine xK.run (q := (90, [(0, xm_r 5 0), (1, xm_i m), (2, xm_i k), (3, xm_i (nI i)), (4, xm_i ((nI j) + 1))], [], xh_M (xfI_X5_advise (xfI_X5_look I L i j) (xfL_X5_look I L i j) ((6 * (nI i)) + (nI j))) (xfL_X5_look I L i j), 0, 0)) 2 rfl ?_
        refine xK.forget (a := [(0, xm_r 5 0), (1, xm_i m), (2, xm_i k), (3, xm_i (nI i)), (4, xm_i ((nI j) + 1))]) hmo hE (of_decide_eq_true rfl) ⟨rfl, rfl, rfl, rfl, rfl, trivial⟩ ?_
        rw [nI_1 j]
        refine ih (j + 1) (by omega) (by omega) (xfI_X5_advise (xfI_X5_look I L i j) (xfL_X5_look I L i j) ((6 * (nI i)) + (nI j))) (xfL_X5_look I L i j) (xh_V5_advise (xh_V5_look hv)) ?_
        rw [show xg_advI m k i (n + 1) j I L  = xg_advI m k i n (j + 1) (xfI_X5_advise (xfI_X5_look I L i j) (xfL_X5_look I L i j) ((6 * (nI i)) + (nI j))) (xfL_X5_look I L i j) from by rw [xg_advI]; rw [if_neg h1, if_neg h2]] at hk
        exact hk
def xwI_advI (m : Int32) (k : Int32) (i : Nat) (I : xh_I) (L : xh_L)  : xh_I := (xg_advI m k i (5 - i) (i + 1) I L ).1
def xwL_advI (m : Int32) (k : Int32) (i : Nat) (I : xh_I) (L : xh_L)  : xh_L := (xg_advI m k i (5 - i) (i + 1) I L ).2
theorem xl_advI_w (d : Nat) (m : Int32) (k : Int32) (i : Nat) (hi : i < 6) {E : Nat → xm_S → Prop} (hE : xm_Ei E) (I : xh_I) (L : xh_L)  (hv : xh_V5 I) (hk : xK (d + 5) xt_X5_step 140 ([(0, xm_r 5 0), (1, xm_i m), (2, xm_i k), (3, xm_i (nI i)), (4, xm_i 6)], [], xh_M (xwI_advI m k i I L ) (xwL_advI m k i I L ), 0, 0) E) : xK (d + 5) xt_X5_step 90 ([(0, xm_r 5 0), (1, xm_i m), (2, xm_i k), (3, xm_i (nI i)), (4, xm_i (nI (i + 1)))], [], xh_M I L, 0, 0) E :=
  xl_advI d m k i hi hE (5 - i) (i + 1) (by omega) (by omega) I L  hv hk
theorem xh_V5_advI {m k : Int32} {i : Nat} : ∀ (n j : Nat) (I : xh_I) (L : xh_L), xh_V5 I → xh_V5 (xg_advI m k i n j I L).1
  | 0, _, _, _, h => h
  | n + 1, j, I, L, h => by
    rw [xg_advI]
    split
    · exact xh_V5_advI n _ _ _ h
    · split
      · exact xh_V5_advI n _ _ _ h
      · exact xh_V5_advI n _ _ _ (xh_V5_advise (xh_V5_look h))
set_option linter.unusedVariables false in
def xg_adv (m : Int32) (k : Int32) : Nat → Nat → xh_I → xh_L → xh_I × xh_L
  | 0, j, I, L => (I, L)
  | n + 1, j, I, L => xg_adv m k n (j + 1) (xwI_advI m k j I L) (xwL_advI m k j I L)
set_option maxHeartbeats 4000000 in
set_option maxRecDepth 100000 in
theorem xl_adv (d : Nat) (m : Int32) (k : Int32)  {E : Nat → xm_S → Prop} (hE : xm_Ei E) : ∀ (n j : Nat), j + n = 6 → ∀ (I : xh_I) (L : xh_L) , xh_V5 I → xK (d + 5) xt_X5_step 146 ([(0, xm_r 5 0), (1, xm_i m), (2, xm_i k), (3, xm_i 6)], [], xh_M (xg_adv m k n j I L ).1 (xg_adv m k n j I L ).2, 0, 0) E → xK (d + 5) xt_X5_step 79 ([(0, xm_r 5 0), (1, xm_i m), (2, xm_i k), (3, xm_i (nI j))], [], xh_M I L, 0, 0) E := by
  have hmo := xmt_X5_step
  intro n
  induction n with
  | zero =>
    intro j hj I L  hv hk
    have hjN : j = 6 := by omega
    subst hjN
    refine xK.run (q := (82, ([(0, xm_r 5 0), (1, xm_i m), (2, xm_i k), (3, xm_i (nI 6))], [xm_i 6, xm_i (nI 6)], xh_M I L, 0, 0))) 2 rfl ?_
    exact xK.icmp rfl (fun _ => hk) (fun h9 => absurd (by decide) h9)
  | succ n ih =>
    intro j hj I L  hv hk
    have hj8 : j < 6 := by omega
    have hj9 : ¬ (6 : Int32) ≤ nI j := nI_ge (b := 6) hj8 (by decide)
    refine xK.run (q := (82, [(0, xm_r 5 0), (1, xm_i m), (2, xm_i k), (3, xm_i (nI j))], [xm_i 6, xm_i (nI j)], xh_M I L, 0, 0)) 2 rfl ?_
    refine xK.icmp rfl (fun h9 => absurd h9 hj9) (fun _ => ?_)
    refine xK.run (q := (90, [(0, xm_r 5 0), (1, xm_i m), (2, xm_i k), (3, xm_i (nI j)), (4, xm_i ((nI j) + 1))], [], xh_M I L, 0, 0)) 4 rfl ?_
    rw [nI_1 j]
    refine xl_advI_w d m k j hj8 hE I L  hv ?_
    refine xK.run (q := (79, [(0, xm_r 5 0), (1, xm_i m), (2, xm_i k), (3, xm_i ((nI j) + 1)), (4, xm_i 6)], [], xh_M (xwI_advI m k j I L) (xwL_advI m k j I L), 0, 0)) 2 rfl ?_
    refine xK.forget (a := [(0, xm_r 5 0), (1, xm_i m), (2, xm_i k), (3, xm_i ((nI j) + 1))]) hmo hE (of_decide_eq_true rfl) ⟨rfl, rfl, rfl, rfl, trivial⟩ ?_
    rw [nI_1 j]
    refine ih (j + 1) (by omega) (xwI_advI m k j I L) (xwL_advI m k j I L) (xh_V5_advI _ _ _ _ hv) ?_
    rw [show xg_adv m k (n + 1) j I L  = xg_adv m k n (j + 1) (xwI_advI m k j I L) (xwL_advI m k j I L) from by rw [xg_adv]] at hk
    exact hk
def xwI_adv (m : Int32) (k : Int32) (I : xh_I) (L : xh_L)  : xh_I := (xg_adv m k 6 0 I L ).1
def xwL_adv (m : Int32) (k : Int32) (I : xh_I) (L : xh_L)  : xh_L := (xg_adv m k 6 0 I L ).2
theorem xl_adv_w (d : Nat) (m : Int32) (k : Int32)  {E : Nat → xm_S → Prop} (hE : xm_Ei E) (I : xh_I) (L : xh_L)  (hv : xh_V5 I) (hk : xK (d + 5) xt_X5_step 146 ([(0, xm_r 5 0), (1, xm_i m), (2, xm_i k), (3, xm_i 6)], [], xh_M (xwI_adv m k I L ) (xwL_adv m k I L ), 0, 0) E) : xK (d + 5) xt_X5_step 79 ([(0, xm_r 5 0), (1, xm_i m), (2, xm_i k), (3, xm_i 0)], [], xh_M I L, 0, 0) E :=
  xl_adv d m k  hE 6 0 rfl  I L  hv hk
set_option linter.unusedVariables false in
def xg_obs (m : Int32) (k : Int32) : Nat → Nat → xh_I → xh_L → xh_I × xh_L
  | 0, j, I, L => (I, L)
  | n + 1, j, I, L => if (I 8 j 0) = 0 then (xg_obs m k n (j + 1) I L) else (if (I 9 j 0) = 0 then (xg_obs m k n (j + 1) I L) else (xg_obs m k n (j + 1) (xfI_X5_obey I L j) (xfL_X5_obey I L j)))
set_option maxHeartbeats 4000000 in
set_option maxRecDepth 100000 in
theorem xl_obs (d : Nat) (m : Int32) (k : Int32)  {E : Nat → xm_S → Prop} (hE : xm_Ei E) : ∀ (n j : Nat), j + n = 6 → ∀ (I : xh_I) (L : xh_L) , xK (d + 2) xt_X5_step 77 ([(0, xm_r 5 0), (1, xm_i m), (2, xm_i k), (3, xm_i 6)], [], xh_M (xg_obs m k n j I L ).1 (xg_obs m k n j I L ).2, 0, 0) E → xK (d + 2) xt_X5_step 42 ([(0, xm_r 5 0), (1, xm_i m), (2, xm_i k), (3, xm_i (nI j))], [], xh_M I L, 0, 0) E := by
  have hmo := xmt_X5_step
  intro n
  induction n with
  | zero =>
    intro j hj I L  hk
    have hjN : j = 6 := by omega
    subst hjN
    refine xK.run (q := (45, ([(0, xm_r 5 0), (1, xm_i m), (2, xm_i k), (3, xm_i (nI 6))], [xm_i 6, xm_i (nI 6)], xh_M I L, 0, 0))) 2 rfl ?_
    exact xK.icmp rfl (fun _ => hk) (fun h9 => absurd (by decide) h9)
  | succ n ih =>
    intro j hj I L  hk
    have hj8 : j < 6 := by omega
    have hj9 : ¬ (6 : Int32) ≤ nI j := nI_ge (b := 6) hj8 (by decide)
    refine xK.run (q := (45, [(0, xm_r 5 0), (1, xm_i m), (2, xm_i k), (3, xm_i (nI j))], [xm_i 6, xm_i (nI j)], xh_M I L, 0, 0)) 2 rfl ?_
    refine xK.icmp rfl (fun h9 => absurd h9 hj9) (fun _ => ?_)
    refine xK.run (q := (53, [(0, xm_r 5 0), (1, xm_i m), (2, xm_i k), (3, xm_i (nI j))], [xm_i (nI j), xm_r 8 0], xh_M I L, 0, 0)) 3 rfl ?_
    refine xK.zald' rfl rfl (xh_ix_nI (N := 6) hj8 (by decide)) ?_
    refine xK.ifI rfl (fun (h1 : (I 8 j 0) = 0) => ?_) (fun (h1 : ¬ (I 8 j 0) = 0) => ?_)
    · skip
      refine xK.run (q := (42, [(0, xm_r 5 0), (1, xm_i m), (2, xm_i k), (3, xm_i ((nI j) + 1))], [], xh_M I L, 0, 0)) 2 rfl ?_
      refine xK.forget (a := [(0, xm_r 5 0), (1, xm_i m), (2, xm_i k), (3, xm_i ((nI j) + 1))]) hmo hE (of_decide_eq_true rfl) ⟨rfl, rfl, rfl, rfl, trivial⟩ ?_
      rw [nI_1 j]
      refine ih (j + 1) (by omega) I L ?_
      rw [show xg_obs m k (n + 1) j I L  = xg_obs m k n (j + 1) I L from by rw [xg_obs]; rw [if_pos h1]] at hk
      exact hk
    · skip
      refine xK.run (q := (62, [(0, xm_r 5 0), (1, xm_i m), (2, xm_i k), (3, xm_i (nI j))], [xm_i (nI j), xm_r 9 0], xh_M I L, 0, 0)) 3 rfl ?_
      refine xK.zald' rfl rfl (xh_ix_nI (N := 6) hj8 (by decide)) ?_
      refine xK.ifI rfl (fun (h2 : (I 9 j 0) = 0) => ?_) (fun (h2 : ¬ (I 9 j 0) = 0) => ?_)
      · skip
        refine xK.run (q := (42, [(0, xm_r 5 0), (1, xm_i m), (2, xm_i k), (3, xm_i ((nI j) + 1))], [], xh_M I L, 0, 0)) 2 rfl ?_
        refine xK.forget (a := [(0, xm_r 5 0), (1, xm_i m), (2, xm_i k), (3, xm_i ((nI j) + 1))]) hmo hE (of_decide_eq_true rfl) ⟨rfl, rfl, rfl, rfl, trivial⟩ ?_
        rw [nI_1 j]
        refine ih (j + 1) (by omega) I L ?_
        rw [show xg_obs m k (n + 1) j I L  = xg_obs m k n (j + 1) I L from by rw [xg_obs]; rw [if_neg h1, if_pos h2]] at hk
        exact hk
      · skip
        refine xK.run (q := (68, [(0, xm_r 5 0), (1, xm_i m), (2, xm_i k), (3, xm_i (nI j))], [xm_i (nI j), xm_r 5 0], xh_M I L, 0, 0)) 2 rfl ?_
        refine xK.call [xm_r 5 0, xm_i (nI j)] (xd_X5_obey d I L j hj8) rfl rfl rfl (Or.inr ⟨_, _, rfl⟩) (Nat.le_of_ble_eq_true rfl) ?_
        refine xK.run (q := (42, [(0, xm_r 5 0), (1, xm_i m), (2, xm_i k), (3, xm_i ((nI j) + 1))], [], xh_M (xfI_X5_obey I L j) (xfL_X5_obey I L j), 0, 0)) 2 rfl ?_
        refine xK.forget (a := [(0, xm_r 5 0), (1, xm_i m), (2, xm_i k), (3, xm_i ((nI j) + 1))]) hmo hE (of_decide_eq_true rfl) ⟨rfl, rfl, rfl, rfl, trivial⟩ ?_
        rw [nI_1 j]
        refine ih (j + 1) (by omega) (xfI_X5_obey I L j) (xfL_X5_obey I L j) ?_
        rw [show xg_obs m k (n + 1) j I L  = xg_obs m k n (j + 1) (xfI_X5_obey I L j) (xfL_X5_obey I L j) from by rw [xg_obs]; rw [if_neg h1, if_neg h2]] at hk
        exact hk
def xwI_obs (m : Int32) (k : Int32) (I : xh_I) (L : xh_L)  : xh_I := (xg_obs m k 6 0 I L ).1
def xwL_obs (m : Int32) (k : Int32) (I : xh_I) (L : xh_L)  : xh_L := (xg_obs m k 6 0 I L ).2
theorem xl_obs_w (d : Nat) (m : Int32) (k : Int32)  {E : Nat → xm_S → Prop} (hE : xm_Ei E) (I : xh_I) (L : xh_L)   (hk : xK (d + 2) xt_X5_step 77 ([(0, xm_r 5 0), (1, xm_i m), (2, xm_i k), (3, xm_i 6)], [], xh_M (xwI_obs m k I L ) (xwL_obs m k I L ), 0, 0) E) : xK (d + 2) xt_X5_step 42 ([(0, xm_r 5 0), (1, xm_i m), (2, xm_i k), (3, xm_i 0)], [], xh_M I L, 0, 0) E :=
  xl_obs d m k  hE 6 0 rfl  I L   hk
