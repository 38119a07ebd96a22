/-! WHAT THE REFERENCE COMPUTES (by program) -/
def xfI_sec5 (m : Int32) (k : Int32) (I : xh_I) (L : xh_L) : xh_I := (xm_up (xwI_adv m k (xwI_obs m k (xfI_X5_move I L) (xfL_X5_move I L)) (xwL_obs m k (xfI_X5_move I L) (xfL_X5_move I L))) 17 4 0 (((xwI_adv m k (xwI_obs m k (xfI_X5_move I L) (xfL_X5_move I L)) (xwL_obs m k (xfI_X5_move I L) (xfL_X5_move I L))) 17 4 0) + 1))
def xfL_sec5 (m : Int32) (k : Int32) (I : xh_I) (L : xh_L) : xh_L := (xwL_adv m k (xwI_obs m k (xfI_X5_move I L) (xfL_X5_move I L)) (xwL_obs m k (xfI_X5_move I L) (xfL_X5_move I L)))
set_option maxHeartbeats 4000000 in
set_option maxRecDepth 100000 in
theorem xl_sec5 (d : Nat) (m : Int32) (k : Int32) {E : Nat → xm_S → Prop} (hE : xm_Ei E) (I : xh_I) (L : xh_L) (hv : xh_V5 I) (hk : xK (d + 5) xt_X5_step 31 ([(0, xm_r 5 0), (1, xm_i m), (2, xm_i (k + 1))], [], xh_M (xfI_sec5 m k I L) (xfL_sec5 m k I L), 0, 0) E) : xK (d + 5) xt_X5_step 36 ([(0, xm_r 5 0), (1, xm_i m), (2, xm_i k)], [], xh_M I L, 0, 0) E := by
  refine xK.run (q := (37, [(0, xm_r 5 0), (1, xm_i m), (2, xm_i k)], [xm_r 5 0], xh_M I L, 0, 0)) 1 rfl ?_
  refine xK.call [xm_r 5 0] (xd_X5_move (d + 2) I L) rfl rfl rfl (Or.inr ⟨_, _, rfl⟩) (Nat.le_of_ble_eq_true rfl) ?_
  refine xK.run (q := (42, [(0, xm_r 5 0), (1, xm_i m), (2, xm_i k), (3, xm_i 0)], [], xh_M (xfI_X5_move I L) (xfL_X5_move I L), 0, 0)) 2 rfl ?_
  refine xl_obs_w (d + 3) m k  hE (xfI_X5_move I L) (xfL_X5_move I L)   ?_
  refine xK.run (q := (79, [(0, xm_r 5 0), (1, xm_i m), (2, xm_i k), (3, xm_i 0)], [], xh_M (xwI_obs m k (xfI_X5_move I L) (xfL_X5_move I L)) (xwL_obs m k (xfI_X5_move I L) (xfL_X5_move I L)), 0, 0)) 2 rfl ?_
  refine xl_adv_w d m k  hE (xwI_obs m k (xfI_X5_move I L) (xfL_X5_move I L)) (xwL_obs m k (xfI_X5_move I L) (xfL_X5_move I L))  (xh_V5_obs 6 0 rfl _ _ (xh_V5_move hv)) ?_
  refine xK.run (q := (152, [(0, xm_r 5 0), (1, xm_i m), (2, xm_i k), (3, xm_i 6)], [xm_i 4, xm_r 17 0, xm_i 4, xm_r 17 0], xh_M (xwI_adv m k (xwI_obs m k (xfI_X5_move I L) (xfL_X5_move I L)) (xwL_obs m k (xfI_X5_move I L) (xfL_X5_move I L))) (xwL_adv m k (xwI_obs m k (xfI_X5_move I L) (xfL_X5_move I L)) (xwL_obs m k (xfI_X5_move I L) (xfL_X5_move I L))), 0, 0)) 4 rfl ?_
  refine xK.iald' rfl rfl (show xh_ix 4 4 5 by decide) ?_
  refine xK.run (q := (155, [(0, xm_r 5 0), (1, xm_i m), (2, xm_i k), (3, xm_i 6)], [xm_i (((xwI_adv m k (xwI_obs m k (xfI_X5_move I L) (xfL_X5_move I L)) (xwL_obs m k (xfI_X5_move I L) (xfL_X5_move I L))) 17 4 0) + 1), xm_i 4, xm_r 17 0], xh_M (xwI_adv m k (xwI_obs m k (xfI_X5_move I L) (xfL_X5_move I L)) (xwL_obs m k (xfI_X5_move I L) (xfL_X5_move I L))) (xwL_adv m k (xwI_obs m k (xfI_X5_move I L) (xfL_X5_move I L)) (xwL_obs m k (xfI_X5_move I L) (xfL_X5_move I L))), 0, 0)) 2 rfl ?_
  refine xK.iast' rfl rfl (show xh_ix 4 4 5 by decide) ?_
  refine xK.run (q := (31, [(0, xm_r 5 0), (1, xm_i m), (2, xm_i (k + 1)), (3, xm_i 6)], [], xh_M (xm_up (xwI_adv m k (xwI_obs m k (xfI_X5_move I L) (xfL_X5_move I L)) (xwL_obs m k (xfI_X5_move I L) (xfL_X5_move I L))) 17 4 0 (((xwI_adv m k (xwI_obs m k (xfI_X5_move I L) (xfL_X5_move I L)) (xwL_obs m k (xfI_X5_move I L) (xfL_X5_move I L))) 17 4 0) + 1)) (xwL_adv m k (xwI_obs m k (xfI_X5_move I L) (xfL_X5_move I L)) (xwL_obs m k (xfI_X5_move I L) (xfL_X5_move I L))), 0, 0)) 2 rfl ?_
  refine xK.forget (a := [(0, xm_r 5 0), (1, xm_i m), (2, xm_i (k + 1))]) xmt_X5_step hE (of_decide_eq_true rfl) ⟨rfl, rfl, rfl, trivial⟩ ?_
  exact hk
theorem xh_V5_adv {m k : Int32} : ∀ (n j : Nat) (I : xh_I) (L : xh_L), xh_V5 I → xh_V5 (xg_adv m k n j I L).1
  | 0, _, _, _, h => h
  | n + 1, j, I, L, h => by
    rw [xg_adv]
    exact xh_V5_adv n _ _ _ (xh_V5_advI _ _ _ _ h)
theorem xh_V5_sec {m k : Int32} {I : xh_I} {L : xh_L} (h : xh_V5 I) : xh_V5 (xfI_sec5 m k I L) := by
  have h1 : xh_V5 (xwI_adv m k (xwI_obs m k (xfI_X5_move I L) (xfL_X5_move I L)) (xwL_obs m k (xfI_X5_move I L) (xfL_X5_move I L))) := xh_V5_adv 6 0 _ _ (xh_V5_obs 6 0 rfl _ _ (xh_V5_move h))
  exact ⟨fun i hi => h1.1 i hi, fun q hq => h1.2 q hq⟩
def xg_secs5 (m : Int32) : Nat → Nat → xh_I → xh_L → xh_I × xh_L
  | 0, _, I, L => (I, L)
  | n + 1, j, I, L => xg_secs5 m n (j + 1) (xfI_sec5 m (nI j) I L) (xfL_sec5 m (nI j) I L)
theorem xl_secs5 (d : Nat) {E : Nat → xm_S → Prop} (hE : xm_Ei E) : ∀ (n j N : Nat), j + n = N → N ≤ 300 → ∀ (I : xh_I) (L : xh_L), xh_V5 I → xK (d + 5) xt_X5_step 162 ([(0, xm_r 5 0), (1, xm_i (nI N)), (2, xm_i (nI N))], [], xh_M (xg_secs5 (nI N) n j I L).1 (xg_secs5 (nI N) n j I L).2, 0, 0) E → xK (d + 5) xt_X5_step 31 ([(0, xm_r 5 0), (1, xm_i (nI N)), (2, xm_i (nI j))], [], xh_M I L, 0, 0) E := by
  intro n
  induction n with
  | zero =>
    intro j N hj hN I L hs hk
    have e9 : j = N := by omega
    subst e9
    refine xK.run (q := (33, ([(0, xm_r 5 0), (1, xm_i (nI j)), (2, xm_i (nI j))], [xm_i (nI j), xm_i (nI j)], xh_M I L, 0, 0))) 2 rfl ?_
    exact xK.icmp rfl (fun _ => hk) (fun h9 => absurd (Int32.le_refl _) h9)
  | succ n ih =>
    intro j N hj hN I L hs hk
    refine xK.run (q := (33, ([(0, xm_r 5 0), (1, xm_i (nI N)), (2, xm_i (nI j))], [xm_i (nI N), xm_i (nI j)], xh_M I L, 0, 0))) 2 rfl ?_
    refine xK.icmp rfl (fun h9 => absurd h9 (nI_ge (b := N) (by omega) (by omega))) (fun _ => ?_)
    refine xl_sec5 d (nI N) (nI j) hE I L hs ?_
    rw [nI_1 j]
    exact ih (j + 1) N (by omega) hN _ _ (xh_V5_sec hs) hk
set_option linter.unusedVariables false in
def xg_cnt5  : Nat → Nat → xh_I → xh_L → Int32 → Int32 × xh_I × xh_L
  | 0, j, I, L, a => (a, I, L)
  | n + 1, j, I, L, a => if (I 11 j 0) ≤ 0 then (xg_cnt5  n (j + 1) I L a) else (xg_cnt5  n (j + 1) I L (a + 1))
set_option maxHeartbeats 4000000 in
set_option maxRecDepth 100000 in
theorem xl_cnt5 (d : Nat)   {E : Nat → xm_S → Prop} (hE : xm_Ei E) : ∀ (n j : Nat), j + n = 36 → ∀ (I : xh_I) (L : xh_L) (a : Int32), xK (d + 0) xt_X5_step 195 ([(0, xm_r 5 0), (2, xm_i ((xg_cnt5  n j I L a).1)), (3, xm_i 36)], [], xh_M (xg_cnt5  n j I L a).2.1 (xg_cnt5  n j I L a).2.2, 0, 0) E → xK (d + 0) xt_X5_step 166 ([(0, xm_r 5 0), (2, xm_i a), (3, xm_i (nI j))], [], xh_M I L, 0, 0) E := by
  have hmo := xmt_X5_step
  intro n
  induction n with
  | zero =>
    intro j hj I L a hk
    have hjN : j = 36 := by omega
    subst hjN
    refine xK.run (q := (169, ([(0, xm_r 5 0), (2, xm_i a), (3, xm_i (nI 36))], [xm_i 36, xm_i (nI 36)], xh_M I L, 0, 0))) 2 rfl ?_
    exact xK.icmp rfl (fun _ => hk) (fun h9 => absurd (by decide) h9)
  | succ n ih =>
    intro j hj I L a hk
    have hj8 : j < 36 := by omega
    have hj9 : ¬ (36 : Int32) ≤ nI j := nI_ge (b := 36) hj8 (by decide)
    refine xK.run (q := (169, [(0, xm_r 5 0), (2, xm_i a), (3, xm_i (nI j))], [xm_i 36, xm_i (nI j)], xh_M I L, 0, 0)) 2 rfl ?_
    refine xK.icmp rfl (fun h9 => absurd h9 hj9) (fun _ => ?_)
    refine xK.run (q := (177, [(0, xm_r 5 0), (2, xm_i a), (3, xm_i (nI j))], [xm_i (nI j), xm_r 11 0], xh_M I L, 0, 0)) 3 rfl ?_
    refine xK.iald' rfl rfl (xh_ix_nI (N := 36) hj8 (by decide)) ?_
    refine xK.ifI rfl (fun (h1 : (I 11 j 0) ≤ 0) => ?_) (fun (h1 : ¬ (I 11 j 0) ≤ 0) => ?_)
    · skip
      refine xK.run (q := (166, [(0, xm_r 5 0), (2, xm_i a), (3, xm_i ((nI j) + 1))], [], xh_M I L, 0, 0)) 4 rfl ?_
      refine xK.forget (a := [(0, xm_r 5 0), (2, xm_i a), (3, xm_i ((nI j) + 1))]) hmo hE (of_decide_eq_true rfl) ⟨rfl, rfl, rfl, trivial⟩ ?_
      rw [nI_1 j]
      refine ih (j + 1) (by omega) I L a ?_
      rw [show xg_cnt5  (n + 1) j I L a = xg_cnt5  n (j + 1) I L a from by rw [xg_cnt5]; rw [if_pos h1]] at hk
      exact hk
    · skip
      refine xK.run (q := (166, [(0, xm_r 5 0), (2, xm_i (a + 1)), (3, xm_i ((nI j) + 1))], [], xh_M I L, 0, 0)) 7 rfl ?_
      refine xK.forget (a := [(0, xm_r 5 0), (2, xm_i (a + 1)), (3, xm_i ((nI j) + 1))]) hmo hE (of_decide_eq_true rfl) ⟨rfl, rfl, rfl, trivial⟩ ?_
      rw [nI_1 j]
      refine ih (j + 1) (by omega) I L (a + 1) ?_
      rw [show xg_cnt5  (n + 1) j I L a = xg_cnt5  n (j + 1) I L (a + 1) from by rw [xg_cnt5]; rw [if_neg h1]] at hk
      exact hk
def xw0_cnt5  (I : xh_I) (L : xh_L) (a : Int32) : Int32 := (xg_cnt5  36 0 I L a).1
def xwI_cnt5  (I : xh_I) (L : xh_L) (a : Int32) : xh_I := (xg_cnt5  36 0 I L a).2.1
def xwL_cnt5  (I : xh_I) (L : xh_L) (a : Int32) : xh_L := (xg_cnt5  36 0 I L a).2.2
theorem xl_cnt5_w (d : Nat)   {E : Nat → xm_S → Prop} (hE : xm_Ei E) (I : xh_I) (L : xh_L) (a : Int32)  (hk : xK (d + 0) xt_X5_step 195 ([(0, xm_r 5 0), (2, xm_i (xw0_cnt5  I L a)), (3, xm_i 36)], [], xh_M (xwI_cnt5  I L a) (xwL_cnt5  I L a), 0, 0) E) : xK (d + 0) xt_X5_step 166 ([(0, xm_r 5 0), (2, xm_i a), (3, xm_i 0)], [], xh_M I L, 0, 0) E :=
  xl_cnt5 d   hE 36 0 rfl  I L a  hk
