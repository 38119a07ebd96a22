/-! WHAT THE REFERENCE COMPUTES (by program) -/
theorem xh_V5_moves : ∀ (n j : Nat), j + n = 6 → ∀ (I : xh_I) (L : xh_L), xh_V5 I → xh_V5 (xg_moves n j I L).1
  | 0, _, _, _, _, h => h
  | n + 1, j, hj, I, L, h => by
    rw [xg_moves]
    split
    · exact xh_V5_moves n _ (by omega) _ _ h
    · refine xh_V5_moves n _ (by omega) _ _ ⟨fun i hi => ?_, fun q hq => h.2 q hq⟩
      have e3 : ∀ (K : xh_I) (v : Int32) (c d : Nat), d < 3 → 3 ≤ c → c < 6 → xm_up K 10 (6 * j + d) 0 v 10 (6 * i + c) 0 = K 10 (6 * i + c) 0 := fun K v c d h1 h2 h3 => xm_up_k (by omega)
      have e0 : ∀ (K : xh_I) (v : Int32) (c : Nat), 3 ≤ c → c < 6 → xm_up K 10 (6 * j) 0 v 10 (6 * i + c) 0 = K 10 (6 * i + c) 0 := fun K v c h2 h3 => xm_up_k (by omega)
      rw [e3 _ _ _ _ (by decide) (by decide) (by decide), e3 _ _ _ _ (by decide) (by decide) (by decide), e0 _ _ _ (by decide) (by decide), e3 _ _ _ _ (by decide) (by decide) (by decide), e3 _ _ _ _ (by decide) (by decide) (by decide), e0 _ _ _ (by decide) (by decide)]
      exact h.1 i hi
theorem xh_V5_same {I K : xh_I} (h : xh_V5 I) (h1 : ∀ q, K 10 q 0 = I 10 q 0) (h2 : ∀ q, K 11 q 0 = I 11 q 0) (h3 : ∀ q, K 12 q 0 = I 12 q 0) : xh_V5 K :=
  ⟨fun i hi => by rw [h1, h1]; exact h.1 i hi, fun q hq => by rw [h3]; rw [h2] at hq; exact h.2 q hq⟩
theorem xh_meas_un {I : xh_I} {L : xh_L} {i j : Nat} {c k : Nat} (hc : c ≠ 16) : xfI_X5_measure I L i j c k 0 = I c k 0 := by
  unfold xfI_X5_measure
  (repeat' split) <;> exact xm_up_c hc
theorem xh_measI_un {i : Nat} {c : Nat} (hc : c ≠ 16) (k : Nat) : ∀ (n j : Nat) (I : xh_I) (L : xh_L), (xg_measI i n j I L).1 c k 0 = I c k 0
  | 0, _, _, _ => rfl
  | n + 1, j, I, L => by
    rw [xg_measI]
    split
    · exact xh_measI_un hc k n _ _ _
    · split
      · exact xh_measI_un hc k n _ _ _
      · exact (xh_measI_un hc k n _ _ _).trans (xh_meas_un hc)
theorem xh_mea_un {c : Nat} (hc : c ≠ 16) (k : Nat) : ∀ (n j : Nat) (I : xh_I) (L : xh_L), (xg_meas n j I L).1 c k 0 = I c k 0
  | 0, _, _, _ => rfl
  | n + 1, j, I, L => by
    rw [xg_meas]
    exact (xh_mea_un hc k n _ _ _).trans (xh_measI_un hc k _ _ _ _)
theorem xh_V5_move {I : xh_I} {L : xh_L} (h : xh_V5 I) : xh_V5 (xfI_X5_move I L) :=
  xh_V5_same (I := xwI_moves I L) (xh_V5_moves 6 0 rfl I L h) (fun q => xh_mea_un (by decide) q _ _ _ _) (fun q => xh_mea_un (by decide) q _ _ _ _) (fun q => xh_mea_un (by decide) q _ _ _ _)
theorem xh_obeys_I {i : Nat} : ∀ (n j : Nat) (I : xh_I) (L : xh_L) (a b : Int32), (xg_obeys i n j I L a b).2.2.1 = I ∧ (xg_obeys i n j I L a b).2.2.2 = L
  | 0, _, _, _, _, _ => ⟨rfl, rfl⟩
  | n + 1, j, I, L, a, b => by
    rw [xg_obeys]
    (repeat' split) <;> exact xh_obeys_I n _ _ _ _ _

def xv_obey (a b v f : Int32) : Int32 := if a ≤ 0 then (if b ≤ 0 then v else (if v ≤ ((-12) * b) then v else (if (v - f) ≤ ((-12) * b) then ((-12) * b) else (v - f)))) else (if b ≤ 0 then (if (12 * a) ≤ v then v else (if (12 * a) ≤ (v + f) then (12 * a) else (v + f))) else (if v ≤ 0 then (if (-f) ≤ v then 0 else (v + f)) else (if v ≤ f then 0 else (v - f))))
theorem xh_obey_I (I : xh_I) (L : xh_L) (i : Nat) : xfI_X5_obey I L i = xm_up I 10 (6 * i + 5) 0 (xv_obey (xw0_obeys i I L 0 0) (xw1_obeys i I L 0 0) (I 10 (6 * i + 5) 0) (I 7 6 0)) := by
  have e1 : xwI_obeys i I L 0 0 = I := (xh_obeys_I (i := i) 6 0 I L 0 0).1
  unfold xfI_X5_obey
  rw [e1]
  generalize hA : xw0_obeys i I L 0 0 = a
  generalize hB : xw1_obeys i I L 0 0 = b
  generalize hv : I 10 (6 * i + 5) 0 = v
  generalize hf : I 7 6 0 = f
  unfold xv_obey
  by_cases g1 : a ≤ 0
  · rw [if_pos g1, if_pos g1]
    by_cases g2 : b ≤ 0
    · rw [if_pos g2, if_pos g2]
      skip
    · rw [if_neg g2, if_neg g2]
      by_cases g3 : v ≤ ((-12) * b)
      · rw [if_pos g3, if_pos g3]
        skip
      · rw [if_neg g3, if_neg g3]
        by_cases g4 : (v - f) ≤ ((-12) * b)
        · rw [if_pos g4, if_pos g4]
          skip
        · rw [if_neg g4, if_neg g4]
          skip
  · rw [if_neg g1, if_neg g1]
    by_cases g5 : b ≤ 0
    · rw [if_pos g5, if_pos g5]
      by_cases g6 : (12 * a) ≤ v
      · rw [if_pos g6, if_pos g6]
        skip
      · rw [if_neg g6, if_neg g6]
        by_cases g7 : (12 * a) ≤ (v + f)
        · rw [if_pos g7, if_pos g7]
          skip
        · rw [if_neg g7, if_neg g7]
          skip
    · rw [if_neg g5, if_neg g5]
      by_cases g8 : v ≤ 0
      · rw [if_pos g8, if_pos g8]
        by_cases g9 : (-f) ≤ v
        · rw [if_pos g9, if_pos g9]
          skip
        · rw [if_neg g9, if_neg g9]
          skip
      · rw [if_neg g8, if_neg g8]
        by_cases g10 : v ≤ f
        · rw [if_pos g10, if_pos g10]
          skip
        · rw [if_neg g10, if_neg g10]
          skip
theorem xh_obey_L (I : xh_I) (L : xh_L) (i : Nat) : xfL_X5_obey I L i = L := by
  have e1 : xwL_obeys i I L 0 0 = L := (xh_obeys_I (i := i) 6 0 I L 0 0).2
  unfold xfL_X5_obey
  (repeat' split) <;> exact e1
theorem xh_V5_obey {I : xh_I} {L : xh_L} {i : Nat} (hi : i < 6) (h : xh_V5 I) : xh_V5 (xfI_X5_obey I L i) := by
  rw [xh_obey_I]
  refine ⟨fun j hj => ?_, fun q hq => h.2 q hq⟩
  rw [xm_up_k (by omega), xm_up_k (by omega)]
  exact h.1 j hj
theorem xh_V5_obs {m k : Int32} : ∀ (n j : Nat), j + n = 6 → ∀ (I : xh_I) (L : xh_L), xh_V5 I → xh_V5 (xg_obs m k n j I L).1
  | 0, _, _, _, _, h => h
  | n + 1, j, hj, I, L, h => by
    rw [xg_obs]
    split
    · exact xh_V5_obs n _ (by omega) _ _ h
    · split
      · exact xh_V5_obs n _ (by omega) _ _ h
      · exact xh_V5_obs n _ (by omega) _ _ (xh_V5_obey (by omega) h)
