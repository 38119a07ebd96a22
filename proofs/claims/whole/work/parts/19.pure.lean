/-! RUNNING METHODS in the calculus -/
def xK (d : Nat) (tb : xm_T) (pc : Nat) (S : xm_S) (E : Nat → xm_S → Prop) : Prop := ∃ pc' S', xm_R (xm_Do xp_pg d) tb pc S pc' S' ∧ E pc' S'
/-- the end of a method that returns; of one that throws -/
def xE (tb : xm_T) (v : Option xm_V) (M' : xm_M) (mc ms : Nat) (pc : Nat) (S : xm_S) : Prop := S.2.2 = (M', mc, ms) ∧ ∃ k, xm_at tb pc = some (.inr (.inr k)) ∧ xm_ret k S.2.1 v
def xT (tb : xm_T) (M' : xm_M) (mc ms pt : Nat) (pc : Nat) (S : xm_S) : Prop := S.2.2 = (M', mc, ms) ∧ pc = pt ∧ xm_at tb pc = some (.inr (.inr 9)) ∧ S.2.1 = []
section XK
variable {d : Nat} {tb : xm_T} {pc n : Nat} {S : xm_S} {v : Option xm_V} {M M' M1 : xm_M} {mc ms kc ks : Nat} {lv : xm_L} {st rest : List xm_V} {E : Nat → xm_S → Prop}
theorem xK.run {q : Nat × xm_S} (k : Nat) (h : xm_run tb k pc S = some q) (kk : xK d tb q.1 q.2 E) : xK d tb pc S E := by
  obtain ⟨pc', S9, h1, h2⟩ := kk
  exact ⟨pc', S9, xm_R.run k h h1, h2⟩
theorem xK.step {f : xm_F} {pc1 : Nat} {S1 : xm_S} (h : xm_at tb pc = some (.inl f)) (hf : f S = some (pc1, S1)) (kk : xK d tb pc1 S1 E) : xK d tb pc S E := by
  obtain ⟨pc', S9, h1, h2⟩ := kk
  exact ⟨pc', S9, xm_R.step h hf h1, h2⟩
theorem xK.ifI {x : Int32} {t : Nat} {P : Int32 → Prop} {dp : ∀ x, Decidable (P x)} (h : xm_at tb pc = some (.inl (xs_if n t P dp))) (k1 : P x → xK d tb t (lv, st, M, kc, ks) E) (k2 : ¬ P x → xK d tb n (lv, st, M, kc, ks) E) : xK d tb pc (lv, .inl x :: st, M, kc, ks) E := by
  by_cases hp : P x
  · exact xK.step h (by show some (@ite _ (P x) (dp x) _ _) = _; rw [if_pos hp]) (k1 hp)
  · exact xK.step h (by show some (@ite _ (P x) (dp x) _ _) = _; rw [if_neg hp]) (k2 hp)
theorem xK.icmp {x y : Int32} {t : Nat} {P : Int32 → Int32 → Prop} {dp : ∀ x y, Decidable (P x y)} (h : xm_at tb pc = some (.inl (xs_icmp n t P dp))) (k1 : P x y → xK d tb t (lv, st, M, kc, ks) E) (k2 : ¬ P x y → xK d tb n (lv, st, M, kc, ks) E) : xK d tb pc (lv, .inl y :: .inl x :: st, M, kc, ks) E := by
  by_cases hp : P x y
  · exact xK.step h (by show some (@ite _ (P x y) (dp x y) _ _) = _; rw [if_pos hp]) (k1 hp)
  · exact xK.step h (by show some (@ite _ (P x y) (dp x y) _ _) = _; rw [if_neg hp]) (k2 hp)
theorem xK.ifN {x : Int32} {t : Nat} {dp : ∀ x : Int32, Decidable (¬ x = 0)} (h : xm_at tb pc = some (.inl (xs_if n t (fun x => ¬ x = 0) dp))) (k1 : x = 0 → xK d tb n (lv, st, M, kc, ks) E) (k2 : ¬ x = 0 → xK d tb t (lv, st, M, kc, ks) E) : xK d tb pc (lv, .inl x :: st, M, kc, ks) E :=
  xK.ifI h k2 (fun h9 => k1 (Decidable.not_not.mp h9))
theorem xK.icmpN {x y : Int32} {t : Nat} {dp : ∀ x y : Int32, Decidable (¬ x = y)} (h : xm_at tb pc = some (.inl (xs_icmp n t (fun x y => ¬ x = y) dp))) (k1 : x = y → xK d tb n (lv, st, M, kc, ks) E) (k2 : ¬ x = y → xK d tb t (lv, st, M, kc, ks) E) : xK d tb pc (lv, .inl y :: .inl x :: st, M, kc, ks) E :=
  xK.icmp h k2 (fun h9 => k1 (Decidable.not_not.mp h9))
theorem xK.acmp {c i j t : Nat} (h : xm_at tb pc = some (.inl (xp_acmp n t))) (hc : c < 21) (k1 : i = j → xK d tb t (lv, st, M, kc, ks) E) (k2 : ¬ i = j → xK d tb n (lv, st, M, kc, ks) E) : xK d tb pc (lv, xm_r c j :: xm_r c i :: st, M, kc, ks) E := by
  have e9 : xp_acmp n t (lv, xm_r c j :: xm_r c i :: st, M, kc, ks) = some (if (c, i) = (c, j) then (t, lv, st, M, kc, ks) else (n, lv, st, M, kc, ks)) := by
    show (if c < 21 ∧ c < 21 then _ else none) = _
    rw [if_pos ⟨hc, hc⟩]
    rfl
  by_cases hp : i = j
  · refine xK.step h (e9.trans ?_) (k1 hp)
    rw [if_pos (by rw [hp])]
  · refine xK.step h (e9.trans ?_) (k2 hp)
    rw [if_neg (fun h9 => hp (congrArg Prod.snd h9))]
theorem xK.call {mi k t : Nat} (as : List xm_V) {rest : List xm_V} {w : Option xm_V} {mc1 ms1 : Nat} (hc : xm_Do xp_pg d mi as M w M1 mc1 ms1) (h : xm_at tb pc = some (.inr (.inl (mi, k, t)))) (hs : st = as.reverse ++ rest) (hk : as.length = k) (ht : xm_rc t as) (hr : (rest.map xm_cat).sum ≤ 8) (kk : xK d tb (pc + 3) (lv, w.toList ++ rest, M1, kc + mc1, ks + ms1) E) : xK d tb pc (lv, st, M, kc, ks) E := by
  obtain ⟨pc', S9, h1, h2⟩ := kk
  exact ⟨pc', S9, xm_R.call as rest h hs hk ht hr hc h1, h2⟩
theorem xK.ret {k : Nat} (h : xm_at tb pc = some (.inr (.inr k))) (hr : xm_ret k st v) : xK d tb pc (lv, st, M, mc, ms) (xE tb v M mc ms) := ⟨pc, _, xm_R.stop h, rfl, k, h, hr⟩
theorem xK.thr (h : xm_at tb pc = some (.inr (.inr 9))) : xK d tb pc (lv, [], M, mc, ms) (xT tb M mc ms pc) := ⟨pc, _, xm_R.stop h, rfl, rfl, h, rfl⟩
theorem xK.of {mi : Nat} {as : List xm_V} (h : (as.map xm_cat).sum ≤ (xp_pg mi).1) (ht : (xp_pg mi).2 = tb) (k : xK d tb 0 (xm_en 0 as, [], M, 0, 0) (xE tb v M' mc ms)) : xm_Do xp_pg (d + 1) mi as M v M' mc ms := by
  obtain ⟨pc', ⟨lv, st, M9, mc9, ms9⟩, h1, h2, k9, h3, h4⟩ := k
  cases h2
  subst ht
  exact ⟨h, pc', lv, st, k9, h1, h3, h4⟩
/-- an int as a place -/
abbrev xh_ix (x : Int32) (j N : Nat) : Prop := x.toNatClampNeg = j ∧ 0 ≤ x.toInt ∧ x.toInt < N
theorem xh_ix_nI {j N : Nat} (h : j < N) (hN : N < 2 ^ 31) : xh_ix (nI j) j N := ⟨nI_clamp (by omega), by rw [nI_toInt (by omega)]; omega, by rw [nI_toInt (by omega)]; omega⟩
theorem xK.iald {x : Int32} {c i j : Nat} (h : xm_at tb pc = some (.inl (xs_iald n))) (hk : (xm_kd c).1 = 1) (hx : xh_ix x j (M.2.2.2.1 c i)) (kk : xK d tb n (lv, .inl (M.1 c j i) :: st, M, kc, ks) E) : xK d tb pc (lv, .inl x :: xm_r c i :: st, M, kc, ks) E := by
  obtain ⟨rfl, hx⟩ := hx
  refine xK.step h ?_ kk
  show (match (xm_kd c).1 with | 1 => _ | _ => none) = _
  rw [hk]
  exact if_pos hx
theorem xK.zald {x : Int32} {c i j : Nat} (h : xm_at tb pc = some (.inl (xs_zald n))) (hk : (xm_kd c).1 = 3) (hx : xh_ix x j (M.2.2.2.1 c i)) (kk : xK d tb n (lv, .inl (M.1 c j i) :: st, M, kc, ks) E) : xK d tb pc (lv, .inl x :: xm_r c i :: st, M, kc, ks) E := by
  obtain ⟨rfl, hx⟩ := hx
  refine xK.step h ?_ kk
  show (match (xm_kd c).1 with | 3 => _ | _ => none) = _
  rw [hk]
  exact if_pos hx
theorem xK.lald {x : Int32} {c i j : Nat} (h : xm_at tb pc = some (.inl (xs_lald n))) (hk : (xm_kd c).1 = 2) (hx : xh_ix x j (M.2.2.2.1 c i)) (kk : xK d tb n (lv, .inr (.inl (M.2.1 c j i)) :: st, M, kc, ks) E) : xK d tb pc (lv, .inl x :: xm_r c i :: st, M, kc, ks) E := by
  obtain ⟨rfl, hx⟩ := hx
  refine xK.step h ?_ kk
  show (match (xm_kd c).1 with | 2 => _ | _ => none) = _
  rw [hk]
  exact if_pos hx
theorem xK.aald {x : Int32} {c i j t : Nat} {z : Nat × Nat} (h : xm_at tb pc = some (.inl (xs_aald n t))) (hk : (xm_kd c).1 = t) (hx : xh_ix x j (M.2.2.2.1 c i)) (hz : M.2.2.1 c j i = some z) (kk : xK d tb n (lv, .inr (.inr (some z)) :: st, M, kc, ks) E) : xK d tb pc (lv, .inl x :: xm_r c i :: st, M, kc, ks) E := by
  obtain ⟨rfl, hx⟩ := hx
  refine xK.step h ?_ kk
  show (if (xm_kd c).1 = t ∧ 0 ≤ x.toInt ∧ x.toInt < M.2.2.2.1 c i then _ else none) = _
  rw [if_pos ⟨hk, hx⟩]
  show (match M.2.2.1 c x.toNatClampNeg i with | some z => _ | none => none) = _
  rw [hz]
theorem xK.iast {x w : Int32} {c i j : Nat} (h : xm_at tb pc = some (.inl (xs_iast n))) (hk : (xm_kd c).1 = 1) (hx : xh_ix x j (M.2.2.2.1 c i)) (kk : xK d tb n (lv, st, xm_wI M c j i w, kc, ks) E) : xK d tb pc (lv, .inl w :: .inl x :: xm_r c i :: st, M, kc, ks) E := by
  obtain ⟨rfl, hx⟩ := hx
  exact xK.step h (if_pos ⟨hk, hx⟩) kk
theorem xK.zast {x w : Int32} {c i j : Nat} (h : xm_at tb pc = some (.inl (xs_zast n))) (hk : (xm_kd c).1 = 3) (hw : w = 0 ∨ w = 1) (hx : xh_ix x j (M.2.2.2.1 c i)) (kk : xK d tb n (lv, st, xm_wI M c j i w, kc, ks) E) : xK d tb pc (lv, .inl w :: .inl x :: xm_r c i :: st, M, kc, ks) E := by
  obtain ⟨rfl, hx⟩ := hx
  exact xK.step h (if_pos ⟨hk, hw, hx⟩) kk
theorem xK.last {x : Int32} {w : Int64} {c i j : Nat} (h : xm_at tb pc = some (.inl (xs_last n))) (hk : (xm_kd c).1 = 2) (hx : xh_ix x j (M.2.2.2.1 c i)) (kk : xK d tb n (lv, st, xm_wL M c j i w, kc, ks) E) : xK d tb pc (lv, .inr (.inl w) :: .inl x :: xm_r c i :: st, M, kc, ks) E := by
  obtain ⟨rfl, hx⟩ := hx
  exact xK.step h (if_pos ⟨hk, hx⟩) kk
theorem xK.putZ {w : Int32} {c k i : Nat} (h : xm_at tb pc = some (.inl (xs_putZ n c k))) (hw : w = 0 ∨ w = 1) (kk : xK d tb n (lv, st, xm_wI M c k i w, kc, ks) E) : xK d tb pc (lv, .inl w :: xm_r c i :: st, M, kc, ks) E :=
  xK.step h (if_pos ⟨rfl, hw⟩) kk
theorem xK.div {x y : Int32} (h : xm_at tb pc = some (.inl (xs_lift n xg_div))) (hy : ¬ y = 0) (kk : xK d tb n (lv, .inl (x / y) :: st, M, kc, ks) E) : xK d tb pc (lv, .inl y :: .inl x :: st, M, kc, ks) E := by
  refine xK.step h ?_ kk
  have e9 : xg_div (.inl y :: .inl x :: st) = some (.inl (x / y) :: st) := if_neg hy
  unfold xs_lift
  rw [e9]
theorem xK.divL {x y : Int64} (h : xm_at tb pc = some (.inl (xs_lift n xg_divL))) (hy : ¬ y = 0) (kk : xK d tb n (lv, .inr (.inl (x / y)) :: st, M, kc, ks) E) : xK d tb pc (lv, .inr (.inl y) :: .inr (.inl x) :: st, M, kc, ks) E := by
  refine xK.step h ?_ kk
  have e9 : xg_divL (.inr (.inl y) :: .inr (.inl x) :: st) = some (.inr (.inl (x / y)) :: st) := if_neg hy
  unfold xs_lift
  rw [e9]
theorem xK.tald {x : Int32} {k j : Nat} (h : xm_at tb pc = some (.inl (xs_tald n k))) (hx : xh_ix x j 7) (kk : xK d tb n (lv, .inl (xm_tb k j) :: st, M, kc, ks) E) : xK d tb pc (lv, .inl x :: xm_r (21 + k) 0 :: st, M, kc, ks) E := by
  obtain ⟨rfl, hx⟩ := hx
  exact xK.step h (if_pos ⟨rfl, hx⟩) kk
end XK
/-- the heap behind the constructors: the lower and the higher aircraft of a pair, references, lengths, the order of making -/
def xh_lo (k : Nat) : Nat := if k < 5 then 0 else if k < 9 then 1 else if k < 12 then 2 else if k < 14 then 3 else 4
def xh_hi (k : Nat) : Nat := if k < 5 then k + 1 else if k < 9 then k - 3 else if k < 12 then k - 6 else if k < 14 then k - 8 else 5
def xh_R (c k i : Nat) : Option (Nat × Nat) :=
  if c = 1 then (if k = 0 then some (0, xh_lo i) else if k = 1 then some (0, xh_hi i) else if k = 2 then some (2, 0) else if k = 3 then some (3, 0) else none)
  else if c = 2 then (if k = 0 then some (6, 0) else none)
  else if c = 4 then (if k = 0 then some (2, 0) else if k = 1 then some (3, 0) else if k = 2 then some (18, 0) else if k = 3 then some (19, 0) else none)
  else if c = 5 then (if 1 ≤ k ∧ k ≤ 11 then some (k + 6, 0) else none)
  else if c = 18 then (if k < 6 then some (0, k) else none)
  else if c = 19 then (if k < 15 then some (1, k) else none)
  else none
def xh_N (c _i : Nat) : Nat := if c = 6 then 7 else if c = 7 then 7 else if c = 8 then 6 else if c = 9 then 6 else if c = 17 then 5 else if c = 18 then 6 else if c = 19 then 15 else if c = 20 then 1 else if 10 ≤ c ∧ c ≤ 16 then 36 else 0
def xh_o : List (Nat × Nat) := [(4, 0), (2, 0), (6, 0), (3, 0), (18, 0), (0, 0), (0, 1), (0, 2), (0, 3), (0, 4), (0, 5), (19, 0), (1, 0), (1, 1), (1, 2), (1, 3), (1, 4), (1, 5), (1, 6), (1, 7), (1, 8), (1, 9), (1, 10), (1, 11), (1, 12), (1, 13), (1, 14), (5, 0), (7, 0), (8, 0), (9, 0), (10, 0), (11, 0), (12, 0), (13, 0), (14, 0), (15, 0), (16, 0), (17, 0), (20, 0)]
abbrev xh_I : Type := Nat → Nat → Nat → Int32
abbrev xh_L : Type := Nat → Nat → Nat → Int64
def xh_M (I : xh_I) (L : xh_L) : xm_M := (I, L, xh_R, xh_N, xh_o)
theorem xh_ix_p {a b : Int32} {N : Nat} (hb : b.toInt = N) (h0 : ¬ a < 0) (h1 : ¬ b ≤ a) : xh_ix a a.toNatClampNeg N ∧ a.toNatClampNeg < N := by
  rw [Int32.lt_iff_toInt_lt, Int32.toInt_zero] at h0
  rw [Int32.le_iff_toInt_le, hb] at h1
  refine ⟨⟨rfl, by omega, by omega⟩, ?_⟩
  rw [Int32.toNatClampNeg]
  omega
theorem xh_R18 {j : Nat} (h : j < 6) : xh_R 18 j 0 = some (0, j) := by
  show (if j < 6 then some (0, j) else none) = _
  rw [if_pos h]
theorem xh_R19 {j : Nat} (h : j < 15) : xh_R 19 j 0 = some (1, j) := by
  show (if j < 15 then some (1, j) else none) = _
  rw [if_pos h]
