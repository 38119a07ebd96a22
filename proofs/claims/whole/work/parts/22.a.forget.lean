/-! A LOCAL MAY BE FORGOTTEN: what runs with few locals known runs with more -/
def xm_sub : xm_L → xm_L → Prop
  | [], _ => True
  | q :: r, l => xm_ld l q.1 = some q.2 ∧ xm_sub r l
def xm_le (a b : xm_L) : Prop := ∀ i v, xm_ld a i = some v → xm_ld b i = some v
theorem xm_le_of {a b : xm_L} (h : xm_sub a b) : xm_le a b := by
  induction a with
  | nil => intro i v h9; cases h9
  | cons q r ih =>
    intro i v h9
    unfold xm_ld at h9
    split at h9
    · rename_i e9
      cases h9
      subst e9
      exact h.1
    · exact ih h.2 i v h9
abbrev xm_uk (l : xm_L) : Prop := (l.map Prod.fst).Nodup
theorem xm_ld_key {l : xm_L} {i : Nat} {v : xm_V} (h : xm_ld l i = some v) : i ∈ l.map Prod.fst := List.mem_map.mpr ⟨(i, v), xm_ld_mem h, rfl⟩
theorem xm_ldf {P : Nat × xm_V → Bool} : ∀ {l : xm_L} {i : Nat} {v : xm_V}, xm_uk l → xm_ld (l.filter P) i = some v → xm_ld l i = some v ∧ P (i, v) = true := by
  intro l
  induction l with
  | nil => intro i v _ h; cases h
  | cons q r ih =>
    intro i v hu h
    have hu' := List.nodup_cons.mp (show (q.1 :: r.map Prod.fst).Nodup from hu)
    by_cases hp : P q = true
    · rw [List.filter_cons_of_pos hp] at h
      unfold xm_ld at h ⊢
      by_cases hi : q.1 = i
      · rw [if_pos hi] at h ⊢
        cases h
        subst hi
        exact ⟨rfl, hp⟩
      · rw [if_neg hi] at h ⊢
        exact ih hu'.2 h
    · rw [List.filter_cons_of_neg hp] at h
      have h1 := ih hu'.2 h
      have hi : ¬ q.1 = i := fun e9 => hu'.1 (e9 ▸ xm_ld_key h1.1)
      unfold xm_ld
      rw [if_neg hi]
      exact h1
theorem xm_ldf' {P : Nat × xm_V → Bool} : ∀ {l : xm_L} {i : Nat} {v : xm_V}, xm_ld l i = some v → P (i, v) = true → xm_ld (l.filter P) i = some v := by
  intro l
  induction l with
  | nil => intro i v h _; cases h
  | cons q r ih =>
    intro i v h hp
    unfold xm_ld at h
    by_cases hi : q.1 = i
    · rw [if_pos hi] at h
      cases h
      subst hi
      rw [List.filter_cons_of_pos hp]
      unfold xm_ld
      rw [if_pos rfl]
    · rw [if_neg hi] at h
      by_cases hq : P q = true
      · rw [List.filter_cons_of_pos hq]
        unfold xm_ld
        rw [if_neg hi]
        exact ih h hp
      · rw [List.filter_cons_of_neg hq]
        exact ih h hp
theorem xm_ldi {q : Nat × xm_V} {i : Nat} : ∀ {l : xm_L}, (∀ x ∈ l, x.1 ≠ q.1) → xm_ld (xm_ins q l) i = if q.1 = i then some q.2 else xm_ld l i := by
  intro l
  induction l with
  | nil => intro _; rfl
  | cons r rs ih =>
    intro h
    unfold xm_ins
    split
    · rfl
    · show (if r.1 = i then some r.2 else xm_ld (xm_ins q rs) i) = if q.1 = i then some q.2 else if r.1 = i then some r.2 else xm_ld rs i
      rw [ih (fun x hx => h x (List.mem_cons_of_mem _ hx))]
      have hr := h r List.mem_cons_self
      by_cases h1 : r.1 = i
      · rw [if_pos h1, if_neg (fun e9 => hr (h1.trans e9.symm)), if_pos h1]
      · rw [if_neg h1, if_neg h1]
theorem xm_ins_uk {q : Nat × xm_V} : ∀ {l : xm_L}, (∀ x ∈ l, x.1 ≠ q.1) → xm_uk l → xm_uk (xm_ins q l) := by
  intro l
  induction l with
  | nil => intro _ _; exact List.nodup_cons.mpr ⟨List.not_mem_nil, List.nodup_nil⟩
  | cons r rs ih =>
    intro h hu
    have hu' := List.nodup_cons.mp (show (r.1 :: rs.map Prod.fst).Nodup from hu)
    unfold xm_ins
    split
    · refine List.nodup_cons.mpr ⟨fun h9 => ?_, hu⟩
      obtain ⟨x, hx, e9⟩ := List.mem_map.mp h9
      exact h x hx e9
    · refine List.nodup_cons.mpr ⟨fun h9 => ?_, ih (fun x hx => h x (List.mem_cons_of_mem _ hx)) hu'.2⟩
      obtain ⟨x, hx, e9⟩ := List.mem_map.mp h9
      rcases List.mem_cons.mp (xm_ins_mem hx) with rfl | hx
      · exact h r List.mem_cons_self e9.symm
      · exact hu'.1 (e9 ▸ List.mem_map.mpr ⟨x, hx, rfl⟩)
theorem xm_fl_uk {P : Nat × xm_V → Bool} {l : xm_L} (h : xm_uk l) : xm_uk (l.filter P) := by
  exact List.Nodup.sublist (List.Sublist.map _ (List.filter_sublist)) h
theorem xm_st_le {P : Nat × xm_V → Bool} {a b : xm_L} {i : Nat} {v : xm_V} (hP : ∀ x, P x = true → x.1 ≠ i) (hu : xm_uk a) (h : xm_le a b) : xm_uk (xm_ins (i, v) (a.filter P)) ∧ xm_le (xm_ins (i, v) (a.filter P)) (xm_ins (i, v) (b.filter P)) := by
  have ha : ∀ x ∈ a.filter P, x.1 ≠ i := fun x hx => hP x (List.mem_filter.mp hx).2
  have hb : ∀ x ∈ b.filter P, x.1 ≠ i := fun x hx => hP x (List.mem_filter.mp hx).2
  refine ⟨xm_ins_uk (q := (i, v)) ha (xm_fl_uk hu), fun j w hw => ?_⟩
  rw [xm_ldi (q := (i, v)) ha] at hw
  rw [xm_ldi (q := (i, v)) hb]
  by_cases hj : i = j
  · rw [if_pos hj] at hw ⊢
    exact hw
  · rw [if_neg hj] at hw ⊢
    obtain ⟨h1, h2⟩ := xm_ldf hu hw
    exact xm_ldf' (h j w h1) h2
theorem xm_st1_le {a b : xm_L} {i : Nat} {v : xm_V} (hu : xm_uk a) (h : xm_le a b) : xm_uk (xm_st1 a i v) ∧ xm_le (xm_st1 a i v) (xm_st1 b i v) :=
  xm_st_le (fun x hx e9 => by simp [e9] at hx) hu h
theorem xm_st2_le {a b : xm_L} {i : Nat} {v : xm_V} (hu : xm_uk a) (h : xm_le a b) : xm_uk (xm_st2 a i v) ∧ xm_le (xm_st2 a i v) (xm_st2 b i v) :=
  xm_st_le (fun x hx e9 => by simp [e9] at hx) hu h
def xm_mo (f : xm_F) : Prop := ∀ a b r pc1 a1 r1, xm_uk a → xm_le a b → f (a, r) = some (pc1, a1, r1) → xm_uk a1 ∧ ∃ b1, xm_le a1 b1 ∧ f (b, r) = some (pc1, b1, r1)
theorem xm_mo_keep {f : xm_F} (h : ∀ a b r q, f (a, r) = some q → q.2.1 = a ∧ f (b, r) = some (q.1, b, q.2.2)) : xm_mo f := by
  intro a b r pc1 a1 r1 hu hl hf
  obtain ⟨h1, h2⟩ := h a b r _ hf
  have e9 : a1 = a := h1
  subst e9
  exact ⟨hu, b, hl, h2⟩
theorem xmo_lift {n : Nat} {g : List xm_V → Option (List xm_V)} : xm_mo (xs_lift n g) := xm_mo_keep (by
  intro a b r q h
  unfold xs_lift at h ⊢
  dsimp only at h ⊢
  split at h
  · cases h
    exact ⟨rfl, rfl⟩
  · cases h)
theorem xmo_goto {t : Nat} : xm_mo (xs_goto t) := xm_mo_keep (by
  intro a b r q h
  cases h
  exact ⟨rfl, rfl⟩)
theorem xmo_if {n t : Nat} {P : Int32 → Prop} {dp : ∀ x, Decidable (P x)} : xm_mo (xs_if n t P dp) := xm_mo_keep (by
  intro a b r q h
  obtain ⟨st, M, kc, ks⟩ := r
  unfold xs_if at h ⊢
  dsimp only at h ⊢
  split at h
  · rename_i x r
    by_cases hp : P x
    · rw [if_pos hp] at h ⊢; cases h; exact ⟨rfl, rfl⟩
    · rw [if_neg hp] at h ⊢; cases h; exact ⟨rfl, rfl⟩
  · cases h)
theorem xmo_icmp {n t : Nat} {P : Int32 → Int32 → Prop} {dp : ∀ x y, Decidable (P x y)} : xm_mo (xs_icmp n t P dp) := xm_mo_keep (by
  intro a b r q h
  obtain ⟨st, M, kc, ks⟩ := r
  unfold xs_icmp at h ⊢
  dsimp only at h ⊢
  split at h
  · rename_i y x r
    by_cases hp : P x y
    · rw [if_pos hp] at h ⊢; cases h; exact ⟨rfl, rfl⟩
    · rw [if_neg hp] at h ⊢; cases h; exact ⟨rfl, rfl⟩
  · cases h)
theorem xmo_getI {n c k : Nat} : xm_mo (xs_getI n c k) := xm_mo_keep (by
  intro a b r q h
  obtain ⟨st, M, kc, ks⟩ := r
  unfold xs_getI at h ⊢
  dsimp only at h ⊢
  split at h
  · split at h
    · rename_i hp; rw [if_pos hp]; cases h; exact ⟨rfl, rfl⟩
    · cases h
  · cases h)
theorem xmo_getL {n c k : Nat} : xm_mo (xs_getL n c k) := xm_mo_keep (by
  intro a b r q h
  obtain ⟨st, M, kc, ks⟩ := r
  unfold xs_getL at h ⊢
  dsimp only at h ⊢
  split at h
  · split at h
    · rename_i hp; rw [if_pos hp]; cases h; exact ⟨rfl, rfl⟩
    · cases h
  · cases h)
theorem xmo_getR {n c k : Nat} : xm_mo (xs_getR n c k) := xm_mo_keep (by
  intro a b r q h
  obtain ⟨st, M, kc, ks⟩ := r
  unfold xs_getR at h ⊢
  dsimp only at h ⊢
  split at h
  · split at h
    · rename_i hp
      rw [if_pos hp]
      split at h
      · cases h; exact ⟨rfl, rfl⟩
      · cases h
    · cases h
  · cases h)
theorem xmo_putI {n c k : Nat} : xm_mo (xs_putI n c k) := xm_mo_keep (by
  intro a b r q h
  obtain ⟨st, M, kc, ks⟩ := r
  unfold xs_putI at h ⊢
  dsimp only at h ⊢
  split at h
  · split at h
    · rename_i hp; rw [if_pos hp]; cases h; exact ⟨rfl, rfl⟩
    · cases h
  · cases h)
theorem xmo_putL {n c k : Nat} : xm_mo (xs_putL n c k) := xm_mo_keep (by
  intro a b r q h
  obtain ⟨st, M, kc, ks⟩ := r
  unfold xs_putL at h ⊢
  dsimp only at h ⊢
  split at h
  · split at h
    · rename_i hp; rw [if_pos hp]; cases h; exact ⟨rfl, rfl⟩
    · cases h
  · cases h)
theorem xmo_iald {n : Nat} : xm_mo (xs_iald n) := xm_mo_keep (by
  intro a b r q h
  obtain ⟨st, M, kc, ks⟩ := r
  unfold xs_iald at h ⊢
  dsimp only at h ⊢
  split at h
  · split at h
    · split at h
      · rename_i hp; rw [if_pos hp]; cases h; exact ⟨rfl, rfl⟩
      · cases h
    · cases h
  · cases h)
theorem xmo_zald {n : Nat} : xm_mo (xs_zald n) := xm_mo_keep (by
  intro a b r q h
  obtain ⟨st, M, kc, ks⟩ := r
  unfold xs_zald at h ⊢
  dsimp only at h ⊢
  split at h
  · split at h
    · split at h
      · rename_i hp; rw [if_pos hp]; cases h; exact ⟨rfl, rfl⟩
      · cases h
    · cases h
  · cases h)
theorem xmo_lald {n : Nat} : xm_mo (xs_lald n) := xm_mo_keep (by
  intro a b r q h
  obtain ⟨st, M, kc, ks⟩ := r
  unfold xs_lald at h ⊢
  dsimp only at h ⊢
  split at h
  · split at h
    · split at h
      · rename_i hp; rw [if_pos hp]; cases h; exact ⟨rfl, rfl⟩
      · cases h
    · cases h
  · cases h)
theorem xmo_iast {n : Nat} : xm_mo (xs_iast n) := xm_mo_keep (by
  intro a b r q h
  obtain ⟨st, M, kc, ks⟩ := r
  unfold xs_iast at h ⊢
  dsimp only at h ⊢
  split at h
  · split at h
    · rename_i hp; rw [if_pos hp]; cases h; exact ⟨rfl, rfl⟩
    · cases h
  · cases h)
theorem xmo_zast {n : Nat} : xm_mo (xs_zast n) := xm_mo_keep (by
  intro a b r q h
  obtain ⟨st, M, kc, ks⟩ := r
  unfold xs_zast at h ⊢
  dsimp only at h ⊢
  split at h
  · split at h
    · rename_i hp; rw [if_pos hp]; cases h; exact ⟨rfl, rfl⟩
    · cases h
  · cases h)
theorem xmo_last {n : Nat} : xm_mo (xs_last n) := xm_mo_keep (by
  intro a b r q h
  obtain ⟨st, M, kc, ks⟩ := r
  unfold xs_last at h ⊢
  dsimp only at h ⊢
  split at h
  · split at h
    · rename_i hp; rw [if_pos hp]; cases h; exact ⟨rfl, rfl⟩
    · cases h
  · cases h)
theorem xmo_ldI {n i : Nat} : xm_mo (xs_ldI n i) := by
  intro a b r pc1 a1 r1 hu hl hf
  unfold xs_ldI at hf ⊢
  dsimp only at hf ⊢
  split at hf
  · rename_i x hx
    cases hf
    rw [hl _ _ hx]
    exact ⟨hu, b, hl, rfl⟩
  · cases hf
theorem xmo_ldL {n i : Nat} : xm_mo (xs_ldL n i) := by
  intro a b r pc1 a1 r1 hu hl hf
  unfold xs_ldL at hf ⊢
  dsimp only at hf ⊢
  split at hf
  · rename_i x hx
    cases hf
    rw [hl _ _ hx]
    exact ⟨hu, b, hl, rfl⟩
  · cases hf
theorem xmo_ldR {n i : Nat} : xm_mo (xs_ldR n i) := by
  intro a b r pc1 a1 r1 hu hl hf
  unfold xs_ldR at hf ⊢
  dsimp only at hf ⊢
  split at hf
  · rename_i x hx
    cases hf
    rw [hl _ _ hx]
    exact ⟨hu, b, hl, rfl⟩
  · cases hf
theorem xmo_stI {n i : Nat} : xm_mo (xs_stI n i) := by
  intro a b r pc1 a1 r1 hu hl hf
  obtain ⟨st, M, kc, ks⟩ := r
  unfold xs_stI at hf ⊢
  dsimp only at hf ⊢
  split at hf
  · cases hf
    exact ⟨(xm_st1_le hu hl).1, _, (xm_st1_le hu hl).2, rfl⟩
  · cases hf
theorem xmo_stL {n i : Nat} : xm_mo (xs_stL n i) := by
  intro a b r pc1 a1 r1 hu hl hf
  obtain ⟨st, M, kc, ks⟩ := r
  unfold xs_stL at hf ⊢
  dsimp only at hf ⊢
  split at hf
  · cases hf
    exact ⟨(xm_st2_le hu hl).1, _, (xm_st2_le hu hl).2, rfl⟩
  · cases hf
theorem xmo_inc {n i : Nat} {d : Int32} : xm_mo (xs_inc n i d) := by
  intro a b r pc1 a1 r1 hu hl hf
  unfold xs_inc at hf ⊢
  dsimp only at hf ⊢
  split at hf
  · rename_i x hx
    cases hf
    rw [hl _ _ hx]
    exact ⟨(xm_st1_le hu hl).1, _, (xm_st1_le hu hl).2, rfl⟩
  · cases hf
def xm_moT : xm_T → Prop
  | [] => True
  | (_, .inl f) :: r => xm_mo f ∧ xm_moT r
  | (_, .inr _) :: r => xm_moT r
theorem xm_moT.s {pc : Nat} {f : xm_F} {r : xm_T} (h : xm_mo f) (k : xm_moT r) : xm_moT ((pc, .inl f) :: r) := ⟨h, k⟩
theorem xm_moT.c {pc : Nat} {e : (Nat × Nat × Nat) ⊕ Nat} {r : xm_T} (k : xm_moT r) : xm_moT ((pc, .inr e) :: r) := k
theorem xm_moT.at {pc : Nat} {f : xm_F} : ∀ {tb : xm_T}, xm_moT tb → xm_at tb pc = some (.inl f) → xm_mo f := by
  intro tb
  induction tb with
  | nil => intro _ h; cases h
  | cons q r ih =>
    intro ht h
    obtain ⟨p9, e9⟩ := q
    unfold xm_at at h
    cases e9 with
    | inl g =>
      split at h
      · cases h; exact ht.1
      · exact ih ht.2 h
    | inr g =>
      split at h
      · cases h
      · exact ih ht h
theorem xm_Rn.forget {cal : xm_Cal} {tb : xm_T} (ht : xm_moT tb) : ∀ (n pc : Nat) (a b : xm_L) (r : List xm_V × xm_M × Nat × Nat) (pc' : Nat) (a' : xm_L) (r' : List xm_V × xm_M × Nat × Nat), xm_uk a → xm_le a b → xm_Rn cal tb n pc (a, r) pc' (a', r') → ∃ b', xm_Rn cal tb n pc (b, r) pc' (b', r') := by
  intro n
  induction n with
  | zero =>
    intro pc a b r pc' a' r' _ _ h
    obtain ⟨h1, h2, h3⟩ := h
    cases h2
    exact ⟨b, h1, rfl, h3⟩
  | succ n ih =>
    intro pc a b r pc' a' r' hu hl h
    rcases h with ⟨f, pc1, ⟨a1, r1⟩, h1, h2, h3⟩ | ⟨mi, k, t, lv, as, rest, M, kc, ks, v, M1, mc, ms, h1, h2, h3, h4, h5, h6, h7⟩
    · obtain ⟨g1, b1, g2, g3⟩ := ht.at h1 a b r pc1 a1 r1 hu hl h2
      obtain ⟨b', g4⟩ := ih pc1 a1 b1 r1 pc' a' r' g1 g2 h3
      exact ⟨b', Or.inl ⟨f, pc1, (b1, r1), h1, g3, g4⟩⟩
    · cases h2
      obtain ⟨b', g4⟩ := ih (pc + 3) a b _ pc' a' r' hu hl h7
      exact ⟨b', Or.inr ⟨mi, k, t, b, as, rest, M, kc, ks, v, M1, mc, ms, h1, rfl, h3, h4, h5, h6, g4⟩⟩
def xm_Ei (E : Nat → xm_S → Prop) : Prop := ∀ pc a b r, E pc (a, r) → E pc (b, r)
theorem xK.forget {d : Nat} {tb : xm_T} {pc : Nat} {a b : xm_L} {r : List xm_V × xm_M × Nat × Nat} {E : Nat → xm_S → Prop} (ht : xm_moT tb) (hE : xm_Ei E) (hu : xm_uk a) (hl : xm_sub a b) (k : xK d tb pc (a, r) E) : xK d tb pc (b, r) E := by
  obtain ⟨pc', ⟨a', r'⟩, ⟨n, h1⟩, h2⟩ := k
  obtain ⟨b', h3⟩ := xm_Rn.forget ht n pc a b r pc' a' r' hu (xm_le_of hl) h1
  exact ⟨pc', (b', r'), ⟨n, h3⟩, hE pc' a' b' r' h2⟩
theorem xm_Ei_E {tb : xm_T} {v : Option xm_V} {M : xm_M} {mc ms : Nat} : xm_Ei (xE tb v M mc ms) := fun _ _ _ _ h => h
theorem xm_Ei_T {tb : xm_T} {M : xm_M} {mc ms pt : Nat} : xm_Ei (xT tb M mc ms pt) := fun _ _ _ _ h => h
/-! the same rules, over a memory of the law's heap -/
section XK2
variable {d : Nat} {tb : xm_T} {pc n : Nat} {I : xh_I} {L : xh_L} {kc ks : Nat} {lv : xm_L} {st : List xm_V} {E : Nat → xm_S → Prop}
theorem xK.iald' {x : Int32} {c i j : Nat} (h : xm_at tb pc = some (.inl (xs_iald n))) (hk : (xm_kd c).1 = 1) (hx : xh_ix x j (xh_N c i)) (kk : xK d tb n (lv, .inl (I c j i) :: st, xh_M I L, kc, ks) E) : xK d tb pc (lv, .inl x :: xm_r c i :: st, xh_M I L, kc, ks) E := xK.iald h hk hx kk
theorem xK.zald' {x : Int32} {c i j : Nat} (h : xm_at tb pc = some (.inl (xs_zald n))) (hk : (xm_kd c).1 = 3) (hx : xh_ix x j (xh_N c i)) (kk : xK d tb n (lv, .inl (I c j i) :: st, xh_M I L, kc, ks) E) : xK d tb pc (lv, .inl x :: xm_r c i :: st, xh_M I L, kc, ks) E := xK.zald h hk hx kk
theorem xK.lald' {x : Int32} {c i j : Nat} (h : xm_at tb pc = some (.inl (xs_lald n))) (hk : (xm_kd c).1 = 2) (hx : xh_ix x j (xh_N c i)) (kk : xK d tb n (lv, .inr (.inl (L c j i)) :: st, xh_M I L, kc, ks) E) : xK d tb pc (lv, .inl x :: xm_r c i :: st, xh_M I L, kc, ks) E := xK.lald h hk hx kk
theorem xK.iast' {x w : Int32} {c i j : Nat} (h : xm_at tb pc = some (.inl (xs_iast n))) (hk : (xm_kd c).1 = 1) (hx : xh_ix x j (xh_N c i)) (kk : xK d tb n (lv, st, xh_M (xm_up I c j i w) L, kc, ks) E) : xK d tb pc (lv, .inl w :: .inl x :: xm_r c i :: st, xh_M I L, kc, ks) E := xK.iast h hk hx kk
theorem xK.zast' {x w : Int32} {c i j : Nat} (h : xm_at tb pc = some (.inl (xs_zast n))) (hk : (xm_kd c).1 = 3) (hw : w = 0 ∨ w = 1) (hx : xh_ix x j (xh_N c i)) (kk : xK d tb n (lv, st, xh_M (xm_up I c j i w) L, kc, ks) E) : xK d tb pc (lv, .inl w :: .inl x :: xm_r c i :: st, xh_M I L, kc, ks) E := xK.zast h hk hw hx kk
theorem xK.last' {x : Int32} {w : Int64} {c i j : Nat} (h : xm_at tb pc = some (.inl (xs_last n))) (hk : (xm_kd c).1 = 2) (hx : xh_ix x j (xh_N c i)) (kk : xK d tb n (lv, st, xh_M I (xm_up L c j i w), kc, ks) E) : xK d tb pc (lv, .inr (.inl w) :: .inl x :: xm_r c i :: st, xh_M I L, kc, ks) E := xK.last h hk hx kk
end XK2
