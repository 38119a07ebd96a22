/-! THE MACHINE KEEPS THE STEPS (2): locals, branches, fields -/
section XG2
variable {p : Program} {l : Launch} {e : Env} {R : Room} {s : State} {m : MethodId} {args : Array Value} {below : List Frame} {meth : Method} {c : Code} {Q : State → Prop}
variable {cc : ByteArray} {nL : Nat} {own : String} {Ts : List Cond} {cA : Nat → ClassId} {D : va_G} {A : Nat → Prop} {tS : Nat → Nat} {ad0 : xm_A} {o0 : List (Nat × Nat)} {G : Nat → xm_S → Prop}
/-- a load: what the local holds comes onto the stack -/
theorem sn_ld (hG : xm_IsG p l e R s m args below meth c Q cA D A tS nL ad0 o0 G) {pc n i : Nat} {f : xm_F} (inv : ∀ {S pc1 S1}, f S = some (pc1, S1) → ∃ v, xm_ld S.1 i = some v ∧ pc1 = n ∧ S1 = (S.1, v :: S.2.1, S.2.2) ∧
      ∀ (ad : xm_A) (H : Heap) (locs : List Loc) (cells slots : Nat) (ls : Array Slot) (rest : List Value), ls[i]? = some (.val (xm_rv ad v)) → W p l e R s m args below meth c H locs cells slots Q (F0 m n ls (xm_rv ad v :: rest)) → W p l e R s m args below meth c H locs cells slots Q (F0 m pc ls rest)) : xm_Snd R G pc f := by
  intro S pc1 S1 h
  obtain ⟨v, h1, rfl, rfl, row⟩ := inv h
  refine ⟨⟨Nat.le_refl _, Nat.le_refl _⟩, fun _ _ k => (hG _ _).mpr fun ad H locs ls hA => ?_⟩
  obtain ⟨q1, q2, q3, q4, q5, q6, q7⟩ := hA
  refine row ad H locs _ _ ls _ (xm_ld_at q4 h1) ((hG _ _).mp k ad H locs ls ⟨q1, q2, q3, q4, ⟨q5.1, fun w hw => ?_, q5.2.2⟩, q6, q7⟩)
  rcases List.mem_cons.mp hw with rfl | hw
  · exact q5.1 _ (xm_ld_mem h1)
  · exact q5.2.1 w hw
theorem sn_ldI (hG : xm_IsG p l e R s m args below meth c Q cA D A tS nL ad0 o0 G) {pc n i : Nat}
    (row : ∀ (H : Heap) (locs : List Loc) (cells slots : Nat) (ls : Array Slot) (rest : List Value) (x : Int32), ls[i]? = some (.val (.int x)) → W p l e R s m args below meth c H locs cells slots Q (F0 m n ls (.int x :: rest)) → W p l e R s m args below meth c H locs cells slots Q (F0 m pc ls rest)) : xm_Snd R G pc (xs_ldI n i) := by
  refine sn_ld hG (n := n) (i := i) fun {S pc1 S1} h => ?_
  unfold xs_ldI at h
  split at h
  · rename_i x h1; cases h; exact ⟨_, h1, rfl, rfl, fun ad H locs cells slots ls rest h2 k => row H locs cells slots ls rest x h2 k⟩
  · cases h
theorem sn_ldL (hG : xm_IsG p l e R s m args below meth c Q cA D A tS nL ad0 o0 G) {pc n i : Nat}
    (row : ∀ (H : Heap) (locs : List Loc) (cells slots : Nat) (ls : Array Slot) (rest : List Value) (x : Int64), ls[i]? = some (.val (.long x)) → W p l e R s m args below meth c H locs cells slots Q (F0 m n ls (.long x :: rest)) → W p l e R s m args below meth c H locs cells slots Q (F0 m pc ls rest)) : xm_Snd R G pc (xs_ldL n i) := by
  refine sn_ld hG (n := n) (i := i) fun {S pc1 S1} h => ?_
  unfold xs_ldL at h
  split at h
  · rename_i x h1; cases h; exact ⟨_, h1, rfl, rfl, fun ad H locs cells slots ls rest h2 k => row H locs cells slots ls rest x h2 k⟩
  · cases h
theorem sn_ldR (hG : xm_IsG p l e R s m args below meth c Q cA D A tS nL ad0 o0 G) {pc n i : Nat}
    (row : ∀ (H : Heap) (locs : List Loc) (cells slots : Nat) (ls : Array Slot) (rest : List Value) (x : Nat), ls[i]? = some (.val (.ref x)) → W p l e R s m args below meth c H locs cells slots Q (F0 m n ls (.ref x :: rest)) → W p l e R s m args below meth c H locs cells slots Q (F0 m pc ls rest)) : xm_Snd R G pc (xs_ldR n i) := by
  refine sn_ld hG (n := n) (i := i) fun {S pc1 S1} h => ?_
  unfold xs_ldR at h
  split at h
  · rename_i q h1; cases h; exact ⟨_, h1, rfl, rfl, fun ad H locs cells slots ls rest h2 k => row H locs cells slots ls rest (ad q) h2 k⟩
  · cases h
theorem sn_stI (hG : xm_IsG p l e R s m args below meth c Q cA D A tS nL ad0 o0 G) {pc n i : Nat}
    (row : ∀ (H : Heap) (locs : List Loc) (cells slots : Nat) (ls : Array Slot) (rest : List Value) (x : Int32) (lv lv' : List (Nat × Value)), lv_has ls nL lv → (i, Value.int x) :: lv.filter (fun q => !(q.1 == i) && !(q.1 + 1 == i && q.2.category == 2)) = lv' → (∀ ls' : Array Slot, lv_has ls' nL lv' → W p l e R s m args below meth c H locs cells slots Q (F0 m n ls' rest)) → W p l e R s m args below meth c H locs cells slots Q (F0 m pc ls (.int x :: rest))) : xm_Snd R G pc (xs_stI n i) := by
  intro S pc1 S1 h
  obtain ⟨lv, st, M, kc, ks⟩ := S
  unfold xs_stI at h
  dsimp only at h
  split at h
  · rename_i x r
    cases h
    refine ⟨⟨Nat.le_refl _, Nat.le_refl _⟩, fun _ _ k => (hG _ _).mpr fun ad H locs ls hA => ?_⟩
    obtain ⟨q1, q2, q3, q4, q5, q6, q7⟩ := hA
    refine row H locs _ _ ls _ x _ _ q4 (xm_st1_map (v := .inl x)) fun ls' hl' => (hG _ _).mp k ad H locs ls' ⟨q1, q2, q3, xm_srt_has hl', ⟨xm_st1_ok q5.1 trivial, fun w hw => q5.2.1 w (List.mem_cons_of_mem _ hw), q5.2.2⟩, q6, q7⟩
  · cases h
theorem sn_stL (hG : xm_IsG p l e R s m args below meth c Q cA D A tS nL ad0 o0 G) {pc n i : Nat}
    (row : ∀ (H : Heap) (locs : List Loc) (cells slots : Nat) (ls : Array Slot) (rest : List Value) (x : Int64) (lv lv' : List (Nat × Value)), lv_has ls nL lv → (i, Value.long x) :: lv.filter (fun q => !(q.1 == i) && (!(q.1 == i + 1) && !(q.1 + 1 == i && q.2.category == 2))) = lv' → (∀ ls' : Array Slot, lv_has ls' nL lv' → W p l e R s m args below meth c H locs cells slots Q (F0 m n ls' rest)) → W p l e R s m args below meth c H locs cells slots Q (F0 m pc ls (.long x :: rest))) : xm_Snd R G pc (xs_stL n i) := by
  intro S pc1 S1 h
  obtain ⟨lv, st, M, kc, ks⟩ := S
  unfold xs_stL at h
  dsimp only at h
  split at h
  · rename_i x r
    cases h
    refine ⟨⟨Nat.le_refl _, Nat.le_refl _⟩, fun _ _ k => (hG _ _).mpr fun ad H locs ls hA => ?_⟩
    obtain ⟨q1, q2, q3, q4, q5, q6, q7⟩ := hA
    refine row H locs _ _ ls _ x _ _ q4 (xm_st2_map (v := .inr (.inl x))) fun ls' hl' => (hG _ _).mp k ad H locs ls' ⟨q1, q2, q3, xm_srt_has hl', ⟨xm_st2_ok q5.1 trivial, fun w hw => q5.2.1 w (List.mem_cons_of_mem _ hw), q5.2.2⟩, q6, q7⟩
  · cases h
theorem sn_stR (hG : xm_IsG p l e R s m args below meth c Q cA D A tS nL ad0 o0 G) {pc n i : Nat}
    (row : ∀ (H : Heap) (locs : List Loc) (cells slots : Nat) (ls : Array Slot) (rest : List Value) (x : Nat) (lv lv' : List (Nat × Value)), lv_has ls nL lv → (i, Value.ref x) :: lv.filter (fun q => !(q.1 == i) && !(q.1 + 1 == i && q.2.category == 2)) = lv' → (∀ ls' : Array Slot, lv_has ls' nL lv' → W p l e R s m args below meth c H locs cells slots Q (F0 m n ls' rest)) → W p l e R s m args below meth c H locs cells slots Q (F0 m pc ls (.ref x :: rest))) : xm_Snd R G pc (xs_stR n i) := by
  intro S pc1 S1 h
  obtain ⟨lv, st, M, kc, ks⟩ := S
  unfold xs_stR at h
  dsimp only at h
  split at h
  · rename_i q r
    cases h
    refine ⟨⟨Nat.le_refl _, Nat.le_refl _⟩, fun _ _ k => (hG _ _).mpr fun ad H locs ls hA => ?_⟩
    obtain ⟨q1, q2, q3, q4, q5, q6, q7⟩ := hA
    refine row H locs _ _ ls _ (ad q) _ _ q4 (xm_st1_map (v := .inr (.inr (some q)))) fun ls' hl' => (hG _ _).mp k ad H locs ls' ⟨q1, q2, q3, xm_srt_has hl', ⟨xm_st1_ok q5.1 (q5.2.1 _ List.mem_cons_self), fun w hw => q5.2.1 w (List.mem_cons_of_mem _ hw), q5.2.2⟩, q6, q7⟩
  · cases h
theorem sn_inc (hG : xm_IsG p l e R s m args below meth c Q cA D A tS nL ad0 o0 G) {pc n i : Nat} {d : Int32}
    (row : ∀ (H : Heap) (locs : List Loc) (cells slots : Nat) (ls : Array Slot) (rest : List Value) (x : Int32) (lv lv' : List (Nat × Value)) (k : Nat), lv_has ls nL lv → lv[k]? = some (i, .int x) → (i, Value.int (x + d)) :: lv.filter (fun q => !(q.1 == i) && !(q.1 + 1 == i && q.2.category == 2)) = lv' → (∀ ls' : Array Slot, lv_has ls' nL lv' → W p l e R s m args below meth c H locs cells slots Q (F0 m n ls' rest)) → W p l e R s m args below meth c H locs cells slots Q (F0 m pc ls rest)) : xm_Snd R G pc (xs_inc n i d) := by
  intro S pc1 S1 h
  obtain ⟨lv, st, M, kc, ks⟩ := S
  unfold xs_inc at h
  dsimp only at h
  split at h
  · rename_i x h1
    cases h
    refine ⟨⟨Nat.le_refl _, Nat.le_refl _⟩, fun _ _ k => (hG _ _).mpr fun ad H locs ls hA => ?_⟩
    obtain ⟨q1, q2, q3, q4, q5, q6, q7⟩ := hA
    obtain ⟨j, hj⟩ := List.getElem?_of_mem (List.mem_map.mpr ⟨(i, .inl x), xm_ld_mem h1, rfl⟩ : (i, Value.int x) ∈ lv.map (fun q => (q.1, xm_rv ad q.2)))
    refine row H locs _ _ ls _ x _ _ j q4 hj (xm_st1_map (v := .inl (x + d))) fun ls' hl' => (hG _ _).mp k ad H locs ls' ⟨q1, q2, q3, xm_srt_has hl', ⟨xm_st1_ok q5.1 trivial, q5.2.1, q5.2.2⟩, q6, q7⟩
  · cases h
theorem sn_goto (hG : xm_IsG p l e R s m args below meth c Q cA D A tS nL ad0 o0 G) {pc t : Nat}
    (row : ∀ (H : Heap) (locs : List Loc) (cells slots : Nat) (ls : Array Slot) (rest : List Value), W p l e R s m args below meth c H locs cells slots Q (F0 m t ls rest) → W p l e R s m args below meth c H locs cells slots Q (F0 m pc ls rest)) : xm_Snd R G pc (xs_goto t) := by
  intro S pc1 S1 h
  cases h
  exact ⟨⟨Nat.le_refl _, Nat.le_refl _⟩, fun _ _ k => (hG _ _).mpr fun ad H locs ls hA => row H locs _ _ ls _ ((hG _ _).mp k ad H locs ls hA)⟩
theorem sn_if (hG : xm_IsG p l e R s m args below meth c Q cA D A tS nL ad0 o0 G) {pc n t : Nat} {P : Int32 → Prop} {dp : ∀ x, Decidable (P x)}
    (row : ∀ (H : Heap) (locs : List Loc) (cells slots : Nat) (ls : Array Slot) (rest : List Value) (x : Int32), (P x → W p l e R s m args below meth c H locs cells slots Q (F0 m t ls rest)) → (¬ P x → W p l e R s m args below meth c H locs cells slots Q (F0 m n ls rest)) → W p l e R s m args below meth c H locs cells slots Q (F0 m pc ls (.int x :: rest))) : xm_Snd R G pc (xs_if n t P dp) := by
  intro S pc1 S1 h
  obtain ⟨lv, st, M, kc, ks⟩ := S
  unfold xs_if at h
  dsimp only at h
  split at h
  · rename_i x r
    by_cases hP : P x
    · rw [if_pos hP] at h
      cases h
      refine ⟨⟨Nat.le_refl _, Nat.le_refl _⟩, fun _ _ k => (hG _ _).mpr fun ad H locs ls hA => ?_⟩
      obtain ⟨q1, q2, q3, q4, q5, q6, q7⟩ := hA
      exact row H locs _ _ ls _ x (fun _ => (hG _ _).mp k ad H locs ls ⟨q1, q2, q3, q4, ⟨q5.1, fun w hw => q5.2.1 w (List.mem_cons_of_mem _ hw), q5.2.2⟩, q6, q7⟩) (fun h9 => absurd hP h9)
    · rw [if_neg hP] at h
      cases h
      refine ⟨⟨Nat.le_refl _, Nat.le_refl _⟩, fun _ _ k => (hG _ _).mpr fun ad H locs ls hA => ?_⟩
      obtain ⟨q1, q2, q3, q4, q5, q6, q7⟩ := hA
      exact row H locs _ _ ls _ x (fun h9 => absurd h9 hP) (fun _ => (hG _ _).mp k ad H locs ls ⟨q1, q2, q3, q4, ⟨q5.1, fun w hw => q5.2.1 w (List.mem_cons_of_mem _ hw), q5.2.2⟩, q6, q7⟩)
  · cases h
theorem sn_icmp (hG : xm_IsG p l e R s m args below meth c Q cA D A tS nL ad0 o0 G) {pc n t : Nat} {P : Int32 → Int32 → Prop} {dp : ∀ x y, Decidable (P x y)}
    (row : ∀ (H : Heap) (locs : List Loc) (cells slots : Nat) (ls : Array Slot) (rest : List Value) (x y : Int32), (P x y → W p l e R s m args below meth c H locs cells slots Q (F0 m t ls rest)) → (¬ P x y → W p l e R s m args below meth c H locs cells slots Q (F0 m n ls rest)) → W p l e R s m args below meth c H locs cells slots Q (F0 m pc ls (.int y :: .int x :: rest))) : xm_Snd R G pc (xs_icmp n t P dp) := by
  intro S pc1 S1 h
  obtain ⟨lv, st, M, kc, ks⟩ := S
  unfold xs_icmp at h
  dsimp only at h
  split at h
  · rename_i y x r
    by_cases hP : P x y
    · rw [if_pos hP] at h
      cases h
      refine ⟨⟨Nat.le_refl _, Nat.le_refl _⟩, fun _ _ k => (hG _ _).mpr fun ad H locs ls hA => ?_⟩
      obtain ⟨q1, q2, q3, q4, q5, q6, q7⟩ := hA
      exact row H locs _ _ ls _ x y (fun _ => (hG _ _).mp k ad H locs ls ⟨q1, q2, q3, q4, ⟨q5.1, fun w hw => q5.2.1 w (List.mem_cons_of_mem _ (List.mem_cons_of_mem _ hw)), q5.2.2⟩, q6, q7⟩) (fun h9 => absurd hP h9)
    · rw [if_neg hP] at h
      cases h
      refine ⟨⟨Nat.le_refl _, Nat.le_refl _⟩, fun _ _ k => (hG _ _).mpr fun ad H locs ls hA => ?_⟩
      obtain ⟨q1, q2, q3, q4, q5, q6, q7⟩ := hA
      exact row H locs _ _ ls _ x y (fun h9 => absurd h9 hP) (fun _ => (hG _ _).mp k ad H locs ls ⟨q1, q2, q3, q4, ⟨q5.1, fun w hw => q5.2.1 w (List.mem_cons_of_mem _ (List.mem_cons_of_mem _ hw)), q5.2.2⟩, q6, q7⟩)
  · cases h
/-- two references: one or not, by their addresses (neither is a table) -/
theorem sn_acmp (hG : xm_IsG p l e R s m args below meth c Q cA D A tS nL ad0 o0 G) {pc n t : Nat}
    (row : ∀ (H : Heap) (locs : List Loc) (cells slots : Nat) (ls : Array Slot) (rest : List Value) (x y : Nat), (x = y → W p l e R s m args below meth c H locs cells slots Q (F0 m t ls rest)) → (¬ x = y → W p l e R s m args below meth c H locs cells slots Q (F0 m n ls rest)) → W p l e R s m args below meth c H locs cells slots Q (F0 m pc ls (.ref y :: .ref x :: rest))) : xm_Snd R G pc (fun S => match S.2.1 with
      | .inr (.inr (some b)) :: .inr (.inr (some a)) :: _ => if a.1 < 21 ∧ b.1 < 21 then xs_acmp n t S else none
      | _ => none) := by
  intro S pc1 S1 h
  obtain ⟨lv, st, M, kc, ks⟩ := S
  dsimp only at h
  split at h
  · rename_i b a r
    split at h
    · rename_i hab
      unfold xs_acmp at h
      dsimp only at h
      by_cases hP : a = b
      · rw [if_pos hP] at h
        cases h
        refine ⟨⟨Nat.le_refl _, Nat.le_refl _⟩, fun _ _ k => (hG _ _).mpr fun ad H locs ls hA => ?_⟩
        obtain ⟨q1, q2, q3, q4, q5, q6, q7⟩ := hA
        exact row H locs _ _ ls _ (ad a) (ad b) (fun _ => (hG _ _).mp k ad H locs ls ⟨q1, q2, q3, q4, ⟨q5.1, fun w hw => q5.2.1 w (List.mem_cons_of_mem _ (List.mem_cons_of_mem _ hw)), q5.2.2⟩, q6, q7⟩) (fun h9 => absurd (by rw [hP]) h9)
      · rw [if_neg hP] at h
        cases h
        refine ⟨⟨Nat.le_refl _, Nat.le_refl _⟩, fun _ _ k => (hG _ _).mpr fun ad H locs ls hA => ?_⟩
        obtain ⟨q1, q2, q3, q4, q5, q6, q7⟩ := hA
        have hb : b ∈ xm_o M := by
          rcases q5.2.1 _ List.mem_cons_self with h1 | h1
          · exact h1
          · omega
        have ha : a ∈ xm_o M := by
          rcases q5.2.1 _ (List.mem_cons_of_mem _ List.mem_cons_self) with h1 | h1
          · exact h1
          · omega
        exact row H locs _ _ ls _ (ad a) (ad b) (fun h9 => absurd (xm_inj q2 ha hb h9) hP) (fun _ => (hG _ _).mp k ad H locs ls ⟨q1, q2, q3, q4, ⟨q5.1, fun w hw => q5.2.1 w (List.mem_cons_of_mem _ (List.mem_cons_of_mem _ hw)), q5.2.2⟩, q6, q7⟩)
    · cases h
  · cases h
theorem sn_sw (hG : xm_IsG p l e R s m args below meth c Q cA D A tS nL ad0 o0 G) {pc d : Nat} {ts : List Nat}
    (row : ∀ (H : Heap) (locs : List Loc) (cells slots : Nat) (ls : Array Slot) (rest : List Value) (x : Int32), W p l e R s m args below meth c H locs cells slots Q (F0 m (if x.toInt < 0 then d else ts.getD x.toInt.toNat d) ls rest) → W p l e R s m args below meth c H locs cells slots Q (F0 m pc ls (.int x :: rest))) : xm_Snd R G pc (xs_sw ts d) := by
  intro S pc1 S1 h
  obtain ⟨lv, st, M, kc, ks⟩ := S
  unfold xs_sw at h
  dsimp only at h
  split at h
  · rename_i x r
    cases h
    refine ⟨⟨Nat.le_refl _, Nat.le_refl _⟩, fun _ _ k => (hG _ _).mpr fun ad H locs ls hA => ?_⟩
    obtain ⟨q1, q2, q3, q4, q5, q6, q7⟩ := hA
    exact row H locs _ _ ls _ x ((hG _ _).mp k ad H locs ls ⟨q1, q2, q3, q4, ⟨q5.1, fun w hw => q5.2.1 w (List.mem_cons_of_mem _ hw), q5.2.2⟩, q6, q7⟩)
  · cases h
/-- a field read: fs its object's fields -/
theorem sn_get (hG : xm_IsG p l e R s m args below meth c Q cA D A tS nL ad0 o0 G) {pc n c0 k t ci : Nat} {ts : List Nat} (hk : xm_kd c0 = (0, ci, ts)) (ht : ts[k]? = some t) (hc : c0 < 21) {f : xm_F}
    (inv : ∀ {S pc1 S1}, f S = some (pc1, S1) → ∃ i r v, S.2.1 = xm_r c0 i :: r ∧ pc1 = n ∧ S1 = (S.1, v :: r, S.2.2) ∧ (∀ ad, xm_rv ad v = xm_fv ad S.2.2.1 (c0, i) k t) ∧ (∀ q, v = .inr (.inr (some q)) → S.2.2.1.2.2.1 c0 k i = some q))
    (row : ∀ (H : Heap) (locs : List Loc) (cells slots : Nat) (ls : Array Slot) (rest : List Value) (q0 : Nat) (ws : va_W) (a : Nat) (fs : List Value) (v : Value), va_P D vwCl ws H → ws[q0]? = some (a, .inr (ci, fs)) → fs[k]? = some v → W p l e R s m args below meth c H locs cells slots Q (F0 m n ls (v :: rest)) → W p l e R s m args below meth c H locs cells slots Q (F0 m pc ls (.ref a :: rest))) : xm_Snd R G pc f := by
  intro S pc1 S1 h
  obtain ⟨i, r, v, h1, rfl, rfl, hv, hr⟩ := inv h
  obtain ⟨lv, st, M, kc, ks⟩ := S
  dsimp only at h1 hv hr ⊢
  subst h1
  refine ⟨⟨Nat.le_refl _, Nat.le_refl _⟩, fun _ _ kk => (hG _ _).mpr fun ad H locs ls hA => ?_⟩
  obtain ⟨q1, q2, q3, q4, q5, q6, q7⟩ := hA
  have hq : (c0, i) ∈ xm_o M := by
    rcases q5.2.1 _ List.mem_cons_self with h9 | h9
    · exact h9
    · exact absurd hc (Nat.not_lt.mpr h9)
  obtain ⟨j, hj, hw⟩ := xm_in (cA := cA) (ad := ad) hq
  rw [xm_obj (q := (c0, i)) hk] at hw
  refine row H locs _ _ ls _ j _ (ad (c0, i)) _ _ q1 hw (xm_fld ht) ?_
  rw [← hv]
  refine (hG _ _).mp kk ad H locs ls ⟨q1, q2, q3, q4, ⟨q5.1, fun w hw => ?_, q5.2.2⟩, q6, q7⟩
  rcases List.mem_cons.mp hw with rfl | hw
  · rcases w with x | x | r9
    · trivial
    · trivial
    · cases r9 with
      | none => trivial
      | some z => exact Or.inl (q5.2.2 _ hq k z (hr z rfl))
  · exact q5.2.1 w (List.mem_cons_of_mem _ hw)
theorem sn_getI (hG : xm_IsG p l e R s m args below meth c Q cA D A tS nL ad0 o0 G) {pc n c0 k t ci : Nat} {ts : List Nat} (hk : xm_kd c0 = (0, ci, ts)) (ht : ts[k]? = some t) (hc : c0 < 21) (hn : t ≠ 1 ∧ t ≠ 2)
    (row : ∀ (H : Heap) (locs : List Loc) (cells slots : Nat) (ls : Array Slot) (rest : List Value) (q0 : Nat) (ws : va_W) (a : Nat) (fs : List Value) (v : Value), va_P D vwCl ws H → ws[q0]? = some (a, .inr (ci, fs)) → fs[k]? = some v → W p l e R s m args below meth c H locs cells slots Q (F0 m n ls (v :: rest)) → W p l e R s m args below meth c H locs cells slots Q (F0 m pc ls (.ref a :: rest))) : xm_Snd R G pc (xs_getI n c0 k) := by
  refine sn_get hG hk ht hc (fun {S pc1 S1} h => ?_) row
  unfold xs_getI at h
  split at h
  · rename_i q r h1
    split at h
    · rename_i h2
      cases h
      obtain ⟨q1, q2⟩ := q
      cases h2
      refine ⟨q2, r, _, h1, rfl, rfl, fun ad => ?_, fun q9 h9 => by cases h9⟩
      show Value.int _ = xm_fv ad _ _ k t
      unfold xm_fv
      split
      · exact absurd rfl hn.1
      · exact absurd rfl hn.2
      · rfl
    · cases h
  · cases h
theorem sn_getL (hG : xm_IsG p l e R s m args below meth c Q cA D A tS nL ad0 o0 G) {pc n c0 k ci : Nat} {ts : List Nat} (hk : xm_kd c0 = (0, ci, ts)) (ht : ts[k]? = some 1) (hc : c0 < 21)
    (row : ∀ (H : Heap) (locs : List Loc) (cells slots : Nat) (ls : Array Slot) (rest : List Value) (q0 : Nat) (ws : va_W) (a : Nat) (fs : List Value) (v : Value), va_P D vwCl ws H → ws[q0]? = some (a, .inr (ci, fs)) → fs[k]? = some v → W p l e R s m args below meth c H locs cells slots Q (F0 m n ls (v :: rest)) → W p l e R s m args below meth c H locs cells slots Q (F0 m pc ls (.ref a :: rest))) : xm_Snd R G pc (xs_getL n c0 k) := by
  refine sn_get hG hk ht hc (fun {S pc1 S1} h => ?_) row
  unfold xs_getL at h
  split at h
  · rename_i q r h1
    split at h
    · rename_i h2
      cases h
      obtain ⟨q1, q2⟩ := q
      cases h2
      exact ⟨q2, r, _, h1, rfl, rfl, fun ad => rfl, fun q9 h9 => by cases h9⟩
    · cases h
  · cases h
theorem sn_getR (hG : xm_IsG p l e R s m args below meth c Q cA D A tS nL ad0 o0 G) {pc n c0 k ci : Nat} {ts : List Nat} (hk : xm_kd c0 = (0, ci, ts)) (ht : ts[k]? = some 2) (hc : c0 < 21)
    (row : ∀ (H : Heap) (locs : List Loc) (cells slots : Nat) (ls : Array Slot) (rest : List Value) (q0 : Nat) (ws : va_W) (a : Nat) (fs : List Value) (v : Value), va_P D vwCl ws H → ws[q0]? = some (a, .inr (ci, fs)) → fs[k]? = some v → W p l e R s m args below meth c H locs cells slots Q (F0 m n ls (v :: rest)) → W p l e R s m args below meth c H locs cells slots Q (F0 m pc ls (.ref a :: rest))) : xm_Snd R G pc (xs_getR n c0 k) := by
  refine sn_get hG hk ht hc (fun {S pc1 S1} h => ?_) row
  unfold xs_getR at h
  split at h
  · rename_i q r h1
    split at h
    · rename_i h2
      split at h
      · rename_i z h3
        cases h
        obtain ⟨q1, q2⟩ := q
        cases h2
        refine ⟨q2, r, _, h1, rfl, rfl, fun ad => ?_, fun q9 h9 => by cases h9; exact h3⟩
        show va_rf ((some z).map ad) = va_rf ((S.2.2.1.2.2.1 q1 k q2).map ad)
        rw [show S.2.2.1.2.2.1 q1 k q2 = some z from h3]
      · cases h
    · cases h
  · cases h
end XG2
