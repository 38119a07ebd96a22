/-! THE MACHINE KEEPS THE STEPS (3): stores, arrays -/
theorem xm_up_o {α : Type} {f : Nat → Nat → Nat → α} {c k i : Nat} {v : α} {c' k' i' : Nat} (h : ¬ (c' = c ∧ i' = i)) : xm_up f c k i v c' k' i' = f c' k' i' := by
  unfold xm_up
  split
  · split
    · split
      · rename_i h1 h2 h3; exact absurd ⟨h1, h3⟩ h
      · rfl
    · rfl
  · rfl
theorem xm_up_k {α : Type} {f : Nat → Nat → Nat → α} {c k i : Nat} {v : α} {c' k' i' : Nat} (h : k' ≠ k) : xm_up f c k i v c' k' i' = f c' k' i' := by
  simp [xm_up, h]
theorem xm_up_s {α : Type} {f : Nat → Nat → Nat → α} {c k i : Nat} {v : α} : xm_up f c k i v c k i = v := by simp [xm_up]
theorem xm_up_at {α : Type} {f : Nat → Nat → Nat → α} {c k i j : Nat} {v : α} : xm_up f c k i v c j i = if j = k then v else f c j i := by simp [xm_up]
theorem xm_ne {q : Nat × Nat} {c i : Nat} (h : q ≠ (c, i)) : ¬ (q.1 = c ∧ q.2 = i) := fun h9 => h (Prod.ext h9.1 h9.2)
theorem xm_cell_congr {cA : Nat → ClassId} {ad ad' : xm_A} {M M' : xm_M} {q : Nat × Nat} (hI : ∀ j, M'.1 q.1 j q.2 = M.1 q.1 j q.2) (hL : ∀ j, M'.2.1 q.1 j q.2 = M.2.1 q.1 j q.2) (hR : ∀ j, (M'.2.2.1 q.1 j q.2).map ad' = (M.2.2.1 q.1 j q.2).map ad) (hN : M'.2.2.2.1 q.1 q.2 = M.2.2.2.1 q.1 q.2) : xm_cell cA ad' M' q = xm_cell cA ad M q := by
  have hf : xm_fv ad' M' q = xm_fv ad M q := by
    funext k t
    unfold xm_fv
    split
    · rw [hL]
    · rw [hR]
    · rw [hI]
  unfold xm_cell
  rw [hf]
  simp only [hI, hL, hR, hN]
theorem xm_vok_o {M M' : xm_M} {v : xm_V} (h : xm_o M' = xm_o M) (hv : xm_vok M v) : xm_vok M' v := by
  unfold xm_vok at hv ⊢
  split
  · rw [h]; exact hv
  · trivial
section XG3
variable {p : Program} {l : Launch} {e : Env} {R : Room} {s : State} {m : MethodId} {args : Array Value} {below : List Frame} {meth : Method} {c : Code} {Q : State → Prop}
variable {cc : ByteArray} {nL : Nat} {own : String} {Ts : List Cond} {cA : Nat → ClassId} {D : va_G} {A : Nat → Prop} {tS : Nat → Nat} {ad0 : xm_A} {o0 : List (Nat × Nat)} {G : Nat → xm_S → Prop}
theorem xm_Sd_put {ad : xm_A} {H H1 : Heap} {locs locs1 : List Loc} {ls : Array Slot} {lv : xm_L} {st st' : List xm_V} {M M' : xm_M} (hA : xm_Sd s cA D A tS nL ad0 o0 ad H locs ls lv st M) (ho : xm_o M' = xm_o M) (hst : ∀ v ∈ st', v ∈ st)
    (hR : ∀ q ∈ xm_o M, ∀ k q', M'.2.2.1 q.1 k q.2 = some q' → M.2.2.1 q.1 k q.2 = some q' ∨ q' ∈ xm_o M) (p1 : va_P D vwCl (xm_ws cA ad M') H1) (p2 : va_D A (xm_ws cA ad M')) (p3 : va_S A s.heap H1 locs1) : xm_Sd s cA D A tS nL ad0 o0 ad H1 locs1 ls lv st' M' := by
  obtain ⟨q1, q2, q3, q4, q5, q6, q7⟩ := hA
  refine ⟨p1, p2, p3, q4, ⟨fun x hx => xm_vok_o ho (q5.1 x hx), fun v hv => xm_vok_o ho (q5.2.1 v (hst v hv)), fun q hq k q' h => ?_⟩, q6, fun q hq => by rw [ho]; exact q7 q hq⟩
  rw [ho] at hq ⊢
  rcases hR q hq k q' h with h9 | h9
  · exact q5.2.2 q hq k q' h9
  · exact h9
theorem sn_put (hG : xm_IsG p l e R s m args below meth c Q cA D A tS nL ad0 o0 G) {pc n c0 k t ci : Nat} {ts : List Nat} (hk : xm_kd c0 = (0, ci, ts)) (ht : ts[k]? = some t) (hc : c0 < 21) {f : xm_F} {Vp : Value → Prop}
    (inv : ∀ {S pc1 S1}, f S = some (pc1, S1) → ∃ i r v M', S.2.1 = v :: xm_r c0 i :: r ∧ pc1 = n ∧ S1 = (S.1, r, M', S.2.2.2) ∧ xm_o M' = xm_o S.2.2.1 ∧ (∀ ad, xm_fv ad M' (c0, i) k t = xm_rv ad v) ∧ (∀ ad j t', j ≠ k → xm_fv ad M' (c0, i) j t' = xm_fv ad S.2.2.1 (c0, i) j t') ∧ (∀ ad q', q' ≠ (c0, i) → xm_cell cA ad M' q' = xm_cell cA ad S.2.2.1 q') ∧ (∀ (q : Nat × Nat) (k' : Nat) (q' : Nat × Nat), M'.2.2.1 q.1 k' q.2 = some q' → S.2.2.1.2.2.1 q.1 k' q.2 = some q' ∨ (v = .inr (.inr (some q')) ∧ q'.1 < 21)) ∧ ∀ ad, Vp (xm_rv ad v))
    (row : ∀ (H : Heap) (locs : List Loc) (cells slots : Nat) (ls : Array Slot) (rest : List Value) (q0 : Nat) (ws : va_W) (a : Nat) (fs : List Value) (v : Value), va_P D vwCl ws H → va_D A ws → va_S A s.heap H locs → ws[q0]? = some (a, .inr (ci, fs)) → Vp v → k < fs.length → (∀ (H1 : Heap) (locs1 : List Loc), va_P D vwCl (ws.set q0 (a, .inr (ci, fs.set k v))) H1 → va_D A (ws.set q0 (a, .inr (ci, fs.set k v))) → va_S A s.heap H1 locs1 → W p l e R s m args below meth c H1 locs1 cells slots Q (F0 m n ls rest)) → W p l e R s m args below meth c H locs cells slots Q (F0 m pc ls (v :: .ref a :: rest))) : xm_Snd R G pc f := by
  intro S pc1 S1 h
  obtain ⟨i, r, v, M', h1, rfl, rfl, ho, hv, hj, hcell, hR, hVp⟩ := inv h
  obtain ⟨lv, st, M, kc, ks⟩ := S
  dsimp only at h1 ho hv hj hcell hR ⊢
  subst h1
  refine ⟨⟨Nat.le_refl _, Nat.le_refl _⟩, fun _ _ kk => (hG _ _).mpr fun ad H locs ls hA => ?_⟩
  obtain ⟨q1, q2, q3, q4, q5, q6, q7⟩ := id hA
  have hq : (c0, i) ∈ xm_o M := by
    rcases q5.2.1 _ (List.mem_cons_of_mem _ List.mem_cons_self) with h9 | h9
    · exact h9
    · exact absurd hc (Nat.not_lt.mpr h9)
  obtain ⟨j, hj0, hw⟩ := xm_in (cA := cA) (ad := ad) hq
  rw [xm_obj (q := (c0, i)) hk] at hw
  have hlt : k < ts.length := (List.getElem?_eq_some_iff.mp ht).1
  refine row H locs _ _ ls _ j _ (ad (c0, i)) _ (xm_rv ad v) q1 q2 q3 hw (hVp ad) (by rw [List.length_mapIdx]; exact hlt) fun H1 locs1 p1 p2 p3 => ?_
  have e9 : (xm_ws cA ad M).set j (ad (c0, i), .inr (ci, (ts.mapIdx (xm_fv ad M (c0, i))).set k (xm_rv ad v))) = xm_ws cA ad M' := by
    rw [xm_setf ht (hv ad) (hj ad), ← xm_obj (cA := cA) (q := (c0, i)) hk]
    exact xm_set q2 hj0 ho (hcell ad)
  rw [e9] at p1 p2
  refine (hG _ _).mp kk ad H1 locs1 ls (xm_Sd_put hA ho (fun w hw => List.mem_cons_of_mem _ (List.mem_cons_of_mem _ hw)) (fun q hq k' q' h9 => ?_) p1 p2 p3)
  rcases hR q k' q' h9 with h9 | ⟨h9, h8⟩
  · exact Or.inl h9
  · refine Or.inr ?_
    have := q5.2.1 v List.mem_cons_self
    rw [h9] at this
    rcases this with h7 | h7
    · exact h7
    · exact absurd h8 (Nat.not_lt.mpr h7)
theorem xm_wI_fv {ad : xm_A} {M : xm_M} {c0 k i j t : Nat} {v : Int32} (h : j ≠ k) : xm_fv ad (xm_wI M c0 k i v) (c0, i) j t = xm_fv ad M (c0, i) j t := by
  unfold xm_fv xm_wI
  split
  · rfl
  · rfl
  · show Value.int (xm_up _ _ _ _ _ _ _ _) = _
    rw [xm_up_k h]
theorem xm_wI_cell {ad : xm_A} {M : xm_M} {c0 k i : Nat} {v : Int32} {q : Nat × Nat} (h : q ≠ (c0, i)) : xm_cell cA ad (xm_wI M c0 k i v) q = xm_cell cA ad M q :=
  xm_cell_congr (fun _ => xm_up_o (xm_ne h)) (fun _ => rfl) (fun _ => rfl) rfl
theorem xm_wL_cell {ad : xm_A} {M : xm_M} {c0 k i : Nat} {v : Int64} {q : Nat × Nat} (h : q ≠ (c0, i)) : xm_cell cA ad (xm_wL M c0 k i v) q = xm_cell cA ad M q :=
  xm_cell_congr (fun _ => rfl) (fun _ => xm_up_o (xm_ne h)) (fun _ => rfl) rfl
theorem xm_wR_cell {ad : xm_A} {M : xm_M} {c0 k i : Nat} {v : Option (Nat × Nat)} {q : Nat × Nat} (h : q ≠ (c0, i)) : xm_cell cA ad (xm_wR M c0 k i v) q = xm_cell cA ad M q :=
  xm_cell_congr (fun _ => rfl) (fun _ => rfl) (fun j => by show (xm_up M.2.2.1 c0 k i v q.1 j q.2).map ad = _; rw [xm_up_o (xm_ne h)]) rfl
theorem sn_putI (hG : xm_IsG p l e R s m args below meth c Q cA D A tS nL ad0 o0 G) {pc n c0 k t ci : Nat} {ts : List Nat} (hk : xm_kd c0 = (0, ci, ts)) (ht : ts[k]? = some t) (hc : c0 < 21) (hn : t ≠ 1 ∧ t ≠ 2)
    (row : ∀ (H : Heap) (locs : List Loc) (cells slots : Nat) (ls : Array Slot) (rest : List Value) (q0 : Nat) (ws : va_W) (a : Nat) (fs : List Value) (v : Value), va_P D vwCl ws H → va_D A ws → va_S A s.heap H locs → ws[q0]? = some (a, .inr (ci, fs)) → (∃ x, v = .int x) → k < fs.length → (∀ (H1 : Heap) (locs1 : List Loc), va_P D vwCl (ws.set q0 (a, .inr (ci, fs.set k v))) H1 → va_D A (ws.set q0 (a, .inr (ci, fs.set k v))) → va_S A s.heap H1 locs1 → W p l e R s m args below meth c H1 locs1 cells slots Q (F0 m n ls rest)) → W p l e R s m args below meth c H locs cells slots Q (F0 m pc ls (v :: .ref a :: rest))) : xm_Snd R G pc (xs_putI n c0 k) := by
  refine sn_put hG hk ht hc (fun {S pc1 S1} h => ?_) row
  unfold xs_putI at h
  split at h
  · rename_i v q r h1
    split at h
    · rename_i h2
      cases h
      obtain ⟨q1, q2⟩ := q
      cases h2
      refine ⟨q2, r, _, _, h1, rfl, rfl, rfl, fun ad => ?_, fun ad j t' hj => xm_wI_fv hj, fun ad q' hq => xm_wI_cell hq, fun _ _ _ h9 => Or.inl h9, fun ad => ⟨_, rfl⟩⟩
      show xm_fv ad _ _ k t = Value.int v
      unfold xm_fv
      split
      · exact absurd rfl hn.1
      · exact absurd rfl hn.2
      · show Value.int (xm_up _ _ _ _ _ _ _ _) = _
        rw [xm_up_s]
    · cases h
  · cases h
theorem sn_putZ (hG : xm_IsG p l e R s m args below meth c Q cA D A tS nL ad0 o0 G) {pc n c0 k t ci : Nat} {ts : List Nat} (hk : xm_kd c0 = (0, ci, ts)) (ht : ts[k]? = some t) (hc : c0 < 21) (hn : t ≠ 1 ∧ t ≠ 2)
    (row : ∀ (H : Heap) (locs : List Loc) (cells slots : Nat) (ls : Array Slot) (rest : List Value) (q0 : Nat) (ws : va_W) (a : Nat) (fs : List Value) (v : Value), va_P D vwCl ws H → va_D A ws → va_S A s.heap H locs → ws[q0]? = some (a, .inr (ci, fs)) → (v = .int 0 ∨ v = .int 1) → k < fs.length → (∀ (H1 : Heap) (locs1 : List Loc), va_P D vwCl (ws.set q0 (a, .inr (ci, fs.set k v))) H1 → va_D A (ws.set q0 (a, .inr (ci, fs.set k v))) → va_S A s.heap H1 locs1 → W p l e R s m args below meth c H1 locs1 cells slots Q (F0 m n ls rest)) → W p l e R s m args below meth c H locs cells slots Q (F0 m pc ls (v :: .ref a :: rest))) : xm_Snd R G pc (xs_putZ n c0 k) := by
  refine sn_put hG hk ht hc (fun {S pc1 S1} h => ?_) row
  unfold xs_putZ at h
  split at h
  · rename_i v q r h1
    split at h
    · rename_i h2
      cases h
      obtain ⟨q1, q2⟩ := q
      obtain ⟨h2, h3⟩ := h2
      cases h2
      refine ⟨q2, r, _, _, h1, rfl, rfl, rfl, fun ad => ?_, fun ad j t' hj => xm_wI_fv hj, fun ad q' hq => xm_wI_cell hq, fun _ _ _ h9 => Or.inl h9, fun ad => ?_⟩
      · show xm_fv ad _ _ k t = Value.int v
        unfold xm_fv
        split
        · exact absurd rfl hn.1
        · exact absurd rfl hn.2
        · show Value.int (xm_up _ _ _ _ _ _ _ _) = _
          rw [xm_up_s]
      · rcases h3 with rfl | rfl
        · exact Or.inl rfl
        · exact Or.inr rfl
    · cases h
  · cases h
theorem sn_putL (hG : xm_IsG p l e R s m args below meth c Q cA D A tS nL ad0 o0 G) {pc n c0 k ci : Nat} {ts : List Nat} (hk : xm_kd c0 = (0, ci, ts)) (ht : ts[k]? = some 1) (hc : c0 < 21)
    (row : ∀ (H : Heap) (locs : List Loc) (cells slots : Nat) (ls : Array Slot) (rest : List Value) (q0 : Nat) (ws : va_W) (a : Nat) (fs : List Value) (v : Value), va_P D vwCl ws H → va_D A ws → va_S A s.heap H locs → ws[q0]? = some (a, .inr (ci, fs)) → (∃ x, v = .long x) → k < fs.length → (∀ (H1 : Heap) (locs1 : List Loc), va_P D vwCl (ws.set q0 (a, .inr (ci, fs.set k v))) H1 → va_D A (ws.set q0 (a, .inr (ci, fs.set k v))) → va_S A s.heap H1 locs1 → W p l e R s m args below meth c H1 locs1 cells slots Q (F0 m n ls rest)) → W p l e R s m args below meth c H locs cells slots Q (F0 m pc ls (v :: .ref a :: rest))) : xm_Snd R G pc (xs_putL n c0 k) := by
  refine sn_put hG hk ht hc (fun {S pc1 S1} h => ?_) row
  unfold xs_putL at h
  split at h
  · rename_i v q r h1
    split at h
    · rename_i h2
      cases h
      obtain ⟨q1, q2⟩ := q
      cases h2
      refine ⟨q2, r, _, _, h1, rfl, rfl, rfl, fun ad => ?_, fun ad j t' hj => ?_, fun ad q' hq => xm_wL_cell hq, fun _ _ _ h9 => Or.inl h9, fun ad => ⟨_, rfl⟩⟩
      · show Value.long (xm_up _ _ _ _ _ _ _ _) = Value.long v
        rw [xm_up_s]
      · unfold xm_fv xm_wL
        split
        · show Value.long (xm_up _ _ _ _ _ _ _ _) = _
          rw [xm_up_k hj]
        · rfl
        · rfl
    · cases h
  · cases h
theorem sn_putR (hG : xm_IsG p l e R s m args below meth c Q cA D A tS nL ad0 o0 G) {pc n c0 k ci : Nat} {ts : List Nat} (hk : xm_kd c0 = (0, ci, ts)) (ht : ts[k]? = some 2) (hc : c0 < 21)
    (row : ∀ (H : Heap) (locs : List Loc) (cells slots : Nat) (ls : Array Slot) (rest : List Value) (q0 : Nat) (ws : va_W) (a : Nat) (fs : List Value) (v : Value), va_P D vwCl ws H → va_D A ws → va_S A s.heap H locs → ws[q0]? = some (a, .inr (ci, fs)) → (∃ x, v = .ref x) → k < fs.length → (∀ (H1 : Heap) (locs1 : List Loc), va_P D vwCl (ws.set q0 (a, .inr (ci, fs.set k v))) H1 → va_D A (ws.set q0 (a, .inr (ci, fs.set k v))) → va_S A s.heap H1 locs1 → W p l e R s m args below meth c H1 locs1 cells slots Q (F0 m n ls rest)) → W p l e R s m args below meth c H locs cells slots Q (F0 m pc ls (v :: .ref a :: rest))) : xm_Snd R G pc (xs_putR n c0 k) := by
  refine sn_put hG hk ht hc (fun {S pc1 S1} h => ?_) row
  unfold xs_putR at h
  split at h
  · rename_i z q r h1
    split at h
    · rename_i h2
      cases h
      obtain ⟨q1, q2⟩ := q
      obtain ⟨h2, h3⟩ := h2
      cases h2
      refine ⟨q2, r, _, _, h1, rfl, rfl, rfl, fun ad => ?_, fun ad j t' hj => ?_, fun ad q' hq => xm_wR_cell hq, fun y k' q' h9 => ?_, fun ad => ⟨_, rfl⟩⟩
      · show va_rf (Option.map ad (xm_up _ _ _ _ _ _ _ _)) = va_rf (Option.map ad (some z))
        rw [xm_up_s]
      · unfold xm_fv xm_wR
        split
        · rfl
        · show va_rf (Option.map ad (xm_up _ _ _ _ _ _ _ _)) = _
          rw [xm_up_k hj]
        · rfl
      · have h8 : xm_up S.2.2.1.2.2.1 q1 k q2 (some z) y.1 k' y.2 = some q' := h9
        by_cases e1 : y.1 = q1 ∧ y.2 = q2
        · by_cases e2 : k' = k
          · rw [e1.1, e1.2, e2, xm_up_s] at h8
            cases h8
            exact Or.inr ⟨rfl, h3⟩
          · rw [xm_up_k e2] at h8
            exact Or.inl h8
        · rw [xm_up_o e1] at h8
          exact Or.inl h8
    · cases h
  · cases h
end XG3
