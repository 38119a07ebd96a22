/-! THE MACHINE KEEPS THE STEPS (6): new cells -/
def xm_df (t : Nat) : Value := match t with
  | 1 => .long 0
  | 2 => .null
  | _ => .int 0
def xm_ad (ad : xm_A) (z : Nat × Nat) (a : Nat) : xm_A := fun q => if q = z then a else ad q
theorem xm_ad_ne {ad : xm_A} {z q : Nat × Nat} {a : Nat} (h : q ≠ z) : xm_ad ad z a q = ad q := if_neg h
theorem xm_nin {q z : Nat × Nat} {o : List (Nat × Nat)} (hz : z ∉ o) (hq : q ∈ o) : q ≠ z := fun e9 => hz (e9 ▸ hq)
theorem xm_fv_i {ad : xm_A} {M : xm_M} {q : Nat × Nat} {k t : Nat} (h1 : t ≠ 1) (h2 : t ≠ 2) : xm_fv ad M q k t = .int (M.1 q.1 k q.2) := by
  unfold xm_fv
  split
  · exact absurd rfl h1
  · exact absurd rfl h2
  · rfl
theorem xm_df_i {t : Nat} (h1 : t ≠ 1) (h2 : t ≠ 2) : xm_df t = .int 0 := by
  unfold xm_df
  split
  · exact absurd rfl h1
  · exact absurd rfl h2
  · rfl
theorem xm_ad_s {ad : xm_A} {z : Nat × Nat} {a : Nat} : xm_ad ad z a z = a := if_pos rfl
theorem xm_rv_ad {ad : xm_A} {M : xm_M} {z : Nat × Nat} {a : Nat} {v : xm_V} (hz : z ∉ xm_o M) (hc : z.1 < 21) (hv : xm_vok M v) : xm_rv (xm_ad ad z a) v = xm_rv ad v := by
  rcases v with x | x | r
  · rfl
  · rfl
  · cases r with
    | none => rfl
    | some q =>
      have hne : q ≠ z := by
        intro e9
        subst e9
        rcases hv with h | h
        · exact hz h
        · exact absurd hc (Nat.not_lt.mpr h)
      show va_rf (some (xm_ad ad z a q)) = va_rf (some (ad q))
      rw [xm_ad_ne hne]
theorem xm_rv_map {ad : xm_A} {M : xm_M} {z : Nat × Nat} {a : Nat} {st : List xm_V} (hz : z ∉ xm_o M) (hc : z.1 < 21) (hv : ∀ v ∈ st, xm_vok M v) : st.map (xm_rv (xm_ad ad z a)) = st.map (xm_rv ad) :=
  List.map_congr_left fun v h => xm_rv_ad hz hc (hv v h)
section XG6
variable {p : Program} {l : Launch} {e : Env} {R : Room} {s : State} {m : MethodId} {args : Array Value} {below : List Frame} {meth : Method} {c : Code} {Q : State → Prop}
variable {cc : ByteArray} {nL : Nat} {own : String} {Ts : List Cond} {cA : Nat → ClassId} {D : va_G} {A : Nat → Prop} {tS : Nat → Nat} {ad0 : xm_A} {o0 : List (Nat × Nat)} {G : Nat → xm_S → Prop}
/-- the world behind a new cell -/
theorem xm_ws_new {ad : xm_A} {M : xm_M} {c0 N a : Nat} {E : va_E} (hz : (c0, xm_cnt c0 (xm_o M)) ∉ xm_o M) (hR : ∀ q ∈ xm_o M, ∀ k q', M.2.2.1 q.1 k q.2 = some q' → q' ∈ xm_o M)
    (hE : xm_cell cA (xm_ad ad (c0, xm_cnt c0 (xm_o M)) a) (xm_nw M c0 N) (c0, xm_cnt c0 (xm_o M)) = E) : xm_ws cA (xm_ad ad (c0, xm_cnt c0 (xm_o M)) a) (xm_nw M c0 N) = xm_ws cA ad M ++ [(a, E)] := by
  unfold xm_ws
  show List.map _ (xm_o M ++ [(c0, xm_cnt c0 (xm_o M))]) = _
  rw [List.map_append]
  congr 1
  · refine List.map_congr_left fun q hq => ?_
    have hne : q ≠ (c0, xm_cnt c0 (xm_o M)) := fun e9 => hz (e9 ▸ hq)
    have hn : ¬ (q.1 = c0 ∧ q.2 = xm_cnt c0 (xm_o M)) := xm_ne hne
    rw [xm_ad_ne hne]
    congr 1
    refine xm_cell_congr (fun j => if_neg hn) (fun j => if_neg hn) (fun j => ?_) (if_neg hn)
    show Option.map _ (if q.1 = c0 ∧ q.2 = xm_cnt c0 (xm_o M) then none else M.2.2.1 q.1 j q.2) = _
    rw [if_neg hn]
    cases h9 : M.2.2.1 q.1 j q.2 with
    | none => rfl
    | some q' =>
      show some (xm_ad ad _ a q') = some (ad q')
      rw [xm_ad_ne (xm_nin hz (hR q hq j q' h9))]
  · show [(xm_ad ad _ a _, _)] = _
    rw [xm_ad_s, hE]
theorem xm_Sd_new {ad : xm_A} {H H1 : Heap} {locs : List Loc} {ls : Array Slot} {lv : xm_L} {st st' : List xm_V} {M : xm_M} {c0 N a : Nat} {E : va_E} (hA : xm_Sd s cA D A tS nL ad0 o0 ad H locs ls lv st M) (hst : ∀ v ∈ st', v ∈ st) (hz : (c0, xm_cnt c0 (xm_o M)) ∉ xm_o M) (hc : c0 < 21)
    (hE : xm_cell cA (xm_ad ad (c0, xm_cnt c0 (xm_o M)) a) (xm_nw M c0 N) (c0, xm_cnt c0 (xm_o M)) = E) (p1 : va_P D vwCl (xm_ws cA ad M ++ [(a, E)]) H1) (p2 : va_D A (xm_ws cA ad M ++ [(a, E)])) (p3 : va_S A s.heap H1 locs) :
    xm_Sd s cA D A tS nL ad0 o0 (xm_ad ad (c0, xm_cnt c0 (xm_o M)) a) H1 locs ls lv (.inr (.inr (some (c0, xm_cnt c0 (xm_o M)))) :: st') (xm_nw M c0 N) := by
  obtain ⟨q1, q2, q3, q4, q5, q6, q7⟩ := hA
  rw [← xm_ws_new hz q5.2.2 hE] at p1 p2
  have hin : ∀ q, q ∈ xm_o M → q ∈ xm_o (xm_nw M c0 N) := fun q h => List.mem_append_left _ h
  have hvo : ∀ v, xm_vok M v → xm_vok (xm_nw M c0 N) v := fun v hv => by
    unfold xm_vok at hv ⊢
    split
    · exact hv.imp (hin _) id
    · trivial
  refine ⟨p1, p2, p3, ?_, ⟨fun x hx => hvo _ (q5.1 x hx), fun v hv => ?_, fun q hq k q' h => ?_⟩, fun q hq => ?_, fun q hq => ?_⟩
  · rw [show lv.map (fun q => (q.1, xm_rv (xm_ad ad (c0, xm_cnt c0 (xm_o M)) a) q.2)) = lv.map (fun q => (q.1, xm_rv ad q.2)) from List.map_congr_left fun x hx => by rw [xm_rv_ad hz hc (q5.1 x hx)]]
    exact q4
  · rcases List.mem_cons.mp hv with rfl | hv
    · exact Or.inl (List.mem_append_right _ List.mem_cons_self)
    · exact hvo _ (q5.2.1 v (hst v hv))
  · have h8 : (if q.1 = c0 ∧ q.2 = xm_cnt c0 (xm_o M) then none else M.2.2.1 q.1 k q.2) = some q' := h
    split at h8
    · cases h8
    · rename_i hn
      have hq9 : q ∈ xm_o M := by
        rcases List.mem_append.mp hq with h9 | h9
        · exact h9
        · rw [List.mem_singleton.mp h9] at hn
          exact absurd ⟨rfl, rfl⟩ hn
      exact hin _ (q5.2.2 q hq9 k q' h8)
  · rw [xm_ad_ne (fun e9 => by rw [e9] at hq; dsimp only at hq; omega)]
    exact q6 q hq
  · obtain ⟨h8, h9⟩ := q7 q hq
    exact ⟨by rw [xm_ad_ne (xm_nin hz h9)]; exact h8, hin _ h9⟩
theorem sn_new (hG : xm_IsG p l e R s m args below meth c Q cA D A tS nL ad0 o0 G) {pc n c0 ci : Nat} {ts : List Nat} (hk : xm_kd c0 = (0, ci, ts)) (hc : c0 < 21)
    (row : ∀ (H : Heap) (locs : List Loc) (cells slots : Nat) (ls : Array Slot) (rest : List Value) (ws : va_W), va_P D vwCl ws H → va_D A ws → va_S A s.heap H locs → cells + 1 ≤ R.cells → slots + ts.length ≤ R.slots → (∀ (q : Nat) (H1 : Heap), va_P D vwCl (ws ++ [(q, .inr (ci, ts.map xm_df))]) H1 → va_D A (ws ++ [(q, .inr (ci, ts.map xm_df))]) → va_S A s.heap H1 locs → W p l e R s m args below meth c H1 locs (cells + 1) (slots + ts.length) Q (F0 m n ls (.ref q :: rest))) → W p l e R s m args below meth c H locs cells slots Q (F0 m pc ls rest)) : xm_Snd R G pc (xs_new n c0) := by
  intro S pc1 S1 h
  unfold xs_new at h
  split at h
  · cases h
  · rename_i hz
    obtain ⟨lv, st, M, kc, ks⟩ := S
    dsimp only at h hz
    rw [hk] at h
    cases h
    refine ⟨⟨Nat.le_succ _, Nat.le_add_right _ _⟩, fun h1 h2 kk => (hG _ _).mpr fun ad H locs ls hA => ?_⟩
    refine row H locs _ _ ls _ _ hA.1 hA.2.1 hA.2.2.1 h1 h2 fun a H1 p1 p2 p3 => ?_
    have hE : xm_cell cA (xm_ad ad (c0, xm_cnt c0 (xm_o M)) a) (xm_nw M c0 0) (c0, xm_cnt c0 (xm_o M)) = .inr (ci, ts.map xm_df) := by
      rw [xm_obj (q := (c0, xm_cnt c0 (xm_o M))) hk]
      congr 2
      apply List.ext_getElem?
      intro j
      rw [List.getElem?_mapIdx, List.getElem?_map]
      cases ts[j]? with
      | none => rfl
      | some t =>
        show some (xm_fv _ _ _ j t) = some (xm_df t)
        congr 1
        rcases (show t = 1 ∨ t = 2 ∨ (t ≠ 1 ∧ t ≠ 2) by omega) with rfl | rfl | ⟨h8, h9⟩
        · show Value.long (if c0 = c0 ∧ xm_cnt c0 (xm_o M) = xm_cnt c0 (xm_o M) then 0 else _) = Value.long 0
          rw [if_pos ⟨rfl, rfl⟩]
        · show va_rf (Option.map _ (if c0 = c0 ∧ xm_cnt c0 (xm_o M) = xm_cnt c0 (xm_o M) then none else _)) = Value.null
          rw [if_pos ⟨rfl, rfl⟩]
          rfl
        · rw [xm_fv_i h8 h9, xm_df_i h8 h9]
          show Value.int (if c0 = c0 ∧ xm_cnt c0 (xm_o M) = xm_cnt c0 (xm_o M) then 0 else _) = Value.int 0
          rw [if_pos ⟨rfl, rfl⟩]
    have := (hG _ _).mp kk _ H1 locs ls (xm_Sd_new hA (fun v hv => hv) hz hc hE p1 p2 p3)
    dsimp only at this
    rw [List.map_cons, xm_rv_map hz hc hA.2.2.2.2.1.2.1] at this
    have e9 : xm_rv (xm_ad ad (c0, xm_cnt c0 (xm_o M)) a) (.inr (.inr (some (c0, xm_cnt c0 (xm_o M))))) = .ref a := by
      show va_rf (some (xm_ad ad _ a _)) = _
      rw [xm_ad_s]
      rfl
    rw [e9] at this
    exact this
/-- an array's cell just made -/
theorem sn_newa (hG : xm_IsG p l e R s m args below meth c Q cA D A tS nL ad0 o0 G) {pc n c0 t : Nat} (hk : (xm_kd c0).1 = t) (hc : c0 < 21) {z : (Nat → Int32) ⊕ (Nat → Int64) ⊕ (Nat → UInt32) ⊕ (Nat → UInt64) ⊕ (Nat → Option Nat)}
    (hE : ∀ (ad : xm_A) (M : xm_M) (N : Nat), xm_cell cA ad (xm_nw M c0 N) (c0, xm_cnt c0 (xm_o M)) = .inl (cA t, N, z))
    (row : ∀ (H : Heap) (locs : List Loc) (cells slots : Nat) (ls : Array Slot) (rest : List Value) (ws : va_W) (x : Int32) (N : Nat), va_P D vwCl ws H → va_D A ws → va_S A s.heap H locs → x.toNatClampNeg = N → ¬ x < 0 → N ≤ 1000 → cells + 1 ≤ R.cells → slots + N ≤ R.slots → (∀ (q : Nat) (H1 : Heap), va_P D vwCl (ws ++ [(q, .inl (cA t, N, z))]) H1 → va_D A (ws ++ [(q, .inl (cA t, N, z))]) → va_S A s.heap H1 locs → W p l e R s m args below meth c H1 locs (cells + 1) (slots + N) Q (F0 m n ls (.ref q :: rest))) → W p l e R s m args below meth c H locs cells slots Q (F0 m pc ls (.int x :: rest))) : xm_Snd R G pc (xs_newa n c0) := by
  intro S pc1 S1 h
  unfold xs_newa at h
  split at h
  · rename_i x r h0
    split at h
    · cases h
    · rename_i hz
      split at h
      · rename_i hx
        obtain ⟨lv, st, M, kc, ks⟩ := S
        dsimp only at h hz h0
        subst h0
        cases h
        have hN : ¬ x < 0 := by
          rw [Int32.lt_iff_toInt_lt, Int32.toInt_zero]; omega
        have hN2 : x.toNatClampNeg ≤ 1000 := by
          rw [Int32.toNatClampNeg]; omega
        refine ⟨⟨Nat.le_succ _, Nat.le_add_right _ _⟩, fun h1 h2 kk => (hG _ _).mpr fun ad H locs ls hA => ?_⟩
        refine row H locs _ _ ls _ _ x _ hA.1 hA.2.1 hA.2.2.1 rfl hN hN2 h1 h2 fun a H1 p1 p2 p3 => ?_
        have := (hG _ _).mp kk _ H1 locs ls (xm_Sd_new hA (fun v hv => List.mem_cons_of_mem _ hv) hz hc (hE _ _ _) p1 p2 p3)
        dsimp only at this
        rw [List.map_cons, xm_rv_map hz hc (fun v hv => hA.2.2.2.2.1.2.1 v (List.mem_cons_of_mem _ hv))] at this
        have e9 : xm_rv (xm_ad ad (c0, xm_cnt c0 (xm_o M)) a) (.inr (.inr (some (c0, xm_cnt c0 (xm_o M))))) = .ref a := by
          show va_rf (some (xm_ad ad _ a _)) = _
          rw [xm_ad_s]
          rfl
        rw [e9] at this
        exact this
      · cases h
  · cases h
end XG6
