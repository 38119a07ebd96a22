/-! A CALL in the calculus is a call of the machine; a method's table gives its contract -/
section XD
variable {p : Program} {l : Launch} {e : Env} {R : Room} {s : State} {m : MethodId} {args : Array Value} {below : List Frame} {meth : Method} {c : Code} {Q : State → Prop}
variable {cc : ByteArray} {nL : Nat} {own : String} {Ts : List Cond} {cA : Nat → ClassId} {D : va_G} {A : Nat → Prop} {tS : Nat → Nat} {ad0 : xm_A} {o0 : List (Nat × Nat)} {G : Nat → xm_S → Prop}
theorem xm_goes {H : Heap} {locs : List Loc} {cells slots mc ms pc : Nat} {ls : Array Slot} {st0 rest : List Value} {ad : xm_A} {M M' : xm_M} {v : Option xm_V} {a : Array Value} {free : Addr → Prop} (hr : va_Run p l e R s m args below meth c H locs cells slots mc ms (F0 m pc ls st0) rest (xm_Qc cA D tS ad M H.size v M' a) free) (hS : va_S A s.heap H locs) (hA : ∀ q, va_A (xm_ws cA ad M) H.size q → A q) (hf : ∀ q, free q → A q)
    (kk : ∀ (ad' : xm_A) (H1 : Heap) (locs1 : List Loc), va_P D vwCl (xm_ws cA ad' M') H1 → va_D (va_A (xm_ws cA ad M) H.size) (xm_ws cA ad' M') → (∀ q ∈ xm_o M, ad' q = ad q ∧ q ∈ xm_o M') → xm_St ad' tS → xm_Ok M' [] v.toList → va_S A s.heap H1 locs1 → W p l e R s m args below meth c H1 locs1 (cells + mc) (slots + ms) Q (F0 m (pc + 3) ls ((v.map (xm_rv ad')).toList ++ rest))) : W p l e R s m args below meth c H locs cells slots Q (F0 m pc ls st0) := by
  intro T hT X
  obtain ⟨v', st₀, t, T', L, h0, X', hL, e1, e2, ⟨⟨ad', hv, hP, hD, hq, hs, hok⟩, hz, hk⟩, st⟩ := hr T hT X
  have hv' : v' = v.map (xm_rv ad') := by
    have := hv
    injection this
  subst hv'
  rw [h0] at hz hk
  obtain ⟨t2, a1, b1⟩ := kk ad' T'.heap (locs ++ L) (by rw [e1]; exact hP) hD hq hs hok
    ⟨Nat.le_trans hS.1 (by rw [e1]; exact hz), fun q h1 h2 => by rw [e1, hk q (Nat.lt_of_lt_of_le h1 hS.1) (fun z => h2 (hA q z))]; exact hS.2.1 q h1 h2, fun q hq => by
      rcases List.mem_append.mp hq with h | h
      · exact hS.2.2 q h
      · exact hf _ (hL q h)⟩ T' rfl X'
  exact ⟨t2, st t2 a1, b1⟩
def xm_SndC (R : Room) (G : Nat → xm_S → Prop) (cal : xm_Cal) (pc mi k t : Nat) : Prop := ∀ lv as rest M kc ks v M1 mc ms, as.length = k → xm_rc t as → (rest.map xm_cat).sum ≤ 8 → cal mi as M v M1 mc ms → kc + mc ≤ R.cells → ks + ms ≤ R.slots → G (pc + 3) (lv, v.toList ++ rest, M1, kc + mc, ks + ms) → G pc (lv, as.reverse ++ rest, M, kc, ks)
theorem xm_sndC (hG : xm_IsG p l e R s m args below meth c Q cA D A tS nL ad0 o0 G) (hC : xm_Cx p s m args c cc nL own Ts cA D A tS) {cal : xm_Cal} {pc mi k t maxL d : Nat} {y : MethodName} {wsy : List Cond} {C : Option String} (hc : xm_Call p l e R s m args below meth c nL pc y wsy maxL k C) (hR : d + 1 ≤ R.frames) (hL : 8 + (maxL + 11) + 40 * d ≤ R.locals)
    (hCt : ∀ C0, C = some C0 → ∃ ci q ts, 0 < t ∧ t ≤ 21 ∧ xm_kd (t - 1) = (0, ci, ts) ∧ vwCl[ci]? = some q ∧ q.1 = C0)
    (hcal : ∀ as M v M1 mc ms, cal mi as M v M1 mc ms → ∀ (ad : xm_A) (sz : Nat), xm_Ok M [] as → xm_St ad tS → Met l y wsy (xm_room d mc ms) (xm_Pc cA D tS ad M as sz) (xm_Qc cA D tS ad M sz v M1) mc ms (va_A (xm_ws cA ad M) sz)) : xm_SndC R G cal pc mi k t := by
  intro lv as rest M kc ks v M1 mc ms hk ht hcat hcl hcell hslot kk
  refine (hG _ _).mpr fun ad H locs ls hA => ?_
  obtain ⟨q1, q2, q3, q4, q5, q6, q7⟩ := id hA
  obtain ⟨hx, hb, hml, hown, hts, hK, hA0, hSx, hNx⟩ := hC
  have hokA : xm_Ok M [] as := ⟨(fun x hx => by cases hx), fun w hw => q5.2.1 w (List.mem_append_left _ (List.mem_reverse.mpr hw)), q5.2.2⟩
  have hFc : ∀ q, va_A (xm_ws cA ad M) H.size q → A q := by
    intro q hq
    rcases hq with ⟨j, E, h9⟩ | h9
    · exact q2.2 j _ h9
    · exact hA0 q (Nat.le_trans q3.1 h9)
  have hrun := hc (xm_room d mc ms) _ _ mc ms _ H locs kc ks ls (as.map (xm_rv ad)) (rest.map (xm_rv ad)) (hcal as M v M1 mc ms hcl ad H.size hokA q6) rfl rfl hR hL xm_Pc_blind (fun C0 hC0 => by
      obtain ⟨ci, qc, ts, ht0, ht1, hkd, hvc, hcn⟩ := hCt C0 hC0
      rcases ht with h9 | ⟨i, r, rfl⟩
      · omega
      · have hq : (t - 1, i) ∈ xm_o M := by
          rcases q5.2.1 (xm_r (t - 1) i) (List.mem_append_left _ (List.mem_reverse.mpr List.mem_cons_self)) with h9 | h9
          · exact h9
          · exact absurd h9 (by show ¬ 21 ≤ t - 1; omega)
        obtain ⟨j, hj, hw⟩ := xm_in (cA := cA) (ad := ad) hq
        rw [xm_obj (q := (t - 1, i)) hkd] at hw
        refine ⟨ad (t - 1, i), r.map (xm_rv ad), rfl, ?_⟩
        rw [← hcn]
        exact va_recv hK q1 hvc hw) (fun U hU hW => ⟨rfl, by rw [hU], by rw [hU]; exact q1, va_K.moved hW.alike hK, q2.weaken (fun _ _ _ _ => trivial), by rw [hU]; exact xm_Sx.moved hW.alike ((hSx.kept q3.2.1).narrow hFc), hNx.warm hW⟩) (by rw [List.length_map]; exact hk) (by rw [xm_cat_sum]; exact hcat) q4.1 ⟨hcell, hslot⟩
  rw [List.map_append, List.map_reverse]
  refine xm_goes hrun q3 hFc (fun q h9 => hFc q h9) fun ad' H1 locs1 p1 p2 p3 p4 p5 p6 => ?_
  have hag : ∀ w, xm_vok M w → xm_rv ad' w = xm_rv ad w := fun w hw => xm_rv_agree (fun q hq => (p3 q hq).1) q6 p4 hw
  have hvo : ∀ w, xm_vok M w → xm_vok M1 w := fun w hw => by
    unfold xm_vok at hw ⊢
    split
    · exact hw.imp (fun h9 => (p3 _ h9).2) id
    · trivial
  have hst : (v.map (xm_rv ad')).toList ++ rest.map (xm_rv ad) = (v.toList ++ rest).map (xm_rv ad') := by
    rw [List.map_append]
    congr 1
    · cases v <;> rfl
    · exact (List.map_congr_left fun w hw => hag w (q5.2.1 w (List.mem_append_right _ hw))).symm
  rw [hst]
  refine (hG _ _).mp kk ad' H1 locs1 ls ⟨p1, p2.weaken (fun _ _ _ h9 => hFc _ h9), p6, ?_, ⟨fun x hx => hvo _ (q5.1 x hx), fun w hw => ?_, p5.2.2⟩, p4, fun q hq => ?_⟩
  · rw [show lv.map (fun q => (q.1, xm_rv ad' q.2)) = lv.map (fun q => (q.1, xm_rv ad q.2)) from List.map_congr_left fun x hx => by rw [hag _ (q5.1 x hx)]]
    exact q4
  · rcases List.mem_append.mp hw with h9 | h9
    · exact p5.2.1 w h9
    · exact hvo _ (q5.2.1 w (List.mem_append_right _ h9))
  · obtain ⟨h8, h9⟩ := q7 q hq
    exact ⟨by rw [(p3 q h9).1]; exact h8, (p3 q h9).2⟩
/-- n steps of the calculus -/
theorem xm_sound {cal : xm_Cal} {tb : xm_T} (h1 : ∀ pc f, xm_at tb pc = some (.inl f) → xm_Snd R G pc f) (h2 : ∀ pc mi k t, xm_at tb pc = some (.inr (.inl (mi, k, t))) → xm_SndC R G cal pc mi k t) :
    ∀ (n pc : Nat) (S : xm_S) (pc' : Nat) (S' : xm_S), xm_Rn cal tb n pc S pc' S' → S'.2.2.2.1 ≤ R.cells → S'.2.2.2.2 ≤ R.slots → (S.2.2.2.1 ≤ S'.2.2.2.1 ∧ S.2.2.2.2 ≤ S'.2.2.2.2) ∧ (G pc' S' → G pc S) := by
  intro n
  induction n with
  | zero =>
    intro pc S pc' S' h _ _
    obtain ⟨rfl, rfl, -⟩ := h
    exact ⟨⟨Nat.le_refl _, Nat.le_refl _⟩, id⟩
  | succ n ih =>
    intro pc S pc' S' h hc hs
    rcases h with ⟨f, pc1, S1, ha, hf, hr⟩ | ⟨mi, k, t, lv, as, rest, M, kc, ks, v, M1, mc, ms, ha, rfl, hk, ht, hcat, hcl, hr⟩
    · obtain ⟨⟨i1, i2⟩, i3⟩ := ih pc1 S1 pc' S' hr hc hs
      obtain ⟨⟨j1, j2⟩, j3⟩ := h1 pc f ha S pc1 S1 hf
      exact ⟨⟨Nat.le_trans j1 i1, Nat.le_trans j2 i2⟩, fun g => j3 (Nat.le_trans i1 hc) (Nat.le_trans i2 hs) (i3 g)⟩
    · obtain ⟨⟨i1, i2⟩, i3⟩ := ih _ _ pc' S' hr hc hs
      dsimp only at i1 i2 ⊢
      exact ⟨⟨Nat.le_trans (Nat.le_add_right _ _) i1, Nat.le_trans (Nat.le_add_right _ _) i2⟩, fun g => h2 pc mi k t ha lv as rest M kc ks v M1 mc ms hk ht hcat hcl (Nat.le_trans i1 hc) (Nat.le_trans i2 hs) (i3 g)⟩
end XD
theorem xm_args {ad : xm_A} : ∀ (as : List xm_V) (k : Nat), lv_args k (as.map (xm_rv ad)) = (xm_en k as).map (fun q => (q.1, xm_rv ad q.2)) := by
  intro as
  induction as with
  | nil => intro k; rfl
  | cons v r ih =>
    intro k
    show (k, xm_rv ad v) :: lv_args (if (xm_rv ad v).category = 2 then k + 2 else k + 1) (r.map (xm_rv ad)) = (k, xm_rv ad v) :: (xm_en (k + xm_cat v) r).map _
    rw [xm_rv_cat]
    congr 1
    rw [← ih]
    congr 1
    rcases v with x | x | x <;> rfl
theorem xm_sl {ad : xm_A} : ∀ (as : List xm_V), (lg_sl (as.map (xm_rv ad))).length = (as.map xm_cat).sum := by
  intro as
  induction as with
  | nil => rfl
  | cons v r ih =>
    show (List.flatMap _ (xm_rv ad v :: r.map (xm_rv ad))).length = _
    rw [List.flatMap_cons, List.length_append, List.map_cons, List.sum_cons]
    congr 1
    rcases v with x | x | x
    · rfl
    · rfl
    · cases x <;> rfl
theorem xm_en_ok {M : xm_M} : ∀ (as : List xm_V) (k : Nat), (∀ v ∈ as, xm_vok M v) → ∀ x ∈ xm_en k as, xm_vok M x.2 := by
  intro as
  induction as with
  | nil => intro k _ x hx; cases hx
  | cons v r ih =>
    intro k h x hx
    rcases List.mem_cons.mp hx with rfl | hx
    · exact h _ List.mem_cons_self
    · exact ih _ (fun w hw => h w (List.mem_cons_of_mem _ hw)) x hx
