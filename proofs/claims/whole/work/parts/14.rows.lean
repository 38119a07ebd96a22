/-! ROWS for the tables: what several instructions share -/
theorem xm_Oks.step {R : Room} {G : Nat → xm_S → Prop} {cal : xm_Cal} {pc : Nat} {f : xm_F} {r : xm_T} (h : xm_Snd R G pc f) (k : xm_Oks (xm_Ent R G cal) r) : xm_Oks (xm_Ent R G cal) ((pc, .inl f) :: r) := ⟨h, k⟩
theorem xm_Oks.call {R : Room} {G : Nat → xm_S → Prop} {cal : xm_Cal} {pc mi n t : Nat} {r : xm_T} (h : xm_SndC R G cal pc mi n t) (k : xm_Oks (xm_Ent R G cal) r) : xm_Oks (xm_Ent R G cal) ((pc, .inr (.inl (mi, n, t))) :: r) := ⟨h, k⟩
theorem xm_Oks.stop {R : Room} {G : Nat → xm_S → Prop} {cal : xm_Cal} {pc n : Nat} {r : xm_T} (k : xm_Oks (xm_Ent R G cal) r) : xm_Oks (xm_Ent R G cal) ((pc, .inr (.inr n)) :: r) := ⟨trivial, k⟩
def xs_cast (n : Nat) : xm_F := fun S => match S.2.1 with
  | .inr (.inr (some q)) :: _ => if (xm_kd q.1).1 = 1 then some (n, S) else none
  | _ => none
def xm_cl (M : xm_M) : xm_M := ((fun c k i => if c = 6 ∧ i = xm_cnt 6 (xm_o M) then xm_tb 2 k else M.1 c k i), (xm_nw M 6 7).2)
/-- the table AT_FIRST cloned -/
def xs_clone (n : Nat) : xm_F := fun S => match S.2.1 with
  | .inr (.inr (some q)) :: r => if q = (23, 0) ∧ (6, xm_cnt 6 (xm_o S.2.2.1)) ∉ xm_o S.2.2.1 then some (n, S.1, .inr (.inr (some (6, xm_cnt 6 (xm_o S.2.2.1)))) :: r, xm_cl S.2.2.1, S.2.2.2.1 + 1, S.2.2.2.2 + 7) else none
  | _ => none
section XR
variable {p : Program} {l : Launch} {e : Env} {R : Room} {s : State} {m : MethodId} {args : Array Value} {below : List Frame} {meth : Method} {c : Code} {Q : State → Prop}
variable {cc : ByteArray} {nL : Nat} {own : String} {Ts : List Cond} {cA : Nat → ClassId} {D : va_G} {A : Nat → Prop} {tS : Nat → Nat} {ad0 : xm_A} {o0 : List (Nat × Nat)} {G : Nat → xm_S → Prop}
theorem xr_alen (hx : p.tables.exec = Jvm.exec) (hb : c.code = cc) (hK : va_K D vwCl (xm_tys cA) s) {pc : Nat} (hdg : decode cc pc = .ok (.arraylength, 1)) (H : Heap) (locs : List Loc) (cells slots : Nat) (ls : Array Slot) (rest : List Value) (q0 t : Nat) (ws : va_W) (a N : Nat) (z : (Nat → Int32) ⊕ (Nat → Int64) ⊕ (Nat → UInt32) ⊕ (Nat → UInt64) ⊕ (Nat → Option Nat)) (hP : va_P D vwCl ws H) (hw : ws[q0]? = some (a, .inl (cA t, N, z))) (h1 : 1 ≤ t) (h5 : t ≤ 5) (k : W p l e R s m args below meth c H locs cells slots Q (F0 m (pc + 1) ls (.int (Int32.ofNat N) :: rest))) : W p l e R s m args below meth c H locs cells slots Q (F0 m pc ls (.ref a :: rest)) := by
  rcases (show t = 1 ∨ t = 2 ∨ t = 3 ∨ t = 4 ∨ t = 5 by omega) with rfl | rfl | rfl | rfl | rfl
  · exact va_alen hx hb hK hP q0 1 hw rfl rfl hdg k
  · exact va_alen hx hb hK hP q0 2 hw rfl rfl hdg k
  · exact va_alen hx hb hK hP q0 3 hw rfl rfl hdg k
  · exact va_alen hx hb hK hP q0 4 hw rfl rfl hdg k
  · exact va_alen hx hb hK hP q0 5 hw rfl rfl hdg k
theorem xr_newI (hx : p.tables.exec = Jvm.exec) (hb : c.code = cc) (hK : va_K D vwCl (xm_tys cA) s) (hA : ∀ q : Nat, s.heap.size ≤ q → A q) (harr : (Cond.arrayClass .int).before args s = true) {pc : Nat} (hdg : decode cc pc = .ok (.newarray .int, 2)) (H : Heap) (locs : List Loc) (cells slots : Nat) (ls : Array Slot) (rest : List Value) (ws : va_W) (x : Int32) (N : Nat) (hP : va_P D vwCl ws H) (hD : va_D A ws) (hS : va_S A s.heap H locs) (hN : x.toNatClampNeg = N) (hn0 : ¬ x < 0) (hle : N ≤ 1000) (h1 : cells + 1 ≤ R.cells) (h2 : slots + N ≤ R.slots)
    (k : ∀ (q : Nat) (H1 : Heap), va_P D vwCl (ws ++ [(q, .inl (cA 1, N, .inl (fun _ => 0)))]) H1 → va_D A (ws ++ [(q, .inl (cA 1, N, .inl (fun _ => 0)))]) → va_S A s.heap H1 locs → W p l e R s m args below meth c H1 locs (cells + 1) (slots + N) Q (F0 m (pc + 2) ls (.ref q :: rest))) : W p l e R s m args below meth c H locs cells slots Q (F0 m pc ls (.int x :: rest)) := by
  refine va_newa (atype := .int) (ty := .int) (a0 := (N, .inl fun _ => 0)) hx hb harr rfl hK hP hD hS hA (fun _ => rfl) hn0 hN (by show N * 4 ≤ _; omega) h1 h2 hdg fun q cB H1 hK' p1 p2 p3 => ?_
  have h9 : cB = cA 1 := Option.some.inj ((hK'.2 6 (cB, .int) rfl).2.symm.trans (hK.2 1 (cA 1, .int) rfl).2)
  subst h9
  exact k q H1 p1 p2 p3
theorem xr_newL (hx : p.tables.exec = Jvm.exec) (hb : c.code = cc) (hK : va_K D vwCl (xm_tys cA) s) (hA : ∀ q : Nat, s.heap.size ≤ q → A q) (harr : (Cond.arrayClass .long).before args s = true) {pc : Nat} (hdg : decode cc pc = .ok (.newarray .long, 2)) (H : Heap) (locs : List Loc) (cells slots : Nat) (ls : Array Slot) (rest : List Value) (ws : va_W) (x : Int32) (N : Nat) (hP : va_P D vwCl ws H) (hD : va_D A ws) (hS : va_S A s.heap H locs) (hN : x.toNatClampNeg = N) (hn0 : ¬ x < 0) (hle : N ≤ 1000) (h1 : cells + 1 ≤ R.cells) (h2 : slots + N ≤ R.slots)
    (k : ∀ (q : Nat) (H1 : Heap), va_P D vwCl (ws ++ [(q, .inl (cA 2, N, .inr (.inl (fun _ => 0))))]) H1 → va_D A (ws ++ [(q, .inl (cA 2, N, .inr (.inl (fun _ => 0))))]) → va_S A s.heap H1 locs → W p l e R s m args below meth c H1 locs (cells + 1) (slots + N) Q (F0 m (pc + 2) ls (.ref q :: rest))) : W p l e R s m args below meth c H locs cells slots Q (F0 m pc ls (.int x :: rest)) := by
  refine va_newa (atype := .long) (ty := .long) (a0 := (N, .inr (.inl fun _ => 0))) hx hb harr rfl hK hP hD hS hA (fun _ => rfl) hn0 hN (by show N * 8 ≤ _; omega) h1 h2 hdg fun q cB H1 hK' p1 p2 p3 => ?_
  have h9 : cB = cA 2 := Option.some.inj ((hK'.2 6 (cB, .long) rfl).2.symm.trans (hK.2 2 (cA 2, .long) rfl).2)
  subst h9
  exact k q H1 p1 p2 p3
theorem xr_newZ (hx : p.tables.exec = Jvm.exec) (hb : c.code = cc) (hK : va_K D vwCl (xm_tys cA) s) (hA : ∀ q : Nat, s.heap.size ≤ q → A q) (harr : (Cond.arrayClass .boolean).before args s = true) {pc : Nat} (hdg : decode cc pc = .ok (.newarray .boolean, 2)) (H : Heap) (locs : List Loc) (cells slots : Nat) (ls : Array Slot) (rest : List Value) (ws : va_W) (x : Int32) (N : Nat) (hP : va_P D vwCl ws H) (hD : va_D A ws) (hS : va_S A s.heap H locs) (hN : x.toNatClampNeg = N) (hn0 : ¬ x < 0) (hle : N ≤ 1000) (h1 : cells + 1 ≤ R.cells) (h2 : slots + N ≤ R.slots)
    (k : ∀ (q : Nat) (H1 : Heap), va_P D vwCl (ws ++ [(q, .inl (cA 3, N, .inl (fun _ => 0)))]) H1 → va_D A (ws ++ [(q, .inl (cA 3, N, .inl (fun _ => 0)))]) → va_S A s.heap H1 locs → W p l e R s m args below meth c H1 locs (cells + 1) (slots + N) Q (F0 m (pc + 2) ls (.ref q :: rest))) : W p l e R s m args below meth c H locs cells slots Q (F0 m pc ls (.int x :: rest)) := by
  refine va_newa (atype := .boolean) (ty := .boolean) (a0 := (N, .inl fun _ => 0)) hx hb harr rfl hK hP hD hS hA (fun _ => rfl) hn0 hN (by show N * 1 ≤ _; omega) h1 h2 hdg fun q cB H1 hK' p1 p2 p3 => ?_
  have h9 : cB = cA 3 := Option.some.inj ((hK'.2 6 (cB, .boolean) rfl).2.symm.trans (hK.2 3 (cA 3, .boolean) rfl).2)
  subst h9
  exact k q H1 p1 p2 p3
theorem xr_newQ {C : String} {t : Nat} (hx : p.tables.exec = Jvm.exec) (hb : c.code = cc) (hown : s.vm.findClass own = some m.cls) {index : Nat} (hl : (Cond.classLink own index C).before args s = true) (ho : va_AO C s) (hK : va_K D vwCl (xm_tys cA) s) (ht : (xm_tys cA)[t]? = some (cA t, .object C)) (hA : ∀ q : Nat, s.heap.size ≤ q → A q) {pc : Nat} (hdg : decode cc pc = .ok (.anewarray index, 3)) (H : Heap) (locs : List Loc) (cells slots : Nat) (ls : Array Slot) (rest : List Value) (ws : va_W) (x : Int32) (N : Nat) (hP : va_P D vwCl ws H) (hD : va_D A ws) (hS : va_S A s.heap H locs) (hN : x.toNatClampNeg = N) (hn0 : ¬ x < 0) (hle : N ≤ 1000) (h1 : cells + 1 ≤ R.cells) (h2 : slots + N ≤ R.slots)
    (k : ∀ (q : Nat) (H1 : Heap), va_P D vwCl (ws ++ [(q, .inl (cA t, N, .inr (.inr (.inr (.inr (fun _ => none))))))]) H1 → va_D A (ws ++ [(q, .inl (cA t, N, .inr (.inr (.inr (.inr (fun _ => none))))))]) → va_S A s.heap H1 locs → W p l e R s m args below meth c H1 locs (cells + 1) (slots + N) Q (F0 m (pc + 3) ls (.ref q :: rest))) : W p l e R s m args below meth c H locs cells slots Q (F0 m pc ls (.int x :: rest)) := by
  refine va_newq hx hb hown hl ho hK hP hD hS hA hn0 hN (by omega) h1 h2 hdg fun q cB H1 hK' p1 p2 p3 => ?_
  obtain ⟨kA, comp, -, -, -, g1⟩ := (hK'.2 6 (cB, .object C) rfl).2
  obtain ⟨kA', comp', -, -, -, g2⟩ := (hK.2 t (cA t, .object C) ht).2
  have h9 : cB = cA t := Option.some.inj (g1.symm.trans g2)
  subst h9
  exact k q H1 p1 p2 p3
theorem xm_nwI {ad : xm_A} {M : xm_M} {c0 N : Nat} (h : (xm_kd c0).1 = 1) : xm_cell cA ad (xm_nw M c0 N) (c0, xm_cnt c0 (xm_o M)) = .inl (cA 1, N, .inl (fun _ => 0)) := by
  rw [xm_arrI h]
  simp [xm_nw]
theorem xm_nwZ {ad : xm_A} {M : xm_M} {c0 N : Nat} (h : (xm_kd c0).1 = 3) : xm_cell cA ad (xm_nw M c0 N) (c0, xm_cnt c0 (xm_o M)) = .inl (cA 3, N, .inl (fun _ => 0)) := by
  rw [xm_arrZ h]
  simp [xm_nw]
theorem xm_nwL {ad : xm_A} {M : xm_M} {c0 N : Nat} (h : (xm_kd c0).1 = 2) : xm_cell cA ad (xm_nw M c0 N) (c0, xm_cnt c0 (xm_o M)) = .inl (cA 2, N, .inr (.inl (fun _ => 0))) := by
  rw [xm_arrL h]
  simp [xm_nw]
theorem xm_nwQ {ad : xm_A} {M : xm_M} {c0 N t : Nat} (h : (xm_kd c0).1 = t) (ht : t = 4 ∨ t = 5) : xm_cell cA ad (xm_nw M c0 N) (c0, xm_cnt c0 (xm_o M)) = .inl (cA t, N, .inr (.inr (.inr (.inr (fun _ => none))))) := by
  rw [xm_arrR h ht]
  simp [xm_nw]
theorem xr_sw (hx : p.tables.exec = Jvm.exec) (hb : c.code = cc) {pc d len : Nat} {ts : List Nat} {dflt hi : Int} {offs : Array Int} (hdg : decode cc pc = .ok (.tableswitch dflt 0 hi offs, len)) (hd : (pc : Int) + dflt = (d : Nat)) (hhi : hi + 1 = (ts.length : Nat)) (hof : ∀ k, k < ts.length → ∃ off, offs[k]? = some off ∧ (pc : Int) + off = (ts.getD k d : Nat)) (H : Heap) (locs : List Loc) (cells slots : Nat) (ls : Array Slot) (rest : List Value) (x : Int32) (k : W p l e R s m args below meth c H locs cells slots Q (F0 m (if x.toInt < 0 then d else ts.getD x.toInt.toNat d) ls rest)) : W p l e R s m args below meth c H locs cells slots Q (F0 m pc ls (.int x :: rest)) := by
  by_cases h0 : x.toInt < 0
  · rw [if_pos h0] at k
    exact lv_tableOut hx hb hdg (Or.inl h0) hd k
  · rw [if_neg h0] at k
    by_cases h1 : hi < x.toInt
    · have e9 : ts.getD x.toInt.toNat d = d := by
        rw [List.getD_eq_getElem?_getD, List.getElem?_eq_none (by omega)]
        rfl
      rw [e9] at k
      exact lv_tableOut hx hb hdg (Or.inr h1) hd k
    · obtain ⟨off, g1, g2⟩ := hof x.toInt.toNat (by omega)
      exact lv_tableIn hx hb hdg h0 h1 (by rw [Int.sub_zero]; exact g1) g2 k
theorem sn_cast (hG : xm_IsG p l e R s m args below meth c Q cA D A tS nL ad0 o0 G) {pc n : Nat}
    (row : ∀ (H : Heap) (locs : List Loc) (cells slots : Nat) (ls : Array Slot) (rest : List Value) (q0 : Nat) (ws : va_W) (a : Nat) (z : vp_A), va_P D vwCl ws H → ws[q0]? = some (a, .inl (cA 1, z)) → W p l e R s m args below meth c H locs cells slots Q (F0 m n ls (.ref a :: rest)) → W p l e R s m args below meth c H locs cells slots Q (F0 m pc ls (.ref a :: rest))) : xm_Snd R G pc (xs_cast n) := by
  intro S pc1 S1 h
  obtain ⟨lv, st, M, kc, ks⟩ := S
  unfold xs_cast at h
  dsimp only at h
  split at h
  · rename_i q r
    split at h
    · rename_i hk
      cases h
      refine ⟨⟨Nat.le_refl _, Nat.le_refl _⟩, fun _ _ kk => (hG _ _).mpr fun ad H locs ls hA => ?_⟩
      obtain ⟨q1, q2, q3, q4, q5, q6, q7⟩ := id hA
      have hq : q ∈ xm_o M := xm_q (q5.2.1 _ List.mem_cons_self) (by rw [hk]; decide)
      obtain ⟨j, hj, hw⟩ := xm_in (cA := cA) (ad := ad) hq
      rw [xm_arrI hk] at hw
      exact row H locs _ _ ls _ j _ (ad q) _ q1 hw ((hG _ _).mp kk ad H locs ls hA)
    · cases h
  · cases h
end XR
