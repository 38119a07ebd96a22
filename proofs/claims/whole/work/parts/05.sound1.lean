/-! THE MACHINE KEEPS THE STEPS -/
def xm_nm (k : Nat) : String := match k with
  | 0 => "LEAST"
  | 1 => "MOST"
  | _ => "AT_FIRST"
/-- a table at t: seven ints, written by nobody -/
def xm_Tb (t k : Nat) (A : Nat → Prop) (U : State) (H : Heap) : Prop := ∃ cell : Cell, H[t]? = some cell ∧ U.isArrayOf cell .int ∧ cell.vm ≠ .unknown ∧ cell.slots.size = 7 ∧ (∀ j : Nat, j < 7 → cell.slots[j]? = some (.int (xm_tb k j))) ∧ ¬ A t
theorem xm_Tb.moved {t k : Nat} {A : Nat → Prop} {u U : State} {H : Heap} (hvm : u.vm.Alike U.vm) (h : xm_Tb t k A u H) : xm_Tb t k A U H := by
  obtain ⟨cell, h1, h2, h3⟩ := h
  exact ⟨cell, h1, State.isArrayOf_alike hvm h2, h3⟩
theorem xm_Tb.kept {t k : Nat} {A : Nat → Prop} {U : State} {H H1 : Heap} (h : xm_Tb t k A U H) (hq : ∀ a : Nat, a < H.size → ¬ A a → H1[a]? = H[a]?) : xm_Tb t k A U H1 := by
  obtain ⟨cell, h1, h2, h3, h4, h5, h6⟩ := h
  exact ⟨cell, by rw [hq t (Array.getElem?_eq_some_iff.mp h1).1 h6]; exact h1, h2, h3, h4, h5, h6⟩
theorem xm_Tb.narrow {t k : Nat} {A B : Nat → Prop} {U : State} {H : Heap} (h : xm_Tb t k A U H) (hAB : ∀ q, B q → A q) : xm_Tb t k B U H := by
  obtain ⟨cell, h1, h2, h3, h4, h5, h6⟩ := h
  exact ⟨cell, h1, h2, h3, h4, h5, fun z => h6 (hAB t z)⟩
theorem xm_Tb.T {t k : Nat} {A : Nat → Prop} {U : State} {H : Heap} (h : xm_Tb t k A U H) : va_T .int t 7 (fun j => .int (xm_tb k j)) A U H := by
  obtain ⟨cell, h1, h2, h3, h4, h5, h6⟩ := h
  exact ⟨cell, h1, h2, h3, by omega, by rw [h4], h5, h6⟩
def xm_Sx (tS : Nat → Nat) (A : Nat → Prop) (U : State) (H : Heap) : Prop := (∀ k, k < 3 → va_Z RX2 (xm_nm k) "[I" (.ref (tS k)) A U H ∧ xm_Tb (tS k) k A U H) ∧ va_AO RX0 U ∧ va_AO RX1 U
theorem xm_Sx.moved {tS : Nat → Nat} {A : Nat → Prop} {u U : State} {H : Heap} (hvm : u.vm.Alike U.vm) (h : xm_Sx tS A u H) : xm_Sx tS A U H := ⟨fun k hk => ⟨va_Z.moved hvm (h.1 k hk).1, xm_Tb.moved hvm (h.1 k hk).2⟩, va_AO.moved hvm h.2.1, va_AO.moved hvm h.2.2⟩
theorem xm_Sx.kept {tS : Nat → Nat} {A : Nat → Prop} {U : State} {H H1 : Heap} (h : xm_Sx tS A U H) (hq : ∀ a : Nat, a < H.size → ¬ A a → H1[a]? = H[a]?) : xm_Sx tS A U H1 := ⟨fun k hk => ⟨(h.1 k hk).1.kept hq, (h.1 k hk).2.kept hq⟩, h.2⟩
theorem xm_Sx.narrow {tS : Nat → Nat} {A B : Nat → Prop} {U : State} {H : Heap} (h : xm_Sx tS A U H) (hAB : ∀ q, B q → A q) : xm_Sx tS B U H := ⟨fun k hk => ⟨(h.1 k hk).1.narrow hAB, (h.1 k hk).2.narrow hAB⟩, h.2⟩
/-- links to a nest mate's own constructor -/
def xm_Nx (U : State) : Prop := va_Nw (.methodLinkNest RX4 29 yX0_init RX4) U ∧ va_Nw (.methodLinkNest RX4 18 yX3_init RX4) U
theorem xm_Nx.warm {s U : State} (hW : s.WarmedH U.vm) (h : xm_Nx s) : xm_Nx U := ⟨va_Nw.warmM hW h.1, va_Nw.warmM hW h.2⟩
theorem xm_Nx.same {u U : State} (hv : u.vm = U.vm) (h : xm_Nx u) : xm_Nx U := ⟨va_Nw.same rfl hv h.1, va_Nw.same rfl hv h.2⟩
/-- a frame's context -/
def xm_Cx (p : Program) (s : State) (m : MethodId) (args : Array Value) (c : Code) (cc : ByteArray) (nL : Nat) (own : String) (Ts : List Cond) (cA : Nat → ClassId) (D : va_G) (A : Nat → Prop) (tS : Nat → Nat) : Prop :=
  p.tables.exec = Jvm.exec ∧ c.code = cc ∧ c.maxLocals = nL ∧ s.vm.findClass own = some m.cls ∧ (∀ w ∈ Ts, w.before args s = true) ∧ va_K D vwCl (xm_tys cA) s ∧ (∀ q : Nat, s.heap.size ≤ q → A q) ∧ xm_Sx tS A s s.heap ∧ xm_Nx s
/-- the tables' addresses -/
def xm_St (ad : xm_A) (tS : Nat → Nat) : Prop := ∀ q : Nat × Nat, 21 ≤ q.1 → ad q = tS (q.1 - 21)
theorem xm_St.k {ad : xm_A} {tS : Nat → Nat} (h : xm_St ad tS) (k : Nat) : ad (21 + k, 0) = tS k := by
  rw [h (21 + k, 0) (Nat.le_add_right 21 k)]
  congr 1
  exact Nat.add_sub_cancel_left 21 k
/-- the machine's side of a state of the calculus -/
def xm_Sd (s : State) (cA : Nat → ClassId) (D : va_G) (A : Nat → Prop) (tS : Nat → Nat) (nL : Nat) (ad0 : xm_A) (o0 : List (Nat × Nat)) (ad : xm_A) (H : Heap) (locs : List Loc) (ls : Array Slot) (lv : xm_L) (st : List xm_V) (M : xm_M) : Prop :=
  va_P D vwCl (xm_ws cA ad M) H ∧ va_D A (xm_ws cA ad M) ∧ va_S A s.heap H locs ∧ lv_has ls nL (lv.map (fun q => (q.1, xm_rv ad q.2))) ∧ xm_Ok M lv st ∧ xm_St ad tS ∧ ∀ q ∈ o0, ad q = ad0 q ∧ q ∈ xm_o M
def xm_IsG (p : Program) (l : Launch) (e : Env) (R : Room) (s : State) (m : MethodId) (args : Array Value) (below : List Frame) (meth : Method) (c : Code) (Q : State → Prop) (cA : Nat → ClassId) (D : va_G) (A : Nat → Prop) (tS : Nat → Nat) (nL : Nat) (ad0 : xm_A) (o0 : List (Nat × Nat)) (G : Nat → xm_S → Prop) : Prop :=
  ∀ pc S, G pc S ↔ ∀ (ad : xm_A) (H : Heap) (locs : List Loc) (ls : Array Slot), xm_Sd s cA D A tS nL ad0 o0 ad H locs ls S.1 S.2.1 S.2.2.1 → W p l e R s m args below meth c H locs S.2.2.2.1 S.2.2.2.2 Q (F0 m pc ls (S.2.1.map (xm_rv ad)))
def xm_Snd (R : Room) (G : Nat → xm_S → Prop) (pc : Nat) (f : xm_F) : Prop := ∀ S pc1 S1, f S = some (pc1, S1) → (S.2.2.2.1 ≤ S1.2.2.2.1 ∧ S.2.2.2.2 ≤ S1.2.2.2.2) ∧ (S1.2.2.2.1 ≤ R.cells → S1.2.2.2.2 ≤ R.slots → G pc1 S1 → G pc S)
theorem xm_ld_mem {lv : xm_L} {i : Nat} {v : xm_V} (h : xm_ld lv i = some v) : (i, v) ∈ lv := by
  induction lv with
  | nil => cases h
  | cons q r ih =>
    unfold xm_ld at h
    split at h
    · rename_i h1
      cases h
      subst h1
      exact List.mem_cons_self
    · exact List.mem_cons_of_mem _ (ih h)
theorem xm_ld_at {ls : Array Slot} {nL : Nat} {ad : xm_A} {lv : xm_L} {i : Nat} {v : xm_V} (hl : lv_has ls nL (lv.map (fun q => (q.1, xm_rv ad q.2)))) (h : xm_ld lv i = some v) : ls[i]? = some (.val (xm_rv ad v)) :=
  hl.2.2 (i, xm_rv ad v) (List.mem_map.mpr ⟨(i, v), xm_ld_mem h, rfl⟩)
theorem xm_st1_map {ad : xm_A} {lv : xm_L} {i : Nat} {v : xm_V} : (i, xm_rv ad v) :: (lv.map (fun q => (q.1, xm_rv ad q.2))).filter (fun q => !(q.1 == i) && !(q.1 + 1 == i && q.2.category == 2)) = (xm_sf1 lv i v).map (fun q => (q.1, xm_rv ad q.2)) := by
  unfold xm_sf1
  rw [List.map_cons, List.filter_map]
  congr 2
  apply List.filter_congr
  intro q _
  simp only [Function.comp, xm_rv_cat]
theorem xm_st2_map {ad : xm_A} {lv : xm_L} {i : Nat} {v : xm_V} : (i, xm_rv ad v) :: (lv.map (fun q => (q.1, xm_rv ad q.2))).filter (fun q => !(q.1 == i) && (!(q.1 == i + 1) && !(q.1 + 1 == i && q.2.category == 2))) = (xm_sf2 lv i v).map (fun q => (q.1, xm_rv ad q.2)) := by
  unfold xm_sf2
  rw [List.map_cons, List.filter_map]
  congr 2
  apply List.filter_congr
  intro q _
  simp only [Function.comp, xm_rv_cat]
theorem xm_st1_ok {M : xm_M} {lv : xm_L} {i : Nat} {v : xm_V} (h : ∀ x ∈ lv, xm_vok M x.2) (hv : xm_vok M v) : ∀ x ∈ xm_st1 lv i v, xm_vok M x.2 := by
  intro x hx
  rcases List.mem_cons.mp (xm_srt_mem hx) with rfl | hx
  · exact hv
  · exact h x (List.mem_filter.mp hx).1
theorem xm_srt_has {ls : Array Slot} {nL : Nat} {ad : xm_A} {l : xm_L} (h : lv_has ls nL (l.map (fun q => (q.1, xm_rv ad q.2)))) : lv_has ls nL ((xm_srt l).map (fun q => (q.1, xm_rv ad q.2))) := by
  refine ⟨h.1, h.2.1, fun q hq => ?_⟩
  obtain ⟨x, hx, rfl⟩ := List.mem_map.mp hq
  exact h.2.2 _ (List.mem_map.mpr ⟨x, xm_srt_mem hx, rfl⟩)
theorem xm_st2_ok {M : xm_M} {lv : xm_L} {i : Nat} {v : xm_V} (h : ∀ x ∈ lv, xm_vok M x.2) (hv : xm_vok M v) : ∀ x ∈ xm_st2 lv i v, xm_vok M x.2 := by
  intro x hx
  rcases List.mem_cons.mp (xm_srt_mem hx) with rfl | hx
  · exact hv
  · exact h x (List.mem_filter.mp hx).1
section XG
variable {p : Program} {l : Launch} {e : Env} {R : Room} {s : State} {m : MethodId} {args : Array Value} {below : List Frame} {meth : Method} {c : Code} {Q : State → Prop}
variable {cc : ByteArray} {nL : Nat} {own : String} {Ts : List Cond} {cA : Nat → ClassId} {D : va_G} {A : Nat → Prop} {tS : Nat → Nat} {ad0 : xm_A} {o0 : List (Nat × Nat)} {G : Nat → xm_S → Prop}
/-- a step on the stack alone -/
theorem sn_lift (hG : xm_IsG p l e R s m args below meth c Q cA D A tS nL ad0 o0 G) {pc n : Nat} {g : List xm_V → Option (List xm_V)} (hv : ∀ (M : xm_M) st st1, g st = some st1 → (∀ v ∈ st, xm_vok M v) → ∀ v ∈ st1, xm_vok M v)
    (row : ∀ st st1, g st = some st1 → ∀ (ad : xm_A) (H : Heap) (locs : List Loc) (cells slots : Nat) (ls : Array Slot), ls.size = nL → cells ≤ R.cells → slots ≤ R.slots → W p l e R s m args below meth c H locs cells slots Q (F0 m n ls (st1.map (xm_rv ad))) → W p l e R s m args below meth c H locs cells slots Q (F0 m pc ls (st.map (xm_rv ad)))) : xm_Snd R G pc (xs_lift n g) := by
  intro S pc1 S1 h
  unfold xs_lift at h
  split at h
  · rename_i st1 h1
    cases h
    refine ⟨⟨Nat.le_refl _, Nat.le_refl _⟩, fun h2 h3 k => (hG _ _).mpr fun ad H locs ls hA => ?_⟩
    obtain ⟨q1, q2, q3, q4, q5, q6, q7⟩ := hA
    exact row _ _ h1 ad H locs _ _ ls q4.1 h2 h3 ((hG _ _).mp k ad H locs ls ⟨q1, q2, q3, q4, ⟨q5.1, hv _ _ _ h1 q5.2.1, q5.2.2⟩, q6, q7⟩)
  · cases h
theorem xg_bin_inv {op : Int32 → Int32 → Int32} {st st1 : List xm_V} (h : xg_bin op st = some st1) : ∃ x y r, st = .inl y :: .inl x :: r ∧ st1 = .inl (op x y) :: r := by
  unfold xg_bin at h
  split at h
  · cases h; exact ⟨_, _, _, rfl, rfl⟩
  · cases h
theorem sn_push (hG : xm_IsG p l e R s m args below meth c Q cA D A tS nL ad0 o0 G) {pc n : Nat} {v : xm_V} (hv : ∀ M, xm_vok M v)
    (row : ∀ (ad : xm_A) (H : Heap) (locs : List Loc) (cells slots : Nat) (ls : Array Slot) (rest : List Value), W p l e R s m args below meth c H locs cells slots Q (F0 m n ls (xm_rv ad v :: rest)) → W p l e R s m args below meth c H locs cells slots Q (F0 m pc ls rest)) : xm_Snd R G pc (xs_lift n (xg_push v)) := by
  refine sn_lift hG (fun M st st1 h h1 w hw => ?_) (fun st st1 h ad H locs cells slots ls _ _ _ k => ?_)
  · cases h
    rcases List.mem_cons.mp hw with rfl | hw
    · exact hv M
    · exact h1 w hw
  · cases h
    exact row ad H locs cells slots ls _ k
theorem sn_bin (hG : xm_IsG p l e R s m args below meth c Q cA D A tS nL ad0 o0 G) {pc n : Nat} {op : Int32 → Int32 → Int32}
    (row : ∀ (H : Heap) (locs : List Loc) (cells slots : Nat) (ls : Array Slot) (rest : List Value) (x y : Int32), W p l e R s m args below meth c H locs cells slots Q (F0 m n ls (.int (op x y) :: rest)) → W p l e R s m args below meth c H locs cells slots Q (F0 m pc ls (.int y :: .int x :: rest))) : xm_Snd R G pc (xs_lift n (xg_bin op)) := by
  refine sn_lift hG (fun M st st1 h h1 w hw => ?_) (fun st st1 h ad H locs cells slots ls _ _ _ k => ?_) <;> obtain ⟨x, y, r, rfl, rfl⟩ := xg_bin_inv h
  · rcases List.mem_cons.mp hw with rfl | hw
    · trivial
    · exact h1 w (List.mem_cons_of_mem _ (List.mem_cons_of_mem _ hw))
  · exact row H locs cells slots ls _ x y k
theorem sn_binL (hG : xm_IsG p l e R s m args below meth c Q cA D A tS nL ad0 o0 G) {pc n : Nat} {op : Int64 → Int64 → Int64}
    (row : ∀ (H : Heap) (locs : List Loc) (cells slots : Nat) (ls : Array Slot) (rest : List Value) (x y : Int64), W p l e R s m args below meth c H locs cells slots Q (F0 m n ls (.long (op x y) :: rest)) → W p l e R s m args below meth c H locs cells slots Q (F0 m pc ls (.long y :: .long x :: rest))) : xm_Snd R G pc (xs_lift n (xg_binL op)) := by
  have inv : ∀ {st st1 : List xm_V}, xg_binL op st = some st1 → ∃ x y r, st = .inr (.inl y) :: .inr (.inl x) :: r ∧ st1 = .inr (.inl (op x y)) :: r := by
    intro st st1 h
    unfold xg_binL at h
    split at h
    · cases h; exact ⟨_, _, _, rfl, rfl⟩
    · cases h
  refine sn_lift hG (fun M st st1 h h1 w hw => ?_) (fun st st1 h ad H locs cells slots ls _ _ _ k => ?_) <;> obtain ⟨x, y, r, rfl, rfl⟩ := inv h
  · rcases List.mem_cons.mp hw with rfl | hw
    · trivial
    · exact h1 w (List.mem_cons_of_mem _ (List.mem_cons_of_mem _ hw))
  · exact row H locs cells slots ls _ x y k
theorem sn_div (hG : xm_IsG p l e R s m args below meth c Q cA D A tS nL ad0 o0 G) {pc n : Nat}
    (row : ∀ (H : Heap) (locs : List Loc) (cells slots : Nat) (ls : Array Slot) (rest : List Value) (x y : Int32), ¬ y = 0 → W p l e R s m args below meth c H locs cells slots Q (F0 m n ls (.int (x / y) :: rest)) → W p l e R s m args below meth c H locs cells slots Q (F0 m pc ls (.int y :: .int x :: rest))) : xm_Snd R G pc (xs_lift n xg_div) := by
  have inv : ∀ {st st1 : List xm_V}, xg_div st = some st1 → ∃ x y r, ¬ y = 0 ∧ st = .inl y :: .inl x :: r ∧ st1 = .inl (x / y) :: r := by
    intro st st1 h
    unfold xg_div at h
    split at h
    · split at h
      · cases h
      · rename_i h0; cases h; exact ⟨_, _, _, h0, rfl, rfl⟩
    · cases h
  refine sn_lift hG (fun M st st1 h h1 w hw => ?_) (fun st st1 h ad H locs cells slots ls _ _ _ k => ?_) <;> obtain ⟨x, y, r, h0, rfl, rfl⟩ := inv h
  · rcases List.mem_cons.mp hw with rfl | hw
    · trivial
    · exact h1 w (List.mem_cons_of_mem _ (List.mem_cons_of_mem _ hw))
  · exact row H locs cells slots ls _ x y h0 k
theorem sn_divL (hG : xm_IsG p l e R s m args below meth c Q cA D A tS nL ad0 o0 G) {pc n : Nat}
    (row : ∀ (H : Heap) (locs : List Loc) (cells slots : Nat) (ls : Array Slot) (rest : List Value) (x y : Int64), ¬ y = 0 → W p l e R s m args below meth c H locs cells slots Q (F0 m n ls (.long (x / y) :: rest)) → W p l e R s m args below meth c H locs cells slots Q (F0 m pc ls (.long y :: .long x :: rest))) : xm_Snd R G pc (xs_lift n xg_divL) := by
  have inv : ∀ {st st1 : List xm_V}, xg_divL st = some st1 → ∃ x y r, ¬ y = 0 ∧ st = .inr (.inl y) :: .inr (.inl x) :: r ∧ st1 = .inr (.inl (x / y)) :: r := by
    intro st st1 h
    unfold xg_divL at h
    split at h
    · split at h
      · cases h
      · rename_i h0; cases h; exact ⟨_, _, _, h0, rfl, rfl⟩
    · cases h
  refine sn_lift hG (fun M st st1 h h1 w hw => ?_) (fun st st1 h ad H locs cells slots ls _ _ _ k => ?_) <;> obtain ⟨x, y, r, h0, rfl, rfl⟩ := inv h
  · rcases List.mem_cons.mp hw with rfl | hw
    · trivial
    · exact h1 w (List.mem_cons_of_mem _ (List.mem_cons_of_mem _ hw))
  · exact row H locs cells slots ls _ x y h0 k
/-- a step that takes one value and gives one -/
theorem sn_one (hG : xm_IsG p l e R s m args below meth c Q cA D A tS nL ad0 o0 G) {pc n : Nat} {T : Type} {a b : T → xm_V} {g : List xm_V → Option (List xm_V)} (inv : ∀ {st st1 : List xm_V}, g st = some st1 → ∃ x r, st = a x :: r ∧ st1 = b x :: r) (hb : ∀ x M, xm_vok M (b x))
    (row : ∀ (ad : xm_A) (H : Heap) (locs : List Loc) (cells slots : Nat) (ls : Array Slot) (rest : List Value) (x : T), W p l e R s m args below meth c H locs cells slots Q (F0 m n ls (xm_rv ad (b x) :: rest)) → W p l e R s m args below meth c H locs cells slots Q (F0 m pc ls (xm_rv ad (a x) :: rest))) : xm_Snd R G pc (xs_lift n g) := by
  refine sn_lift hG (fun M st st1 h h1 w hw => ?_) (fun st st1 h ad H locs cells slots ls _ _ _ k => ?_) <;> obtain ⟨x, r, rfl, rfl⟩ := inv h
  · rcases List.mem_cons.mp hw with rfl | hw
    · exact hb x M
    · exact h1 w (List.mem_cons_of_mem _ hw)
  · exact row ad H locs cells slots ls _ x k
theorem xg_un_inv {op : Int32 → Int32} {st st1 : List xm_V} (h : xg_un op st = some st1) : ∃ (x : Int32) (r : List xm_V), st = .inl x :: r ∧ st1 = .inl (op x) :: r := by
  unfold xg_un at h
  split at h
  · cases h; exact ⟨_, _, rfl, rfl⟩
  · cases h
theorem xg_unL_inv {op : Int64 → Int64} {st st1 : List xm_V} (h : xg_unL op st = some st1) : ∃ (x : Int64) (r : List xm_V), st = .inr (.inl x) :: r ∧ st1 = .inr (.inl (op x)) :: r := by
  unfold xg_unL at h
  split at h
  · cases h; exact ⟨_, _, rfl, rfl⟩
  · cases h
theorem xg_i2l_inv {st st1 : List xm_V} (h : xg_i2l st = some st1) : ∃ (x : Int32) (r : List xm_V), st = .inl x :: r ∧ st1 = .inr (.inl x.toInt64) :: r := by
  unfold xg_i2l at h
  split at h
  · cases h; exact ⟨_, _, rfl, rfl⟩
  · cases h
theorem xg_l2i_inv {st st1 : List xm_V} (h : xg_l2i st = some st1) : ∃ (x : Int64) (r : List xm_V), st = .inr (.inl x) :: r ∧ st1 = .inl x.toInt32 :: r := by
  unfold xg_l2i at h
  split at h
  · cases h; exact ⟨_, _, rfl, rfl⟩
  · cases h
theorem sn_lcmp (hG : xm_IsG p l e R s m args below meth c Q cA D A tS nL ad0 o0 G) {pc n : Nat}
    (row : ∀ (H : Heap) (locs : List Loc) (cells slots : Nat) (ls : Array Slot) (rest : List Value) (x y : Int64), W p l e R s m args below meth c H locs cells slots Q (F0 m n ls (.int (lg_cmp x y) :: rest)) → W p l e R s m args below meth c H locs cells slots Q (F0 m pc ls (.long y :: .long x :: rest))) : xm_Snd R G pc (xs_lift n xg_lcmp) := by
  have inv : ∀ {st st1 : List xm_V}, xg_lcmp st = some st1 → ∃ x y r, st = .inr (.inl y) :: .inr (.inl x) :: r ∧ st1 = .inl (lg_cmp x y) :: r := by
    intro st st1 h
    unfold xg_lcmp at h
    split at h
    · cases h; exact ⟨_, _, _, rfl, rfl⟩
    · cases h
  refine sn_lift hG (fun M st st1 h h1 w hw => ?_) (fun st st1 h ad H locs cells slots ls _ _ _ k => ?_) <;> obtain ⟨x, y, r, rfl, rfl⟩ := inv h
  · rcases List.mem_cons.mp hw with rfl | hw
    · trivial
    · exact h1 w (List.mem_cons_of_mem _ (List.mem_cons_of_mem _ hw))
  · exact row H locs cells slots ls _ x y k
theorem sn_dup (hG : xm_IsG p l e R s m args below meth c Q cA D A tS nL ad0 o0 G) {pc n : Nat}
    (row : ∀ (H : Heap) (locs : List Loc) (cells slots : Nat) (ls : Array Slot) (rest : List Value) (v : Value), v.category = 1 → W p l e R s m args below meth c H locs cells slots Q (F0 m n ls (v :: v :: rest)) → W p l e R s m args below meth c H locs cells slots Q (F0 m pc ls (v :: rest))) : xm_Snd R G pc (xs_lift n xg_dup) := by
  have inv : ∀ {st st1 : List xm_V}, xg_dup st = some st1 → ∃ v r, xm_cat v = 1 ∧ st = v :: r ∧ st1 = v :: v :: r := by
    intro st st1 h
    unfold xg_dup at h
    split at h
    · split at h
      · rename_i h0; cases h; exact ⟨_, _, h0, rfl, rfl⟩
      · cases h
    · cases h
  refine sn_lift hG (fun M st st1 h h1 w hw => ?_) (fun st st1 h ad H locs cells slots ls _ _ _ k => ?_) <;> obtain ⟨v, r, h0, rfl, rfl⟩ := inv h
  · rcases List.mem_cons.mp hw with rfl | hw
    · exact h1 _ List.mem_cons_self
    · exact h1 w hw
  · exact row H locs cells slots ls _ _ (by rw [xm_rv_cat]; exact h0) k
theorem sn_dup2 (hG : xm_IsG p l e R s m args below meth c Q cA D A tS nL ad0 o0 G) {pc n : Nat}
    (row : ∀ (H : Heap) (locs : List Loc) (cells slots : Nat) (ls : Array Slot) (rest : List Value) (v w : Value), v.category = 1 → w.category = 1 → W p l e R s m args below meth c H locs cells slots Q (F0 m n ls (v :: w :: v :: w :: rest)) → W p l e R s m args below meth c H locs cells slots Q (F0 m pc ls (v :: w :: rest))) : xm_Snd R G pc (xs_lift n xg_dup2) := by
  have inv : ∀ {st st1 : List xm_V}, xg_dup2 st = some st1 → ∃ v w r, (xm_cat v = 1 ∧ xm_cat w = 1) ∧ st = v :: w :: r ∧ st1 = v :: w :: v :: w :: r := by
    intro st st1 h
    unfold xg_dup2 at h
    split at h
    · split at h
      · rename_i h0; cases h; exact ⟨_, _, _, h0, rfl, rfl⟩
      · cases h
    · cases h
  refine sn_lift hG (fun M st st1 h h1 w hw => ?_) (fun st st1 h ad H locs cells slots ls _ _ _ k => ?_) <;> obtain ⟨v, z, r, h0, rfl, rfl⟩ := inv h
  · rcases List.mem_cons.mp hw with rfl | hw
    · exact h1 _ List.mem_cons_self
    · rcases List.mem_cons.mp hw with rfl | hw
      · exact h1 _ (List.mem_cons_of_mem _ List.mem_cons_self)
      · exact h1 w hw
  · exact row H locs cells slots ls _ _ _ (by rw [xm_rv_cat]; exact h0.1) (by rw [xm_rv_cat]; exact h0.2) k
theorem xm_cat_sum {ad : xm_A} {r : List xm_V} : ((r.map (xm_rv ad)).map (fun v => v.category)).sum = (r.map xm_cat).sum := by
  rw [List.map_map]
  congr 2
  funext v
  exact xm_rv_cat ad v
theorem sn_mbin (hG : xm_IsG p l e R s m args below meth c Q cA D A tS nL ad0 o0 G) {pc n : Nat} {op : Int32 → Int32 → Int32}
    (row : ∀ (H : Heap) (locs : List Loc) (cells slots : Nat) (ls : Array Slot) (rest : List Value) (x y : Int32), ls.size = nL → cells ≤ R.cells → slots ≤ R.slots → (rest.map fun v => v.category).sum ≤ 8 → W p l e R s m args below meth c H locs cells slots Q (F0 m n ls (.int (op x y) :: rest)) → W p l e R s m args below meth c H locs cells slots Q (F0 m pc ls (.int y :: .int x :: rest))) : xm_Snd R G pc (xs_lift n (xg_mbin op)) := by
  have inv : ∀ {st st1 : List xm_V}, xg_mbin op st = some st1 → ∃ x y r, (r.map xm_cat).sum ≤ 8 ∧ st = .inl y :: .inl x :: r ∧ st1 = .inl (op x y) :: r := by
    intro st st1 h
    unfold xg_mbin at h
    split at h
    · split at h
      · rename_i h0; cases h; exact ⟨_, _, _, h0, rfl, rfl⟩
      · cases h
    · cases h
  refine sn_lift hG (fun M st st1 h h1 w hw => ?_) (fun st st1 h ad H locs cells slots ls a1 a2 a3 k => ?_) <;> obtain ⟨x, y, r, h0, rfl, rfl⟩ := inv h
  · rcases List.mem_cons.mp hw with rfl | hw
    · trivial
    · exact h1 w (List.mem_cons_of_mem _ (List.mem_cons_of_mem _ hw))
  · exact row H locs cells slots ls _ x y a1 a2 a3 (by rw [xm_cat_sum]; exact h0) k
theorem sn_mun (hG : xm_IsG p l e R s m args below meth c Q cA D A tS nL ad0 o0 G) {pc n : Nat} {op : Int32 → Int32}
    (row : ∀ (H : Heap) (locs : List Loc) (cells slots : Nat) (ls : Array Slot) (rest : List Value) (x : Int32), ls.size = nL → cells ≤ R.cells → slots ≤ R.slots → (rest.map fun v => v.category).sum ≤ 8 → W p l e R s m args below meth c H locs cells slots Q (F0 m n ls (.int (op x) :: rest)) → W p l e R s m args below meth c H locs cells slots Q (F0 m pc ls (.int x :: rest))) : xm_Snd R G pc (xs_lift n (xg_mun op)) := by
  have inv : ∀ {st st1 : List xm_V}, xg_mun op st = some st1 → ∃ x r, (r.map xm_cat).sum ≤ 8 ∧ st = .inl x :: r ∧ st1 = .inl (op x) :: r := by
    intro st st1 h
    unfold xg_mun at h
    split at h
    · split at h
      · rename_i h0; cases h; exact ⟨_, _, h0, rfl, rfl⟩
      · cases h
    · cases h
  refine sn_lift hG (fun M st st1 h h1 w hw => ?_) (fun st st1 h ad H locs cells slots ls a1 a2 a3 k => ?_) <;> obtain ⟨x, r, h0, rfl, rfl⟩ := inv h
  · rcases List.mem_cons.mp hw with rfl | hw
    · trivial
    · exact h1 w (List.mem_cons_of_mem _ hw)
  · exact row H locs cells slots ls _ x a1 a2 a3 (by rw [xm_cat_sum]; exact h0) k
theorem sn_mbinL (hG : xm_IsG p l e R s m args below meth c Q cA D A tS nL ad0 o0 G) {pc n : Nat} {op : Int64 → Int64 → Int64}
    (row : ∀ (H : Heap) (locs : List Loc) (cells slots : Nat) (ls : Array Slot) (rest : List Value) (x y : Int64), ls.size = nL → cells ≤ R.cells → slots ≤ R.slots → (rest.map fun v => v.category).sum ≤ 8 → W p l e R s m args below meth c H locs cells slots Q (F0 m n ls (.long (op x y) :: rest)) → W p l e R s m args below meth c H locs cells slots Q (F0 m pc ls (.long y :: .long x :: rest))) : xm_Snd R G pc (xs_lift n (xg_mbinL op)) := by
  have inv : ∀ {st st1 : List xm_V}, xg_mbinL op st = some st1 → ∃ x y r, (r.map xm_cat).sum ≤ 8 ∧ st = .inr (.inl y) :: .inr (.inl x) :: r ∧ st1 = .inr (.inl (op x y)) :: r := by
    intro st st1 h
    unfold xg_mbinL at h
    split at h
    · split at h
      · rename_i h0; cases h; exact ⟨_, _, _, h0, rfl, rfl⟩
      · cases h
    · cases h
  refine sn_lift hG (fun M st st1 h h1 w hw => ?_) (fun st st1 h ad H locs cells slots ls a1 a2 a3 k => ?_) <;> obtain ⟨x, y, r, h0, rfl, rfl⟩ := inv h
  · rcases List.mem_cons.mp hw with rfl | hw
    · trivial
    · exact h1 w (List.mem_cons_of_mem _ (List.mem_cons_of_mem _ hw))
  · exact row H locs cells slots ls _ x y a1 a2 a3 (by rw [xm_cat_sum]; exact h0) k
theorem sn_obj (hG : xm_IsG p l e R s m args below meth c Q cA D A tS nL ad0 o0 G) {pc n : Nat}
    (row : ∀ (H : Heap) (locs : List Loc) (cells slots : Nat) (ls : Array Slot) (rest : List Value) (a : Nat), ls.size = nL → (rest.map fun v => v.category).sum ≤ 8 → W p l e R s m args below meth c H locs cells slots Q (F0 m n ls rest) → W p l e R s m args below meth c H locs cells slots Q (F0 m pc ls (.ref a :: rest))) : xm_Snd R G pc (xs_lift n xg_obj) := by
  have inv : ∀ {st st1 : List xm_V}, xg_obj st = some st1 → ∃ q, (st1.map xm_cat).sum ≤ 8 ∧ st = .inr (.inr (some q)) :: st1 := by
    intro st st1 h
    unfold xg_obj at h
    split at h
    · split at h
      · rename_i h0; cases h; exact ⟨_, h0, rfl⟩
      · cases h
    · cases h
  refine sn_lift hG (fun M st st1 h h1 w hw => ?_) (fun st st1 h ad H locs cells slots ls a1 _ _ k => ?_) <;> obtain ⟨q, h0, rfl⟩ := inv h
  · exact h1 w (List.mem_cons_of_mem _ hw)
  · exact row H locs cells slots ls _ (ad q) a1 (by rw [xm_cat_sum]; exact h0) k
end XG
