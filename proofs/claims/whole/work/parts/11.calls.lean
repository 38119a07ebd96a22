/-! CALLS, and the whole: what the calculus says of a method, the machine does -/
def xm_room (d mc ms : Nat) : Room := { frames := d, cells := mc, slots := ms, locals := 40 * d }
def xm_Pc (cA : Nat → ClassId) (D : va_G) (tS : Nat → Nat) (ad : xm_A) (M : xm_M) (as : List xm_V) (sz : Nat) : Array Value → State → Prop :=
  va_Pc (as.map (xm_rv ad)) (fun U => U.heap.size = sz ∧ va_P D vwCl (xm_ws cA ad M) U.heap ∧ va_K D vwCl (xm_tys cA) U ∧ va_D (fun _ => True) (xm_ws cA ad M) ∧ xm_Sx tS (va_A (xm_ws cA ad M) sz) U U.heap ∧ xm_Nx U)
def xm_Qc (cA : Nat → ClassId) (D : va_G) (tS : Nat → Nat) (ad : xm_A) (M : xm_M) (sz : Nat) (v : Option xm_V) (M' : xm_M) : Array Value → State → Outcome → State → Prop := fun _ st oc t =>
  (∃ ad' : xm_A, oc = .returned (v.map (xm_rv ad')) ∧ va_P D vwCl (xm_ws cA ad' M') t.heap ∧ va_D (va_A (xm_ws cA ad M) sz) (xm_ws cA ad' M') ∧ (∀ q ∈ xm_o M, ad' q = ad q ∧ q ∈ xm_o M') ∧ xm_St ad' tS ∧ xm_Ok M' [] v.toList) ∧ va_F (va_A (xm_ws cA ad M) sz) st t
theorem xm_Pc_blind {cA : Nat → ClassId} {D : va_G} {tS : Nat → Nat} {ad : xm_A} {M : xm_M} {as : List xm_V} {sz : Nat} : FrameBlind (xm_Pc cA D tS ad M as sz) := by
  intro a U g mk h
  obtain ⟨h1, h2, h3, h4, h5, h6, h7⟩ := h
  exact ⟨h1, h2, h3, va_K.moved (u := U) (U := U.calling g mk a) (Vm.Alike.refl U.vm) h4, h5, xm_Sx.moved (u := U) (U := U.calling g mk a) (Vm.Alike.refl U.vm) h6, xm_Nx.same (u := U) (U := U.calling g mk a) rfl h7⟩
section XC
variable {p : Program} {l : Launch} {e : Env} {R : Room} {s : State} {m : MethodId} {args : Array Value} {below : List Frame} {meth : Method} {c : Code} {Q : State → Prop}
variable {cc : ByteArray} {nL : Nat} {own : String} {Ts : List Cond} {cA : Nat → ClassId} {D : va_G} {A : Nat → Prop} {tS : Nat → Nat} {ad0 : xm_A} {o0 : List (Nat × Nat)} {G : Nat → xm_S → Prop}
/-- what a call's row gives: any contract of the callee runs here. C: the receiver's class -/
def xm_Call (p : Program) (l : Launch) (e : Env) (R : Room) (s : State) (m : MethodId) (args : Array Value) (below : List Frame) (meth : Method) (c : Code) (nL pc : Nat) (y : MethodName) (wsy : List Cond) (maxL k : Nat) (C : Option String) : Prop :=
  ∀ (rm : Room) (Pc : Array Value → State → Prop) (Qc : Array Value → State → Outcome → State → Prop) (mc ms : Nat) (free : Addr → Prop) (H : Heap) (locs : List Loc) (cells slots : Nat) (ls : Array Slot) (As rest : List Value), Met l y wsy rm Pc Qc mc ms free → rm.cells = mc → rm.slots = ms → rm.frames + 1 ≤ R.frames → 8 + (maxL + 11) + rm.locals ≤ R.locals → FrameBlind Pc →
    (∀ C0, C = some C0 → ∃ b As', As = .ref b :: As' ∧ ∃ cellB : Cell, H[b]? = some cellB ∧ cellB.vm.isStatics = false ∧ s.vm.findClass C0 = some cellB.cls) → (∀ U : State, U.heap = H → s.WarmedH U.vm → Pc As.toArray U) → As.length = k → (rest.map fun v => v.category).sum ≤ 8 → ls.size = nL → cells + mc ≤ R.cells ∧ slots + ms ≤ R.slots →
    va_Run p l e R s m args below meth c H locs cells slots mc ms (F0 m pc ls (As.reverse ++ rest)) rest (Qc As.toArray) free
theorem xm_goodIn {y z : MethodName} {b b' : ByteArray} {n n' : Nat} {r r' : Option FieldType} {us : List Cond} (hz : Cond.code z b' n' r' ∈ xm_W) (hu : ∀ w ∈ us, w ∈ xm_W) : GoodIn (Cond.code y b n r :: xm_W) (us ++ (Cond.code z b' n' r' :: xm_W)) := by
  intro w hw
  have h9 : w ∈ xm_W := by
    rcases List.mem_append.mp hw with h | h
    · exact hu w h
    · rcases List.mem_cons.mp h with rfl | h
      · exact hz
      · exact h
  exact ⟨List.mem_cons_of_mem _ h9, xm_W_good h9⟩
theorem xm_callV {x y : MethodName} {bx by' : ByteArray} {nx ny k pc index : Nat} {rx ry : Option FieldType} {C : String} (S : CallFix p m c cc nL s args (Cond.code x bx nx rx :: xm_W) own) (w1 : Cond.methodLink own index y ∈ xm_W) (w2 : Cond.instanceMethod y ∈ xm_W) (w3 : Cond.selects C y y ∈ xm_W) (w4 : Cond.initialized C ∈ xm_W) (w5 : Cond.code y by' ny ry ∈ xm_W)
    (hd : y.cls = C ∧ y.cls ≠ "java/lang/invoke/MethodHandle" ∧ y.cls ≠ "java/lang/invoke/VarHandle" ∧ (parseMethodDescriptor y.desc).map (fun d => d.parameters.length) = some k) (hdg : decode cc pc = .ok (.invokevirtual index, 3)) : xm_Call p l e R s m args below meth c nL pc y (Cond.code y by' ny ry :: xm_W) ny (k + 1) (some C) := by
  intro rm Pc Qc mc ms free H locs cells slots ls As rest hM h1 h2 h3 h4 hbl hrecv hpre hlen hcat hsz hf
  obtain ⟨b, As', rfl, hc⟩ := hrecv C rfl
  have hg : GoodIn (Cond.code x bx nx rx :: xm_W) (wsV own index C y (Cond.code y by' ny ry :: xm_W)) := xm_goodIn w5 (fun w hw => by
    simp only [List.mem_cons, List.not_mem_nil, or_false] at hw
    rcases hw with rfl | rfl | rfl | rfl
    · exact w1
    · exact w2
    · exact w3
    · exact w4)
  have := va_runV (As := As') (rest := rest) (g := F0 m pc ls (As'.reverse ++ .ref b :: rest)) (H := H) (e := e) (R := R) (below := below) (meth := meth) (locs := locs) (cells := cells) (slots := slots) S hM (cwV k S.2.2.2.2 hg rfl h1 h2 hd ⟨h3, h4⟩) ⟨hbl, hc, hpre⟩ rfl (by simpa using hlen) hsz rfl (lv_room hcat) hdg hf
  rw [List.reverse_cons, List.append_assoc]
  exact this
theorem xm_callS {x y : MethodName} {bx by' : ByteArray} {nx ny k pc index : Nat} {rx ry : Option FieldType} (S : CallFix p m c cc nL s args (Cond.code x bx nx rx :: xm_W) own) (w1 : Cond.methodLink own index y ∈ xm_W) (w2 : Cond.static y ∈ xm_W) (w4 : Cond.initialized y.cls ∈ xm_W) (w5 : Cond.code y by' ny ry ∈ xm_W)
    (hd : y.cls ≠ "java/lang/invoke/MethodHandle" ∧ y.cls ≠ "java/lang/invoke/VarHandle" ∧ (parseMethodDescriptor y.desc).map (fun d => d.parameters.length) = some k) (hdg : decode cc pc = .ok (.invokestatic index, 3)) : xm_Call p l e R s m args below meth c nL pc y (Cond.code y by' ny ry :: xm_W) ny k none := by
  intro rm Pc Qc mc ms free H locs cells slots ls As rest hM h1 h2 h3 h4 hbl hrecv hpre hlen hcat hsz hf
  have hg : GoodIn (Cond.code x bx nx rx :: xm_W) (va_wsS own index y (Cond.code y by' ny ry :: xm_W)) := xm_goodIn w5 (fun w hw => by
    simp only [List.mem_cons, List.not_mem_nil, or_false] at hw
    rcases hw with rfl | rfl | rfl
    · exact w1
    · exact w2
    · exact w4)
  exact va_runS (As := As) (rest := rest) (g := F0 m pc ls (As.reverse ++ rest)) S hM (va_cwS k S.2.2.2.2 hg rfl h1 h2 hd ⟨h3, h4⟩) ⟨hbl, hpre⟩ rfl hlen hsz rfl (lv_room hcat) hdg hf
theorem xm_callI {x y : MethodName} {bx by' : ByteArray} {nx ny k pc index : Nat} {rx : Option FieldType} {C : String} (S : CallFix p m c cc nL s args (Cond.code x bx nx rx :: xm_W) own) (w1 : Cond.methodLink own index y ∈ xm_W) (w2 : Cond.instanceMethod y ∈ xm_W) (w4 : Cond.initialized y.cls ∈ xm_W) (w5 : Cond.code y by' ny none ∈ xm_W) (hy : y.name = "<init>")
    (hd : y.cls ≠ "java/lang/invoke/MethodHandle" ∧ y.cls ≠ "java/lang/invoke/VarHandle" ∧ (parseMethodDescriptor y.desc).map (fun d => d.parameters.length) = some k) (hdg : decode cc pc = .ok (.invokespecial index, 3)) : xm_Call p l e R s m args below meth c nL pc y (Cond.code y by' ny none :: xm_W) ny (k + 1) (some C) := by
  intro rm Pc Qc mc ms free H locs cells slots ls As rest hM h1 h2 h3 h4 hbl hrecv hpre hlen hcat hsz hf
  obtain ⟨b, As', rfl, hc⟩ := hrecv C rfl
  have hg : GoodIn (Cond.code x bx nx rx :: xm_W) (Cond.code y by' ny none :: xm_W) := xm_goodIn (us := []) w5 (fun w hw => by cases hw)
  have hb : ∀ w ∈ xm_W, w.before args s = true := fun w hw => S.2.2.2.2 w (List.mem_cons_of_mem _ hw)
  have := va_runI (As := As') (rest := rest) (b := b) (g := F0 m pc ls (As'.reverse ++ .ref b :: rest)) (H := H) (e := e) (R := R) (below := below) (meth := meth) (locs := locs) (cells := cells) (slots := slots) S hM (cwI k S.2.2.2.2 hg rfl h1 h2 (hb _ w4) (hb _ w1) (hb _ w2) hy hd ⟨h3, h4⟩) ⟨hbl, hpre⟩ rfl (by simpa using hlen) hsz rfl (lv_room hcat) hdg hf
  rw [List.reverse_cons, List.append_assoc]
  exact this
theorem xm_callIN {x y : MethodName} {bx by' : ByteArray} {nx ny k pc index : Nat} {rx : Option FieldType} {C host : String} (S : CallFix p m c cc nL s args (Cond.code x bx nx rx :: xm_W) own) (w1 : va_Nw (.methodLinkNest own index y host) s) (w2 : Cond.instanceMethod y ∈ xm_W) (w4 : Cond.initialized y.cls ∈ xm_W) (w5 : Cond.code y by' ny none ∈ xm_W) (hy : y.name = "<init>")
    (hd : y.cls ≠ "java/lang/invoke/MethodHandle" ∧ y.cls ≠ "java/lang/invoke/VarHandle" ∧ (parseMethodDescriptor y.desc).map (fun d => d.parameters.length) = some k) (hdg : decode cc pc = .ok (.invokespecial index, 3)) : xm_Call p l e R s m args below meth c nL pc y (Cond.code y by' ny none :: xm_W) ny (k + 1) (some C) := by
  intro rm Pc Qc mc ms free H locs cells slots ls As rest hM h1 h2 h3 h4 hbl hrecv hpre hlen hcat hsz hf
  obtain ⟨b, As', rfl, hc⟩ := hrecv C rfl
  have hg : GoodIn (Cond.code x bx nx rx :: xm_W) (Cond.code y by' ny none :: xm_W) := xm_goodIn (us := []) w5 (fun w hw => by cases hw)
  have hb : ∀ w ∈ xm_W, w.before args s = true := fun w hw => S.2.2.2.2 w (List.mem_cons_of_mem _ hw)
  have := va_runIN (As := As') (rest := rest) (b := b) (g := F0 m pc ls (As'.reverse ++ .ref b :: rest)) (H := H) (e := e) (R := R) (below := below) (meth := meth) (locs := locs) (cells := cells) (slots := slots) S hM ⟨va_cnB k S.2.2.2.2 hg rfl h1 h2 w1 (hb _ w4) hd ⟨h3, h4⟩, hy, hb _ w2⟩ ⟨hbl, hpre⟩ rfl (by simpa using hlen) hsz rfl (lv_room hcat) hdg hf
  rw [List.reverse_cons, List.append_assoc]
  exact this
theorem xm_rv_agree {ad ad' : xm_A} {tS : Nat → Nat} {M : xm_M} {v : xm_V} (h : ∀ q ∈ xm_o M, ad' q = ad q) (ha : xm_St ad tS) (ha' : xm_St ad' tS) (hv : xm_vok M v) : xm_rv ad' v = xm_rv ad v := by
  rcases v with x | x | r
  · rfl
  · rfl
  · cases r with
    | none => rfl
    | some q =>
      show va_rf (some (ad' q)) = va_rf (some (ad q))
      rcases hv with h9 | h9
      · rw [h q h9]
      · rw [ha q h9, ha' q h9]
end XC
