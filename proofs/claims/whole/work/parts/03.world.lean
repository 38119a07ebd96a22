/-! THE WORLD that a memory stands for: which kind of cell each tag is -/
/-- kind (0 an object, 1 int[], 2 long[], 3 boolean[], 4 Aircraft[], 5 Pair[], 6 a table that nobody writes), the object's number among the names, its fields: 0 int, 1 long, 2 reference, 3 boolean -/
def xm_kd (c : Nat) : Nat × Nat × List Nat := match c with
  | 0 => (0, 0, [3, 3, 0, 0, 0, 0, 0, 0])
  | 1 => (0, 1, [2, 2, 2, 2, 1, 0, 3, 0, 3, 3, 0])
  | 2 => (0, 2, [2])
  | 3 => (0, 3, [0, 0, 0, 0, 0])
  | 4 => (0, 4, [2, 2, 2, 2])
  | 5 => (0, 5, [0, 2, 2, 2, 2, 2, 2, 2, 2, 2, 2, 2, 0, 0, 1, 1, 1, 1, 1, 1, 1, 1])
  | 6 => (1, 0, [])
  | 7 => (1, 0, [])
  | 8 => (3, 0, [])
  | 9 => (3, 0, [])
  | 10 => (1, 0, [])
  | 11 => (1, 0, [])
  | 12 => (1, 0, [])
  | 13 => (1, 0, [])
  | 14 => (3, 0, [])
  | 15 => (2, 0, [])
  | 16 => (1, 0, [])
  | 17 => (1, 0, [])
  | 18 => (4, 0, [])
  | 19 => (5, 0, [])
  | 20 => (2, 0, [])
  | _ => (6, 0, [])
abbrev xm_o (M : xm_M) : List (Nat × Nat) := M.2.2.2.2
abbrev xm_A : Type := Nat × Nat → Nat
def xm_rv (ad : xm_A) (v : xm_V) : Value := match v with
  | .inl x => .int x
  | .inr (.inl x) => .long x
  | .inr (.inr r) => va_rf (r.map ad)
theorem xm_rv_cat (ad : xm_A) (v : xm_V) : (xm_rv ad v).category = xm_cat v := by
  rcases v with x | x | r
  · rfl
  · rfl
  · cases r <;> rfl
def xm_fv (ad : xm_A) (M : xm_M) (q : Nat × Nat) (k t : Nat) : Value := match t with
  | 1 => .long (M.2.1 q.1 k q.2)
  | 2 => va_rf ((M.2.2.1 q.1 k q.2).map ad)
  | _ => .int (M.1 q.1 k q.2)
def xm_cell (cA : Nat → ClassId) (ad : xm_A) (M : xm_M) (q : Nat × Nat) : va_E := match (xm_kd q.1).1 with
  | 0 => .inr ((xm_kd q.1).2.1, (xm_kd q.1).2.2.mapIdx (xm_fv ad M q))
  | 2 => .inl (cA 2, M.2.2.2.1 q.1 q.2, .inr (.inl (fun j => M.2.1 q.1 j q.2)))
  | 4 => .inl (cA 4, M.2.2.2.1 q.1 q.2, .inr (.inr (.inr (.inr (fun j => (M.2.2.1 q.1 j q.2).map ad)))))
  | 5 => .inl (cA 5, M.2.2.2.1 q.1 q.2, .inr (.inr (.inr (.inr (fun j => (M.2.2.1 q.1 j q.2).map ad)))))
  | k => .inl (cA k, M.2.2.2.1 q.1 q.2, .inl (fun j => M.1 q.1 j q.2))
def xm_ws (cA : Nat → ClassId) (ad : xm_A) (M : xm_M) : va_W := (xm_o M).map (fun q => (ad q, xm_cell cA ad M q))
abbrev xm_tys (cA : Nat → ClassId) : List (ClassId × FieldType) := [(cA 0, .int), (cA 1, .int), (cA 2, .long), (cA 3, .boolean), (cA 4, .object RX0), (cA 5, .object RX1)]
theorem xm_in {cA : Nat → ClassId} {ad : xm_A} {M : xm_M} {q : Nat × Nat} (h : q ∈ xm_o M) : ∃ k : Nat, (xm_o M)[k]? = some q ∧ (xm_ws cA ad M)[k]? = some (ad q, xm_cell cA ad M q) := by
  obtain ⟨k, hk⟩ := List.getElem?_of_mem h
  exact ⟨k, hk, by simp [xm_ws, List.getElem?_map, hk]⟩
theorem xm_inj {cA : Nat → ClassId} {ad : xm_A} {M : xm_M} {A : Nat → Prop} (hD : va_D A (xm_ws cA ad M)) {q q' : Nat × Nat} (h : q ∈ xm_o M) (h' : q' ∈ xm_o M) (e : ad q = ad q') : q = q' := by
  obtain ⟨k, hk, hw⟩ := xm_in (cA := cA) (ad := ad) h
  obtain ⟨j, hj, hv⟩ := xm_in (cA := cA) (ad := ad) h'
  have := hD.1 k j _ _ hw hv e
  subst this
  exact Option.some.inj (hk.symm.trans hj)
theorem xm_set {cA : Nat → ClassId} {ad : xm_A} {M M' : xm_M} {A : Nat → Prop} {q : Nat × Nat} {k : Nat} (hD : va_D A (xm_ws cA ad M)) (hk : (xm_o M)[k]? = some q) (ho : xm_o M' = xm_o M) (hc : ∀ q', q' ≠ q → xm_cell cA ad M' q' = xm_cell cA ad M q') : (xm_ws cA ad M).set k (ad q, xm_cell cA ad M' q) = xm_ws cA ad M' := by
  have hlt : k < (xm_o M).length := (List.getElem?_eq_some_iff.mp hk).1
  apply List.ext_getElem?
  intro j
  rw [List.getElem?_set]
  by_cases hj : k = j
  · subst hj
    rw [if_pos rfl, if_pos (by simpa [xm_ws] using hlt)]
    simp only [xm_ws, ho, List.getElem?_map, hk]
    rfl
  · rw [if_neg hj]
    simp only [xm_ws, ho, List.getElem?_map]
    cases hq : (xm_o M)[j]? with
    | none => simp [hq]
    | some q' =>
      have hne : q' ≠ q := by
        intro e9
        subst e9
        exact hj (hD.1 k j (ad q', xm_cell cA ad M q') (ad q', xm_cell cA ad M q') (by simp [xm_ws, List.getElem?_map, hk]) (by simp [xm_ws, List.getElem?_map, hq]) rfl)
      simp [hq, hc q' hne]
/-- a reference is to something that is there, or to a table -/
def xm_vok (M : xm_M) (v : xm_V) : Prop := match v with
  | .inr (.inr (some q)) => q ∈ xm_o M ∨ 21 ≤ q.1
  | _ => True
def xm_Ok (M : xm_M) (lv : xm_L) (st : List xm_V) : Prop := (∀ x ∈ lv, xm_vok M x.2) ∧ (∀ v ∈ st, xm_vok M v) ∧ ∀ q ∈ xm_o M, ∀ k q', M.2.2.1 q.1 k q.2 = some q' → q' ∈ xm_o M
/-- the fields of an object, and one of them -/
theorem xm_obj {cA : Nat → ClassId} {ad : xm_A} {M : xm_M} {q : Nat × Nat} {ci : Nat} {ts : List Nat} (h : xm_kd q.1 = (0, ci, ts)) : xm_cell cA ad M q = .inr (ci, ts.mapIdx (xm_fv ad M q)) := by
  unfold xm_cell
  rw [h]
  rfl
theorem xm_fld {ad : xm_A} {M : xm_M} {q : Nat × Nat} {ts : List Nat} {k t : Nat} (h : ts[k]? = some t) : (ts.mapIdx (xm_fv ad M q))[k]? = some (xm_fv ad M q k t) := by
  rw [List.getElem?_mapIdx, h]
  rfl
theorem xm_setf {ad : xm_A} {M M' : xm_M} {q : Nat × Nat} {ts : List Nat} {k t : Nat} {v : Value} (h : ts[k]? = some t) (hv : xm_fv ad M' q k t = v) (ho : ∀ j t', j ≠ k → xm_fv ad M' q j t' = xm_fv ad M q j t') : (ts.mapIdx (xm_fv ad M q)).set k v = ts.mapIdx (xm_fv ad M' q) := by
  apply List.ext_getElem?
  intro j
  rw [List.getElem?_set, List.getElem?_mapIdx, List.getElem?_mapIdx]
  have hlt : k < ts.length := (List.getElem?_eq_some_iff.mp h).1
  by_cases hj : k = j
  · subst hj
    rw [if_pos rfl, if_pos (by simpa using hlt), h]
    simp [hv]
  · rw [if_neg hj]
    cases hq : ts[j]? with
    | none => rfl
    | some t' => simp [ho j t' (fun e9 => hj e9.symm)]
