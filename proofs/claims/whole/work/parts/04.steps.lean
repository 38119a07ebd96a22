/-! THE STEPS of the calculus (no machine here) -/
def xs_lift (n : Nat) (g : List xm_V → Option (List xm_V)) : xm_F := fun S => match g S.2.1 with
  | some st1 => some (n, S.1, st1, S.2.2)
  | none => none
def xg_push (v : xm_V) : List xm_V → Option (List xm_V) := fun st => some (v :: st)
def xg_bin (op : Int32 → Int32 → Int32) : List xm_V → Option (List xm_V) := fun st => match st with
  | .inl y :: .inl x :: r => some (.inl (op x y) :: r)
  | _ => none
def xg_binL (op : Int64 → Int64 → Int64) : List xm_V → Option (List xm_V) := fun st => match st with
  | .inr (.inl y) :: .inr (.inl x) :: r => some (.inr (.inl (op x y)) :: r)
  | _ => none
def xg_div : List xm_V → Option (List xm_V) := fun st => match st with
  | .inl y :: .inl x :: r => if y = 0 then none else some (.inl (x / y) :: r)
  | _ => none
def xg_divL : List xm_V → Option (List xm_V) := fun st => match st with
  | .inr (.inl y) :: .inr (.inl x) :: r => if y = 0 then none else some (.inr (.inl (x / y)) :: r)
  | _ => none
def xg_un (op : Int32 → Int32) : List xm_V → Option (List xm_V) := fun st => match st with
  | .inl x :: r => some (.inl (op x) :: r)
  | _ => none
def xg_unL (op : Int64 → Int64) : List xm_V → Option (List xm_V) := fun st => match st with
  | .inr (.inl x) :: r => some (.inr (.inl (op x)) :: r)
  | _ => none
def xg_i2l : List xm_V → Option (List xm_V) := fun st => match st with
  | .inl x :: r => some (.inr (.inl x.toInt64) :: r)
  | _ => none
def xg_l2i : List xm_V → Option (List xm_V) := fun st => match st with
  | .inr (.inl x) :: r => some (.inl x.toInt32 :: r)
  | _ => none
def xg_lcmp : List xm_V → Option (List xm_V) := fun st => match st with
  | .inr (.inl y) :: .inr (.inl x) :: r => some (.inl (lg_cmp x y) :: r)
  | _ => none
def xg_dup : List xm_V → Option (List xm_V) := fun st => match st with
  | v :: r => if xm_cat v = 1 then some (v :: v :: r) else none
  | _ => none
def xg_dup2 : List xm_V → Option (List xm_V) := fun st => match st with
  | v :: w :: r => if xm_cat v = 1 ∧ xm_cat w = 1 then some (v :: w :: v :: w :: r) else none
  | _ => none
/-- Math.max, min, abs: calls, so that what lies below them is bounded -/
def xg_mbin (op : Int32 → Int32 → Int32) : List xm_V → Option (List xm_V) := fun st => match st with
  | .inl y :: .inl x :: r => if (r.map xm_cat).sum ≤ 8 then some (.inl (op x y) :: r) else none
  | _ => none
def xg_mun (op : Int32 → Int32) : List xm_V → Option (List xm_V) := fun st => match st with
  | .inl x :: r => if (r.map xm_cat).sum ≤ 8 then some (.inl (op x) :: r) else none
  | _ => none
def xg_mbinL (op : Int64 → Int64 → Int64) : List xm_V → Option (List xm_V) := fun st => match st with
  | .inr (.inl y) :: .inr (.inl x) :: r => if (r.map xm_cat).sum ≤ 8 then some (.inr (.inl (op x y)) :: r) else none
  | _ => none
def xo_max (x y : Int32) : Int32 := if x < y then y else x
def xo_min (x y : Int32) : Int32 := if y < x then y else x
def xo_abs (x : Int32) : Int32 := if 0 ≤ x then x else 0 - x
def xo_minL (x y : Int64) : Int64 := if y < x then y else x
/-- Object's constructor -/
def xg_obj : List xm_V → Option (List xm_V) := fun st => match st with
  | .inr (.inr (some _)) :: r => if (r.map xm_cat).sum ≤ 8 then some r else none
  | _ => none
def xs_ldI (n i : Nat) : xm_F := fun S => match xm_ld S.1 i with
  | some (.inl x) => some (n, S.1, .inl x :: S.2.1, S.2.2)
  | _ => none
def xs_ldL (n i : Nat) : xm_F := fun S => match xm_ld S.1 i with
  | some (.inr (.inl x)) => some (n, S.1, .inr (.inl x) :: S.2.1, S.2.2)
  | _ => none
def xs_ldR (n i : Nat) : xm_F := fun S => match xm_ld S.1 i with
  | some (.inr (.inr (some q))) => some (n, S.1, .inr (.inr (some q)) :: S.2.1, S.2.2)
  | _ => none
def xs_stI (n i : Nat) : xm_F := fun S => match S.2.1 with
  | .inl x :: r => some (n, xm_st1 S.1 i (.inl x), r, S.2.2)
  | _ => none
def xs_stL (n i : Nat) : xm_F := fun S => match S.2.1 with
  | .inr (.inl x) :: r => some (n, xm_st2 S.1 i (.inr (.inl x)), r, S.2.2)
  | _ => none
def xs_stR (n i : Nat) : xm_F := fun S => match S.2.1 with
  | .inr (.inr (some q)) :: r => some (n, xm_st1 S.1 i (.inr (.inr (some q))), r, S.2.2)
  | _ => none
def xs_inc (n i : Nat) (d : Int32) : xm_F := fun S => match xm_ld S.1 i with
  | some (.inl x) => some (n, xm_st1 S.1 i (.inl (x + d)), S.2)
  | _ => none
def xs_goto (t : Nat) : xm_F := fun S => some (t, S)
def xs_if (n t : Nat) (P : Int32 → Prop) (dp : ∀ x, Decidable (P x)) : xm_F := fun S => match S.2.1 with
  | .inl x :: r => some (@ite _ (P x) (dp x) (t, S.1, r, S.2.2) (n, S.1, r, S.2.2))
  | _ => none
def xs_icmp (n t : Nat) (P : Int32 → Int32 → Prop) (dp : ∀ x y, Decidable (P x y)) : xm_F := fun S => match S.2.1 with
  | .inl y :: .inl x :: r => some (@ite _ (P x y) (dp x y) (t, S.1, r, S.2.2) (n, S.1, r, S.2.2))
  | _ => none
/-- to t where the two are one, else to n -/
def xs_acmp (n t : Nat) : xm_F := fun S => match S.2.1 with
  | .inr (.inr (some b)) :: .inr (.inr (some a)) :: r => some (if a = b then (t, S.1, r, S.2.2) else (n, S.1, r, S.2.2))
  | _ => none
def xs_sw (ts : List Nat) (d : Nat) : xm_F := fun S => match S.2.1 with
  | .inl x :: r => some ((if x.toInt < 0 then d else ts.getD x.toInt.toNat d), S.1, r, S.2.2)
  | _ => none
def xs_getI (n c k : Nat) : xm_F := fun S => match S.2.1 with
  | .inr (.inr (some q)) :: r => if q.1 = c then some (n, S.1, .inl (S.2.2.1.1 c k q.2) :: r, S.2.2) else none
  | _ => none
def xs_getL (n c k : Nat) : xm_F := fun S => match S.2.1 with
  | .inr (.inr (some q)) :: r => if q.1 = c then some (n, S.1, .inr (.inl (S.2.2.1.2.1 c k q.2)) :: r, S.2.2) else none
  | _ => none
def xs_getR (n c k : Nat) : xm_F := fun S => match S.2.1 with
  | .inr (.inr (some q)) :: r => if q.1 = c then (match S.2.2.1.2.2.1 c k q.2 with
    | some z => some (n, S.1, .inr (.inr (some z)) :: r, S.2.2)
    | none => none) else none
  | _ => none
def xm_wI (M : xm_M) (c k i : Nat) (v : Int32) : xm_M := (xm_up M.1 c k i v, M.2)
def xm_wL (M : xm_M) (c k i : Nat) (v : Int64) : xm_M := (M.1, xm_up M.2.1 c k i v, M.2.2)
def xm_wR (M : xm_M) (c k i : Nat) (v : Option (Nat × Nat)) : xm_M := (M.1, M.2.1, xm_up M.2.2.1 c k i v, M.2.2.2)
def xs_putI (n c k : Nat) : xm_F := fun S => match S.2.1 with
  | .inl v :: .inr (.inr (some q)) :: r => if q.1 = c then some (n, S.1, r, xm_wI S.2.2.1 c k q.2 v, S.2.2.2) else none
  | _ => none
def xs_putZ (n c k : Nat) : xm_F := fun S => match S.2.1 with
  | .inl v :: .inr (.inr (some q)) :: r => if q.1 = c ∧ (v = 0 ∨ v = 1) then some (n, S.1, r, xm_wI S.2.2.1 c k q.2 v, S.2.2.2) else none
  | _ => none
def xs_putL (n c k : Nat) : xm_F := fun S => match S.2.1 with
  | .inr (.inl v) :: .inr (.inr (some q)) :: r => if q.1 = c then some (n, S.1, r, xm_wL S.2.2.1 c k q.2 v, S.2.2.2) else none
  | _ => none
def xs_putR (n c k : Nat) : xm_F := fun S => match S.2.1 with
  | .inr (.inr (some z)) :: .inr (.inr (some q)) :: r => if q.1 = c ∧ z.1 < 21 then some (n, S.1, r, xm_wR S.2.2.1 c k q.2 (some z), S.2.2.2) else none
  | _ => none
/-- a place of an array -/
def xm_at0 (x : Int32) (n : Nat) : Prop := 0 ≤ x.toInt ∧ x.toInt < n
/-- the tables: LEAST, MOST, AT_FIRST -/
def xm_tb (k j : Nat) : Int32 := match k with
  | 0 => (match j with | 0 => 1 | 6 => 1 | _ => 0)
  | 1 => (match j with | 0 => 100 | 1 => 5000 | 2 => 5000 | 3 => 2000 | 4 => 2000 | 5 => 20 | _ => 60)
  | _ => (match j with | 0 => 30 | 1 => 1000 | 2 => 2000 | 3 => 250 | 4 => 200 | 5 => 5 | _ => 8)
def xs_iald (n : Nat) : xm_F := fun S => match S.2.1 with
  | .inl x :: .inr (.inr (some q)) :: r => (match (xm_kd q.1).1 with
    | 1 => @ite _ (0 ≤ x.toInt ∧ x.toInt < S.2.2.1.2.2.2.1 q.1 q.2) instDecidableAnd (some (n, S.1, .inl (S.2.2.1.1 q.1 x.toNatClampNeg q.2) :: r, S.2.2)) none
    | _ => none)
  | _ => none
def xs_tald (n k : Nat) : xm_F := fun S => match S.2.1 with
  | .inl x :: .inr (.inr (some q)) :: r => if q = (21 + k, 0) ∧ 0 ≤ x.toInt ∧ x.toInt < 7 then some (n, S.1, .inl (xm_tb k x.toNatClampNeg) :: r, S.2.2) else none
  | _ => none
def xs_zald (n : Nat) : xm_F := fun S => match S.2.1 with
  | .inl x :: .inr (.inr (some q)) :: r => (match (xm_kd q.1).1 with
    | 3 => if 0 ≤ x.toInt ∧ x.toInt < S.2.2.1.2.2.2.1 q.1 q.2 then some (n, S.1, .inl (S.2.2.1.1 q.1 x.toNatClampNeg q.2) :: r, S.2.2) else none
    | _ => none)
  | _ => none
def xs_lald (n : Nat) : xm_F := fun S => match S.2.1 with
  | .inl x :: .inr (.inr (some q)) :: r => (match (xm_kd q.1).1 with
    | 2 => if 0 ≤ x.toInt ∧ x.toInt < S.2.2.1.2.2.2.1 q.1 q.2 then some (n, S.1, .inr (.inl (S.2.2.1.2.1 q.1 x.toNatClampNeg q.2)) :: r, S.2.2) else none
    | _ => none)
  | _ => none
/-- an array of references (kind t) -/
def xs_aald (n t : Nat) : xm_F := fun S => match S.2.1 with
  | .inl x :: .inr (.inr (some q)) :: r => if (xm_kd q.1).1 = t ∧ 0 ≤ x.toInt ∧ x.toInt < S.2.2.1.2.2.2.1 q.1 q.2 then (match S.2.2.1.2.2.1 q.1 x.toNatClampNeg q.2 with
    | some z => some (n, S.1, .inr (.inr (some z)) :: r, S.2.2)
    | none => none) else none
  | _ => none
def xs_iast (n : Nat) : xm_F := fun S => match S.2.1 with
  | .inl v :: .inl x :: .inr (.inr (some q)) :: r => if (xm_kd q.1).1 = 1 ∧ 0 ≤ x.toInt ∧ x.toInt < S.2.2.1.2.2.2.1 q.1 q.2 then some (n, S.1, r, xm_wI S.2.2.1 q.1 x.toNatClampNeg q.2 v, S.2.2.2) else none
  | _ => none
def xs_zast (n : Nat) : xm_F := fun S => match S.2.1 with
  | .inl v :: .inl x :: .inr (.inr (some q)) :: r => if (xm_kd q.1).1 = 3 ∧ (v = 0 ∨ v = 1) ∧ 0 ≤ x.toInt ∧ x.toInt < S.2.2.1.2.2.2.1 q.1 q.2 then some (n, S.1, r, xm_wI S.2.2.1 q.1 x.toNatClampNeg q.2 v, S.2.2.2) else none
  | _ => none
def xs_last (n : Nat) : xm_F := fun S => match S.2.1 with
  | .inr (.inl v) :: .inl x :: .inr (.inr (some q)) :: r => if (xm_kd q.1).1 = 2 ∧ 0 ≤ x.toInt ∧ x.toInt < S.2.2.1.2.2.2.1 q.1 q.2 then some (n, S.1, r, xm_wL S.2.2.1 q.1 x.toNatClampNeg q.2 v, S.2.2.2) else none
  | _ => none
/-- z, an object of tag t, into an array of references (kind a) -/
def xs_aast (n a t : Nat) : xm_F := fun S => match S.2.1 with
  | .inr (.inr (some z)) :: .inl x :: .inr (.inr (some q)) :: r => if (xm_kd q.1).1 = a ∧ z.1 = t ∧ 0 ≤ x.toInt ∧ x.toInt < S.2.2.1.2.2.2.1 q.1 q.2 then some (n, S.1, r, xm_wR S.2.2.1 q.1 x.toNatClampNeg q.2 (some z), S.2.2.2) else none
  | _ => none
def xs_alen (n : Nat) : xm_F := fun S => match S.2.1 with
  | .inr (.inr (some q)) :: r => (match (xm_kd q.1).1 with
    | 0 => none
    | 6 => if q.2 = 0 ∧ q.1 < 24 then some (n, S.1, .inl 7 :: r, S.2.2) else none
    | _ => some (n, S.1, .inl (Int32.ofNat (S.2.2.1.2.2.2.1 q.1 q.2)) :: r, S.2.2))
  | _ => none
/-- how many of a tag there are -/
def xm_cnt (c : Nat) : List (Nat × Nat) → Nat
  | [] => 0
  | q :: r => (if q.1 = c then 1 else 0) + xm_cnt c r
def xm_nw (M : xm_M) (c N : Nat) : xm_M := ((fun c' k' i' => if c' = c ∧ i' = xm_cnt c (xm_o M) then 0 else M.1 c' k' i'), (fun c' k' i' => if c' = c ∧ i' = xm_cnt c (xm_o M) then 0 else M.2.1 c' k' i'), (fun c' k' i' => if c' = c ∧ i' = xm_cnt c (xm_o M) then none else M.2.2.1 c' k' i'), (fun c' i' => if c' = c ∧ i' = xm_cnt c (xm_o M) then N else M.2.2.2.1 c' i'), xm_o M ++ [(c, xm_cnt c (xm_o M))])
def xs_new (n c : Nat) : xm_F := fun S => if (c, xm_cnt c (xm_o S.2.2.1)) ∈ xm_o S.2.2.1 then none else some (n, S.1, .inr (.inr (some (c, xm_cnt c (xm_o S.2.2.1)))) :: S.2.1, xm_nw S.2.2.1 c 0, S.2.2.2.1 + 1, S.2.2.2.2 + (xm_kd c).2.2.length)
def xs_newa (n c : Nat) : xm_F := fun S => match S.2.1 with
  | .inl x :: r => if (c, xm_cnt c (xm_o S.2.2.1)) ∈ xm_o S.2.2.1 then none else if 0 ≤ x.toInt ∧ x.toInt ≤ 1000 then some (n, S.1, .inr (.inr (some (c, xm_cnt c (xm_o S.2.2.1)))) :: r, xm_nw S.2.2.1 c x.toNatClampNeg, S.2.2.2.1 + 1, S.2.2.2.2 + x.toNatClampNeg) else none
  | _ => none
def xs_gst (n k : Nat) : xm_F := fun S => some (n, S.1, .inr (.inr (some (21 + k, 0))) :: S.2.1, S.2.2)
