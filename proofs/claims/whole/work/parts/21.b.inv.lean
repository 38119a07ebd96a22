/-! ADVICE HAS A STRENGTH of 1 to 4 -/
abbrev xh_s4 (x : Int32) : Prop := x = 1 ∨ x = 2 ∨ x = 3 ∨ x = 4
def xh_St (I : xh_I) : Prop := ∀ k, ¬ I 1 9 k = 0 → xh_s4 (I 1 10 k)
theorem xh_en1 (I : xh_I) (L : xh_L) (k : Nat) (u s t : Int32) : xh_s4 (xf_X1_enough1 I L k u s t) := by
  unfold xf_X1_enough1
  (repeat' split) <;> first | exact Or.inl rfl | exact Or.inr (Or.inl rfl) | exact Or.inr (Or.inr (Or.inl rfl)) | exact Or.inr (Or.inr (Or.inr rfl))
theorem xh_en2 (I : xh_I) (L : xh_L) (k : Nat) (u s t : Int32) : xh_s4 (xf_X1_enough2 I L k u s t) := by
  unfold xf_X1_enough2
  (repeat' split) <;> first | exact Or.inl rfl | exact Or.inr (Or.inl rfl) | exact Or.inr (Or.inr (Or.inl rfl)) | exact Or.inr (Or.inr (Or.inr rfl))
theorem xh_en3 (I : xh_I) (L : xh_L) (k : Nat) (u s t : Int32) : xh_s4 (xf_X1_enough3 I L k u s t) := by
  unfold xf_X1_enough3
  (repeat' split) <;> first | exact Or.inl rfl | exact Or.inr (Or.inl rfl) | exact Or.inr (Or.inr (Or.inl rfl)) | exact Or.inr (Or.inr (Or.inr rfl))
theorem xh_en4 (I : xh_I) (L : xh_L) (k : Nat) (u s t : Int32) : xh_s4 (xf_X1_enough4 I L k u s t) := Or.inr (Or.inr (Or.inr rfl))
theorem xh_en (I : xh_I) (L : xh_L) (k : Nat) (u f s t : Int32) : xh_s4 (xf_X1_enough I L k u f s t) := by
  unfold xf_X1_enough
  split
  · exact xh_en1 I L k u s t
  · split
    · exact xh_en2 I L k u s t
    · split
      · exact xh_en3 I L k u s t
      · exact xh_en4 I L k u s t
theorem xh_St_take {I : xh_I} {L : xh_L} {k : Nat} {t e : Int32} (h : ∀ q, q ≠ k → ¬ I 1 9 q = 0 → xh_s4 (I 1 10 q)) : xh_St (xfI_X1_takeSense I L k t e) := by
  intro q hq
  by_cases e9 : q = k
  · subst e9
    show xh_s4 (xm_up _ 1 10 q _ 1 10 q)
    rw [xm_up_s]
    exact xh_en1 _ _ _ _ _ _
  · show xh_s4 (xm_up _ 1 10 k _ 1 10 q)
    rw [xm_up_o (fun h9 => e9 h9.2)]
    exact h q e9 hq
theorem xh_St_str {I : xh_I} {L : xh_L} {k : Nat} {t : Int32} (h : xh_St I) : xh_St (xfI_X1_strengthen I L k t) := by
  unfold xfI_X1_strengthen
  split
  · exact h
  · intro q hq
    by_cases e9 : q = k
    · subst e9
      show xh_s4 (xm_up _ 1 10 q _ 1 10 q)
      rw [xm_up_s]
      exact xh_en _ _ _ _ _ _ _
    · show xh_s4 (xm_up _ 1 10 k _ 1 10 q)
      rw [xm_up_o (fun h9 => e9 h9.2)]
      exact h q hq
theorem xh_St_drop {I : xh_I} {L : xh_L} {k : Nat} (h : xh_St I) : xh_St (xfI_X1_dropAdvice I L k) := by
  intro q hq
  by_cases e9 : q = k
  · subst e9
    exact absurd (show xm_up I 1 9 q 0 1 9 q = 0 from xm_up_s) hq
  · show xh_s4 (xm_up (xm_up (xm_up I 1 9 k 0) 1 6 k 0) 1 10 k 0 1 10 q)
    rw [xm_up_o (fun h9 => e9 h9.2)]
    have h8 : ¬ xm_up I 1 9 k 0 1 9 q = 0 := hq
    rw [xm_up_o (fun h9 => e9 h9.2)] at h8
    exact h q h8
theorem xh_St_review {I : xh_I} {L : xh_L} {k : Nat} (h : xh_St I) : xh_St (xfI_X1_review I L k) := by
  have hs : xh_St (xm_up I 1 7 k (I 1 7 k + 1)) := fun q hq => h q hq
  unfold xfI_X1_review
  split
  · split
    · exact h
    · refine fun q hq => xh_St_take (fun q hq hn => ?_) q hq
      have h8 : ¬ xm_up I 1 9 k 1 1 9 q = 0 := hn
      rw [xm_up_o (fun h9 => hq h9.2)] at h8
      exact h q h8
  · split
    · split
      · split
        · exact xh_St_str hs
        · split
          · exact fun q hq => xh_St_take (fun q _ hn => hs q hn) q hq
          · exact fun q hq => xh_St_take (fun q _ hn => hs q hn) q hq
      · exact fun q hq => xh_St_drop (L := L) h q hq
    · split
      · exact xh_St_str hs
      · split
        · exact fun q hq => xh_St_take (fun q _ hn => hs q hn) q hq
        · exact fun q hq => xh_St_take (fun q _ hn => hs q hn) q hq
