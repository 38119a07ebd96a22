set_option maxHeartbeats 4000000 in
set_option maxRecDepth 100000 in
theorem xk_X3_init : xm_MOk xp_pg xp_pm 51 := by
  refine ⟨by decide +kernel, rfl, ?_, ?_⟩
  · show xm_Oks _ xt_X3_init
    exact ⟨trivial, trivial, ⟨dX3_init_4, rfl⟩, trivial⟩
  intro d mc ms p l e s m args below meth c Q cA D A tS ad0 o0 G hG hC hn ih
  have hG : xm_IsG p l e (xm_room (d + 1) mc ms) s m args below meth c Q cA D A tS 1 ad0 o0 G := hG
  have hC : xm_Cx p s m args c cX3_init 1 RX3 (Cond.code yX3_init cX3_init 1 none :: xm_W) cA D A tS := hC
  have hn : meth.name = "<init>" := hn
  obtain ⟨hx, hb, hml, hown, hts, hK, hA, hSx, hNx⟩ := id hC
  have ht : ∀ w ∈ xm_W, w.before args s = true := fun w h => hts w (List.mem_cons_of_mem _ h)
  show xm_Oks (xm_Ent (xm_room (d + 1) mc ms) G (xm_Do xp_pg d)) xt_X3_init
  unfold xt_X3_init
  refine xm_Oks.step (sn_ldR hG fun H locs cells slots ls rest x h k => lv_aload_n hx hb dX3_init_0 rfl h k) ?_
  refine xm_Oks.step (sn_obj hG fun H locs cells slots ls rest a h1 h2 k => W.objInit hx hb hown (ht _ xw_181) (ht _ xw_1) (ht _ xw_2) rfl (h1.trans hml.symm) rfl dX3_init_1 (Nat.le_add_left 1 d) (by show 2 * 0 + _ + 12 ≤ 40 * (d + 1); omega) k) ?_
  refine xm_Oks.stop ?_
  exact trivial
set_option maxHeartbeats 4000000 in
set_option maxRecDepth 100000 in
theorem xk_X3_answer : xm_MOk xp_pg xp_pm 52 := by
  refine ⟨by decide +kernel, rfl, ?_, ?_⟩
  · show xm_Oks _ xt_X3_answer
    exact ⟨trivial, trivial, trivial, trivial, ⟨dX3_answer_36, rfl⟩, trivial, trivial, ⟨dX3_answer_41, rfl⟩, trivial, trivial, ⟨dX3_answer_46, rfl⟩, trivial, trivial, ⟨dX3_answer_51, rfl⟩, trivial, trivial, ⟨dX3_answer_56, rfl⟩, trivial⟩
  intro d mc ms p l e s m args below meth c Q cA D A tS ad0 o0 G hG hC hn ih
  have hG : xm_IsG p l e (xm_room (d + 1) mc ms) s m args below meth c Q cA D A tS 2 ad0 o0 G := hG
  have hC : xm_Cx p s m args c cX3_answer 2 RX3 (Cond.code yX3_answer cX3_answer 2 (some .int) :: xm_W) cA D A tS := hC
  have hn : meth.name = "answer" := hn
  obtain ⟨hx, hb, hml, hown, hts, hK, hA, hSx, hNx⟩ := id hC
  have ht : ∀ w ∈ xm_W, w.before args s = true := fun w h => hts w (List.mem_cons_of_mem _ h)
  show xm_Oks (xm_Ent (xm_room (d + 1) mc ms) G (xm_Do xp_pg d)) xt_X3_answer
  unfold xt_X3_answer
  refine xm_Oks.step (sn_ldI hG fun H locs cells slots ls rest x h k => lv_iload_n hx hb dX3_answer_0 rfl h k) ?_
  refine xm_Oks.step (sn_sw hG fun H locs cells slots ls rest x k => xr_sw hx hb dX3_answer_1 (by decide) (by decide) (by decide) H locs cells slots ls rest x k) ?_
  refine xm_Oks.step (sn_ldR hG fun H locs cells slots ls rest x h k => lv_aload_n hx hb dX3_answer_32 rfl h k) ?_
  refine xm_Oks.step (sn_getI hG rfl rfl (by decide) (by decide) fun H locs cells slots ls rest q0 ws a fs v hP hw hv k => va_get (D := D) (C := RX3) (T := TX3) (N := 5) hx hb ht xu_3 hown hK hP q0 hw rfl 0 (by decide) (ht _ xw_182) (fun _ h9 => h9) hv dX3_answer_33 k) ?_
  refine xm_Oks.stop ?_
  refine xm_Oks.step (sn_ldR hG fun H locs cells slots ls rest x h k => lv_aload_n hx hb dX3_answer_37 rfl h k) ?_
  refine xm_Oks.step (sn_getI hG rfl rfl (by decide) (by decide) fun H locs cells slots ls rest q0 ws a fs v hP hw hv k => va_get (D := D) (C := RX3) (T := TX3) (N := 5) hx hb ht xu_3 hown hK hP q0 hw rfl 1 (by decide) (ht _ xw_183) (fun _ h9 => h9) hv dX3_answer_38 k) ?_
  refine xm_Oks.stop ?_
  refine xm_Oks.step (sn_ldR hG fun H locs cells slots ls rest x h k => lv_aload_n hx hb dX3_answer_42 rfl h k) ?_
  refine xm_Oks.step (sn_getI hG rfl rfl (by decide) (by decide) fun H locs cells slots ls rest q0 ws a fs v hP hw hv k => va_get (D := D) (C := RX3) (T := TX3) (N := 5) hx hb ht xu_3 hown hK hP q0 hw rfl 2 (by decide) (ht _ xw_184) (fun _ h9 => h9) hv dX3_answer_43 k) ?_
  refine xm_Oks.stop ?_
  refine xm_Oks.step (sn_ldR hG fun H locs cells slots ls rest x h k => lv_aload_n hx hb dX3_answer_47 rfl h k) ?_
  refine xm_Oks.step (sn_getI hG rfl rfl (by decide) (by decide) fun H locs cells slots ls rest q0 ws a fs v hP hw hv k => va_get (D := D) (C := RX3) (T := TX3) (N := 5) hx hb ht xu_3 hown hK hP q0 hw rfl 3 (by decide) (ht _ xw_185) (fun _ h9 => h9) hv dX3_answer_48 k) ?_
  refine xm_Oks.stop ?_
  refine xm_Oks.step (sn_ldR hG fun H locs cells slots ls rest x h k => lv_aload_n hx hb dX3_answer_52 rfl h k) ?_
  refine xm_Oks.step (sn_getI hG rfl rfl (by decide) (by decide) fun H locs cells slots ls rest q0 ws a fs v hP hw hv k => va_get (D := D) (C := RX3) (T := TX3) (N := 5) hx hb ht xu_3 hown hK hP q0 hw rfl 4 (by decide) (ht _ xw_186) (fun _ h9 => h9) hv dX3_answer_53 k) ?_
  refine xm_Oks.stop ?_
  exact trivial
