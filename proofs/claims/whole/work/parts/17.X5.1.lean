set_option maxHeartbeats 4000000 in
set_option maxRecDepth 100000 in
theorem xk_X5_part : xm_MOk xp_pg xp_pm 88 := by
  refine ⟨by decide +kernel, rfl, ?_, ?_⟩
  · show xm_Oks _ xt_X5_part
    exact ⟨trivial, trivial, trivial, trivial, trivial, trivial, trivial, trivial, trivial, trivial, trivial, trivial, trivial, trivial, trivial, trivial, trivial, trivial, trivial, trivial, trivial, trivial, trivial, trivial, trivial, trivial, trivial, trivial, trivial, trivial, trivial, trivial, trivial, trivial, trivial, trivial, ⟨dX5_part_62, rfl⟩, trivial⟩
  intro d mc ms p l e s m args below meth c Q cA D A tS ad0 o0 G hG hC hn ih
  have hG : xm_IsG p l e (xm_room (d + 1) mc ms) s m args below meth c Q cA D A tS 8 ad0 o0 G := hG
  have hC : xm_Cx p s m args c cX5_part 8 RX5 (Cond.code yX5_part cX5_part 8 (some .long) :: xm_W) cA D A tS := hC
  have hn : meth.name = "part" := hn
  obtain ⟨hx, hb, hml, hown, hts, hK, hA, hSx, hNx⟩ := id hC
  have ht : ∀ w ∈ xm_W, w.before args s = true := fun w h => hts w (List.mem_cons_of_mem _ h)
  show xm_Oks (xm_Ent (xm_room (d + 1) mc ms) G (xm_Do xp_pg d)) xt_X5_part
  unfold xt_X5_part
  refine xm_Oks.step (sn_ldR hG fun H locs cells slots ls rest x h k => lv_aload_n hx hb dX5_part_0 rfl h k) ?_
  refine xm_Oks.step (sn_ldR hG fun H locs cells slots ls rest x h k => lv_aload_n hx hb dX5_part_1 rfl h k) ?_
  refine xm_Oks.step (sn_getI hG rfl rfl (by decide) (by decide) fun H locs cells slots ls rest q0 ws a fs v hP hw hv k => va_get (D := D) (C := RX5) (T := TX5) (N := 22) hx hb ht xu_5 hown hK hP q0 hw rfl 12 (by decide) (ht _ xw_361) (fun _ h9 => h9) hv dX5_part_2 k) ?_
  refine xm_Oks.step (sn_ldI hG fun H locs cells slots ls rest x h k => lv_iload_n hx hb dX5_part_5 rfl h k) ?_
  refine xm_Oks.step (sn_push hG (fun _ => trivial) fun ad H locs cells slots ls rest k => lv_iconst hx hb dX5_part_6 (by decide) k) ?_
  refine xm_Oks.step (sn_icmp hG fun H locs cells slots ls rest x y kt kf => lv_icmp_ne (tgt := 14) hx hb dX5_part_7 (by decide) kt (fun h9 => kf (fun h8 => h8 h9))) ?_
  refine xm_Oks.step (sn_push hG (fun _ => trivial) fun ad H locs cells slots ls rest k => lv_iconst hx hb dX5_part_10 (by decide) k) ?_
  refine xm_Oks.step (sn_goto hG fun H locs cells slots ls rest k => lv_goto (tgt := 15) hx hb dX5_part_11 (by decide) k) ?_
  refine xm_Oks.step (sn_push hG (fun _ => trivial) fun ad H locs cells slots ls rest k => lv_iconst hx hb dX5_part_14 (by decide) k) ?_
  refine xm_Oks.step (sn_ldI hG fun H locs cells slots ls rest x h k => lv_iload_n hx hb dX5_part_15 rfl h k) ?_
  refine xm_Oks.step (sn_ldI hG fun H locs cells slots ls rest x h k => lv_iload_n hx hb dX5_part_16 rfl h k) ?_
  refine xm_Oks.call (xm_sndC hG hC (xm_callV ⟨hx, hb, hml, hown, hts⟩ xw_376 xw_377 xw_378 xw_338 xw_379 (by decide +kernel) dX5_part_17) (Nat.le_refl _) (by show 8 + (13 + 11) + 40 * d ≤ 40 * (d + 1); omega) (fun C0 h9 => by cases h9; exact ⟨5, _, _, by decide, by decide, rfl, rfl, rfl⟩) (fun as M v M1 mc ms h9 ad sz g1 g2 => ih 87 as M v M1 mc ms h9 ad sz g1 g2)) ?_
  refine xm_Oks.step (sn_stL hG fun H locs cells slots ls rest x lv lv9 h he k => lv_lstore hx hb dX5_part_20 h (by decide) he k) ?_
  refine xm_Oks.step (sn_ldR hG fun H locs cells slots ls rest x h k => lv_aload_n hx hb dX5_part_22 rfl h k) ?_
  refine xm_Oks.step (sn_ldR hG fun H locs cells slots ls rest x h k => lv_aload_n hx hb dX5_part_23 rfl h k) ?_
  refine xm_Oks.step (sn_getI hG rfl rfl (by decide) (by decide) fun H locs cells slots ls rest q0 ws a fs v hP hw hv k => va_get (D := D) (C := RX5) (T := TX5) (N := 22) hx hb ht xu_5 hown hK hP q0 hw rfl 13 (by decide) (ht _ xw_362) (fun _ h9 => h9) hv dX5_part_24 k) ?_
  refine xm_Oks.step (sn_ldI hG fun H locs cells slots ls rest x h k => lv_iload_n hx hb dX5_part_27 rfl h k) ?_
  refine xm_Oks.step (sn_push hG (fun _ => trivial) fun ad H locs cells slots ls rest k => lv_iconst hx hb dX5_part_28 (by decide) k) ?_
  refine xm_Oks.step (sn_icmp hG fun H locs cells slots ls rest x y kt kf => lv_icmp_ne (tgt := 36) hx hb dX5_part_29 (by decide) kt (fun h9 => kf (fun h8 => h8 h9))) ?_
  refine xm_Oks.step (sn_push hG (fun _ => trivial) fun ad H locs cells slots ls rest k => lv_iconst hx hb dX5_part_32 (by decide) k) ?_
  refine xm_Oks.step (sn_goto hG fun H locs cells slots ls rest k => lv_goto (tgt := 37) hx hb dX5_part_33 (by decide) k) ?_
  refine xm_Oks.step (sn_push hG (fun _ => trivial) fun ad H locs cells slots ls rest k => lv_iconst hx hb dX5_part_36 (by decide) k) ?_
  refine xm_Oks.step (sn_ldI hG fun H locs cells slots ls rest x h k => lv_iload_n hx hb dX5_part_37 rfl h k) ?_
  refine xm_Oks.step (sn_ldI hG fun H locs cells slots ls rest x h k => lv_iload_n hx hb dX5_part_38 rfl h k) ?_
  refine xm_Oks.call (xm_sndC hG hC (xm_callV ⟨hx, hb, hml, hown, hts⟩ xw_376 xw_377 xw_378 xw_338 xw_379 (by decide +kernel) dX5_part_39) (Nat.le_refl _) (by show 8 + (13 + 11) + 40 * d ≤ 40 * (d + 1); omega) (fun C0 h9 => by cases h9; exact ⟨5, _, _, by decide, by decide, rfl, rfl, rfl⟩) (fun as M v M1 mc ms h9 ad sz g1 g2 => ih 87 as M v M1 mc ms h9 ad sz g1 g2)) ?_
  refine xm_Oks.step (sn_stL hG fun H locs cells slots ls rest x lv lv9 h he k => lv_lstore hx hb dX5_part_42 h (by decide) he k) ?_
  refine xm_Oks.step (sn_ldI hG fun H locs cells slots ls rest x h k => lv_iload_n hx hb dX5_part_44 rfl h k) ?_
  refine xm_Oks.step (sn_push hG (fun _ => trivial) fun ad H locs cells slots ls rest k => lv_iconst hx hb dX5_part_45 (by decide) k) ?_
  refine xm_Oks.step (sn_icmp hG fun H locs cells slots ls rest x y kt kf => lv_icmp_ne (tgt := 57) hx hb dX5_part_46 (by decide) kt (fun h9 => kf (fun h8 => h8 h9))) ?_
  refine xm_Oks.step (sn_ldL hG fun H locs cells slots ls rest x h k => lv_lload hx hb dX5_part_49 h k) ?_
  refine xm_Oks.step (sn_ldL hG fun H locs cells slots ls rest x h k => lv_lload hx hb dX5_part_51 h k) ?_
  refine xm_Oks.step (sn_binL hG fun H locs cells slots ls rest x y k => lv_lsub hx hb dX5_part_53 k) ?_
  refine xm_Oks.step (sn_goto hG fun H locs cells slots ls rest k => lv_goto (tgt := 62) hx hb dX5_part_54 (by decide) k) ?_
  refine xm_Oks.step (sn_ldL hG fun H locs cells slots ls rest x h k => lv_lload hx hb dX5_part_57 h k) ?_
  refine xm_Oks.step (sn_ldL hG fun H locs cells slots ls rest x h k => lv_lload hx hb dX5_part_59 h k) ?_
  refine xm_Oks.step (sn_binL hG fun H locs cells slots ls rest x y k => lv_lsub hx hb dX5_part_61 k) ?_
  refine xm_Oks.stop ?_
  exact trivial
set_option maxHeartbeats 4000000 in
set_option maxRecDepth 100000 in
theorem xk_X5_enough : xm_MOk xp_pg xp_pm 89 := by
  refine ⟨by decide +kernel, rfl, ?_, ?_⟩
  · show xm_Oks _ xt_X5_enough
    exact ⟨trivial, trivial, trivial, trivial, trivial, trivial, trivial, trivial, trivial, trivial, trivial, trivial, trivial, trivial, trivial, trivial, trivial, trivial, trivial, trivial, ⟨dX5_enough_36, rfl⟩, trivial⟩
  intro d mc ms p l e s m args below meth c Q cA D A tS ad0 o0 G hG hC hn ih
  have hG : xm_IsG p l e (xm_room (d + 1) mc ms) s m args below meth c Q cA D A tS 5 ad0 o0 G := hG
  have hC : xm_Cx p s m args c cX5_enough 5 RX5 (Cond.code yX5_enough cX5_enough 5 (some .int) :: xm_W) cA D A tS := hC
  have hn : meth.name = "enough" := hn
  obtain ⟨hx, hb, hml, hown, hts, hK, hA, hSx, hNx⟩ := id hC
  have ht : ∀ w ∈ xm_W, w.before args s = true := fun w h => hts w (List.mem_cons_of_mem _ h)
  show xm_Oks (xm_Ent (xm_room (d + 1) mc ms) G (xm_Do xp_pg d)) xt_X5_enough
  unfold xt_X5_enough
  refine xm_Oks.step (sn_ldI hG fun H locs cells slots ls rest x h k => lv_iload_n hx hb dX5_enough_0 rfl h k) ?_
  refine xm_Oks.step (sn_stI hG fun H locs cells slots ls rest x lv lv9 h he k => lv_istore hx hb dX5_enough_1 h (by decide) he k) ?_
  refine xm_Oks.step (sn_ldI hG fun H locs cells slots ls rest x h k => lv_iload hx hb dX5_enough_3 h k) ?_
  refine xm_Oks.step (sn_push hG (fun _ => trivial) fun ad H locs cells slots ls rest k => lv_iconst hx hb dX5_enough_5 (by decide) k) ?_
  refine xm_Oks.step (sn_icmp hG fun H locs cells slots ls rest x y kt kf => lv_icmp_ge (tgt := 34) hx hb dX5_enough_6 (by decide) kt kf) ?_
  refine xm_Oks.step (sn_ldR hG fun H locs cells slots ls rest x h k => lv_aload_n hx hb dX5_enough_9 rfl h k) ?_
  refine xm_Oks.step (sn_ldI hG fun H locs cells slots ls rest x h k => lv_iload_n hx hb dX5_enough_10 rfl h k) ?_
  refine xm_Oks.step (sn_ldI hG fun H locs cells slots ls rest x h k => lv_iload hx hb dX5_enough_11 h k) ?_
  refine xm_Oks.step (sn_ldI hG fun H locs cells slots ls rest x h k => lv_iload_n hx hb dX5_enough_13 rfl h k) ?_
  refine xm_Oks.call (xm_sndC hG hC (xm_callV ⟨hx, hb, hml, hown, hts⟩ xw_380 xw_381 xw_382 xw_338 xw_383 (by decide +kernel) dX5_enough_14) (Nat.le_refl _) (by show 8 + (8 + 11) + 40 * d ≤ 40 * (d + 1); omega) (fun C0 h9 => by cases h9; exact ⟨5, _, _, by decide, by decide, rfl, rfl, rfl⟩) (fun as M v M1 mc ms h9 ad sz g1 g2 => ih 88 as M v M1 mc ms h9 ad sz g1 g2)) ?_
  refine xm_Oks.step (sn_ldR hG fun H locs cells slots ls rest x h k => lv_aload_n hx hb dX5_enough_17 rfl h k) ?_
  refine xm_Oks.step (sn_getR hG rfl rfl (by decide) fun H locs cells slots ls rest q0 ws a fs v hP hw hv k => va_get (D := D) (C := RX5) (T := TX5) (N := 22) hx hb ht xu_5 hown hK hP q0 hw rfl 1 (by decide) (ht _ xw_322) (fun _ h9 => h9) hv dX5_enough_18 k) ?_
  refine xm_Oks.step (sn_push hG (fun _ => trivial) fun ad H locs cells slots ls rest k => lv_iconst hx hb dX5_enough_21 (by decide) k) ?_
  refine xm_Oks.step (sn_iald hG fun H locs cells slots ls rest q0 ws a N f x hP hw hin k => va_iald hx hb hK hP q0 1 hw rfl hin dX5_enough_22 k) ?_
  refine xm_Oks.step (sn_one hG xg_i2l_inv (fun _ _ => trivial) fun ad H locs cells slots ls rest x k => lv_i2l hx hb dX5_enough_23 rfl k) ?_
  refine xm_Oks.step (sn_lcmp hG fun H locs cells slots ls rest x y k => W.lcmp hx hb dX5_enough_24 k) ?_
  refine xm_Oks.step (sn_if hG fun H locs cells slots ls rest x kt kf => lv_if_ge (tgt := 34) hx hb dX5_enough_25 (by decide) kt kf) ?_
  refine xm_Oks.step (sn_inc hG fun H locs cells slots ls rest x lv lv9 j h hj he k => lv_iinc hx hb dX5_enough_28 h hj rfl (by decide) he k) ?_
  refine xm_Oks.step (sn_goto hG fun H locs cells slots ls rest k => lv_goto (tgt := 3) hx hb dX5_enough_31 (by decide) k) ?_
  refine xm_Oks.step (sn_ldI hG fun H locs cells slots ls rest x h k => lv_iload hx hb dX5_enough_34 h k) ?_
  refine xm_Oks.stop ?_
  exact trivial
set_option maxHeartbeats 4000000 in
set_option maxRecDepth 100000 in
theorem xk_X5_chosen : xm_MOk xp_pg xp_pm 90 := by
  refine ⟨by decide +kernel, rfl, ?_, ?_⟩
  · show xm_Oks _ xt_X5_chosen
    exact ⟨trivial, trivial, trivial, trivial, trivial, trivial, trivial, trivial, trivial, trivial, trivial, trivial, trivial, trivial, trivial, trivial, trivial, trivial, trivial, trivial, trivial, ⟨dX5_chosen_31, rfl⟩, trivial, trivial, trivial, trivial, trivial, trivial, trivial, trivial, trivial, trivial, trivial, trivial, trivial, trivial, trivial, trivial, trivial, trivial, trivial, trivial, trivial, trivial, trivial, ⟨dX5_chosen_68, rfl⟩, trivial, trivial, trivial, trivial, trivial, trivial, trivial, trivial, ⟨dX5_chosen_83, rfl⟩, trivial⟩
  intro d mc ms p l e s m args below meth c Q cA D A tS ad0 o0 G hG hC hn ih
  have hG : xm_IsG p l e (xm_room (d + 1) mc ms) s m args below meth c Q cA D A tS 7 ad0 o0 G := hG
  have hC : xm_Cx p s m args c cX5_chosen 7 RX5 (Cond.code yX5_chosen cX5_chosen 7 (some .int) :: xm_W) cA D A tS := hC
  have hn : meth.name = "chosen" := hn
  obtain ⟨hx, hb, hml, hown, hts, hK, hA, hSx, hNx⟩ := id hC
  have ht : ∀ w ∈ xm_W, w.before args s = true := fun w h => hts w (List.mem_cons_of_mem _ h)
  show xm_Oks (xm_Ent (xm_room (d + 1) mc ms) G (xm_Do xp_pg d)) xt_X5_chosen
  unfold xt_X5_chosen
  refine xm_Oks.step (sn_ldR hG fun H locs cells slots ls rest x h k => lv_aload_n hx hb dX5_chosen_0 rfl h k) ?_
  refine xm_Oks.step (sn_push hG (fun _ => trivial) fun ad H locs cells slots ls rest k => lv_iconst hx hb dX5_chosen_1 (by decide) k) ?_
  refine xm_Oks.step (sn_push hG (fun _ => trivial) fun ad H locs cells slots ls rest k => lv_iconst hx hb dX5_chosen_2 (by decide) k) ?_
  refine xm_Oks.step (sn_push hG (fun _ => trivial) fun ad H locs cells slots ls rest k => lv_iconst hx hb dX5_chosen_3 (by decide) k) ?_
  refine xm_Oks.call (xm_sndC hG hC (xm_callV ⟨hx, hb, hml, hown, hts⟩ xw_384 xw_385 xw_386 xw_338 xw_387 (by decide +kernel) dX5_chosen_4) (Nat.le_refl _) (by show 8 + (5 + 11) + 40 * d ≤ 40 * (d + 1); omega) (fun C0 h9 => by cases h9; exact ⟨5, _, _, by decide, by decide, rfl, rfl, rfl⟩) (fun as M v M1 mc ms h9 ad sz g1 g2 => ih 89 as M v M1 mc ms h9 ad sz g1 g2)) ?_
  refine xm_Oks.step (sn_stI hG fun H locs cells slots ls rest x lv lv9 h he k => lv_istore_n hx hb dX5_chosen_7 rfl h (by decide) he k) ?_
  refine xm_Oks.step (sn_ldR hG fun H locs cells slots ls rest x h k => lv_aload_n hx hb dX5_chosen_8 rfl h k) ?_
  refine xm_Oks.step (sn_push hG (fun _ => trivial) fun ad H locs cells slots ls rest k => lv_iconst hx hb dX5_chosen_9 (by decide) k) ?_
  refine xm_Oks.step (sn_push hG (fun _ => trivial) fun ad H locs cells slots ls rest k => lv_iconst hx hb dX5_chosen_10 (by decide) k) ?_
  refine xm_Oks.step (sn_push hG (fun _ => trivial) fun ad H locs cells slots ls rest k => lv_iconst hx hb dX5_chosen_11 (by decide) k) ?_
  refine xm_Oks.call (xm_sndC hG hC (xm_callV ⟨hx, hb, hml, hown, hts⟩ xw_384 xw_385 xw_386 xw_338 xw_387 (by decide +kernel) dX5_chosen_12) (Nat.le_refl _) (by show 8 + (5 + 11) + 40 * d ≤ 40 * (d + 1); omega) (fun C0 h9 => by cases h9; exact ⟨5, _, _, by decide, by decide, rfl, rfl, rfl⟩) (fun as M v M1 mc ms h9 ad sz g1 g2 => ih 89 as M v M1 mc ms h9 ad sz g1 g2)) ?_
  refine xm_Oks.step (sn_stI hG fun H locs cells slots ls rest x lv lv9 h he k => lv_istore_n hx hb dX5_chosen_15 rfl h (by decide) he k) ?_
  refine xm_Oks.step (sn_ldI hG fun H locs cells slots ls rest x h k => lv_iload_n hx hb dX5_chosen_16 rfl h k) ?_
  refine xm_Oks.step (sn_ldI hG fun H locs cells slots ls rest x h k => lv_iload_n hx hb dX5_chosen_17 rfl h k) ?_
  refine xm_Oks.step (sn_icmp hG fun H locs cells slots ls rest x y kt kf => lv_icmp_eq (tgt := 32) hx hb dX5_chosen_18 (by decide) kt kf) ?_
  refine xm_Oks.step (sn_ldI hG fun H locs cells slots ls rest x h k => lv_iload_n hx hb dX5_chosen_21 rfl h k) ?_
  refine xm_Oks.step (sn_ldI hG fun H locs cells slots ls rest x h k => lv_iload_n hx hb dX5_chosen_22 rfl h k) ?_
  refine xm_Oks.step (sn_icmp hG fun H locs cells slots ls rest x y kt kf => lv_icmp_ge (tgt := 30) hx hb dX5_chosen_23 (by decide) kt kf) ?_
  refine xm_Oks.step (sn_push hG (fun _ => trivial) fun ad H locs cells slots ls rest k => lv_iconst hx hb dX5_chosen_26 (by decide) k) ?_
  refine xm_Oks.step (sn_goto hG fun H locs cells slots ls rest k => lv_goto (tgt := 31) hx hb dX5_chosen_27 (by decide) k) ?_
  refine xm_Oks.step (sn_push hG (fun _ => trivial) fun ad H locs cells slots ls rest k => lv_iconst hx hb dX5_chosen_30 (by decide) k) ?_
  refine xm_Oks.stop ?_
  refine xm_Oks.step (sn_ldR hG fun H locs cells slots ls rest x h k => lv_aload_n hx hb dX5_chosen_32 rfl h k) ?_
  refine xm_Oks.step (sn_push hG (fun _ => trivial) fun ad H locs cells slots ls rest k => lv_iconst hx hb dX5_chosen_33 (by decide) k) ?_
  refine xm_Oks.step (sn_ldI hG fun H locs cells slots ls rest x h k => lv_iload_n hx hb dX5_chosen_34 rfl h k) ?_
  refine xm_Oks.step (sn_push hG (fun _ => trivial) fun ad H locs cells slots ls rest k => lv_iconst hx hb dX5_chosen_35 (by decide) k) ?_
  refine xm_Oks.call (xm_sndC hG hC (xm_callV ⟨hx, hb, hml, hown, hts⟩ xw_380 xw_381 xw_382 xw_338 xw_383 (by decide +kernel) dX5_chosen_36) (Nat.le_refl _) (by show 8 + (8 + 11) + 40 * d ≤ 40 * (d + 1); omega) (fun C0 h9 => by cases h9; exact ⟨5, _, _, by decide, by decide, rfl, rfl, rfl⟩) (fun as M v M1 mc ms h9 ad sz g1 g2 => ih 88 as M v M1 mc ms h9 ad sz g1 g2)) ?_
  refine xm_Oks.step (sn_stL hG fun H locs cells slots ls rest x lv lv9 h he k => lv_lstore_n hx hb dX5_chosen_39 rfl h (by decide) he k) ?_
  refine xm_Oks.step (sn_ldR hG fun H locs cells slots ls rest x h k => lv_aload_n hx hb dX5_chosen_40 rfl h k) ?_
  refine xm_Oks.step (sn_push hG (fun _ => trivial) fun ad H locs cells slots ls rest k => lv_iconst hx hb dX5_chosen_41 (by decide) k) ?_
  refine xm_Oks.step (sn_ldI hG fun H locs cells slots ls rest x h k => lv_iload_n hx hb dX5_chosen_42 rfl h k) ?_
  refine xm_Oks.step (sn_push hG (fun _ => trivial) fun ad H locs cells slots ls rest k => lv_iconst hx hb dX5_chosen_43 (by decide) k) ?_
  refine xm_Oks.call (xm_sndC hG hC (xm_callV ⟨hx, hb, hml, hown, hts⟩ xw_380 xw_381 xw_382 xw_338 xw_383 (by decide +kernel) dX5_chosen_44) (Nat.le_refl _) (by show 8 + (8 + 11) + 40 * d ≤ 40 * (d + 1); omega) (fun C0 h9 => by cases h9; exact ⟨5, _, _, by decide, by decide, rfl, rfl, rfl⟩) (fun as M v M1 mc ms h9 ad sz g1 g2 => ih 88 as M v M1 mc ms h9 ad sz g1 g2)) ?_
  refine xm_Oks.step (sn_stL hG fun H locs cells slots ls rest x lv lv9 h he k => lv_lstore hx hb dX5_chosen_47 h (by decide) he k) ?_
  refine xm_Oks.step (sn_ldL hG fun H locs cells slots ls rest x h k => lv_lload_n hx hb dX5_chosen_49 rfl h k) ?_
  refine xm_Oks.step (sn_ldL hG fun H locs cells slots ls rest x h k => lv_lload hx hb dX5_chosen_50 h k) ?_
  refine xm_Oks.step (sn_lcmp hG fun H locs cells slots ls rest x y k => W.lcmp hx hb dX5_chosen_52 k) ?_
  refine xm_Oks.step (sn_if hG fun H locs cells slots ls rest x kt kf => lv_if_eq (tgt := 69) hx hb dX5_chosen_53 (by decide) kt kf) ?_
  refine xm_Oks.step (sn_ldL hG fun H locs cells slots ls rest x h k => lv_lload_n hx hb dX5_chosen_56 rfl h k) ?_
  refine xm_Oks.step (sn_ldL hG fun H locs cells slots ls rest x h k => lv_lload hx hb dX5_chosen_57 h k) ?_
  refine xm_Oks.step (sn_lcmp hG fun H locs cells slots ls rest x y k => W.lcmp hx hb dX5_chosen_59 k) ?_
  refine xm_Oks.step (sn_if hG fun H locs cells slots ls rest x kt kf => lv_if_le (tgt := 67) hx hb dX5_chosen_60 (by decide) kt kf) ?_
  refine xm_Oks.step (sn_push hG (fun _ => trivial) fun ad H locs cells slots ls rest k => lv_iconst hx hb dX5_chosen_63 (by decide) k) ?_
  refine xm_Oks.step (sn_goto hG fun H locs cells slots ls rest k => lv_goto (tgt := 68) hx hb dX5_chosen_64 (by decide) k) ?_
  refine xm_Oks.step (sn_push hG (fun _ => trivial) fun ad H locs cells slots ls rest k => lv_iconst hx hb dX5_chosen_67 (by decide) k) ?_
  refine xm_Oks.stop ?_
  refine xm_Oks.step (sn_ldR hG fun H locs cells slots ls rest x h k => lv_aload_n hx hb dX5_chosen_69 rfl h k) ?_
  refine xm_Oks.step (sn_getL hG rfl rfl (by decide) fun H locs cells slots ls rest q0 ws a fs v hP hw hv k => va_get (D := D) (C := RX5) (T := TX5) (N := 22) hx hb ht xu_5 hown hK hP q0 hw rfl 16 (by decide) (ht _ xw_365) (fun _ h9 => h9) hv dX5_chosen_70 k) ?_
  refine xm_Oks.step (sn_push hG (fun _ => trivial) fun ad H locs cells slots ls rest k => lv_lconst hx hb dX5_chosen_73 (by decide) k) ?_
  refine xm_Oks.step (sn_lcmp hG fun H locs cells slots ls rest x y k => W.lcmp hx hb dX5_chosen_74 k) ?_
  refine xm_Oks.step (sn_if hG fun H locs cells slots ls rest x kt kf => lv_if_gt (tgt := 82) hx hb dX5_chosen_75 (by decide) kt kf) ?_
  refine xm_Oks.step (sn_push hG (fun _ => trivial) fun ad H locs cells slots ls rest k => lv_iconst hx hb dX5_chosen_78 (by decide) k) ?_
  refine xm_Oks.step (sn_goto hG fun H locs cells slots ls rest k => lv_goto (tgt := 83) hx hb dX5_chosen_79 (by decide) k) ?_
  refine xm_Oks.step (sn_push hG (fun _ => trivial) fun ad H locs cells slots ls rest k => lv_iconst hx hb dX5_chosen_82 (by decide) k) ?_
  refine xm_Oks.stop ?_
  exact trivial
set_option maxHeartbeats 4000000 in
set_option maxRecDepth 100000 in
theorem xk_X5_bounded : xm_MOk xp_pg xp_pm 91 := by
  refine ⟨by decide +kernel, rfl, ?_, ?_⟩
  · show xm_Oks _ xt_X5_bounded
    exact ⟨trivial, trivial, trivial, trivial, trivial, trivial, trivial, trivial, trivial, trivial, trivial, trivial, trivial, ⟨dX5_bounded_21, rfl⟩, trivial⟩
  intro d mc ms p l e s m args below meth c Q cA D A tS ad0 o0 G hG hC hn ih
  have hG : xm_IsG p l e (xm_room (d + 1) mc ms) s m args below meth c Q cA D A tS 2 ad0 o0 G := hG
  have hC : xm_Cx p s m args c cX5_bounded 2 RX5 (Cond.code yX5_bounded cX5_bounded 2 (some .int) :: xm_W) cA D A tS := hC
  have hn : meth.name = "bounded" := hn
  obtain ⟨hx, hb, hml, hown, hts, hK, hA, hSx, hNx⟩ := id hC
  have ht : ∀ w ∈ xm_W, w.before args s = true := fun w h => hts w (List.mem_cons_of_mem _ h)
  show xm_Oks (xm_Ent (xm_room (d + 1) mc ms) G (xm_Do xp_pg d)) xt_X5_bounded
  unfold xt_X5_bounded
  refine xm_Oks.step (sn_ldI hG fun H locs cells slots ls rest x h k => lv_iload_n hx hb dX5_bounded_0 rfl h k) ?_
  refine xm_Oks.step (sn_ldI hG fun H locs cells slots ls rest x h k => lv_iload_n hx hb dX5_bounded_1 rfl h k) ?_
  refine xm_Oks.step (sn_one hG xg_un_inv (fun _ _ => trivial) fun ad H locs cells slots ls rest x k => lv_ineg hx hb dX5_bounded_2 k) ?_
  refine xm_Oks.step (sn_icmp hG fun H locs cells slots ls rest x y kt kf => lv_icmp_ge (tgt := 11) hx hb dX5_bounded_3 (by decide) kt kf) ?_
  refine xm_Oks.step (sn_ldI hG fun H locs cells slots ls rest x h k => lv_iload_n hx hb dX5_bounded_6 rfl h k) ?_
  refine xm_Oks.step (sn_one hG xg_un_inv (fun _ _ => trivial) fun ad H locs cells slots ls rest x k => lv_ineg hx hb dX5_bounded_7 k) ?_
  refine xm_Oks.step (sn_goto hG fun H locs cells slots ls rest k => lv_goto (tgt := 21) hx hb dX5_bounded_8 (by decide) k) ?_
  refine xm_Oks.step (sn_ldI hG fun H locs cells slots ls rest x h k => lv_iload_n hx hb dX5_bounded_11 rfl h k) ?_
  refine xm_Oks.step (sn_ldI hG fun H locs cells slots ls rest x h k => lv_iload_n hx hb dX5_bounded_12 rfl h k) ?_
  refine xm_Oks.step (sn_icmp hG fun H locs cells slots ls rest x y kt kf => lv_icmp_le (tgt := 20) hx hb dX5_bounded_13 (by decide) kt kf) ?_
  refine xm_Oks.step (sn_ldI hG fun H locs cells slots ls rest x h k => lv_iload_n hx hb dX5_bounded_16 rfl h k) ?_
  refine xm_Oks.step (sn_goto hG fun H locs cells slots ls rest k => lv_goto (tgt := 21) hx hb dX5_bounded_17 (by decide) k) ?_
  refine xm_Oks.step (sn_ldI hG fun H locs cells slots ls rest x h k => lv_iload_n hx hb dX5_bounded_20 rfl h k) ?_
  refine xm_Oks.stop ?_
  exact trivial
set_option maxHeartbeats 4000000 in
set_option maxRecDepth 100000 in
theorem xk_X5_move : xm_MOk xp_pg xp_pm 92 := by
  refine ⟨by decide +kernel, rfl, ?_, ?_⟩
  · show xm_Oks _ xt_X5_move
    exact ⟨trivial, trivial, trivial, trivial, trivial, trivial, trivial, trivial, trivial, trivial, trivial, trivial, trivial, trivial, trivial, trivial, trivial, trivial, trivial, trivial, trivial, trivial, trivial, trivial, trivial, trivial, trivial, trivial, trivial, trivial, trivial, trivial, trivial, trivial, trivial, trivial, trivial, trivial, trivial, trivial, trivial, trivial, trivial, trivial, trivial, trivial, trivial, trivial, trivial, trivial, trivial, trivial, trivial, trivial, trivial, trivial, trivial, trivial, trivial, trivial, trivial, trivial, trivial, trivial, trivial, trivial, trivial, trivial, trivial, trivial, trivial, trivial, trivial, trivial, trivial, trivial, trivial, trivial, trivial, trivial, trivial, trivial, trivial, trivial, trivial, trivial, trivial, trivial, trivial, trivial, trivial, trivial, trivial, trivial, trivial, trivial, trivial, trivial, trivial, trivial, trivial, trivial, trivial, trivial, trivial, trivial, trivial, trivial, trivial, trivial, trivial, trivial, trivial, trivial, trivial, trivial, trivial, trivial, trivial, ⟨dX5_move_191, rfl⟩, trivial⟩
  intro d mc ms p l e s m args below meth c Q cA D A tS ad0 o0 G hG hC hn ih
  have hG : xm_IsG p l e (xm_room (d + 1) mc ms) s m args below meth c Q cA D A tS 3 ad0 o0 G := hG
  have hC : xm_Cx p s m args c cX5_move 3 RX5 (Cond.code yX5_move cX5_move 3 none :: xm_W) cA D A tS := hC
  have hn : meth.name = "move" := hn
  obtain ⟨hx, hb, hml, hown, hts, hK, hA, hSx, hNx⟩ := id hC
  have ht : ∀ w ∈ xm_W, w.before args s = true := fun w h => hts w (List.mem_cons_of_mem _ h)
  show xm_Oks (xm_Ent (xm_room (d + 1) mc ms) G (xm_Do xp_pg d)) xt_X5_move
  unfold xt_X5_move
  refine xm_Oks.step (sn_push hG (fun _ => trivial) fun ad H locs cells slots ls rest k => lv_iconst hx hb dX5_move_0 (by decide) k) ?_
  refine xm_Oks.step (sn_stI hG fun H locs cells slots ls rest x lv lv9 h he k => lv_istore_n hx hb dX5_move_1 rfl h (by decide) he k) ?_
  refine xm_Oks.step (sn_ldI hG fun H locs cells slots ls rest x h k => lv_iload_n hx hb dX5_move_2 rfl h k) ?_
  refine xm_Oks.step (sn_push hG (fun _ => trivial) fun ad H locs cells slots ls rest k => lv_bipush hx hb dX5_move_3 (by decide) k) ?_
  refine xm_Oks.step (sn_icmp hG fun H locs cells slots ls rest x y kt kf => lv_icmp_ge (tgt := 137) hx hb dX5_move_5 (by decide) kt kf) ?_
  refine xm_Oks.step (sn_ldR hG fun H locs cells slots ls rest x h k => lv_aload_n hx hb dX5_move_8 rfl h k) ?_
  refine xm_Oks.step (sn_getR hG rfl rfl (by decide) fun H locs cells slots ls rest q0 ws a fs v hP hw hv k => va_get (D := D) (C := RX5) (T := TX5) (N := 22) hx hb ht xu_5 hown hK hP q0 hw rfl 2 (by decide) (ht _ xw_324) (fun _ h9 => h9) hv dX5_move_9 k) ?_
  refine xm_Oks.step (sn_ldI hG fun H locs cells slots ls rest x h k => lv_iload_n hx hb dX5_move_12 rfl h k) ?_
  refine xm_Oks.step (sn_zald hG fun H locs cells slots ls rest q0 ws a N f x hP hw hin k => va_zald hx hb hK hP q0 3 hw rfl hin dX5_move_13 k) ?_
  refine xm_Oks.step (sn_if hG fun H locs cells slots ls rest x kt kf => lv_if_eq (tgt := 131) hx hb dX5_move_14 (by decide) kt kf) ?_
  refine xm_Oks.step (sn_ldR hG fun H locs cells slots ls rest x h k => lv_aload_n hx hb dX5_move_17 rfl h k) ?_
  refine xm_Oks.step (sn_getR hG rfl rfl (by decide) fun H locs cells slots ls rest q0 ws a fs v hP hw hv k => va_get (D := D) (C := RX5) (T := TX5) (N := 22) hx hb ht xu_5 hown hK hP q0 hw rfl 4 (by decide) (ht _ xw_326) (fun _ h9 => h9) hv dX5_move_18 k) ?_
  refine xm_Oks.step (sn_push hG (fun _ => trivial) fun ad H locs cells slots ls rest k => lv_bipush hx hb dX5_move_21 (by decide) k) ?_
  refine xm_Oks.step (sn_ldI hG fun H locs cells slots ls rest x h k => lv_iload_n hx hb dX5_move_23 rfl h k) ?_
  refine xm_Oks.step (sn_bin hG fun H locs cells slots ls rest x y k => lv_imul hx hb dX5_move_24 k) ?_
  refine xm_Oks.step (sn_ldR hG fun H locs cells slots ls rest x h k => lv_aload_n hx hb dX5_move_25 rfl h k) ?_
  refine xm_Oks.step (sn_getR hG rfl rfl (by decide) fun H locs cells slots ls rest q0 ws a fs v hP hw hv k => va_get (D := D) (C := RX5) (T := TX5) (N := 22) hx hb ht xu_5 hown hK hP q0 hw rfl 4 (by decide) (ht _ xw_326) (fun _ h9 => h9) hv dX5_move_26 k) ?_
  refine xm_Oks.step (sn_push hG (fun _ => trivial) fun ad H locs cells slots ls rest k => lv_bipush hx hb dX5_move_29 (by decide) k) ?_
  refine xm_Oks.step (sn_ldI hG fun H locs cells slots ls rest x h k => lv_iload_n hx hb dX5_move_31 rfl h k) ?_
  refine xm_Oks.step (sn_bin hG fun H locs cells slots ls rest x y k => lv_imul hx hb dX5_move_32 k) ?_
  refine xm_Oks.step (sn_iald hG fun H locs cells slots ls rest q0 ws a N f x hP hw hin k => va_iald hx hb hK hP q0 1 hw rfl hin dX5_move_33 k) ?_
  refine xm_Oks.step (sn_ldR hG fun H locs cells slots ls rest x h k => lv_aload_n hx hb dX5_move_34 rfl h k) ?_
  refine xm_Oks.step (sn_getR hG rfl rfl (by decide) fun H locs cells slots ls rest q0 ws a fs v hP hw hv k => va_get (D := D) (C := RX5) (T := TX5) (N := 22) hx hb ht xu_5 hown hK hP q0 hw rfl 4 (by decide) (ht _ xw_326) (fun _ h9 => h9) hv dX5_move_35 k) ?_
  refine xm_Oks.step (sn_push hG (fun _ => trivial) fun ad H locs cells slots ls rest k => lv_bipush hx hb dX5_move_38 (by decide) k) ?_
  refine xm_Oks.step (sn_ldI hG fun H locs cells slots ls rest x h k => lv_iload_n hx hb dX5_move_40 rfl h k) ?_
  refine xm_Oks.step (sn_bin hG fun H locs cells slots ls rest x y k => lv_imul hx hb dX5_move_41 k) ?_
  refine xm_Oks.step (sn_push hG (fun _ => trivial) fun ad H locs cells slots ls rest k => lv_iconst hx hb dX5_move_42 (by decide) k) ?_
  refine xm_Oks.step (sn_bin hG fun H locs cells slots ls rest x y k => lv_iadd hx hb dX5_move_43 k) ?_
  refine xm_Oks.step (sn_iald hG fun H locs cells slots ls rest q0 ws a N f x hP hw hin k => va_iald hx hb hK hP q0 1 hw rfl hin dX5_move_44 k) ?_
  refine xm_Oks.step (sn_bin hG fun H locs cells slots ls rest x y k => lv_iadd hx hb dX5_move_45 k) ?_
  refine xm_Oks.step (sn_push hG (fun _ => trivial) fun ad H locs cells slots ls rest k => lv_ldc hx hb hown (ht _ xw_343) dX5_move_46 k) ?_
  refine xm_Oks.call (xm_sndC hG hC (xm_callS ⟨hx, hb, hml, hown, hts⟩ xw_388 xw_389 xw_338 xw_390 (by decide +kernel) dX5_move_48) (Nat.le_refl _) (by show 8 + (2 + 11) + 40 * d ≤ 40 * (d + 1); omega) (fun C0 h9 => by cases h9) (fun as M v M1 mc ms h9 ad sz g1 g2 => ih 91 as M v M1 mc ms h9 ad sz g1 g2)) ?_
  refine xm_Oks.step (sn_iast hG fun H locs cells slots ls rest q0 ws a N f x v hP hD hS hw hin k => va_iast hx hb hK hP hD hS q0 1 hw rfl hin dX5_move_51 k) ?_
  refine xm_Oks.step (sn_ldR hG fun H locs cells slots ls rest x h k => lv_aload_n hx hb dX5_move_52 rfl h k) ?_
  refine xm_Oks.step (sn_getR hG rfl rfl (by decide) fun H locs cells slots ls rest q0 ws a fs v hP hw hv k => va_get (D := D) (C := RX5) (T := TX5) (N := 22) hx hb ht xu_5 hown hK hP q0 hw rfl 4 (by decide) (ht _ xw_326) (fun _ h9 => h9) hv dX5_move_53 k) ?_
  refine xm_Oks.step (sn_push hG (fun _ => trivial) fun ad H locs cells slots ls rest k => lv_bipush hx hb dX5_move_56 (by decide) k) ?_
  refine xm_Oks.step (sn_ldI hG fun H locs cells slots ls rest x h k => lv_iload_n hx hb dX5_move_58 rfl h k) ?_
  refine xm_Oks.step (sn_bin hG fun H locs cells slots ls rest x y k => lv_imul hx hb dX5_move_59 k) ?_
  refine xm_Oks.step (sn_push hG (fun _ => trivial) fun ad H locs cells slots ls rest k => lv_iconst hx hb dX5_move_60 (by decide) k) ?_
  refine xm_Oks.step (sn_bin hG fun H locs cells slots ls rest x y k => lv_iadd hx hb dX5_move_61 k) ?_
  refine xm_Oks.step (sn_ldR hG fun H locs cells slots ls rest x h k => lv_aload_n hx hb dX5_move_62 rfl h k) ?_
  refine xm_Oks.step (sn_getR hG rfl rfl (by decide) fun H locs cells slots ls rest q0 ws a fs v hP hw hv k => va_get (D := D) (C := RX5) (T := TX5) (N := 22) hx hb ht xu_5 hown hK hP q0 hw rfl 4 (by decide) (ht _ xw_326) (fun _ h9 => h9) hv dX5_move_63 k) ?_
  refine xm_Oks.step (sn_push hG (fun _ => trivial) fun ad H locs cells slots ls rest k => lv_bipush hx hb dX5_move_66 (by decide) k) ?_
  refine xm_Oks.step (sn_ldI hG fun H locs cells slots ls rest x h k => lv_iload_n hx hb dX5_move_68 rfl h k) ?_
  refine xm_Oks.step (sn_bin hG fun H locs cells slots ls rest x y k => lv_imul hx hb dX5_move_69 k) ?_
  refine xm_Oks.step (sn_push hG (fun _ => trivial) fun ad H locs cells slots ls rest k => lv_iconst hx hb dX5_move_70 (by decide) k) ?_
  refine xm_Oks.step (sn_bin hG fun H locs cells slots ls rest x y k => lv_iadd hx hb dX5_move_71 k) ?_
  refine xm_Oks.step (sn_iald hG fun H locs cells slots ls rest q0 ws a N f x hP hw hin k => va_iald hx hb hK hP q0 1 hw rfl hin dX5_move_72 k) ?_
  refine xm_Oks.step (sn_ldR hG fun H locs cells slots ls rest x h k => lv_aload_n hx hb dX5_move_73 rfl h k) ?_
  refine xm_Oks.step (sn_getR hG rfl rfl (by decide) fun H locs cells slots ls rest q0 ws a fs v hP hw hv k => va_get (D := D) (C := RX5) (T := TX5) (N := 22) hx hb ht xu_5 hown hK hP q0 hw rfl 4 (by decide) (ht _ xw_326) (fun _ h9 => h9) hv dX5_move_74 k) ?_
  refine xm_Oks.step (sn_push hG (fun _ => trivial) fun ad H locs cells slots ls rest k => lv_bipush hx hb dX5_move_77 (by decide) k) ?_
  refine xm_Oks.step (sn_ldI hG fun H locs cells slots ls rest x h k => lv_iload_n hx hb dX5_move_79 rfl h k) ?_
  refine xm_Oks.step (sn_bin hG fun H locs cells slots ls rest x y k => lv_imul hx hb dX5_move_80 k) ?_
  refine xm_Oks.step (sn_push hG (fun _ => trivial) fun ad H locs cells slots ls rest k => lv_iconst hx hb dX5_move_81 (by decide) k) ?_
  refine xm_Oks.step (sn_bin hG fun H locs cells slots ls rest x y k => lv_iadd hx hb dX5_move_82 k) ?_
  refine xm_Oks.step (sn_iald hG fun H locs cells slots ls rest q0 ws a N f x hP hw hin k => va_iald hx hb hK hP q0 1 hw rfl hin dX5_move_83 k) ?_
  refine xm_Oks.step (sn_bin hG fun H locs cells slots ls rest x y k => lv_iadd hx hb dX5_move_84 k) ?_
  refine xm_Oks.step (sn_push hG (fun _ => trivial) fun ad H locs cells slots ls rest k => lv_ldc hx hb hown (ht _ xw_343) dX5_move_85 k) ?_
  refine xm_Oks.call (xm_sndC hG hC (xm_callS ⟨hx, hb, hml, hown, hts⟩ xw_388 xw_389 xw_338 xw_390 (by decide +kernel) dX5_move_87) (Nat.le_refl _) (by show 8 + (2 + 11) + 40 * d ≤ 40 * (d + 1); omega) (fun C0 h9 => by cases h9) (fun as M v M1 mc ms h9 ad sz g1 g2 => ih 91 as M v M1 mc ms h9 ad sz g1 g2)) ?_
  refine xm_Oks.step (sn_iast hG fun H locs cells slots ls rest q0 ws a N f x v hP hD hS hw hin k => va_iast hx hb hK hP hD hS q0 1 hw rfl hin dX5_move_90 k) ?_
  refine xm_Oks.step (sn_ldR hG fun H locs cells slots ls rest x h k => lv_aload_n hx hb dX5_move_91 rfl h k) ?_
  refine xm_Oks.step (sn_getR hG rfl rfl (by decide) fun H locs cells slots ls rest q0 ws a fs v hP hw hv k => va_get (D := D) (C := RX5) (T := TX5) (N := 22) hx hb ht xu_5 hown hK hP q0 hw rfl 4 (by decide) (ht _ xw_326) (fun _ h9 => h9) hv dX5_move_92 k) ?_
  refine xm_Oks.step (sn_push hG (fun _ => trivial) fun ad H locs cells slots ls rest k => lv_bipush hx hb dX5_move_95 (by decide) k) ?_
  refine xm_Oks.step (sn_ldI hG fun H locs cells slots ls rest x h k => lv_iload_n hx hb dX5_move_97 rfl h k) ?_
  refine xm_Oks.step (sn_bin hG fun H locs cells slots ls rest x y k => lv_imul hx hb dX5_move_98 k) ?_
  refine xm_Oks.step (sn_push hG (fun _ => trivial) fun ad H locs cells slots ls rest k => lv_iconst hx hb dX5_move_99 (by decide) k) ?_
  refine xm_Oks.step (sn_bin hG fun H locs cells slots ls rest x y k => lv_iadd hx hb dX5_move_100 k) ?_
  refine xm_Oks.step (sn_ldR hG fun H locs cells slots ls rest x h k => lv_aload_n hx hb dX5_move_101 rfl h k) ?_
  refine xm_Oks.step (sn_getR hG rfl rfl (by decide) fun H locs cells slots ls rest q0 ws a fs v hP hw hv k => va_get (D := D) (C := RX5) (T := TX5) (N := 22) hx hb ht xu_5 hown hK hP q0 hw rfl 4 (by decide) (ht _ xw_326) (fun _ h9 => h9) hv dX5_move_102 k) ?_
  refine xm_Oks.step (sn_push hG (fun _ => trivial) fun ad H locs cells slots ls rest k => lv_bipush hx hb dX5_move_105 (by decide) k) ?_
  refine xm_Oks.step (sn_ldI hG fun H locs cells slots ls rest x h k => lv_iload_n hx hb dX5_move_107 rfl h k) ?_
  refine xm_Oks.step (sn_bin hG fun H locs cells slots ls rest x y k => lv_imul hx hb dX5_move_108 k) ?_
  refine xm_Oks.step (sn_push hG (fun _ => trivial) fun ad H locs cells slots ls rest k => lv_iconst hx hb dX5_move_109 (by decide) k) ?_
  refine xm_Oks.step (sn_bin hG fun H locs cells slots ls rest x y k => lv_iadd hx hb dX5_move_110 k) ?_
  refine xm_Oks.step (sn_iald hG fun H locs cells slots ls rest q0 ws a N f x hP hw hin k => va_iald hx hb hK hP q0 1 hw rfl hin dX5_move_111 k) ?_
  refine xm_Oks.step (sn_ldR hG fun H locs cells slots ls rest x h k => lv_aload_n hx hb dX5_move_112 rfl h k) ?_
  refine xm_Oks.step (sn_getR hG rfl rfl (by decide) fun H locs cells slots ls rest q0 ws a fs v hP hw hv k => va_get (D := D) (C := RX5) (T := TX5) (N := 22) hx hb ht xu_5 hown hK hP q0 hw rfl 4 (by decide) (ht _ xw_326) (fun _ h9 => h9) hv dX5_move_113 k) ?_
  refine xm_Oks.step (sn_push hG (fun _ => trivial) fun ad H locs cells slots ls rest k => lv_bipush hx hb dX5_move_116 (by decide) k) ?_
  refine xm_Oks.step (sn_ldI hG fun H locs cells slots ls rest x h k => lv_iload_n hx hb dX5_move_118 rfl h k) ?_
  refine xm_Oks.step (sn_bin hG fun H locs cells slots ls rest x y k => lv_imul hx hb dX5_move_119 k) ?_
  refine xm_Oks.step (sn_push hG (fun _ => trivial) fun ad H locs cells slots ls rest k => lv_iconst hx hb dX5_move_120 (by decide) k) ?_
  refine xm_Oks.step (sn_bin hG fun H locs cells slots ls rest x y k => lv_iadd hx hb dX5_move_121 k) ?_
  refine xm_Oks.step (sn_iald hG fun H locs cells slots ls rest q0 ws a N f x hP hw hin k => va_iald hx hb hK hP q0 1 hw rfl hin dX5_move_122 k) ?_
  refine xm_Oks.step (sn_bin hG fun H locs cells slots ls rest x y k => lv_iadd hx hb dX5_move_123 k) ?_
  refine xm_Oks.step (sn_push hG (fun _ => trivial) fun ad H locs cells slots ls rest k => lv_sipush hx hb dX5_move_124 (by decide) k) ?_
  refine xm_Oks.call (xm_sndC hG hC (xm_callS ⟨hx, hb, hml, hown, hts⟩ xw_388 xw_389 xw_338 xw_390 (by decide +kernel) dX5_move_127) (Nat.le_refl _) (by show 8 + (2 + 11) + 40 * d ≤ 40 * (d + 1); omega) (fun C0 h9 => by cases h9) (fun as M v M1 mc ms h9 ad sz g1 g2 => ih 91 as M v M1 mc ms h9 ad sz g1 g2)) ?_
  refine xm_Oks.step (sn_iast hG fun H locs cells slots ls rest q0 ws a N f x v hP hD hS hw hin k => va_iast hx hb hK hP hD hS q0 1 hw rfl hin dX5_move_130 k) ?_
  refine xm_Oks.step (sn_inc hG fun H locs cells slots ls rest x lv lv9 j h hj he k => lv_iinc hx hb dX5_move_131 h hj rfl (by decide) he k) ?_
  refine xm_Oks.step (sn_goto hG fun H locs cells slots ls rest k => lv_goto (tgt := 2) hx hb dX5_move_134 (by decide) k) ?_
  refine xm_Oks.step (sn_push hG (fun _ => trivial) fun ad H locs cells slots ls rest k => lv_iconst hx hb dX5_move_137 (by decide) k) ?_
  refine xm_Oks.step (sn_stI hG fun H locs cells slots ls rest x lv lv9 h he k => lv_istore_n hx hb dX5_move_138 rfl h (by decide) he k) ?_
  refine xm_Oks.step (sn_ldI hG fun H locs cells slots ls rest x h k => lv_iload_n hx hb dX5_move_139 rfl h k) ?_
  refine xm_Oks.step (sn_push hG (fun _ => trivial) fun ad H locs cells slots ls rest k => lv_bipush hx hb dX5_move_140 (by decide) k) ?_
  refine xm_Oks.step (sn_icmp hG fun H locs cells slots ls rest x y kt kf => lv_icmp_ge (tgt := 191) hx hb dX5_move_142 (by decide) kt kf) ?_
  refine xm_Oks.step (sn_ldI hG fun H locs cells slots ls rest x h k => lv_iload_n hx hb dX5_move_145 rfl h k) ?_
  refine xm_Oks.step (sn_push hG (fun _ => trivial) fun ad H locs cells slots ls rest k => lv_iconst hx hb dX5_move_146 (by decide) k) ?_
  refine xm_Oks.step (sn_bin hG fun H locs cells slots ls rest x y k => lv_iadd hx hb dX5_move_147 k) ?_
  refine xm_Oks.step (sn_stI hG fun H locs cells slots ls rest x lv lv9 h he k => lv_istore_n hx hb dX5_move_148 rfl h (by decide) he k) ?_
  refine xm_Oks.step (sn_ldI hG fun H locs cells slots ls rest x h k => lv_iload_n hx hb dX5_move_149 rfl h k) ?_
  refine xm_Oks.step (sn_push hG (fun _ => trivial) fun ad H locs cells slots ls rest k => lv_bipush hx hb dX5_move_150 (by decide) k) ?_
  refine xm_Oks.step (sn_icmp hG fun H locs cells slots ls rest x y kt kf => lv_icmp_ge (tgt := 185) hx hb dX5_move_152 (by decide) kt kf) ?_
  refine xm_Oks.step (sn_ldR hG fun H locs cells slots ls rest x h k => lv_aload_n hx hb dX5_move_155 rfl h k) ?_
  refine xm_Oks.step (sn_getR hG rfl rfl (by decide) fun H locs cells slots ls rest q0 ws a fs v hP hw hv k => va_get (D := D) (C := RX5) (T := TX5) (N := 22) hx hb ht xu_5 hown hK hP q0 hw rfl 2 (by decide) (ht _ xw_324) (fun _ h9 => h9) hv dX5_move_156 k) ?_
  refine xm_Oks.step (sn_ldI hG fun H locs cells slots ls rest x h k => lv_iload_n hx hb dX5_move_159 rfl h k) ?_
  refine xm_Oks.step (sn_zald hG fun H locs cells slots ls rest q0 ws a N f x hP hw hin k => va_zald hx hb hK hP q0 3 hw rfl hin dX5_move_160 k) ?_
  refine xm_Oks.step (sn_if hG fun H locs cells slots ls rest x kt kf => lv_if_eq (tgt := 179) hx hb dX5_move_161 (by decide) kt kf) ?_
  refine xm_Oks.step (sn_ldR hG fun H locs cells slots ls rest x h k => lv_aload_n hx hb dX5_move_164 rfl h k) ?_
  refine xm_Oks.step (sn_getR hG rfl rfl (by decide) fun H locs cells slots ls rest q0 ws a fs v hP hw hv k => va_get (D := D) (C := RX5) (T := TX5) (N := 22) hx hb ht xu_5 hown hK hP q0 hw rfl 2 (by decide) (ht _ xw_324) (fun _ h9 => h9) hv dX5_move_165 k) ?_
  refine xm_Oks.step (sn_ldI hG fun H locs cells slots ls rest x h k => lv_iload_n hx hb dX5_move_168 rfl h k) ?_
  refine xm_Oks.step (sn_zald hG fun H locs cells slots ls rest q0 ws a N f x hP hw hin k => va_zald hx hb hK hP q0 3 hw rfl hin dX5_move_169 k) ?_
  refine xm_Oks.step (sn_if hG fun H locs cells slots ls rest x kt kf => lv_if_eq (tgt := 179) hx hb dX5_move_170 (by decide) kt kf) ?_
  refine xm_Oks.step (sn_ldR hG fun H locs cells slots ls rest x h k => lv_aload_n hx hb dX5_move_173 rfl h k) ?_
  refine xm_Oks.step (sn_ldI hG fun H locs cells slots ls rest x h k => lv_iload_n hx hb dX5_move_174 rfl h k) ?_
  refine xm_Oks.step (sn_ldI hG fun H locs cells slots ls rest x h k => lv_iload_n hx hb dX5_move_175 rfl h k) ?_
  refine xm_Oks.call (xm_sndC hG hC (xm_callV ⟨hx, hb, hml, hown, hts⟩ xw_353 xw_354 xw_355 xw_338 xw_356 (by decide +kernel) dX5_move_176) (Nat.le_refl _) (by show 8 + (12 + 11) + 40 * d ≤ 40 * (d + 1); omega) (fun C0 h9 => by cases h9; exact ⟨5, _, _, by decide, by decide, rfl, rfl, rfl⟩) (fun as M v M1 mc ms h9 ad sz g1 g2 => ih 79 as M v M1 mc ms h9 ad sz g1 g2)) ?_
  refine xm_Oks.step (sn_inc hG fun H locs cells slots ls rest x lv lv9 j h hj he k => lv_iinc hx hb dX5_move_179 h hj rfl (by decide) he k) ?_
  refine xm_Oks.step (sn_goto hG fun H locs cells slots ls rest k => lv_goto (tgt := 149) hx hb dX5_move_182 (by decide) k) ?_
  refine xm_Oks.step (sn_inc hG fun H locs cells slots ls rest x lv lv9 j h hj he k => lv_iinc hx hb dX5_move_185 h hj rfl (by decide) he k) ?_
  refine xm_Oks.step (sn_goto hG fun H locs cells slots ls rest k => lv_goto (tgt := 139) hx hb dX5_move_188 (by decide) k) ?_
  refine xm_Oks.stop ?_
  exact trivial
set_option maxHeartbeats 4000000 in
set_option maxRecDepth 100000 in
theorem xk_X5_obey : xm_MOk xp_pg xp_pm 93 := by
  refine ⟨by decide +kernel, rfl, ?_, ?_⟩
  · show xm_Oks _ xt_X5_obey
    exact ⟨trivial, trivial, trivial, trivial, trivial, trivial, trivial, trivial, trivial, trivial, trivial, trivial, trivial, trivial, trivial, trivial, trivial, trivial, trivial, trivial, trivial, trivial, trivial, trivial, trivial, trivial, trivial, trivial, trivial, trivial, trivial, trivial, trivial, trivial, trivial, trivial, trivial, trivial, trivial, trivial, trivial, trivial, trivial, trivial, trivial, trivial, trivial, trivial, trivial, trivial, trivial, trivial, trivial, trivial, trivial, trivial, trivial, trivial, trivial, trivial, trivial, trivial, trivial, trivial, trivial, trivial, trivial, trivial, trivial, trivial, trivial, trivial, trivial, trivial, trivial, trivial, trivial, trivial, trivial, trivial, trivial, trivial, trivial, trivial, trivial, trivial, trivial, trivial, trivial, trivial, trivial, trivial, trivial, trivial, trivial, trivial, trivial, trivial, trivial, trivial, trivial, trivial, trivial, trivial, trivial, trivial, trivial, trivial, trivial, trivial, trivial, trivial, trivial, trivial, trivial, trivial, trivial, trivial, trivial, trivial, trivial, trivial, trivial, trivial, trivial, trivial, trivial, trivial, trivial, trivial, trivial, trivial, trivial, trivial, trivial, trivial, trivial, trivial, trivial, trivial, trivial, trivial, trivial, trivial, trivial, trivial, trivial, trivial, trivial, trivial, trivial, trivial, trivial, trivial, trivial, trivial, trivial, trivial, trivial, trivial, trivial, trivial, trivial, trivial, trivial, trivial, trivial, trivial, trivial, trivial, trivial, trivial, trivial, trivial, trivial, trivial, trivial, trivial, trivial, trivial, trivial, ⟨dX5_obey_333, rfl⟩, trivial⟩
  intro d mc ms p l e s m args below meth c Q cA D A tS ad0 o0 G hG hC hn ih
  have hG : xm_IsG p l e (xm_room (d + 1) mc ms) s m args below meth c Q cA D A tS 7 ad0 o0 G := hG
  have hC : xm_Cx p s m args c cX5_obey 7 RX5 (Cond.code yX5_obey cX5_obey 7 none :: xm_W) cA D A tS := hC
  have hn : meth.name = "obey" := hn
  obtain ⟨hx, hb, hml, hown, hts, hK, hA, hSx, hNx⟩ := id hC
  have ht : ∀ w ∈ xm_W, w.before args s = true := fun w h => hts w (List.mem_cons_of_mem _ h)
  show xm_Oks (xm_Ent (xm_room (d + 1) mc ms) G (xm_Do xp_pg d)) xt_X5_obey
  unfold xt_X5_obey
  refine xm_Oks.step (sn_push hG (fun _ => trivial) fun ad H locs cells slots ls rest k => lv_iconst hx hb dX5_obey_0 (by decide) k) ?_
  refine xm_Oks.step (sn_stI hG fun H locs cells slots ls rest x lv lv9 h he k => lv_istore_n hx hb dX5_obey_1 rfl h (by decide) he k) ?_
  refine xm_Oks.step (sn_push hG (fun _ => trivial) fun ad H locs cells slots ls rest k => lv_iconst hx hb dX5_obey_2 (by decide) k) ?_
  refine xm_Oks.step (sn_stI hG fun H locs cells slots ls rest x lv lv9 h he k => lv_istore_n hx hb dX5_obey_3 rfl h (by decide) he k) ?_
  refine xm_Oks.step (sn_push hG (fun _ => trivial) fun ad H locs cells slots ls rest k => lv_iconst hx hb dX5_obey_4 (by decide) k) ?_
  refine xm_Oks.step (sn_stI hG fun H locs cells slots ls rest x lv lv9 h he k => lv_istore hx hb dX5_obey_5 h (by decide) he k) ?_
  refine xm_Oks.step (sn_ldI hG fun H locs cells slots ls rest x h k => lv_iload hx hb dX5_obey_7 h k) ?_
  refine xm_Oks.step (sn_push hG (fun _ => trivial) fun ad H locs cells slots ls rest k => lv_bipush hx hb dX5_obey_9 (by decide) k) ?_
  refine xm_Oks.step (sn_icmp hG fun H locs cells slots ls rest x y kt kf => lv_icmp_ge (tgt := 163) hx hb dX5_obey_11 (by decide) kt kf) ?_
  refine xm_Oks.step (sn_ldI hG fun H locs cells slots ls rest x h k => lv_iload hx hb dX5_obey_14 h k) ?_
  refine xm_Oks.step (sn_ldI hG fun H locs cells slots ls rest x h k => lv_iload_n hx hb dX5_obey_16 rfl h k) ?_
  refine xm_Oks.step (sn_icmp hG fun H locs cells slots ls rest x y kt kf => lv_icmp_ne (tgt := 24) hx hb dX5_obey_17 (by decide) kt (fun h9 => kf (fun h8 => h8 h9))) ?_
  refine xm_Oks.step (sn_push hG (fun _ => trivial) fun ad H locs cells slots ls rest k => lv_iconst hx hb dX5_obey_20 (by decide) k) ?_
  refine xm_Oks.step (sn_goto hG fun H locs cells slots ls rest k => lv_goto (tgt := 30) hx hb dX5_obey_21 (by decide) k) ?_
  refine xm_Oks.step (sn_ldI hG fun H locs cells slots ls rest x h k => lv_iload_n hx hb dX5_obey_24 rfl h k) ?_
  refine xm_Oks.step (sn_ldI hG fun H locs cells slots ls rest x h k => lv_iload hx hb dX5_obey_25 h k) ?_
  refine xm_Oks.call (xm_sndC hG hC (xm_callS ⟨hx, hb, hml, hown, hts⟩ xw_340 xw_341 xw_338 xw_342 (by decide +kernel) dX5_obey_27) (Nat.le_refl _) (by show 8 + (2 + 11) + 40 * d ≤ 40 * (d + 1); omega) (fun C0 h9 => by cases h9) (fun as M v M1 mc ms h9 ad sz g1 g2 => ih 77 as M v M1 mc ms h9 ad sz g1 g2)) ?_
  refine xm_Oks.step (sn_stI hG fun H locs cells slots ls rest x lv lv9 h he k => lv_istore hx hb dX5_obey_30 h (by decide) he k) ?_
  refine xm_Oks.step (sn_ldI hG fun H locs cells slots ls rest x h k => lv_iload hx hb dX5_obey_32 h k) ?_
  refine xm_Oks.step (sn_ldI hG fun H locs cells slots ls rest x h k => lv_iload_n hx hb dX5_obey_34 rfl h k) ?_
  refine xm_Oks.step (sn_icmp hG fun H locs cells slots ls rest x y kt kf => lv_icmp_eq (tgt := 157) hx hb dX5_obey_35 (by decide) kt kf) ?_
  refine xm_Oks.step (sn_ldR hG fun H locs cells slots ls rest x h k => lv_aload_n hx hb dX5_obey_38 rfl h k) ?_
  refine xm_Oks.step (sn_getR hG rfl rfl (by decide) fun H locs cells slots ls rest q0 ws a fs v hP hw hv k => va_get (D := D) (C := RX5) (T := TX5) (N := 22) hx hb ht xu_5 hown hK hP q0 hw rfl 5 (by decide) (ht _ xw_327) (fun _ h9 => h9) hv dX5_obey_39 k) ?_
  refine xm_Oks.step (sn_ldI hG fun H locs cells slots ls rest x h k => lv_iload hx hb dX5_obey_42 h k) ?_
  refine xm_Oks.step (sn_iald hG fun H locs cells slots ls rest q0 ws a N f x hP hw hin k => va_iald hx hb hK hP q0 1 hw rfl hin dX5_obey_44 k) ?_
  refine xm_Oks.step (sn_if hG fun H locs cells slots ls rest x kt kf => lv_if_le (tgt := 157) hx hb dX5_obey_45 (by decide) kt kf) ?_
  refine xm_Oks.step (sn_ldR hG fun H locs cells slots ls rest x h k => lv_aload_n hx hb dX5_obey_48 rfl h k) ?_
  refine xm_Oks.step (sn_getR hG rfl rfl (by decide) fun H locs cells slots ls rest q0 ws a fs v hP hw hv k => va_get (D := D) (C := RX5) (T := TX5) (N := 22) hx hb ht xu_5 hown hK hP q0 hw rfl 7 (by decide) (ht _ xw_329) (fun _ h9 => h9) hv dX5_obey_49 k) ?_
  refine xm_Oks.step (sn_ldI hG fun H locs cells slots ls rest x h k => lv_iload hx hb dX5_obey_52 h k) ?_
  refine xm_Oks.step (sn_iald hG fun H locs cells slots ls rest q0 ws a N f x hP hw hin k => va_iald hx hb hK hP q0 1 hw rfl hin dX5_obey_54 k) ?_
  refine xm_Oks.step (sn_ldR hG fun H locs cells slots ls rest x h k => lv_aload_n hx hb dX5_obey_55 rfl h k) ?_
  refine xm_Oks.step (sn_getR hG rfl rfl (by decide) fun H locs cells slots ls rest q0 ws a fs v hP hw hv k => va_get (D := D) (C := RX5) (T := TX5) (N := 22) hx hb ht xu_5 hown hK hP q0 hw rfl 1 (by decide) (ht _ xw_322) (fun _ h9 => h9) hv dX5_obey_56 k) ?_
  refine xm_Oks.step (sn_push hG (fun _ => trivial) fun ad H locs cells slots ls rest k => lv_iconst hx hb dX5_obey_59 (by decide) k) ?_
  refine xm_Oks.step (sn_iald hG fun H locs cells slots ls rest q0 ws a N f x hP hw hin k => va_iald hx hb hK hP q0 1 hw rfl hin dX5_obey_60 k) ?_
  refine xm_Oks.step (sn_icmp hG fun H locs cells slots ls rest x y kt kf => lv_icmp_lt (tgt := 157) hx hb dX5_obey_61 (by decide) kt kf) ?_
  refine xm_Oks.step (sn_ldI hG fun H locs cells slots ls rest x h k => lv_iload_n hx hb dX5_obey_64 rfl h k) ?_
  refine xm_Oks.step (sn_ldI hG fun H locs cells slots ls rest x h k => lv_iload hx hb dX5_obey_65 h k) ?_
  refine xm_Oks.step (sn_icmp hG fun H locs cells slots ls rest x y kt kf => lv_icmp_ge (tgt := 74) hx hb dX5_obey_67 (by decide) kt kf) ?_
  refine xm_Oks.step (sn_push hG (fun _ => trivial) fun ad H locs cells slots ls rest k => lv_iconst hx hb dX5_obey_70 (by decide) k) ?_
  refine xm_Oks.step (sn_goto hG fun H locs cells slots ls rest k => lv_goto (tgt := 75) hx hb dX5_obey_71 (by decide) k) ?_
  refine xm_Oks.step (sn_push hG (fun _ => trivial) fun ad H locs cells slots ls rest k => lv_iconst hx hb dX5_obey_74 (by decide) k) ?_
  refine xm_Oks.step (sn_ldR hG fun H locs cells slots ls rest x h k => lv_aload_n hx hb dX5_obey_75 rfl h k) ?_
  refine xm_Oks.step (sn_getR hG rfl rfl (by decide) fun H locs cells slots ls rest q0 ws a fs v hP hw hv k => va_get (D := D) (C := RX5) (T := TX5) (N := 22) hx hb ht xu_5 hown hK hP q0 hw rfl 5 (by decide) (ht _ xw_327) (fun _ h9 => h9) hv dX5_obey_76 k) ?_
  refine xm_Oks.step (sn_ldI hG fun H locs cells slots ls rest x h k => lv_iload hx hb dX5_obey_79 h k) ?_
  refine xm_Oks.step (sn_iald hG fun H locs cells slots ls rest q0 ws a N f x hP hw hin k => va_iald hx hb hK hP q0 1 hw rfl hin dX5_obey_81 k) ?_
  refine xm_Oks.step (sn_push hG (fun _ => trivial) fun ad H locs cells slots ls rest k => lv_iconst hx hb dX5_obey_82 (by decide) k) ?_
  refine xm_Oks.step (sn_icmp hG fun H locs cells slots ls rest x y kt kf => lv_icmp_ne (tgt := 90) hx hb dX5_obey_83 (by decide) kt (fun h9 => kf (fun h8 => h8 h9))) ?_
  refine xm_Oks.step (sn_push hG (fun _ => trivial) fun ad H locs cells slots ls rest k => lv_iconst hx hb dX5_obey_86 (by decide) k) ?_
  refine xm_Oks.step (sn_goto hG fun H locs cells slots ls rest k => lv_goto (tgt := 91) hx hb dX5_obey_87 (by decide) k) ?_
  refine xm_Oks.step (sn_push hG (fun _ => trivial) fun ad H locs cells slots ls rest k => lv_iconst hx hb dX5_obey_90 (by decide) k) ?_
  refine xm_Oks.step (sn_icmp hG fun H locs cells slots ls rest x y kt kf => lv_icmp_ne (tgt := 98) hx hb dX5_obey_91 (by decide) kt (fun h9 => kf (fun h8 => h8 h9))) ?_
  refine xm_Oks.step (sn_push hG (fun _ => trivial) fun ad H locs cells slots ls rest k => lv_iconst hx hb dX5_obey_94 (by decide) k) ?_
  refine xm_Oks.step (sn_goto hG fun H locs cells slots ls rest k => lv_goto (tgt := 99) hx hb dX5_obey_95 (by decide) k) ?_
  refine xm_Oks.step (sn_push hG (fun _ => trivial) fun ad H locs cells slots ls rest k => lv_iconst hx hb dX5_obey_98 (by decide) k) ?_
  refine xm_Oks.step (sn_stI hG fun H locs cells slots ls rest x lv lv9 h he k => lv_istore hx hb dX5_obey_99 h (by decide) he k) ?_
  refine xm_Oks.step (sn_ldI hG fun H locs cells slots ls rest x h k => lv_iload hx hb dX5_obey_101 h k) ?_
  refine xm_Oks.step (sn_if hG fun H locs cells slots ls rest x kt kf => lv_if_eq (tgt := 127) hx hb dX5_obey_103 (by decide) kt kf) ?_
  refine xm_Oks.step (sn_ldR hG fun H locs cells slots ls rest x h k => lv_aload_n hx hb dX5_obey_106 rfl h k) ?_
  refine xm_Oks.step (sn_getR hG rfl rfl (by decide) fun H locs cells slots ls rest q0 ws a fs v hP hw hv k => va_get (D := D) (C := RX5) (T := TX5) (N := 22) hx hb ht xu_5 hown hK hP q0 hw rfl 6 (by decide) (ht _ xw_328) (fun _ h9 => h9) hv dX5_obey_107 k) ?_
  refine xm_Oks.step (sn_ldI hG fun H locs cells slots ls rest x h k => lv_iload hx hb dX5_obey_110 h k) ?_
  refine xm_Oks.step (sn_iald hG fun H locs cells slots ls rest q0 ws a N f x hP hw hin k => va_iald hx hb hK hP q0 1 hw rfl hin dX5_obey_112 k) ?_
  refine xm_Oks.step (sn_ldI hG fun H locs cells slots ls rest x h k => lv_iload_n hx hb dX5_obey_113 rfl h k) ?_
  refine xm_Oks.step (sn_icmp hG fun H locs cells slots ls rest x y kt kf => lv_icmp_le (tgt := 127) hx hb dX5_obey_114 (by decide) kt kf) ?_
  refine xm_Oks.step (sn_ldR hG fun H locs cells slots ls rest x h k => lv_aload_n hx hb dX5_obey_117 rfl h k) ?_
  refine xm_Oks.step (sn_getR hG rfl rfl (by decide) fun H locs cells slots ls rest q0 ws a fs v hP hw hv k => va_get (D := D) (C := RX5) (T := TX5) (N := 22) hx hb ht xu_5 hown hK hP q0 hw rfl 6 (by decide) (ht _ xw_328) (fun _ h9 => h9) hv dX5_obey_118 k) ?_
  refine xm_Oks.step (sn_ldI hG fun H locs cells slots ls rest x h k => lv_iload hx hb dX5_obey_121 h k) ?_
  refine xm_Oks.step (sn_iald hG fun H locs cells slots ls rest q0 ws a N f x hP hw hin k => va_iald hx hb hK hP q0 1 hw rfl hin dX5_obey_123 k) ?_
  refine xm_Oks.step (sn_goto hG fun H locs cells slots ls rest k => lv_goto (tgt := 128) hx hb dX5_obey_124 (by decide) k) ?_
  refine xm_Oks.step (sn_ldI hG fun H locs cells slots ls rest x h k => lv_iload_n hx hb dX5_obey_127 rfl h k) ?_
  refine xm_Oks.step (sn_stI hG fun H locs cells slots ls rest x lv lv9 h he k => lv_istore_n hx hb dX5_obey_128 rfl h (by decide) he k) ?_
  refine xm_Oks.step (sn_ldI hG fun H locs cells slots ls rest x h k => lv_iload hx hb dX5_obey_129 h k) ?_
  refine xm_Oks.step (sn_if hG fun H locs cells slots ls rest x kt kf => lv_if_ne (tgt := 155) hx hb dX5_obey_131 (by decide) kt (fun h9 => kf (fun h8 => h8 h9))) ?_
  refine xm_Oks.step (sn_ldR hG fun H locs cells slots ls rest x h k => lv_aload_n hx hb dX5_obey_134 rfl h k) ?_
  refine xm_Oks.step (sn_getR hG rfl rfl (by decide) fun H locs cells slots ls rest q0 ws a fs v hP hw hv k => va_get (D := D) (C := RX5) (T := TX5) (N := 22) hx hb ht xu_5 hown hK hP q0 hw rfl 6 (by decide) (ht _ xw_328) (fun _ h9 => h9) hv dX5_obey_135 k) ?_
  refine xm_Oks.step (sn_ldI hG fun H locs cells slots ls rest x h k => lv_iload hx hb dX5_obey_138 h k) ?_
  refine xm_Oks.step (sn_iald hG fun H locs cells slots ls rest q0 ws a N f x hP hw hin k => va_iald hx hb hK hP q0 1 hw rfl hin dX5_obey_140 k) ?_
  refine xm_Oks.step (sn_ldI hG fun H locs cells slots ls rest x h k => lv_iload_n hx hb dX5_obey_141 rfl h k) ?_
  refine xm_Oks.step (sn_icmp hG fun H locs cells slots ls rest x y kt kf => lv_icmp_le (tgt := 155) hx hb dX5_obey_142 (by decide) kt kf) ?_
  refine xm_Oks.step (sn_ldR hG fun H locs cells slots ls rest x h k => lv_aload_n hx hb dX5_obey_145 rfl h k) ?_
  refine xm_Oks.step (sn_getR hG rfl rfl (by decide) fun H locs cells slots ls rest q0 ws a fs v hP hw hv k => va_get (D := D) (C := RX5) (T := TX5) (N := 22) hx hb ht xu_5 hown hK hP q0 hw rfl 6 (by decide) (ht _ xw_328) (fun _ h9 => h9) hv dX5_obey_146 k) ?_
  refine xm_Oks.step (sn_ldI hG fun H locs cells slots ls rest x h k => lv_iload hx hb dX5_obey_149 h k) ?_
  refine xm_Oks.step (sn_iald hG fun H locs cells slots ls rest q0 ws a N f x hP hw hin k => va_iald hx hb hK hP q0 1 hw rfl hin dX5_obey_151 k) ?_
  refine xm_Oks.step (sn_goto hG fun H locs cells slots ls rest k => lv_goto (tgt := 156) hx hb dX5_obey_152 (by decide) k) ?_
  refine xm_Oks.step (sn_ldI hG fun H locs cells slots ls rest x h k => lv_iload_n hx hb dX5_obey_155 rfl h k) ?_
  refine xm_Oks.step (sn_stI hG fun H locs cells slots ls rest x lv lv9 h he k => lv_istore_n hx hb dX5_obey_156 rfl h (by decide) he k) ?_
  refine xm_Oks.step (sn_inc hG fun H locs cells slots ls rest x lv lv9 j h hj he k => lv_iinc hx hb dX5_obey_157 h hj rfl (by decide) he k) ?_
  refine xm_Oks.step (sn_goto hG fun H locs cells slots ls rest k => lv_goto (tgt := 7) hx hb dX5_obey_160 (by decide) k) ?_
  refine xm_Oks.step (sn_ldR hG fun H locs cells slots ls rest x h k => lv_aload_n hx hb dX5_obey_163 rfl h k) ?_
  refine xm_Oks.step (sn_getR hG rfl rfl (by decide) fun H locs cells slots ls rest q0 ws a fs v hP hw hv k => va_get (D := D) (C := RX5) (T := TX5) (N := 22) hx hb ht xu_5 hown hK hP q0 hw rfl 4 (by decide) (ht _ xw_326) (fun _ h9 => h9) hv dX5_obey_164 k) ?_
  refine xm_Oks.step (sn_push hG (fun _ => trivial) fun ad H locs cells slots ls rest k => lv_bipush hx hb dX5_obey_167 (by decide) k) ?_
  refine xm_Oks.step (sn_ldI hG fun H locs cells slots ls rest x h k => lv_iload_n hx hb dX5_obey_169 rfl h k) ?_
  refine xm_Oks.step (sn_bin hG fun H locs cells slots ls rest x y k => lv_imul hx hb dX5_obey_170 k) ?_
  refine xm_Oks.step (sn_push hG (fun _ => trivial) fun ad H locs cells slots ls rest k => lv_iconst hx hb dX5_obey_171 (by decide) k) ?_
  refine xm_Oks.step (sn_bin hG fun H locs cells slots ls rest x y k => lv_iadd hx hb dX5_obey_172 k) ?_
  refine xm_Oks.step (sn_iald hG fun H locs cells slots ls rest q0 ws a N f x hP hw hin k => va_iald hx hb hK hP q0 1 hw rfl hin dX5_obey_173 k) ?_
  refine xm_Oks.step (sn_stI hG fun H locs cells slots ls rest x lv lv9 h he k => lv_istore hx hb dX5_obey_174 h (by decide) he k) ?_
  refine xm_Oks.step (sn_ldR hG fun H locs cells slots ls rest x h k => lv_aload_n hx hb dX5_obey_176 rfl h k) ?_
  refine xm_Oks.step (sn_getR hG rfl rfl (by decide) fun H locs cells slots ls rest q0 ws a fs v hP hw hv k => va_get (D := D) (C := RX5) (T := TX5) (N := 22) hx hb ht xu_5 hown hK hP q0 hw rfl 1 (by decide) (ht _ xw_322) (fun _ h9 => h9) hv dX5_obey_177 k) ?_
  refine xm_Oks.step (sn_push hG (fun _ => trivial) fun ad H locs cells slots ls rest k => lv_bipush hx hb dX5_obey_180 (by decide) k) ?_
  refine xm_Oks.step (sn_iald hG fun H locs cells slots ls rest q0 ws a N f x hP hw hin k => va_iald hx hb hK hP q0 1 hw rfl hin dX5_obey_182 k) ?_
  refine xm_Oks.step (sn_stI hG fun H locs cells slots ls rest x lv lv9 h he k => lv_istore hx hb dX5_obey_183 h (by decide) he k) ?_
  refine xm_Oks.step (sn_ldI hG fun H locs cells slots ls rest x h k => lv_iload_n hx hb dX5_obey_185 rfl h k) ?_
  refine xm_Oks.step (sn_if hG fun H locs cells slots ls rest x kt kf => lv_if_le (tgt := 239) hx hb dX5_obey_186 (by decide) kt kf) ?_
  refine xm_Oks.step (sn_ldI hG fun H locs cells slots ls rest x h k => lv_iload_n hx hb dX5_obey_189 rfl h k) ?_
  refine xm_Oks.step (sn_if hG fun H locs cells slots ls rest x kt kf => lv_if_le (tgt := 239) hx hb dX5_obey_190 (by decide) kt kf) ?_
  refine xm_Oks.step (sn_ldI hG fun H locs cells slots ls rest x h k => lv_iload hx hb dX5_obey_193 h k) ?_
  refine xm_Oks.step (sn_if hG fun H locs cells slots ls rest x kt kf => lv_if_le (tgt := 217) hx hb dX5_obey_195 (by decide) kt kf) ?_
  refine xm_Oks.step (sn_ldI hG fun H locs cells slots ls rest x h k => lv_iload hx hb dX5_obey_198 h k) ?_
  refine xm_Oks.step (sn_ldI hG fun H locs cells slots ls rest x h k => lv_iload hx hb dX5_obey_200 h k) ?_
  refine xm_Oks.step (sn_icmp hG fun H locs cells slots ls rest x y kt kf => lv_icmp_le (tgt := 213) hx hb dX5_obey_202 (by decide) kt kf) ?_
  refine xm_Oks.step (sn_ldI hG fun H locs cells slots ls rest x h k => lv_iload hx hb dX5_obey_205 h k) ?_
  refine xm_Oks.step (sn_ldI hG fun H locs cells slots ls rest x h k => lv_iload hx hb dX5_obey_207 h k) ?_
  refine xm_Oks.step (sn_bin hG fun H locs cells slots ls rest x y k => lv_isub hx hb dX5_obey_209 k) ?_
  refine xm_Oks.step (sn_goto hG fun H locs cells slots ls rest k => lv_goto (tgt := 234) hx hb dX5_obey_210 (by decide) k) ?_
  refine xm_Oks.step (sn_push hG (fun _ => trivial) fun ad H locs cells slots ls rest k => lv_iconst hx hb dX5_obey_213 (by decide) k) ?_
  refine xm_Oks.step (sn_goto hG fun H locs cells slots ls rest k => lv_goto (tgt := 234) hx hb dX5_obey_214 (by decide) k) ?_
  refine xm_Oks.step (sn_ldI hG fun H locs cells slots ls rest x h k => lv_iload hx hb dX5_obey_217 h k) ?_
  refine xm_Oks.step (sn_ldI hG fun H locs cells slots ls rest x h k => lv_iload hx hb dX5_obey_219 h k) ?_
  refine xm_Oks.step (sn_one hG xg_un_inv (fun _ _ => trivial) fun ad H locs cells slots ls rest x k => lv_ineg hx hb dX5_obey_221 k) ?_
  refine xm_Oks.step (sn_icmp hG fun H locs cells slots ls rest x y kt kf => lv_icmp_ge (tgt := 233) hx hb dX5_obey_222 (by decide) kt kf) ?_
  refine xm_Oks.step (sn_ldI hG fun H locs cells slots ls rest x h k => lv_iload hx hb dX5_obey_225 h k) ?_
  refine xm_Oks.step (sn_ldI hG fun H locs cells slots ls rest x h k => lv_iload hx hb dX5_obey_227 h k) ?_
  refine xm_Oks.step (sn_bin hG fun H locs cells slots ls rest x y k => lv_iadd hx hb dX5_obey_229 k) ?_
  refine xm_Oks.step (sn_goto hG fun H locs cells slots ls rest k => lv_goto (tgt := 234) hx hb dX5_obey_230 (by decide) k) ?_
  refine xm_Oks.step (sn_push hG (fun _ => trivial) fun ad H locs cells slots ls rest k => lv_iconst hx hb dX5_obey_233 (by decide) k) ?_
  refine xm_Oks.step (sn_stI hG fun H locs cells slots ls rest x lv lv9 h he k => lv_istore hx hb dX5_obey_234 h (by decide) he k) ?_
  refine xm_Oks.step (sn_goto hG fun H locs cells slots ls rest k => lv_goto (tgt := 320) hx hb dX5_obey_236 (by decide) k) ?_
  refine xm_Oks.step (sn_ldI hG fun H locs cells slots ls rest x h k => lv_iload_n hx hb dX5_obey_239 rfl h k) ?_
  refine xm_Oks.step (sn_if hG fun H locs cells slots ls rest x kt kf => lv_if_le (tgt := 281) hx hb dX5_obey_240 (by decide) kt kf) ?_
  refine xm_Oks.step (sn_ldI hG fun H locs cells slots ls rest x h k => lv_iload hx hb dX5_obey_243 h k) ?_
  refine xm_Oks.step (sn_push hG (fun _ => trivial) fun ad H locs cells slots ls rest k => lv_bipush hx hb dX5_obey_245 (by decide) k) ?_
  refine xm_Oks.step (sn_ldI hG fun H locs cells slots ls rest x h k => lv_iload_n hx hb dX5_obey_247 rfl h k) ?_
  refine xm_Oks.step (sn_bin hG fun H locs cells slots ls rest x y k => lv_imul hx hb dX5_obey_248 k) ?_
  refine xm_Oks.step (sn_icmp hG fun H locs cells slots ls rest x y kt kf => lv_icmp_ge (tgt := 281) hx hb dX5_obey_249 (by decide) kt kf) ?_
  refine xm_Oks.step (sn_ldI hG fun H locs cells slots ls rest x h k => lv_iload hx hb dX5_obey_252 h k) ?_
  refine xm_Oks.step (sn_ldI hG fun H locs cells slots ls rest x h k => lv_iload hx hb dX5_obey_254 h k) ?_
  refine xm_Oks.step (sn_bin hG fun H locs cells slots ls rest x y k => lv_iadd hx hb dX5_obey_256 k) ?_
  refine xm_Oks.step (sn_push hG (fun _ => trivial) fun ad H locs cells slots ls rest k => lv_bipush hx hb dX5_obey_257 (by decide) k) ?_
  refine xm_Oks.step (sn_ldI hG fun H locs cells slots ls rest x h k => lv_iload_n hx hb dX5_obey_259 rfl h k) ?_
  refine xm_Oks.step (sn_bin hG fun H locs cells slots ls rest x y k => lv_imul hx hb dX5_obey_260 k) ?_
  refine xm_Oks.step (sn_icmp hG fun H locs cells slots ls rest x y kt kf => lv_icmp_ge (tgt := 272) hx hb dX5_obey_261 (by decide) kt kf) ?_
  refine xm_Oks.step (sn_ldI hG fun H locs cells slots ls rest x h k => lv_iload hx hb dX5_obey_264 h k) ?_
  refine xm_Oks.step (sn_ldI hG fun H locs cells slots ls rest x h k => lv_iload hx hb dX5_obey_266 h k) ?_
  refine xm_Oks.step (sn_bin hG fun H locs cells slots ls rest x y k => lv_iadd hx hb dX5_obey_268 k) ?_
  refine xm_Oks.step (sn_goto hG fun H locs cells slots ls rest k => lv_goto (tgt := 276) hx hb dX5_obey_269 (by decide) k) ?_
  refine xm_Oks.step (sn_push hG (fun _ => trivial) fun ad H locs cells slots ls rest k => lv_bipush hx hb dX5_obey_272 (by decide) k) ?_
  refine xm_Oks.step (sn_ldI hG fun H locs cells slots ls rest x h k => lv_iload_n hx hb dX5_obey_274 rfl h k) ?_
  refine xm_Oks.step (sn_bin hG fun H locs cells slots ls rest x y k => lv_imul hx hb dX5_obey_275 k) ?_
  refine xm_Oks.step (sn_stI hG fun H locs cells slots ls rest x lv lv9 h he k => lv_istore hx hb dX5_obey_276 h (by decide) he k) ?_
  refine xm_Oks.step (sn_goto hG fun H locs cells slots ls rest k => lv_goto (tgt := 320) hx hb dX5_obey_278 (by decide) k) ?_
  refine xm_Oks.step (sn_ldI hG fun H locs cells slots ls rest x h k => lv_iload_n hx hb dX5_obey_281 rfl h k) ?_
  refine xm_Oks.step (sn_if hG fun H locs cells slots ls rest x kt kf => lv_if_le (tgt := 320) hx hb dX5_obey_282 (by decide) kt kf) ?_
  refine xm_Oks.step (sn_ldI hG fun H locs cells slots ls rest x h k => lv_iload hx hb dX5_obey_285 h k) ?_
  refine xm_Oks.step (sn_push hG (fun _ => trivial) fun ad H locs cells slots ls rest k => lv_bipush hx hb dX5_obey_287 (by decide) k) ?_
  refine xm_Oks.step (sn_ldI hG fun H locs cells slots ls rest x h k => lv_iload_n hx hb dX5_obey_289 rfl h k) ?_
  refine xm_Oks.step (sn_bin hG fun H locs cells slots ls rest x y k => lv_imul hx hb dX5_obey_290 k) ?_
  refine xm_Oks.step (sn_icmp hG fun H locs cells slots ls rest x y kt kf => lv_icmp_le (tgt := 320) hx hb dX5_obey_291 (by decide) kt kf) ?_
  refine xm_Oks.step (sn_ldI hG fun H locs cells slots ls rest x h k => lv_iload hx hb dX5_obey_294 h k) ?_
  refine xm_Oks.step (sn_ldI hG fun H locs cells slots ls rest x h k => lv_iload hx hb dX5_obey_296 h k) ?_
  refine xm_Oks.step (sn_bin hG fun H locs cells slots ls rest x y k => lv_isub hx hb dX5_obey_298 k) ?_
  refine xm_Oks.step (sn_push hG (fun _ => trivial) fun ad H locs cells slots ls rest k => lv_bipush hx hb dX5_obey_299 (by decide) k) ?_
  refine xm_Oks.step (sn_ldI hG fun H locs cells slots ls rest x h k => lv_iload_n hx hb dX5_obey_301 rfl h k) ?_
  refine xm_Oks.step (sn_bin hG fun H locs cells slots ls rest x y k => lv_imul hx hb dX5_obey_302 k) ?_
  refine xm_Oks.step (sn_icmp hG fun H locs cells slots ls rest x y kt kf => lv_icmp_le (tgt := 314) hx hb dX5_obey_303 (by decide) kt kf) ?_
  refine xm_Oks.step (sn_ldI hG fun H locs cells slots ls rest x h k => lv_iload hx hb dX5_obey_306 h k) ?_
  refine xm_Oks.step (sn_ldI hG fun H locs cells slots ls rest x h k => lv_iload hx hb dX5_obey_308 h k) ?_
  refine xm_Oks.step (sn_bin hG fun H locs cells slots ls rest x y k => lv_isub hx hb dX5_obey_310 k) ?_
  refine xm_Oks.step (sn_goto hG fun H locs cells slots ls rest k => lv_goto (tgt := 318) hx hb dX5_obey_311 (by decide) k) ?_
  refine xm_Oks.step (sn_push hG (fun _ => trivial) fun ad H locs cells slots ls rest k => lv_bipush hx hb dX5_obey_314 (by decide) k) ?_
  refine xm_Oks.step (sn_ldI hG fun H locs cells slots ls rest x h k => lv_iload_n hx hb dX5_obey_316 rfl h k) ?_
  refine xm_Oks.step (sn_bin hG fun H locs cells slots ls rest x y k => lv_imul hx hb dX5_obey_317 k) ?_
  refine xm_Oks.step (sn_stI hG fun H locs cells slots ls rest x lv lv9 h he k => lv_istore hx hb dX5_obey_318 h (by decide) he k) ?_
  refine xm_Oks.step (sn_ldR hG fun H locs cells slots ls rest x h k => lv_aload_n hx hb dX5_obey_320 rfl h k) ?_
  refine xm_Oks.step (sn_getR hG rfl rfl (by decide) fun H locs cells slots ls rest q0 ws a fs v hP hw hv k => va_get (D := D) (C := RX5) (T := TX5) (N := 22) hx hb ht xu_5 hown hK hP q0 hw rfl 4 (by decide) (ht _ xw_326) (fun _ h9 => h9) hv dX5_obey_321 k) ?_
  refine xm_Oks.step (sn_push hG (fun _ => trivial) fun ad H locs cells slots ls rest k => lv_bipush hx hb dX5_obey_324 (by decide) k) ?_
  refine xm_Oks.step (sn_ldI hG fun H locs cells slots ls rest x h k => lv_iload_n hx hb dX5_obey_326 rfl h k) ?_
  refine xm_Oks.step (sn_bin hG fun H locs cells slots ls rest x y k => lv_imul hx hb dX5_obey_327 k) ?_
  refine xm_Oks.step (sn_push hG (fun _ => trivial) fun ad H locs cells slots ls rest k => lv_iconst hx hb dX5_obey_328 (by decide) k) ?_
  refine xm_Oks.step (sn_bin hG fun H locs cells slots ls rest x y k => lv_iadd hx hb dX5_obey_329 k) ?_
  refine xm_Oks.step (sn_ldI hG fun H locs cells slots ls rest x h k => lv_iload hx hb dX5_obey_330 h k) ?_
  refine xm_Oks.step (sn_iast hG fun H locs cells slots ls rest q0 ws a N f x v hP hD hS hw hin k => va_iast hx hb hK hP hD hS q0 1 hw rfl hin dX5_obey_332 k) ?_
  refine xm_Oks.stop ?_
  exact trivial
set_option maxHeartbeats 4000000 in
set_option maxRecDepth 100000 in
theorem xk_X5_begin : xm_MOk xp_pg xp_pm 94 := by
  refine ⟨by decide +kernel, rfl, ?_, ?_⟩
  · show xm_Oks _ xt_X5_begin
    exact ⟨trivial, trivial, trivial, trivial, trivial, trivial, trivial, trivial, trivial, trivial, trivial, trivial, trivial, trivial, trivial, trivial, trivial, trivial, trivial, ⟨dX5_begin_27, rfl⟩, trivial⟩
  intro d mc ms p l e s m args below meth c Q cA D A tS ad0 o0 G hG hC hn ih
  have hG : xm_IsG p l e (xm_room (d + 1) mc ms) s m args below meth c Q cA D A tS 3 ad0 o0 G := hG
  have hC : xm_Cx p s m args c cX5_begin 3 RX5 (Cond.code yX5_begin cX5_begin 3 none :: xm_W) cA D A tS := hC
  have hn : meth.name = "begin" := hn
  obtain ⟨hx, hb, hml, hown, hts, hK, hA, hSx, hNx⟩ := id hC
  have ht : ∀ w ∈ xm_W, w.before args s = true := fun w h => hts w (List.mem_cons_of_mem _ h)
  show xm_Oks (xm_Ent (xm_room (d + 1) mc ms) G (xm_Do xp_pg d)) xt_X5_begin
  unfold xt_X5_begin
  refine xm_Oks.step (sn_ldR hG fun H locs cells slots ls rest x h k => lv_aload_n hx hb dX5_begin_0 rfl h k) ?_
  refine xm_Oks.step (sn_getR hG rfl rfl (by decide) fun H locs cells slots ls rest q0 ws a fs v hP hw hv k => va_get (D := D) (C := RX5) (T := TX5) (N := 22) hx hb ht xu_5 hown hK hP q0 hw rfl 5 (by decide) (ht _ xw_327) (fun _ h9 => h9) hv dX5_begin_1 k) ?_
  refine xm_Oks.step (sn_ldI hG fun H locs cells slots ls rest x h k => lv_iload_n hx hb dX5_begin_4 rfl h k) ?_
  refine xm_Oks.step (sn_ldI hG fun H locs cells slots ls rest x h k => lv_iload_n hx hb dX5_begin_5 rfl h k) ?_
  refine xm_Oks.step (sn_iast hG fun H locs cells slots ls rest q0 ws a N f x v hP hD hS hw hin k => va_iast hx hb hK hP hD hS q0 1 hw rfl hin dX5_begin_6 k) ?_
  refine xm_Oks.step (sn_ldR hG fun H locs cells slots ls rest x h k => lv_aload_n hx hb dX5_begin_7 rfl h k) ?_
  refine xm_Oks.step (sn_getR hG rfl rfl (by decide) fun H locs cells slots ls rest q0 ws a fs v hP hw hv k => va_get (D := D) (C := RX5) (T := TX5) (N := 22) hx hb ht xu_5 hown hK hP q0 hw rfl 6 (by decide) (ht _ xw_328) (fun _ h9 => h9) hv dX5_begin_8 k) ?_
  refine xm_Oks.step (sn_ldI hG fun H locs cells slots ls rest x h k => lv_iload_n hx hb dX5_begin_11 rfl h k) ?_
  refine xm_Oks.step (sn_ldR hG fun H locs cells slots ls rest x h k => lv_aload_n hx hb dX5_begin_12 rfl h k) ?_
  refine xm_Oks.step (sn_ldI hG fun H locs cells slots ls rest x h k => lv_iload_n hx hb dX5_begin_13 rfl h k) ?_
  refine xm_Oks.step (sn_push hG (fun _ => trivial) fun ad H locs cells slots ls rest k => lv_iconst hx hb dX5_begin_14 (by decide) k) ?_
  refine xm_Oks.step (sn_push hG (fun _ => trivial) fun ad H locs cells slots ls rest k => lv_iconst hx hb dX5_begin_15 (by decide) k) ?_
  refine xm_Oks.call (xm_sndC hG hC (xm_callV ⟨hx, hb, hml, hown, hts⟩ xw_384 xw_385 xw_386 xw_338 xw_387 (by decide +kernel) dX5_begin_16) (Nat.le_refl _) (by show 8 + (5 + 11) + 40 * d ≤ 40 * (d + 1); omega) (fun C0 h9 => by cases h9; exact ⟨5, _, _, by decide, by decide, rfl, rfl, rfl⟩) (fun as M v M1 mc ms h9 ad sz g1 g2 => ih 89 as M v M1 mc ms h9 ad sz g1 g2)) ?_
  refine xm_Oks.step (sn_iast hG fun H locs cells slots ls rest q0 ws a N f x v hP hD hS hw hin k => va_iast hx hb hK hP hD hS q0 1 hw rfl hin dX5_begin_19 k) ?_
  refine xm_Oks.step (sn_ldR hG fun H locs cells slots ls rest x h k => lv_aload_n hx hb dX5_begin_20 rfl h k) ?_
  refine xm_Oks.step (sn_getR hG rfl rfl (by decide) fun H locs cells slots ls rest q0 ws a fs v hP hw hv k => va_get (D := D) (C := RX5) (T := TX5) (N := 22) hx hb ht xu_5 hown hK hP q0 hw rfl 7 (by decide) (ht _ xw_329) (fun _ h9 => h9) hv dX5_begin_21 k) ?_
  refine xm_Oks.step (sn_ldI hG fun H locs cells slots ls rest x h k => lv_iload_n hx hb dX5_begin_24 rfl h k) ?_
  refine xm_Oks.step (sn_push hG (fun _ => trivial) fun ad H locs cells slots ls rest k => lv_iconst hx hb dX5_begin_25 (by decide) k) ?_
  refine xm_Oks.step (sn_iast hG fun H locs cells slots ls rest q0 ws a N f x v hP hD hS hw hin k => va_iast hx hb hK hP hD hS q0 1 hw rfl hin dX5_begin_26 k) ?_
  refine xm_Oks.stop ?_
  exact trivial
set_option maxHeartbeats 4000000 in
set_option maxRecDepth 100000 in
theorem xk_X5_advise : xm_MOk xp_pg xp_pm 95 := by
  refine ⟨by decide +kernel, rfl, ?_, ?_⟩
  · show xm_Oks _ xt_X5_advise
    exact ⟨trivial, trivial, trivial, trivial, trivial, trivial, trivial, trivial, trivial, trivial, trivial, trivial, trivial, trivial, trivial, trivial, trivial, trivial, trivial, trivial, trivial, trivial, trivial, trivial, trivial, trivial, ⟨dX5_advise_42, rfl⟩, trivial, trivial, trivial, trivial, trivial, trivial, trivial, trivial, trivial, trivial, trivial, trivial, trivial, trivial, trivial, trivial, trivial, trivial, trivial, trivial, trivial, trivial, trivial, trivial, trivial, trivial, trivial, trivial, trivial, trivial, trivial, trivial, trivial, trivial, trivial, trivial, ⟨dX5_advise_97, rfl⟩, trivial, trivial, trivial, trivial, trivial, trivial, trivial, trivial, trivial, trivial, trivial, trivial, trivial, trivial, trivial, trivial, trivial, trivial, trivial, trivial, trivial, trivial, trivial, trivial, trivial, trivial, trivial, trivial, trivial, trivial, trivial, trivial, trivial, trivial, trivial, trivial, trivial, trivial, trivial, trivial, trivial, trivial, trivial, trivial, trivial, trivial, trivial, trivial, trivial, trivial, trivial, trivial, trivial, trivial, trivial, trivial, trivial, trivial, trivial, trivial, trivial, trivial, trivial, trivial, trivial, trivial, trivial, trivial, trivial, trivial, trivial, trivial, trivial, trivial, trivial, ⟨dX5_advise_211, rfl⟩, trivial, trivial, trivial, trivial, trivial, trivial, trivial, trivial, trivial, trivial, trivial, trivial, trivial, trivial, trivial, trivial, trivial, trivial, trivial, trivial, trivial, trivial, trivial, trivial, trivial, trivial, trivial, trivial, trivial, trivial, trivial, trivial, trivial, trivial, trivial, trivial, trivial, trivial, trivial, trivial, trivial, ⟨dX5_advise_275, rfl⟩, trivial⟩
  intro d mc ms p l e s m args below meth c Q cA D A tS ad0 o0 G hG hC hn ih
  have hG : xm_IsG p l e (xm_room (d + 1) mc ms) s m args below meth c Q cA D A tS 4 ad0 o0 G := hG
  have hC : xm_Cx p s m args c cX5_advise 4 RX5 (Cond.code yX5_advise cX5_advise 4 none :: xm_W) cA D A tS := hC
  have hn : meth.name = "advise" := hn
  obtain ⟨hx, hb, hml, hown, hts, hK, hA, hSx, hNx⟩ := id hC
  have ht : ∀ w ∈ xm_W, w.before args s = true := fun w h => hts w (List.mem_cons_of_mem _ h)
  show xm_Oks (xm_Ent (xm_room (d + 1) mc ms) G (xm_Do xp_pg d)) xt_X5_advise
  unfold xt_X5_advise
  refine xm_Oks.step (sn_ldR hG fun H locs cells slots ls rest x h k => lv_aload_n hx hb dX5_advise_0 rfl h k) ?_
  refine xm_Oks.step (sn_getR hG rfl rfl (by decide) fun H locs cells slots ls rest q0 ws a fs v hP hw hv k => va_get (D := D) (C := RX5) (T := TX5) (N := 22) hx hb ht xu_5 hown hK hP q0 hw rfl 5 (by decide) (ht _ xw_327) (fun _ h9 => h9) hv dX5_advise_1 k) ?_
  refine xm_Oks.step (sn_ldI hG fun H locs cells slots ls rest x h k => lv_iload_n hx hb dX5_advise_4 rfl h k) ?_
  refine xm_Oks.step (sn_iald hG fun H locs cells slots ls rest q0 ws a N f x hP hw hin k => va_iald hx hb hK hP q0 1 hw rfl hin dX5_advise_5 k) ?_
  refine xm_Oks.step (sn_if hG fun H locs cells slots ls rest x kt kf => lv_if_ne (tgt := 43) hx hb dX5_advise_6 (by decide) kt (fun h9 => kf (fun h8 => h8 h9))) ?_
  refine xm_Oks.step (sn_ldR hG fun H locs cells slots ls rest x h k => lv_aload_n hx hb dX5_advise_9 rfl h k) ?_
  refine xm_Oks.call (xm_sndC hG hC (xm_callV ⟨hx, hb, hml, hown, hts⟩ xw_391 xw_392 xw_393 xw_338 xw_394 (by decide +kernel) dX5_advise_10) (Nat.le_refl _) (by show 8 + (7 + 11) + 40 * d ≤ 40 * (d + 1); omega) (fun C0 h9 => by cases h9; exact ⟨5, _, _, by decide, by decide, rfl, rfl, rfl⟩) (fun as M v M1 mc ms h9 ad sz g1 g2 => ih 86 as M v M1 mc ms h9 ad sz g1 g2)) ?_
  refine xm_Oks.step (sn_if hG fun H locs cells slots ls rest x kt kf => lv_if_eq (tgt := 42) hx hb dX5_advise_13 (by decide) kt kf) ?_
  refine xm_Oks.step (sn_ldR hG fun H locs cells slots ls rest x h k => lv_aload_n hx hb dX5_advise_16 rfl h k) ?_
  refine xm_Oks.step (sn_ldI hG fun H locs cells slots ls rest x h k => lv_iload_n hx hb dX5_advise_17 rfl h k) ?_
  refine xm_Oks.step (sn_ldR hG fun H locs cells slots ls rest x h k => lv_aload_n hx hb dX5_advise_18 rfl h k) ?_
  refine xm_Oks.call (xm_sndC hG hC (xm_callV ⟨hx, hb, hml, hown, hts⟩ xw_395 xw_396 xw_397 xw_338 xw_398 (by decide +kernel) dX5_advise_19) (Nat.le_refl _) (by show 8 + (7 + 11) + 40 * d ≤ 40 * (d + 1); omega) (fun C0 h9 => by cases h9; exact ⟨5, _, _, by decide, by decide, rfl, rfl, rfl⟩) (fun as M v M1 mc ms h9 ad sz g1 g2 => ih 90 as M v M1 mc ms h9 ad sz g1 g2)) ?_
  refine xm_Oks.call (xm_sndC hG hC (xm_callV ⟨hx, hb, hml, hown, hts⟩ xw_399 xw_400 xw_401 xw_338 xw_402 (by decide +kernel) dX5_advise_22) (Nat.le_refl _) (by show 8 + (3 + 11) + 40 * d ≤ 40 * (d + 1); omega) (fun C0 h9 => by cases h9; exact ⟨5, _, _, by decide, by decide, rfl, rfl, rfl⟩) (fun as M v M1 mc ms h9 ad sz g1 g2 => ih 94 as M v M1 mc ms h9 ad sz g1 g2)) ?_
  refine xm_Oks.step (sn_ldR hG fun H locs cells slots ls rest x h k => lv_aload_n hx hb dX5_advise_25 rfl h k) ?_
  refine xm_Oks.step (sn_getR hG rfl rfl (by decide) fun H locs cells slots ls rest q0 ws a fs v hP hw hv k => va_get (D := D) (C := RX5) (T := TX5) (N := 22) hx hb ht xu_5 hown hK hP q0 hw rfl 8 (by decide) (ht _ xw_330) (fun _ h9 => h9) hv dX5_advise_26 k) ?_
  refine xm_Oks.step (sn_ldI hG fun H locs cells slots ls rest x h k => lv_iload_n hx hb dX5_advise_29 rfl h k) ?_
  refine xm_Oks.step (sn_push hG (fun _ => trivial) fun ad H locs cells slots ls rest k => lv_iconst hx hb dX5_advise_30 (by decide) k) ?_
  refine xm_Oks.step (sn_zast hG fun H locs cells slots ls rest q0 ws a N f x v hP hD hS hw hin k => va_zast hx hb hK hP hD hS q0 3 hw rfl hin dX5_advise_31 k) ?_
  refine xm_Oks.step (sn_ldR hG fun H locs cells slots ls rest x h k => lv_aload_n hx hb dX5_advise_32 rfl h k) ?_
  refine xm_Oks.step (sn_getR hG rfl rfl (by decide) fun H locs cells slots ls rest q0 ws a fs v hP hw hv k => va_get (D := D) (C := RX5) (T := TX5) (N := 22) hx hb ht xu_5 hown hK hP q0 hw rfl 11 (by decide) (ht _ xw_334) (fun _ h9 => h9) hv dX5_advise_33 k) ?_
  refine xm_Oks.step (sn_push hG (fun _ => trivial) fun ad H locs cells slots ls rest k => lv_iconst hx hb dX5_advise_36 (by decide) k) ?_
  refine xm_Oks.step (sn_dup2 hG fun H locs cells slots ls rest v w h1 h2 k => lv_dup2_11 hx hb dX5_advise_37 h1 h2 k) ?_
  refine xm_Oks.step (sn_iald hG fun H locs cells slots ls rest q0 ws a N f x hP hw hin k => va_iald hx hb hK hP q0 1 hw rfl hin dX5_advise_38 k) ?_
  refine xm_Oks.step (sn_push hG (fun _ => trivial) fun ad H locs cells slots ls rest k => lv_iconst hx hb dX5_advise_39 (by decide) k) ?_
  refine xm_Oks.step (sn_bin hG fun H locs cells slots ls rest x y k => lv_iadd hx hb dX5_advise_40 k) ?_
  refine xm_Oks.step (sn_iast hG fun H locs cells slots ls rest q0 ws a N f x v hP hD hS hw hin k => va_iast hx hb hK hP hD hS q0 1 hw rfl hin dX5_advise_41 k) ?_
  refine xm_Oks.stop ?_
  refine xm_Oks.step (sn_ldR hG fun H locs cells slots ls rest x h k => lv_aload_n hx hb dX5_advise_43 rfl h k) ?_
  refine xm_Oks.call (xm_sndC hG hC (xm_callV ⟨hx, hb, hml, hown, hts⟩ xw_391 xw_392 xw_393 xw_338 xw_394 (by decide +kernel) dX5_advise_44) (Nat.le_refl _) (by show 8 + (7 + 11) + 40 * d ≤ 40 * (d + 1); omega) (fun C0 h9 => by cases h9; exact ⟨5, _, _, by decide, by decide, rfl, rfl, rfl⟩) (fun as M v M1 mc ms h9 ad sz g1 g2 => ih 86 as M v M1 mc ms h9 ad sz g1 g2)) ?_
  refine xm_Oks.step (sn_if hG fun H locs cells slots ls rest x kt kf => lv_if_ne (tgt := 98) hx hb dX5_advise_47 (by decide) kt (fun h9 => kf (fun h8 => h8 h9))) ?_
  refine xm_Oks.step (sn_ldR hG fun H locs cells slots ls rest x h k => lv_aload_n hx hb dX5_advise_50 rfl h k) ?_
  refine xm_Oks.step (sn_getL hG rfl rfl (by decide) fun H locs cells slots ls rest q0 ws a fs v hP hw hv k => va_get (D := D) (C := RX5) (T := TX5) (N := 22) hx hb ht xu_5 hown hK hP q0 hw rfl 20 (by decide) (ht _ xw_369) (fun _ h9 => h9) hv dX5_advise_51 k) ?_
  refine xm_Oks.step (sn_push hG (fun _ => trivial) fun ad H locs cells slots ls rest k => lv_lconst hx hb dX5_advise_54 (by decide) k) ?_
  refine xm_Oks.step (sn_lcmp hG fun H locs cells slots ls rest x y k => W.lcmp hx hb dX5_advise_55 k) ?_
  refine xm_Oks.step (sn_if hG fun H locs cells slots ls rest x kt kf => lv_if_lt (tgt := 98) hx hb dX5_advise_56 (by decide) kt kf) ?_
  refine xm_Oks.step (sn_ldR hG fun H locs cells slots ls rest x h k => lv_aload_n hx hb dX5_advise_59 rfl h k) ?_
  refine xm_Oks.step (sn_getR hG rfl rfl (by decide) fun H locs cells slots ls rest q0 ws a fs v hP hw hv k => va_get (D := D) (C := RX5) (T := TX5) (N := 22) hx hb ht xu_5 hown hK hP q0 hw rfl 5 (by decide) (ht _ xw_327) (fun _ h9 => h9) hv dX5_advise_60 k) ?_
  refine xm_Oks.step (sn_ldI hG fun H locs cells slots ls rest x h k => lv_iload_n hx hb dX5_advise_63 rfl h k) ?_
  refine xm_Oks.step (sn_push hG (fun _ => trivial) fun ad H locs cells slots ls rest k => lv_iconst hx hb dX5_advise_64 (by decide) k) ?_
  refine xm_Oks.step (sn_iast hG fun H locs cells slots ls rest q0 ws a N f x v hP hD hS hw hin k => va_iast hx hb hK hP hD hS q0 1 hw rfl hin dX5_advise_65 k) ?_
  refine xm_Oks.step (sn_ldR hG fun H locs cells slots ls rest x h k => lv_aload_n hx hb dX5_advise_66 rfl h k) ?_
  refine xm_Oks.step (sn_getR hG rfl rfl (by decide) fun H locs cells slots ls rest q0 ws a fs v hP hw hv k => va_get (D := D) (C := RX5) (T := TX5) (N := 22) hx hb ht xu_5 hown hK hP q0 hw rfl 6 (by decide) (ht _ xw_328) (fun _ h9 => h9) hv dX5_advise_67 k) ?_
  refine xm_Oks.step (sn_ldI hG fun H locs cells slots ls rest x h k => lv_iload_n hx hb dX5_advise_70 rfl h k) ?_
  refine xm_Oks.step (sn_push hG (fun _ => trivial) fun ad H locs cells slots ls rest k => lv_iconst hx hb dX5_advise_71 (by decide) k) ?_
  refine xm_Oks.step (sn_iast hG fun H locs cells slots ls rest q0 ws a N f x v hP hD hS hw hin k => va_iast hx hb hK hP hD hS q0 1 hw rfl hin dX5_advise_72 k) ?_
  refine xm_Oks.step (sn_ldR hG fun H locs cells slots ls rest x h k => lv_aload_n hx hb dX5_advise_73 rfl h k) ?_
  refine xm_Oks.step (sn_getR hG rfl rfl (by decide) fun H locs cells slots ls rest q0 ws a fs v hP hw hv k => va_get (D := D) (C := RX5) (T := TX5) (N := 22) hx hb ht xu_5 hown hK hP q0 hw rfl 7 (by decide) (ht _ xw_329) (fun _ h9 => h9) hv dX5_advise_74 k) ?_
  refine xm_Oks.step (sn_ldI hG fun H locs cells slots ls rest x h k => lv_iload_n hx hb dX5_advise_77 rfl h k) ?_
  refine xm_Oks.step (sn_push hG (fun _ => trivial) fun ad H locs cells slots ls rest k => lv_iconst hx hb dX5_advise_78 (by decide) k) ?_
  refine xm_Oks.step (sn_iast hG fun H locs cells slots ls rest q0 ws a N f x v hP hD hS hw hin k => va_iast hx hb hK hP hD hS q0 1 hw rfl hin dX5_advise_79 k) ?_
  refine xm_Oks.step (sn_ldR hG fun H locs cells slots ls rest x h k => lv_aload_n hx hb dX5_advise_80 rfl h k) ?_
  refine xm_Oks.step (sn_getR hG rfl rfl (by decide) fun H locs cells slots ls rest q0 ws a fs v hP hw hv k => va_get (D := D) (C := RX5) (T := TX5) (N := 22) hx hb ht xu_5 hown hK hP q0 hw rfl 8 (by decide) (ht _ xw_330) (fun _ h9 => h9) hv dX5_advise_81 k) ?_
  refine xm_Oks.step (sn_ldI hG fun H locs cells slots ls rest x h k => lv_iload_n hx hb dX5_advise_84 rfl h k) ?_
  refine xm_Oks.step (sn_push hG (fun _ => trivial) fun ad H locs cells slots ls rest k => lv_iconst hx hb dX5_advise_85 (by decide) k) ?_
  refine xm_Oks.step (sn_zast hG fun H locs cells slots ls rest q0 ws a N f x v hP hD hS hw hin k => va_zast hx hb hK hP hD hS q0 3 hw rfl hin dX5_advise_86 k) ?_
  refine xm_Oks.step (sn_ldR hG fun H locs cells slots ls rest x h k => lv_aload_n hx hb dX5_advise_87 rfl h k) ?_
  refine xm_Oks.step (sn_getR hG rfl rfl (by decide) fun H locs cells slots ls rest q0 ws a fs v hP hw hv k => va_get (D := D) (C := RX5) (T := TX5) (N := 22) hx hb ht xu_5 hown hK hP q0 hw rfl 11 (by decide) (ht _ xw_334) (fun _ h9 => h9) hv dX5_advise_88 k) ?_
  refine xm_Oks.step (sn_push hG (fun _ => trivial) fun ad H locs cells slots ls rest k => lv_iconst hx hb dX5_advise_91 (by decide) k) ?_
  refine xm_Oks.step (sn_dup2 hG fun H locs cells slots ls rest v w h1 h2 k => lv_dup2_11 hx hb dX5_advise_92 h1 h2 k) ?_
  refine xm_Oks.step (sn_iald hG fun H locs cells slots ls rest q0 ws a N f x hP hw hin k => va_iald hx hb hK hP q0 1 hw rfl hin dX5_advise_93 k) ?_
  refine xm_Oks.step (sn_push hG (fun _ => trivial) fun ad H locs cells slots ls rest k => lv_iconst hx hb dX5_advise_94 (by decide) k) ?_
  refine xm_Oks.step (sn_bin hG fun H locs cells slots ls rest x y k => lv_iadd hx hb dX5_advise_95 k) ?_
  refine xm_Oks.step (sn_iast hG fun H locs cells slots ls rest q0 ws a N f x v hP hD hS hw hin k => va_iast hx hb hK hP hD hS q0 1 hw rfl hin dX5_advise_96 k) ?_
  refine xm_Oks.stop ?_
  refine xm_Oks.step (sn_ldR hG fun H locs cells slots ls rest x h k => lv_aload_n hx hb dX5_advise_98 rfl h k) ?_
  refine xm_Oks.step (sn_getR hG rfl rfl (by decide) fun H locs cells slots ls rest q0 ws a fs v hP hw hv k => va_get (D := D) (C := RX5) (T := TX5) (N := 22) hx hb ht xu_5 hown hK hP q0 hw rfl 7 (by decide) (ht _ xw_329) (fun _ h9 => h9) hv dX5_advise_99 k) ?_
  refine xm_Oks.step (sn_ldI hG fun H locs cells slots ls rest x h k => lv_iload_n hx hb dX5_advise_102 rfl h k) ?_
  refine xm_Oks.step (sn_dup2 hG fun H locs cells slots ls rest v w h1 h2 k => lv_dup2_11 hx hb dX5_advise_103 h1 h2 k) ?_
  refine xm_Oks.step (sn_iald hG fun H locs cells slots ls rest q0 ws a N f x hP hw hin k => va_iald hx hb hK hP q0 1 hw rfl hin dX5_advise_104 k) ?_
  refine xm_Oks.step (sn_push hG (fun _ => trivial) fun ad H locs cells slots ls rest k => lv_iconst hx hb dX5_advise_105 (by decide) k) ?_
  refine xm_Oks.step (sn_bin hG fun H locs cells slots ls rest x y k => lv_iadd hx hb dX5_advise_106 k) ?_
  refine xm_Oks.step (sn_iast hG fun H locs cells slots ls rest q0 ws a N f x v hP hD hS hw hin k => va_iast hx hb hK hP hD hS q0 1 hw rfl hin dX5_advise_107 k) ?_
  refine xm_Oks.step (sn_ldR hG fun H locs cells slots ls rest x h k => lv_aload_n hx hb dX5_advise_108 rfl h k) ?_
  refine xm_Oks.step (sn_getR hG rfl rfl (by decide) fun H locs cells slots ls rest q0 ws a fs v hP hw hv k => va_get (D := D) (C := RX5) (T := TX5) (N := 22) hx hb ht xu_5 hown hK hP q0 hw rfl 5 (by decide) (ht _ xw_327) (fun _ h9 => h9) hv dX5_advise_109 k) ?_
  refine xm_Oks.step (sn_ldI hG fun H locs cells slots ls rest x h k => lv_iload_n hx hb dX5_advise_112 rfl h k) ?_
  refine xm_Oks.step (sn_iald hG fun H locs cells slots ls rest q0 ws a N f x hP hw hin k => va_iald hx hb hK hP q0 1 hw rfl hin dX5_advise_113 k) ?_
  refine xm_Oks.step (sn_push hG (fun _ => trivial) fun ad H locs cells slots ls rest k => lv_iconst hx hb dX5_advise_114 (by decide) k) ?_
  refine xm_Oks.step (sn_icmp hG fun H locs cells slots ls rest x y kt kf => lv_icmp_ne (tgt := 122) hx hb dX5_advise_115 (by decide) kt (fun h9 => kf (fun h8 => h8 h9))) ?_
  refine xm_Oks.step (sn_push hG (fun _ => trivial) fun ad H locs cells slots ls rest k => lv_iconst hx hb dX5_advise_118 (by decide) k) ?_
  refine xm_Oks.step (sn_goto hG fun H locs cells slots ls rest k => lv_goto (tgt := 123) hx hb dX5_advise_119 (by decide) k) ?_
  refine xm_Oks.step (sn_push hG (fun _ => trivial) fun ad H locs cells slots ls rest k => lv_iconst hx hb dX5_advise_122 (by decide) k) ?_
  refine xm_Oks.step (sn_stI hG fun H locs cells slots ls rest x lv lv9 h he k => lv_istore_n hx hb dX5_advise_123 rfl h (by decide) he k) ?_
  refine xm_Oks.step (sn_ldR hG fun H locs cells slots ls rest x h k => lv_aload_n hx hb dX5_advise_124 rfl h k) ?_
  refine xm_Oks.step (sn_ldR hG fun H locs cells slots ls rest x h k => lv_aload_n hx hb dX5_advise_125 rfl h k) ?_
  refine xm_Oks.step (sn_getR hG rfl rfl (by decide) fun H locs cells slots ls rest q0 ws a fs v hP hw hv k => va_get (D := D) (C := RX5) (T := TX5) (N := 22) hx hb ht xu_5 hown hK hP q0 hw rfl 5 (by decide) (ht _ xw_327) (fun _ h9 => h9) hv dX5_advise_126 k) ?_
  refine xm_Oks.step (sn_ldI hG fun H locs cells slots ls rest x h k => lv_iload_n hx hb dX5_advise_129 rfl h k) ?_
  refine xm_Oks.step (sn_iald hG fun H locs cells slots ls rest q0 ws a N f x hP hw hin k => va_iald hx hb hK hP q0 1 hw rfl hin dX5_advise_130 k) ?_
  refine xm_Oks.step (sn_push hG (fun _ => trivial) fun ad H locs cells slots ls rest k => lv_iconst hx hb dX5_advise_131 (by decide) k) ?_
  refine xm_Oks.step (sn_ldR hG fun H locs cells slots ls rest x h k => lv_aload_n hx hb dX5_advise_132 rfl h k) ?_
  refine xm_Oks.step (sn_getR hG rfl rfl (by decide) fun H locs cells slots ls rest q0 ws a fs v hP hw hv k => va_get (D := D) (C := RX5) (T := TX5) (N := 22) hx hb ht xu_5 hown hK hP q0 hw rfl 7 (by decide) (ht _ xw_329) (fun _ h9 => h9) hv dX5_advise_133 k) ?_
  refine xm_Oks.step (sn_ldI hG fun H locs cells slots ls rest x h k => lv_iload_n hx hb dX5_advise_136 rfl h k) ?_
  refine xm_Oks.step (sn_iald hG fun H locs cells slots ls rest q0 ws a N f x hP hw hin k => va_iald hx hb hK hP q0 1 hw rfl hin dX5_advise_137 k) ?_
  refine xm_Oks.call (xm_sndC hG hC (xm_callV ⟨hx, hb, hml, hown, hts⟩ xw_380 xw_381 xw_382 xw_338 xw_383 (by decide +kernel) dX5_advise_138) (Nat.le_refl _) (by show 8 + (8 + 11) + 40 * d ≤ 40 * (d + 1); omega) (fun C0 h9 => by cases h9; exact ⟨5, _, _, by decide, by decide, rfl, rfl, rfl⟩) (fun as M v M1 mc ms h9 ad sz g1 g2 => ih 88 as M v M1 mc ms h9 ad sz g1 g2)) ?_
  refine xm_Oks.step (sn_push hG (fun _ => trivial) fun ad H locs cells slots ls rest k => lv_lconst hx hb dX5_advise_141 (by decide) k) ?_
  refine xm_Oks.step (sn_lcmp hG fun H locs cells slots ls rest x y k => W.lcmp hx hb dX5_advise_142 k) ?_
  refine xm_Oks.step (sn_if hG fun H locs cells slots ls rest x kt kf => lv_if_ge (tgt := 212) hx hb dX5_advise_143 (by decide) kt kf) ?_
  refine xm_Oks.step (sn_ldR hG fun H locs cells slots ls rest x h k => lv_aload_n hx hb dX5_advise_146 rfl h k) ?_
  refine xm_Oks.step (sn_ldI hG fun H locs cells slots ls rest x h k => lv_iload_n hx hb dX5_advise_147 rfl h k) ?_
  refine xm_Oks.step (sn_push hG (fun _ => trivial) fun ad H locs cells slots ls rest k => lv_iconst hx hb dX5_advise_148 (by decide) k) ?_
  refine xm_Oks.step (sn_push hG (fun _ => trivial) fun ad H locs cells slots ls rest k => lv_iconst hx hb dX5_advise_149 (by decide) k) ?_
  refine xm_Oks.call (xm_sndC hG hC (xm_callV ⟨hx, hb, hml, hown, hts⟩ xw_380 xw_381 xw_382 xw_338 xw_383 (by decide +kernel) dX5_advise_150) (Nat.le_refl _) (by show 8 + (8 + 11) + 40 * d ≤ 40 * (d + 1); omega) (fun C0 h9 => by cases h9; exact ⟨5, _, _, by decide, by decide, rfl, rfl, rfl⟩) (fun as M v M1 mc ms h9 ad sz g1 g2 => ih 88 as M v M1 mc ms h9 ad sz g1 g2)) ?_
  refine xm_Oks.step (sn_ldR hG fun H locs cells slots ls rest x h k => lv_aload_n hx hb dX5_advise_153 rfl h k) ?_
  refine xm_Oks.step (sn_getR hG rfl rfl (by decide) fun H locs cells slots ls rest q0 ws a fs v hP hw hv k => va_get (D := D) (C := RX5) (T := TX5) (N := 22) hx hb ht xu_5 hown hK hP q0 hw rfl 1 (by decide) (ht _ xw_322) (fun _ h9 => h9) hv dX5_advise_154 k) ?_
  refine xm_Oks.step (sn_push hG (fun _ => trivial) fun ad H locs cells slots ls rest k => lv_iconst hx hb dX5_advise_157 (by decide) k) ?_
  refine xm_Oks.step (sn_iald hG fun H locs cells slots ls rest q0 ws a N f x hP hw hin k => va_iald hx hb hK hP q0 1 hw rfl hin dX5_advise_158 k) ?_
  refine xm_Oks.step (sn_one hG xg_i2l_inv (fun _ _ => trivial) fun ad H locs cells slots ls rest x k => lv_i2l hx hb dX5_advise_159 rfl k) ?_
  refine xm_Oks.step (sn_lcmp hG fun H locs cells slots ls rest x y k => W.lcmp hx hb dX5_advise_160 k) ?_
  refine xm_Oks.step (sn_if hG fun H locs cells slots ls rest x kt kf => lv_if_lt (tgt := 212) hx hb dX5_advise_161 (by decide) kt kf) ?_
  refine xm_Oks.step (sn_ldR hG fun H locs cells slots ls rest x h k => lv_aload_n hx hb dX5_advise_164 rfl h k) ?_
  refine xm_Oks.step (sn_getR hG rfl rfl (by decide) fun H locs cells slots ls rest q0 ws a fs v hP hw hv k => va_get (D := D) (C := RX5) (T := TX5) (N := 22) hx hb ht xu_5 hown hK hP q0 hw rfl 8 (by decide) (ht _ xw_330) (fun _ h9 => h9) hv dX5_advise_165 k) ?_
  refine xm_Oks.step (sn_ldI hG fun H locs cells slots ls rest x h k => lv_iload_n hx hb dX5_advise_168 rfl h k) ?_
  refine xm_Oks.step (sn_zald hG fun H locs cells slots ls rest q0 ws a N f x hP hw hin k => va_zald hx hb hK hP q0 3 hw rfl hin dX5_advise_169 k) ?_
  refine xm_Oks.step (sn_if hG fun H locs cells slots ls rest x kt kf => lv_if_ne (tgt := 212) hx hb dX5_advise_170 (by decide) kt (fun h9 => kf (fun h8 => h8 h9))) ?_
  refine xm_Oks.step (sn_ldR hG fun H locs cells slots ls rest x h k => lv_aload_n hx hb dX5_advise_173 rfl h k) ?_
  refine xm_Oks.step (sn_getL hG rfl rfl (by decide) fun H locs cells slots ls rest q0 ws a fs v hP hw hv k => va_get (D := D) (C := RX5) (T := TX5) (N := 22) hx hb ht xu_5 hown hK hP q0 hw rfl 21 (by decide) (ht _ xw_370) (fun _ h9 => h9) hv dX5_advise_174 k) ?_
  refine xm_Oks.step (sn_ldR hG fun H locs cells slots ls rest x h k => lv_aload_n hx hb dX5_advise_177 rfl h k) ?_
  refine xm_Oks.step (sn_getR hG rfl rfl (by decide) fun H locs cells slots ls rest q0 ws a fs v hP hw hv k => va_get (D := D) (C := RX5) (T := TX5) (N := 22) hx hb ht xu_5 hown hK hP q0 hw rfl 1 (by decide) (ht _ xw_322) (fun _ h9 => h9) hv dX5_advise_178 k) ?_
  refine xm_Oks.step (sn_push hG (fun _ => trivial) fun ad H locs cells slots ls rest k => lv_iconst hx hb dX5_advise_181 (by decide) k) ?_
  refine xm_Oks.step (sn_iald hG fun H locs cells slots ls rest q0 ws a N f x hP hw hin k => va_iald hx hb hK hP q0 1 hw rfl hin dX5_advise_182 k) ?_
  refine xm_Oks.step (sn_one hG xg_i2l_inv (fun _ _ => trivial) fun ad H locs cells slots ls rest x k => lv_i2l hx hb dX5_advise_183 rfl k) ?_
  refine xm_Oks.step (sn_lcmp hG fun H locs cells slots ls rest x y k => W.lcmp hx hb dX5_advise_184 k) ?_
  refine xm_Oks.step (sn_if hG fun H locs cells slots ls rest x kt kf => lv_if_le (tgt := 212) hx hb dX5_advise_185 (by decide) kt kf) ?_
  refine xm_Oks.step (sn_ldR hG fun H locs cells slots ls rest x h k => lv_aload_n hx hb dX5_advise_188 rfl h k) ?_
  refine xm_Oks.step (sn_ldI hG fun H locs cells slots ls rest x h k => lv_iload_n hx hb dX5_advise_189 rfl h k) ?_
  refine xm_Oks.step (sn_ldI hG fun H locs cells slots ls rest x h k => lv_iload_n hx hb dX5_advise_190 rfl h k) ?_
  refine xm_Oks.call (xm_sndC hG hC (xm_callV ⟨hx, hb, hml, hown, hts⟩ xw_399 xw_400 xw_401 xw_338 xw_402 (by decide +kernel) dX5_advise_191) (Nat.le_refl _) (by show 8 + (3 + 11) + 40 * d ≤ 40 * (d + 1); omega) (fun C0 h9 => by cases h9; exact ⟨5, _, _, by decide, by decide, rfl, rfl, rfl⟩) (fun as M v M1 mc ms h9 ad sz g1 g2 => ih 94 as M v M1 mc ms h9 ad sz g1 g2)) ?_
  refine xm_Oks.step (sn_ldR hG fun H locs cells slots ls rest x h k => lv_aload_n hx hb dX5_advise_194 rfl h k) ?_
  refine xm_Oks.step (sn_getR hG rfl rfl (by decide) fun H locs cells slots ls rest q0 ws a fs v hP hw hv k => va_get (D := D) (C := RX5) (T := TX5) (N := 22) hx hb ht xu_5 hown hK hP q0 hw rfl 8 (by decide) (ht _ xw_330) (fun _ h9 => h9) hv dX5_advise_195 k) ?_
  refine xm_Oks.step (sn_ldI hG fun H locs cells slots ls rest x h k => lv_iload_n hx hb dX5_advise_198 rfl h k) ?_
  refine xm_Oks.step (sn_push hG (fun _ => trivial) fun ad H locs cells slots ls rest k => lv_iconst hx hb dX5_advise_199 (by decide) k) ?_
  refine xm_Oks.step (sn_zast hG fun H locs cells slots ls rest q0 ws a N f x v hP hD hS hw hin k => va_zast hx hb hK hP hD hS q0 3 hw rfl hin dX5_advise_200 k) ?_
  refine xm_Oks.step (sn_ldR hG fun H locs cells slots ls rest x h k => lv_aload_n hx hb dX5_advise_201 rfl h k) ?_
  refine xm_Oks.step (sn_getR hG rfl rfl (by decide) fun H locs cells slots ls rest q0 ws a fs v hP hw hv k => va_get (D := D) (C := RX5) (T := TX5) (N := 22) hx hb ht xu_5 hown hK hP q0 hw rfl 11 (by decide) (ht _ xw_334) (fun _ h9 => h9) hv dX5_advise_202 k) ?_
  refine xm_Oks.step (sn_push hG (fun _ => trivial) fun ad H locs cells slots ls rest k => lv_iconst hx hb dX5_advise_205 (by decide) k) ?_
  refine xm_Oks.step (sn_dup2 hG fun H locs cells slots ls rest v w h1 h2 k => lv_dup2_11 hx hb dX5_advise_206 h1 h2 k) ?_
  refine xm_Oks.step (sn_iald hG fun H locs cells slots ls rest q0 ws a N f x hP hw hin k => va_iald hx hb hK hP q0 1 hw rfl hin dX5_advise_207 k) ?_
  refine xm_Oks.step (sn_push hG (fun _ => trivial) fun ad H locs cells slots ls rest k => lv_iconst hx hb dX5_advise_208 (by decide) k) ?_
  refine xm_Oks.step (sn_bin hG fun H locs cells slots ls rest x y k => lv_iadd hx hb dX5_advise_209 k) ?_
  refine xm_Oks.step (sn_iast hG fun H locs cells slots ls rest q0 ws a N f x v hP hD hS hw hin k => va_iast hx hb hK hP hD hS q0 1 hw rfl hin dX5_advise_210 k) ?_
  refine xm_Oks.stop ?_
  refine xm_Oks.step (sn_ldR hG fun H locs cells slots ls rest x h k => lv_aload_n hx hb dX5_advise_212 rfl h k) ?_
  refine xm_Oks.step (sn_ldR hG fun H locs cells slots ls rest x h k => lv_aload_n hx hb dX5_advise_213 rfl h k) ?_
  refine xm_Oks.step (sn_getR hG rfl rfl (by decide) fun H locs cells slots ls rest q0 ws a fs v hP hw hv k => va_get (D := D) (C := RX5) (T := TX5) (N := 22) hx hb ht xu_5 hown hK hP q0 hw rfl 5 (by decide) (ht _ xw_327) (fun _ h9 => h9) hv dX5_advise_214 k) ?_
  refine xm_Oks.step (sn_ldI hG fun H locs cells slots ls rest x h k => lv_iload_n hx hb dX5_advise_217 rfl h k) ?_
  refine xm_Oks.step (sn_iald hG fun H locs cells slots ls rest q0 ws a N f x hP hw hin k => va_iald hx hb hK hP q0 1 hw rfl hin dX5_advise_218 k) ?_
  refine xm_Oks.step (sn_ldR hG fun H locs cells slots ls rest x h k => lv_aload_n hx hb dX5_advise_219 rfl h k) ?_
  refine xm_Oks.step (sn_getR hG rfl rfl (by decide) fun H locs cells slots ls rest q0 ws a fs v hP hw hv k => va_get (D := D) (C := RX5) (T := TX5) (N := 22) hx hb ht xu_5 hown hK hP q0 hw rfl 6 (by decide) (ht _ xw_328) (fun _ h9 => h9) hv dX5_advise_220 k) ?_
  refine xm_Oks.step (sn_ldI hG fun H locs cells slots ls rest x h k => lv_iload_n hx hb dX5_advise_223 rfl h k) ?_
  refine xm_Oks.step (sn_iald hG fun H locs cells slots ls rest q0 ws a N f x hP hw hin k => va_iald hx hb hK hP q0 1 hw rfl hin dX5_advise_224 k) ?_
  refine xm_Oks.step (sn_ldR hG fun H locs cells slots ls rest x h k => lv_aload_n hx hb dX5_advise_225 rfl h k) ?_
  refine xm_Oks.step (sn_getR hG rfl rfl (by decide) fun H locs cells slots ls rest q0 ws a fs v hP hw hv k => va_get (D := D) (C := RX5) (T := TX5) (N := 22) hx hb ht xu_5 hown hK hP q0 hw rfl 7 (by decide) (ht _ xw_329) (fun _ h9 => h9) hv dX5_advise_226 k) ?_
  refine xm_Oks.step (sn_ldI hG fun H locs cells slots ls rest x h k => lv_iload_n hx hb dX5_advise_229 rfl h k) ?_
  refine xm_Oks.step (sn_iald hG fun H locs cells slots ls rest q0 ws a N f x hP hw hin k => va_iald hx hb hK hP q0 1 hw rfl hin dX5_advise_230 k) ?_
  refine xm_Oks.call (xm_sndC hG hC (xm_callV ⟨hx, hb, hml, hown, hts⟩ xw_384 xw_385 xw_386 xw_338 xw_387 (by decide +kernel) dX5_advise_231) (Nat.le_refl _) (by show 8 + (5 + 11) + 40 * d ≤ 40 * (d + 1); omega) (fun C0 h9 => by cases h9; exact ⟨5, _, _, by decide, by decide, rfl, rfl, rfl⟩) (fun as M v M1 mc ms h9 ad sz g1 g2 => ih 89 as M v M1 mc ms h9 ad sz g1 g2)) ?_
  refine xm_Oks.step (sn_stI hG fun H locs cells slots ls rest x lv lv9 h he k => lv_istore_n hx hb dX5_advise_234 rfl h (by decide) he k) ?_
  refine xm_Oks.step (sn_ldR hG fun H locs cells slots ls rest x h k => lv_aload_n hx hb dX5_advise_235 rfl h k) ?_
  refine xm_Oks.step (sn_getR hG rfl rfl (by decide) fun H locs cells slots ls rest q0 ws a fs v hP hw hv k => va_get (D := D) (C := RX5) (T := TX5) (N := 22) hx hb ht xu_5 hown hK hP q0 hw rfl 11 (by decide) (ht _ xw_334) (fun _ h9 => h9) hv dX5_advise_236 k) ?_
  refine xm_Oks.step (sn_push hG (fun _ => trivial) fun ad H locs cells slots ls rest k => lv_iconst hx hb dX5_advise_239 (by decide) k) ?_
  refine xm_Oks.step (sn_ldI hG fun H locs cells slots ls rest x h k => lv_iload_n hx hb dX5_advise_240 rfl h k) ?_
  refine xm_Oks.step (sn_ldR hG fun H locs cells slots ls rest x h k => lv_aload_n hx hb dX5_advise_241 rfl h k) ?_
  refine xm_Oks.step (sn_getR hG rfl rfl (by decide) fun H locs cells slots ls rest q0 ws a fs v hP hw hv k => va_get (D := D) (C := RX5) (T := TX5) (N := 22) hx hb ht xu_5 hown hK hP q0 hw rfl 6 (by decide) (ht _ xw_328) (fun _ h9 => h9) hv dX5_advise_242 k) ?_
  refine xm_Oks.step (sn_ldI hG fun H locs cells slots ls rest x h k => lv_iload_n hx hb dX5_advise_245 rfl h k) ?_
  refine xm_Oks.step (sn_iald hG fun H locs cells slots ls rest q0 ws a N f x hP hw hin k => va_iald hx hb hK hP q0 1 hw rfl hin dX5_advise_246 k) ?_
  refine xm_Oks.step (sn_icmp hG fun H locs cells slots ls rest x y kt kf => lv_icmp_le (tgt := 261) hx hb dX5_advise_247 (by decide) kt kf) ?_
  refine xm_Oks.step (sn_ldR hG fun H locs cells slots ls rest x h k => lv_aload_n hx hb dX5_advise_250 rfl h k) ?_
  refine xm_Oks.step (sn_getR hG rfl rfl (by decide) fun H locs cells slots ls rest q0 ws a fs v hP hw hv k => va_get (D := D) (C := RX5) (T := TX5) (N := 22) hx hb ht xu_5 hown hK hP q0 hw rfl 11 (by decide) (ht _ xw_334) (fun _ h9 => h9) hv dX5_advise_251 k) ?_
  refine xm_Oks.step (sn_push hG (fun _ => trivial) fun ad H locs cells slots ls rest k => lv_iconst hx hb dX5_advise_254 (by decide) k) ?_
  refine xm_Oks.step (sn_iald hG fun H locs cells slots ls rest q0 ws a N f x hP hw hin k => va_iald hx hb hK hP q0 1 hw rfl hin dX5_advise_255 k) ?_
  refine xm_Oks.step (sn_push hG (fun _ => trivial) fun ad H locs cells slots ls rest k => lv_iconst hx hb dX5_advise_256 (by decide) k) ?_
  refine xm_Oks.step (sn_bin hG fun H locs cells slots ls rest x y k => lv_iadd hx hb dX5_advise_257 k) ?_
  refine xm_Oks.step (sn_goto hG fun H locs cells slots ls rest k => lv_goto (tgt := 267) hx hb dX5_advise_258 (by decide) k) ?_
  refine xm_Oks.step (sn_ldR hG fun H locs cells slots ls rest x h k => lv_aload_n hx hb dX5_advise_261 rfl h k) ?_
  refine xm_Oks.step (sn_getR hG rfl rfl (by decide) fun H locs cells slots ls rest q0 ws a fs v hP hw hv k => va_get (D := D) (C := RX5) (T := TX5) (N := 22) hx hb ht xu_5 hown hK hP q0 hw rfl 11 (by decide) (ht _ xw_334) (fun _ h9 => h9) hv dX5_advise_262 k) ?_
  refine xm_Oks.step (sn_push hG (fun _ => trivial) fun ad H locs cells slots ls rest k => lv_iconst hx hb dX5_advise_265 (by decide) k) ?_
  refine xm_Oks.step (sn_iald hG fun H locs cells slots ls rest q0 ws a N f x hP hw hin k => va_iald hx hb hK hP q0 1 hw rfl hin dX5_advise_266 k) ?_
  refine xm_Oks.step (sn_iast hG fun H locs cells slots ls rest q0 ws a N f x v hP hD hS hw hin k => va_iast hx hb hK hP hD hS q0 1 hw rfl hin dX5_advise_267 k) ?_
  refine xm_Oks.step (sn_ldR hG fun H locs cells slots ls rest x h k => lv_aload_n hx hb dX5_advise_268 rfl h k) ?_
  refine xm_Oks.step (sn_getR hG rfl rfl (by decide) fun H locs cells slots ls rest q0 ws a fs v hP hw hv k => va_get (D := D) (C := RX5) (T := TX5) (N := 22) hx hb ht xu_5 hown hK hP q0 hw rfl 6 (by decide) (ht _ xw_328) (fun _ h9 => h9) hv dX5_advise_269 k) ?_
  refine xm_Oks.step (sn_ldI hG fun H locs cells slots ls rest x h k => lv_iload_n hx hb dX5_advise_272 rfl h k) ?_
  refine xm_Oks.step (sn_ldI hG fun H locs cells slots ls rest x h k => lv_iload_n hx hb dX5_advise_273 rfl h k) ?_
  refine xm_Oks.step (sn_iast hG fun H locs cells slots ls rest q0 ws a N f x v hP hD hS hw hin k => va_iast hx hb hK hP hD hS q0 1 hw rfl hin dX5_advise_274 k) ?_
  refine xm_Oks.stop ?_
  exact trivial
set_option maxHeartbeats 4000000 in
set_option maxRecDepth 100000 in
theorem xk_X5_step : xm_MOk xp_pg xp_pm 96 := by
  refine ⟨by decide +kernel, rfl, ?_, ?_⟩
  · show xm_Oks _ xt_X5_step
    exact ⟨trivial, trivial, trivial, trivial, trivial, trivial, trivial, trivial, trivial, trivial, trivial, trivial, trivial, trivial, ⟨dX5_step_28, rfl⟩, trivial, trivial, trivial, trivial, trivial, trivial, trivial, trivial, trivial, trivial, trivial, trivial, trivial, trivial, trivial, trivial, trivial, trivial, trivial, trivial, trivial, trivial, trivial, trivial, trivial, trivial, trivial, trivial, trivial, trivial, trivial, trivial, trivial, trivial, trivial, trivial, trivial, trivial, trivial, trivial, trivial, trivial, trivial, trivial, trivial, trivial, trivial, trivial, trivial, trivial, trivial, trivial, trivial, trivial, trivial, trivial, trivial, trivial, trivial, trivial, trivial, trivial, trivial, trivial, trivial, trivial, trivial, trivial, trivial, trivial, trivial, trivial, trivial, trivial, trivial, trivial, trivial, trivial, trivial, trivial, trivial, trivial, trivial, trivial, trivial, trivial, trivial, trivial, trivial, trivial, trivial, trivial, trivial, trivial, trivial, ⟨dX5_step_196, rfl⟩, trivial⟩
  intro d mc ms p l e s m args below meth c Q cA D A tS ad0 o0 G hG hC hn ih
  have hG : xm_IsG p l e (xm_room (d + 1) mc ms) s m args below meth c Q cA D A tS 5 ad0 o0 G := hG
  have hC : xm_Cx p s m args c cX5_step 5 RX5 (Cond.code yX5_step cX5_step 5 (some .int) :: xm_W) cA D A tS := hC
  have hn : meth.name = "step" := hn
  obtain ⟨hx, hb, hml, hown, hts, hK, hA, hSx, hNx⟩ := id hC
  have ht : ∀ w ∈ xm_W, w.before args s = true := fun w h => hts w (List.mem_cons_of_mem _ h)
  show xm_Oks (xm_Ent (xm_room (d + 1) mc ms) G (xm_Do xp_pg d)) xt_X5_step
  unfold xt_X5_step
  refine xm_Oks.step (sn_ldR hG fun H locs cells slots ls rest x h k => lv_aload_n hx hb dX5_step_0 rfl h k) ?_
  refine xm_Oks.step (sn_ldI hG fun H locs cells slots ls rest x h k => lv_iload_n hx hb dX5_step_1 rfl h k) ?_
  refine xm_Oks.step (sn_if hG fun H locs cells slots ls rest x kt kf => lv_if_lt (tgt := 12) hx hb dX5_step_2 (by decide) kt kf) ?_
  refine xm_Oks.step (sn_ldI hG fun H locs cells slots ls rest x h k => lv_iload_n hx hb dX5_step_5 rfl h k) ?_
  refine xm_Oks.step (sn_push hG (fun _ => trivial) fun ad H locs cells slots ls rest k => lv_sipush hx hb dX5_step_6 (by decide) k) ?_
  refine xm_Oks.step (sn_icmp hG fun H locs cells slots ls rest x y kt kf => lv_icmp_le (tgt := 16) hx hb dX5_step_9 (by decide) kt kf) ?_
  refine xm_Oks.step (sn_push hG (fun _ => trivial) fun ad H locs cells slots ls rest k => lv_iconst hx hb dX5_step_12 (by decide) k) ?_
  refine xm_Oks.step (sn_goto hG fun H locs cells slots ls rest k => lv_goto (tgt := 17) hx hb dX5_step_13 (by decide) k) ?_
  refine xm_Oks.step (sn_push hG (fun _ => trivial) fun ad H locs cells slots ls rest k => lv_iconst hx hb dX5_step_16 (by decide) k) ?_
  refine xm_Oks.step (sn_putI hG rfl rfl (by decide) (by decide) fun H locs cells slots ls rest q0 ws a fs v hP hD hS hw ⟨x, hv⟩ hl k => by subst hv; exact va_put (D := D) (ty := .int) (C := RX5) (T := TX5) (N := 22) hx hb ht xu_5 tyX5 tyX5_ok nmX5 hown hK hP hD hS q0 hw rfl 0 (by decide) (ht _ xw_335) (fun _ h9 => h9) rfl (by decide +kernel) rfl rfl hl dX5_step_17 k) ?_
  refine xm_Oks.step (sn_ldR hG fun H locs cells slots ls rest x h k => lv_aload_n hx hb dX5_step_20 rfl h k) ?_
  refine xm_Oks.step (sn_getI hG rfl rfl (by decide) (by decide) fun H locs cells slots ls rest q0 ws a fs v hP hw hv k => va_get (D := D) (C := RX5) (T := TX5) (N := 22) hx hb ht xu_5 hown hK hP q0 hw rfl 0 (by decide) (ht _ xw_335) (fun _ h9 => h9) hv dX5_step_21 k) ?_
  refine xm_Oks.step (sn_if hG fun H locs cells slots ls rest x kt kf => lv_if_le (tgt := 29) hx hb dX5_step_24 (by decide) kt kf) ?_
  refine xm_Oks.step (sn_push hG (fun _ => trivial) fun ad H locs cells slots ls rest k => lv_iconst hx hb dX5_step_27 (by decide) k) ?_
  refine xm_Oks.stop ?_
  refine xm_Oks.step (sn_push hG (fun _ => trivial) fun ad H locs cells slots ls rest k => lv_iconst hx hb dX5_step_29 (by decide) k) ?_
  refine xm_Oks.step (sn_stI hG fun H locs cells slots ls rest x lv lv9 h he k => lv_istore_n hx hb dX5_step_30 rfl h (by decide) he k) ?_
  refine xm_Oks.step (sn_ldI hG fun H locs cells slots ls rest x h k => lv_iload_n hx hb dX5_step_31 rfl h k) ?_
  refine xm_Oks.step (sn_ldI hG fun H locs cells slots ls rest x h k => lv_iload_n hx hb dX5_step_32 rfl h k) ?_
  refine xm_Oks.step (sn_icmp hG fun H locs cells slots ls rest x y kt kf => lv_icmp_ge (tgt := 162) hx hb dX5_step_33 (by decide) kt kf) ?_
  refine xm_Oks.step (sn_ldR hG fun H locs cells slots ls rest x h k => lv_aload_n hx hb dX5_step_36 rfl h k) ?_
  refine xm_Oks.call (xm_sndC hG hC (xm_callV ⟨hx, hb, hml, hown, hts⟩ xw_403 xw_404 xw_405 xw_338 xw_406 (by decide +kernel) dX5_step_37) (Nat.le_refl _) (by show 8 + (3 + 11) + 40 * d ≤ 40 * (d + 1); omega) (fun C0 h9 => by cases h9; exact ⟨5, _, _, by decide, by decide, rfl, rfl, rfl⟩) (fun as M v M1 mc ms h9 ad sz g1 g2 => ih 92 as M v M1 mc ms h9 ad sz g1 g2)) ?_
  refine xm_Oks.step (sn_push hG (fun _ => trivial) fun ad H locs cells slots ls rest k => lv_iconst hx hb dX5_step_40 (by decide) k) ?_
  refine xm_Oks.step (sn_stI hG fun H locs cells slots ls rest x lv lv9 h he k => lv_istore_n hx hb dX5_step_41 rfl h (by decide) he k) ?_
  refine xm_Oks.step (sn_ldI hG fun H locs cells slots ls rest x h k => lv_iload_n hx hb dX5_step_42 rfl h k) ?_
  refine xm_Oks.step (sn_push hG (fun _ => trivial) fun ad H locs cells slots ls rest k => lv_bipush hx hb dX5_step_43 (by decide) k) ?_
  refine xm_Oks.step (sn_icmp hG fun H locs cells slots ls rest x y kt kf => lv_icmp_ge (tgt := 77) hx hb dX5_step_45 (by decide) kt kf) ?_
  refine xm_Oks.step (sn_ldR hG fun H locs cells slots ls rest x h k => lv_aload_n hx hb dX5_step_48 rfl h k) ?_
  refine xm_Oks.step (sn_getR hG rfl rfl (by decide) fun H locs cells slots ls rest q0 ws a fs v hP hw hv k => va_get (D := D) (C := RX5) (T := TX5) (N := 22) hx hb ht xu_5 hown hK hP q0 hw rfl 2 (by decide) (ht _ xw_324) (fun _ h9 => h9) hv dX5_step_49 k) ?_
  refine xm_Oks.step (sn_ldI hG fun H locs cells slots ls rest x h k => lv_iload_n hx hb dX5_step_52 rfl h k) ?_
  refine xm_Oks.step (sn_zald hG fun H locs cells slots ls rest q0 ws a N f x hP hw hin k => va_zald hx hb hK hP q0 3 hw rfl hin dX5_step_53 k) ?_
  refine xm_Oks.step (sn_if hG fun H locs cells slots ls rest x kt kf => lv_if_eq (tgt := 71) hx hb dX5_step_54 (by decide) kt kf) ?_
  refine xm_Oks.step (sn_ldR hG fun H locs cells slots ls rest x h k => lv_aload_n hx hb dX5_step_57 rfl h k) ?_
  refine xm_Oks.step (sn_getR hG rfl rfl (by decide) fun H locs cells slots ls rest q0 ws a fs v hP hw hv k => va_get (D := D) (C := RX5) (T := TX5) (N := 22) hx hb ht xu_5 hown hK hP q0 hw rfl 3 (by decide) (ht _ xw_325) (fun _ h9 => h9) hv dX5_step_58 k) ?_
  refine xm_Oks.step (sn_ldI hG fun H locs cells slots ls rest x h k => lv_iload_n hx hb dX5_step_61 rfl h k) ?_
  refine xm_Oks.step (sn_zald hG fun H locs cells slots ls rest q0 ws a N f x hP hw hin k => va_zald hx hb hK hP q0 3 hw rfl hin dX5_step_62 k) ?_
  refine xm_Oks.step (sn_if hG fun H locs cells slots ls rest x kt kf => lv_if_eq (tgt := 71) hx hb dX5_step_63 (by decide) kt kf) ?_
  refine xm_Oks.step (sn_ldR hG fun H locs cells slots ls rest x h k => lv_aload_n hx hb dX5_step_66 rfl h k) ?_
  refine xm_Oks.step (sn_ldI hG fun H locs cells slots ls rest x h k => lv_iload_n hx hb dX5_step_67 rfl h k) ?_
  refine xm_Oks.call (xm_sndC hG hC (xm_callV ⟨hx, hb, hml, hown, hts⟩ xw_407 xw_408 xw_409 xw_338 xw_410 (by decide +kernel) dX5_step_68) (Nat.le_refl _) (by show 8 + (7 + 11) + 40 * d ≤ 40 * (d + 1); omega) (fun C0 h9 => by cases h9; exact ⟨5, _, _, by decide, by decide, rfl, rfl, rfl⟩) (fun as M v M1 mc ms h9 ad sz g1 g2 => ih 93 as M v M1 mc ms h9 ad sz g1 g2)) ?_
  refine xm_Oks.step (sn_inc hG fun H locs cells slots ls rest x lv lv9 j h hj he k => lv_iinc hx hb dX5_step_71 h hj rfl (by decide) he k) ?_
  refine xm_Oks.step (sn_goto hG fun H locs cells slots ls rest k => lv_goto (tgt := 42) hx hb dX5_step_74 (by decide) k) ?_
  refine xm_Oks.step (sn_push hG (fun _ => trivial) fun ad H locs cells slots ls rest k => lv_iconst hx hb dX5_step_77 (by decide) k) ?_
  refine xm_Oks.step (sn_stI hG fun H locs cells slots ls rest x lv lv9 h he k => lv_istore_n hx hb dX5_step_78 rfl h (by decide) he k) ?_
  refine xm_Oks.step (sn_ldI hG fun H locs cells slots ls rest x h k => lv_iload_n hx hb dX5_step_79 rfl h k) ?_
  refine xm_Oks.step (sn_push hG (fun _ => trivial) fun ad H locs cells slots ls rest k => lv_bipush hx hb dX5_step_80 (by decide) k) ?_
  refine xm_Oks.step (sn_icmp hG fun H locs cells slots ls rest x y kt kf => lv_icmp_ge (tgt := 146) hx hb dX5_step_82 (by decide) kt kf) ?_
  refine xm_Oks.step (sn_ldI hG fun H locs cells slots ls rest x h k => lv_iload_n hx hb dX5_step_85 rfl h k) ?_
  refine xm_Oks.step (sn_push hG (fun _ => trivial) fun ad H locs cells slots ls rest k => lv_iconst hx hb dX5_step_86 (by decide) k) ?_
  refine xm_Oks.step (sn_bin hG fun H locs cells slots ls rest x y k => lv_iadd hx hb dX5_step_87 k) ?_
  refine xm_Oks.step (sn_stI hG fun H locs cells slots ls rest x lv lv9 h he k => lv_istore hx hb dX5_step_88 h (by decide) he k) ?_
  refine xm_Oks.step (sn_ldI hG fun H locs cells slots ls rest x h k => lv_iload hx hb dX5_step_90 h k) ?_
  refine xm_Oks.step (sn_push hG (fun _ => trivial) fun ad H locs cells slots ls rest k => lv_bipush hx hb dX5_step_92 (by decide) k) ?_
  refine xm_Oks.step (sn_icmp hG fun H locs cells slots ls rest x y kt kf => lv_icmp_ge (tgt := 140) hx hb dX5_step_94 (by decide) kt kf) ?_
  refine xm_Oks.step (sn_ldR hG fun H locs cells slots ls rest x h k => lv_aload_n hx hb dX5_step_97 rfl h k) ?_
  refine xm_Oks.step (sn_getR hG rfl rfl (by decide) fun H locs cells slots ls rest q0 ws a fs v hP hw hv k => va_get (D := D) (C := RX5) (T := TX5) (N := 22) hx hb ht xu_5 hown hK hP q0 hw rfl 2 (by decide) (ht _ xw_324) (fun _ h9 => h9) hv dX5_step_98 k) ?_
  refine xm_Oks.step (sn_ldI hG fun H locs cells slots ls rest x h k => lv_iload_n hx hb dX5_step_101 rfl h k) ?_
  refine xm_Oks.step (sn_zald hG fun H locs cells slots ls rest q0 ws a N f x hP hw hin k => va_zald hx hb hK hP q0 3 hw rfl hin dX5_step_102 k) ?_
  refine xm_Oks.step (sn_if hG fun H locs cells slots ls rest x kt kf => lv_if_eq (tgt := 134) hx hb dX5_step_103 (by decide) kt kf) ?_
  refine xm_Oks.step (sn_ldR hG fun H locs cells slots ls rest x h k => lv_aload_n hx hb dX5_step_106 rfl h k) ?_
  refine xm_Oks.step (sn_getR hG rfl rfl (by decide) fun H locs cells slots ls rest q0 ws a fs v hP hw hv k => va_get (D := D) (C := RX5) (T := TX5) (N := 22) hx hb ht xu_5 hown hK hP q0 hw rfl 2 (by decide) (ht _ xw_324) (fun _ h9 => h9) hv dX5_step_107 k) ?_
  refine xm_Oks.step (sn_ldI hG fun H locs cells slots ls rest x h k => lv_iload hx hb dX5_step_110 h k) ?_
  refine xm_Oks.step (sn_zald hG fun H locs cells slots ls rest q0 ws a N f x hP hw hin k => va_zald hx hb hK hP q0 3 hw rfl hin dX5_step_112 k) ?_
  refine xm_Oks.step (sn_if hG fun H locs cells slots ls rest x kt kf => lv_if_eq (tgt := 134) hx hb dX5_step_113 (by decide) kt kf) ?_
  refine xm_Oks.step (sn_ldR hG fun H locs cells slots ls rest x h k => lv_aload_n hx hb dX5_step_116 rfl h k) ?_
  refine xm_Oks.step (sn_ldI hG fun H locs cells slots ls rest x h k => lv_iload_n hx hb dX5_step_117 rfl h k) ?_
  refine xm_Oks.step (sn_ldI hG fun H locs cells slots ls rest x h k => lv_iload hx hb dX5_step_118 h k) ?_
  refine xm_Oks.call (xm_sndC hG hC (xm_callV ⟨hx, hb, hml, hown, hts⟩ xw_411 xw_412 xw_413 xw_338 xw_414 (by decide +kernel) dX5_step_120) (Nat.le_refl _) (by show 8 + (5 + 11) + 40 * d ≤ 40 * (d + 1); omega) (fun C0 h9 => by cases h9; exact ⟨5, _, _, by decide, by decide, rfl, rfl, rfl⟩) (fun as M v M1 mc ms h9 ad sz g1 g2 => ih 84 as M v M1 mc ms h9 ad sz g1 g2)) ?_
  refine xm_Oks.step (sn_ldR hG fun H locs cells slots ls rest x h k => lv_aload_n hx hb dX5_step_123 rfl h k) ?_
  refine xm_Oks.step (sn_push hG (fun _ => trivial) fun ad H locs cells slots ls rest k => lv_bipush hx hb dX5_step_124 (by decide) k) ?_
  refine xm_Oks.step (sn_ldI hG fun H locs cells slots ls rest x h k => lv_iload_n hx hb dX5_step_126 rfl h k) ?_
  refine xm_Oks.step (sn_bin hG fun H locs cells slots ls rest x y k => lv_imul hx hb dX5_step_127 k) ?_
  refine xm_Oks.step (sn_ldI hG fun H locs cells slots ls rest x h k => lv_iload hx hb dX5_step_128 h k) ?_
  refine xm_Oks.step (sn_bin hG fun H locs cells slots ls rest x y k => lv_iadd hx hb dX5_step_130 k) ?_
  refine xm_Oks.call (xm_sndC hG hC (xm_callV ⟨hx, hb, hml, hown, hts⟩ xw_415 xw_416 xw_417 xw_338 xw_418 (by decide +kernel) dX5_step_131) (Nat.le_refl _) (by show 8 + (4 + 11) + 40 * d ≤ 40 * (d + 1); omega) (fun C0 h9 => by cases h9; exact ⟨5, _, _, by decide, by decide, rfl, rfl, rfl⟩) (fun as M v M1 mc ms h9 ad sz g1 g2 => ih 95 as M v M1 mc ms h9 ad sz g1 g2)) ?_
  refine xm_Oks.step (sn_inc hG fun H locs cells slots ls rest x lv lv9 j h hj he k => lv_iinc hx hb dX5_step_134 h hj rfl (by decide) he k) ?_
  refine xm_Oks.step (sn_goto hG fun H locs cells slots ls rest k => lv_goto (tgt := 90) hx hb dX5_step_137 (by decide) k) ?_
  refine xm_Oks.step (sn_inc hG fun H locs cells slots ls rest x lv lv9 j h hj he k => lv_iinc hx hb dX5_step_140 h hj rfl (by decide) he k) ?_
  refine xm_Oks.step (sn_goto hG fun H locs cells slots ls rest k => lv_goto (tgt := 79) hx hb dX5_step_143 (by decide) k) ?_
  refine xm_Oks.step (sn_ldR hG fun H locs cells slots ls rest x h k => lv_aload_n hx hb dX5_step_146 rfl h k) ?_
  refine xm_Oks.step (sn_getR hG rfl rfl (by decide) fun H locs cells slots ls rest q0 ws a fs v hP hw hv k => va_get (D := D) (C := RX5) (T := TX5) (N := 22) hx hb ht xu_5 hown hK hP q0 hw rfl 11 (by decide) (ht _ xw_334) (fun _ h9 => h9) hv dX5_step_147 k) ?_
  refine xm_Oks.step (sn_push hG (fun _ => trivial) fun ad H locs cells slots ls rest k => lv_iconst hx hb dX5_step_150 (by decide) k) ?_
  refine xm_Oks.step (sn_dup2 hG fun H locs cells slots ls rest v w h1 h2 k => lv_dup2_11 hx hb dX5_step_151 h1 h2 k) ?_
  refine xm_Oks.step (sn_iald hG fun H locs cells slots ls rest q0 ws a N f x hP hw hin k => va_iald hx hb hK hP q0 1 hw rfl hin dX5_step_152 k) ?_
  refine xm_Oks.step (sn_push hG (fun _ => trivial) fun ad H locs cells slots ls rest k => lv_iconst hx hb dX5_step_153 (by decide) k) ?_
  refine xm_Oks.step (sn_bin hG fun H locs cells slots ls rest x y k => lv_iadd hx hb dX5_step_154 k) ?_
  refine xm_Oks.step (sn_iast hG fun H locs cells slots ls rest q0 ws a N f x v hP hD hS hw hin k => va_iast hx hb hK hP hD hS q0 1 hw rfl hin dX5_step_155 k) ?_
  refine xm_Oks.step (sn_inc hG fun H locs cells slots ls rest x lv lv9 j h hj he k => lv_iinc hx hb dX5_step_156 h hj rfl (by decide) he k) ?_
  refine xm_Oks.step (sn_goto hG fun H locs cells slots ls rest k => lv_goto (tgt := 31) hx hb dX5_step_159 (by decide) k) ?_
  refine xm_Oks.step (sn_push hG (fun _ => trivial) fun ad H locs cells slots ls rest k => lv_iconst hx hb dX5_step_162 (by decide) k) ?_
  refine xm_Oks.step (sn_stI hG fun H locs cells slots ls rest x lv lv9 h he k => lv_istore_n hx hb dX5_step_163 rfl h (by decide) he k) ?_
  refine xm_Oks.step (sn_push hG (fun _ => trivial) fun ad H locs cells slots ls rest k => lv_iconst hx hb dX5_step_164 (by decide) k) ?_
  refine xm_Oks.step (sn_stI hG fun H locs cells slots ls rest x lv lv9 h he k => lv_istore_n hx hb dX5_step_165 rfl h (by decide) he k) ?_
  refine xm_Oks.step (sn_ldI hG fun H locs cells slots ls rest x h k => lv_iload_n hx hb dX5_step_166 rfl h k) ?_
  refine xm_Oks.step (sn_push hG (fun _ => trivial) fun ad H locs cells slots ls rest k => lv_bipush hx hb dX5_step_167 (by decide) k) ?_
  refine xm_Oks.step (sn_icmp hG fun H locs cells slots ls rest x y kt kf => lv_icmp_ge (tgt := 195) hx hb dX5_step_169 (by decide) kt kf) ?_
  refine xm_Oks.step (sn_ldR hG fun H locs cells slots ls rest x h k => lv_aload_n hx hb dX5_step_172 rfl h k) ?_
  refine xm_Oks.step (sn_getR hG rfl rfl (by decide) fun H locs cells slots ls rest q0 ws a fs v hP hw hv k => va_get (D := D) (C := RX5) (T := TX5) (N := 22) hx hb ht xu_5 hown hK hP q0 hw rfl 5 (by decide) (ht _ xw_327) (fun _ h9 => h9) hv dX5_step_173 k) ?_
  refine xm_Oks.step (sn_ldI hG fun H locs cells slots ls rest x h k => lv_iload_n hx hb dX5_step_176 rfl h k) ?_
  refine xm_Oks.step (sn_iald hG fun H locs cells slots ls rest q0 ws a N f x hP hw hin k => va_iald hx hb hK hP q0 1 hw rfl hin dX5_step_177 k) ?_
  refine xm_Oks.step (sn_if hG fun H locs cells slots ls rest x kt kf => lv_if_le (tgt := 187) hx hb dX5_step_178 (by decide) kt kf) ?_
  refine xm_Oks.step (sn_ldI hG fun H locs cells slots ls rest x h k => lv_iload_n hx hb dX5_step_181 rfl h k) ?_
  refine xm_Oks.step (sn_push hG (fun _ => trivial) fun ad H locs cells slots ls rest k => lv_iconst hx hb dX5_step_182 (by decide) k) ?_
  refine xm_Oks.step (sn_bin hG fun H locs cells slots ls rest x y k => lv_iadd hx hb dX5_step_183 k) ?_
  refine xm_Oks.step (sn_goto hG fun H locs cells slots ls rest k => lv_goto (tgt := 188) hx hb dX5_step_184 (by decide) k) ?_
  refine xm_Oks.step (sn_ldI hG fun H locs cells slots ls rest x h k => lv_iload_n hx hb dX5_step_187 rfl h k) ?_
  refine xm_Oks.step (sn_stI hG fun H locs cells slots ls rest x lv lv9 h he k => lv_istore_n hx hb dX5_step_188 rfl h (by decide) he k) ?_
  refine xm_Oks.step (sn_inc hG fun H locs cells slots ls rest x lv lv9 j h hj he k => lv_iinc hx hb dX5_step_189 h hj rfl (by decide) he k) ?_
  refine xm_Oks.step (sn_goto hG fun H locs cells slots ls rest k => lv_goto (tgt := 166) hx hb dX5_step_192 (by decide) k) ?_
  refine xm_Oks.step (sn_ldI hG fun H locs cells slots ls rest x h k => lv_iload_n hx hb dX5_step_195 rfl h k) ?_
  refine xm_Oks.stop ?_
  exact trivial
set_option maxHeartbeats 4000000 in
set_option maxRecDepth 100000 in
theorem xk_X5_told : xm_MOk xp_pg xp_pm 97 := by
  refine ⟨by decide +kernel, rfl, ?_, ?_⟩
  · show xm_Oks _ xt_X5_told
    exact ⟨trivial, trivial, trivial, trivial, trivial, trivial, trivial, trivial, trivial, trivial, trivial, trivial, trivial, trivial, trivial, trivial, trivial, trivial, ⟨dX5_told_35, rfl⟩, trivial, trivial, trivial, trivial, trivial, trivial, trivial, trivial, trivial, trivial, trivial, trivial, trivial, trivial, trivial, trivial, trivial, trivial, trivial, trivial, ⟨dX5_told_70, rfl⟩, trivial⟩
  intro d mc ms p l e s m args below meth c Q cA D A tS ad0 o0 G hG hC hn ih
  have hG : xm_IsG p l e (xm_room (d + 1) mc ms) s m args below meth c Q cA D A tS 3 ad0 o0 G := hG
  have hC : xm_Cx p s m args c cX5_told 3 RX5 (Cond.code yX5_told cX5_told 3 (some .int) :: xm_W) cA D A tS := hC
  have hn : meth.name = "told" := hn
  obtain ⟨hx, hb, hml, hown, hts, hK, hA, hSx, hNx⟩ := id hC
  have ht : ∀ w ∈ xm_W, w.before args s = true := fun w h => hts w (List.mem_cons_of_mem _ h)
  show xm_Oks (xm_Ent (xm_room (d + 1) mc ms) G (xm_Do xp_pg d)) xt_X5_told
  unfold xt_X5_told
  refine xm_Oks.step (sn_ldR hG fun H locs cells slots ls rest x h k => lv_aload_n hx hb dX5_told_0 rfl h k) ?_
  refine xm_Oks.step (sn_ldR hG fun H locs cells slots ls rest x h k => lv_aload_n hx hb dX5_told_1 rfl h k) ?_
  refine xm_Oks.step (sn_ldI hG fun H locs cells slots ls rest x h k => lv_iload_n hx hb dX5_told_2 rfl h k) ?_
  refine xm_Oks.call (xm_sndC hG hC (xm_callV ⟨hx, hb, hml, hown, hts⟩ xw_357 xw_358 xw_359 xw_338 xw_360 (by decide +kernel) dX5_told_3) (Nat.le_refl _) (by show 8 + (2 + 11) + 40 * d ≤ 40 * (d + 1); omega) (fun C0 h9 => by cases h9; exact ⟨5, _, _, by decide, by decide, rfl, rfl, rfl⟩) (fun as M v M1 mc ms h9 ad sz g1 g2 => ih 75 as M v M1 mc ms h9 ad sz g1 g2)) ?_
  refine xm_Oks.step (sn_if hG fun H locs cells slots ls rest x kt kf => lv_if_eq (tgt := 19) hx hb dX5_told_6 (by decide) kt kf) ?_
  refine xm_Oks.step (sn_ldI hG fun H locs cells slots ls rest x h k => lv_iload_n hx hb dX5_told_9 rfl h k) ?_
  refine xm_Oks.step (sn_if hG fun H locs cells slots ls rest x kt kf => lv_if_lt (tgt := 19) hx hb dX5_told_10 (by decide) kt kf) ?_
  refine xm_Oks.step (sn_ldI hG fun H locs cells slots ls rest x h k => lv_iload_n hx hb dX5_told_13 rfl h k) ?_
  refine xm_Oks.step (sn_push hG (fun _ => trivial) fun ad H locs cells slots ls rest k => lv_bipush hx hb dX5_told_14 (by decide) k) ?_
  refine xm_Oks.step (sn_icmp hG fun H locs cells slots ls rest x y kt kf => lv_icmp_le (tgt := 23) hx hb dX5_told_16 (by decide) kt kf) ?_
  refine xm_Oks.step (sn_push hG (fun _ => trivial) fun ad H locs cells slots ls rest k => lv_iconst hx hb dX5_told_19 (by decide) k) ?_
  refine xm_Oks.step (sn_goto hG fun H locs cells slots ls rest k => lv_goto (tgt := 24) hx hb dX5_told_20 (by decide) k) ?_
  refine xm_Oks.step (sn_push hG (fun _ => trivial) fun ad H locs cells slots ls rest k => lv_iconst hx hb dX5_told_23 (by decide) k) ?_
  refine xm_Oks.step (sn_putI hG rfl rfl (by decide) (by decide) fun H locs cells slots ls rest q0 ws a fs v hP hD hS hw ⟨x, hv⟩ hl k => by subst hv; exact va_put (D := D) (ty := .int) (C := RX5) (T := TX5) (N := 22) hx hb ht xu_5 tyX5 tyX5_ok nmX5 hown hK hP hD hS q0 hw rfl 0 (by decide) (ht _ xw_335) (fun _ h9 => h9) rfl (by decide +kernel) rfl rfl hl dX5_told_24 k) ?_
  refine xm_Oks.step (sn_ldR hG fun H locs cells slots ls rest x h k => lv_aload_n hx hb dX5_told_27 rfl h k) ?_
  refine xm_Oks.step (sn_getI hG rfl rfl (by decide) (by decide) fun H locs cells slots ls rest q0 ws a fs v hP hw hv k => va_get (D := D) (C := RX5) (T := TX5) (N := 22) hx hb ht xu_5 hown hK hP q0 hw rfl 0 (by decide) (ht _ xw_335) (fun _ h9 => h9) hv dX5_told_28 k) ?_
  refine xm_Oks.step (sn_if hG fun H locs cells slots ls rest x kt kf => lv_if_le (tgt := 36) hx hb dX5_told_31 (by decide) kt kf) ?_
  refine xm_Oks.step (sn_push hG (fun _ => trivial) fun ad H locs cells slots ls rest k => lv_iconst hx hb dX5_told_34 (by decide) k) ?_
  refine xm_Oks.stop ?_
  refine xm_Oks.step (sn_ldI hG fun H locs cells slots ls rest x h k => lv_iload_n hx hb dX5_told_36 rfl h k) ?_
  refine xm_Oks.step (sn_push hG (fun _ => trivial) fun ad H locs cells slots ls rest k => lv_bipush hx hb dX5_told_37 (by decide) k) ?_
  refine xm_Oks.step (sn_icmp hG fun H locs cells slots ls rest x y kt kf => lv_icmp_ge (tgt := 56) hx hb dX5_told_39 (by decide) kt kf) ?_
  refine xm_Oks.step (sn_ldR hG fun H locs cells slots ls rest x h k => lv_aload_n hx hb dX5_told_42 rfl h k) ?_
  refine xm_Oks.step (sn_getR hG rfl rfl (by decide) fun H locs cells slots ls rest q0 ws a fs v hP hw hv k => va_get (D := D) (C := RX5) (T := TX5) (N := 22) hx hb ht xu_5 hown hK hP q0 hw rfl 4 (by decide) (ht _ xw_326) (fun _ h9 => h9) hv dX5_told_43 k) ?_
  refine xm_Oks.step (sn_push hG (fun _ => trivial) fun ad H locs cells slots ls rest k => lv_bipush hx hb dX5_told_46 (by decide) k) ?_
  refine xm_Oks.step (sn_ldI hG fun H locs cells slots ls rest x h k => lv_iload_n hx hb dX5_told_48 rfl h k) ?_
  refine xm_Oks.step (sn_bin hG fun H locs cells slots ls rest x y k => lv_imul hx hb dX5_told_49 k) ?_
  refine xm_Oks.step (sn_ldI hG fun H locs cells slots ls rest x h k => lv_iload_n hx hb dX5_told_50 rfl h k) ?_
  refine xm_Oks.step (sn_bin hG fun H locs cells slots ls rest x y k => lv_iadd hx hb dX5_told_51 k) ?_
  refine xm_Oks.step (sn_iald hG fun H locs cells slots ls rest q0 ws a N f x hP hw hin k => va_iald hx hb hK hP q0 1 hw rfl hin dX5_told_52 k) ?_
  refine xm_Oks.step (sn_goto hG fun H locs cells slots ls rest k => lv_goto (tgt := 70) hx hb dX5_told_53 (by decide) k) ?_
  refine xm_Oks.step (sn_ldR hG fun H locs cells slots ls rest x h k => lv_aload_n hx hb dX5_told_56 rfl h k) ?_
  refine xm_Oks.step (sn_getR hG rfl rfl (by decide) fun H locs cells slots ls rest q0 ws a fs v hP hw hv k => va_get (D := D) (C := RX5) (T := TX5) (N := 22) hx hb ht xu_5 hown hK hP q0 hw rfl 3 (by decide) (ht _ xw_325) (fun _ h9 => h9) hv dX5_told_57 k) ?_
  refine xm_Oks.step (sn_ldI hG fun H locs cells slots ls rest x h k => lv_iload_n hx hb dX5_told_60 rfl h k) ?_
  refine xm_Oks.step (sn_zald hG fun H locs cells slots ls rest q0 ws a N f x hP hw hin k => va_zald hx hb hK hP q0 3 hw rfl hin dX5_told_61 k) ?_
  refine xm_Oks.step (sn_if hG fun H locs cells slots ls rest x kt kf => lv_if_eq (tgt := 69) hx hb dX5_told_62 (by decide) kt kf) ?_
  refine xm_Oks.step (sn_push hG (fun _ => trivial) fun ad H locs cells slots ls rest k => lv_iconst hx hb dX5_told_65 (by decide) k) ?_
  refine xm_Oks.step (sn_goto hG fun H locs cells slots ls rest k => lv_goto (tgt := 70) hx hb dX5_told_66 (by decide) k) ?_
  refine xm_Oks.step (sn_push hG (fun _ => trivial) fun ad H locs cells slots ls rest k => lv_iconst hx hb dX5_told_69 (by decide) k) ?_
  refine xm_Oks.stop ?_
  exact trivial
set_option maxHeartbeats 4000000 in
set_option maxRecDepth 100000 in
theorem xk_X5_forFirst : xm_MOk xp_pg xp_pm 98 := by
  refine ⟨by decide +kernel, rfl, ?_, ?_⟩
  · show xm_Oks _ xt_X5_forFirst
    exact ⟨trivial, trivial, trivial, trivial, trivial, trivial, trivial, trivial, trivial, trivial, trivial, ⟨dX5_forFirst_19, rfl⟩, trivial⟩
  intro d mc ms p l e s m args below meth c Q cA D A tS ad0 o0 G hG hC hn ih
  have hG : xm_IsG p l e (xm_room (d + 1) mc ms) s m args below meth c Q cA D A tS 2 ad0 o0 G := hG
  have hC : xm_Cx p s m args c cX5_forFirst 2 RX5 (Cond.code yX5_forFirst cX5_forFirst 2 (some .int) :: xm_W) cA D A tS := hC
  have hn : meth.name = "forFirst" := hn
  obtain ⟨hx, hb, hml, hown, hts, hK, hA, hSx, hNx⟩ := id hC
  have ht : ∀ w ∈ xm_W, w.before args s = true := fun w h => hts w (List.mem_cons_of_mem _ h)
  show xm_Oks (xm_Ent (xm_room (d + 1) mc ms) G (xm_Do xp_pg d)) xt_X5_forFirst
  unfold xt_X5_forFirst
  refine xm_Oks.step (sn_ldI hG fun H locs cells slots ls rest x h k => lv_iload_n hx hb dX5_forFirst_0 rfl h k) ?_
  refine xm_Oks.step (sn_if hG fun H locs cells slots ls rest x kt kf => lv_if_ne (tgt := 8) hx hb dX5_forFirst_1 (by decide) kt (fun h9 => kf (fun h8 => h8 h9))) ?_
  refine xm_Oks.step (sn_push hG (fun _ => trivial) fun ad H locs cells slots ls rest k => lv_iconst hx hb dX5_forFirst_4 (by decide) k) ?_
  refine xm_Oks.step (sn_goto hG fun H locs cells slots ls rest k => lv_goto (tgt := 19) hx hb dX5_forFirst_5 (by decide) k) ?_
  refine xm_Oks.step (sn_ldI hG fun H locs cells slots ls rest x h k => lv_iload_n hx hb dX5_forFirst_8 rfl h k) ?_
  refine xm_Oks.step (sn_if hG fun H locs cells slots ls rest x kt kf => lv_if_eq (tgt := 18) hx hb dX5_forFirst_9 (by decide) kt kf) ?_
  refine xm_Oks.step (sn_push hG (fun _ => trivial) fun ad H locs cells slots ls rest k => lv_iconst hx hb dX5_forFirst_12 (by decide) k) ?_
  refine xm_Oks.step (sn_ldI hG fun H locs cells slots ls rest x h k => lv_iload_n hx hb dX5_forFirst_13 rfl h k) ?_
  refine xm_Oks.step (sn_bin hG fun H locs cells slots ls rest x y k => lv_isub hx hb dX5_forFirst_14 k) ?_
  refine xm_Oks.step (sn_goto hG fun H locs cells slots ls rest k => lv_goto (tgt := 19) hx hb dX5_forFirst_15 (by decide) k) ?_
  refine xm_Oks.step (sn_ldI hG fun H locs cells slots ls rest x h k => lv_iload_n hx hb dX5_forFirst_18 rfl h k) ?_
  refine xm_Oks.stop ?_
  exact trivial
set_option maxHeartbeats 4000000 in
set_option maxRecDepth 100000 in
theorem xk_X5_pair : xm_MOk xp_pg xp_pm 99 := by
  refine ⟨by decide +kernel, rfl, ?_, ?_⟩
  · show xm_Oks _ xt_X5_pair
    exact ⟨trivial, trivial, trivial, trivial, trivial, trivial, trivial, trivial, trivial, trivial, trivial, trivial, trivial, trivial, trivial, trivial, trivial, trivial, trivial, trivial, trivial, trivial, trivial, trivial, trivial, ⟨dX5_pair_48, rfl⟩, trivial, trivial, trivial, trivial, trivial, trivial, trivial, trivial, trivial, trivial, trivial, trivial, trivial, trivial, trivial, trivial, ⟨dX5_pair_128, rfl⟩, trivial, trivial, trivial, ⟨dX5_pair_134, rfl⟩, trivial, trivial, trivial, trivial, trivial, trivial, trivial, trivial, trivial, trivial, trivial, ⟨dX5_pair_155, rfl⟩, trivial, trivial, trivial, trivial, ⟨dX5_pair_163, rfl⟩, trivial, trivial, trivial, trivial, ⟨dX5_pair_171, rfl⟩, trivial, trivial, trivial, trivial, trivial, trivial, trivial, trivial, ⟨dX5_pair_187, rfl⟩, trivial, trivial, trivial, trivial, trivial, trivial, trivial, trivial, trivial, trivial, trivial, trivial, trivial, trivial, trivial, trivial, trivial, trivial, trivial, trivial, trivial, trivial, ⟨dX5_pair_228, rfl⟩, trivial, trivial, trivial, trivial, trivial, trivial, trivial, trivial, trivial, trivial, trivial, trivial, ⟨dX5_pair_249, rfl⟩, trivial, trivial, trivial, trivial, trivial, trivial, trivial, trivial, trivial, ⟨dX5_pair_267, rfl⟩, trivial, trivial, trivial, trivial, trivial, trivial, trivial, trivial, trivial, trivial, trivial, trivial, trivial, trivial, ⟨dX5_pair_296, rfl⟩, trivial, trivial, trivial, trivial, ⟨dX5_pair_304, rfl⟩, trivial⟩
  intro d mc ms p l e s m args below meth c Q cA D A tS ad0 o0 G hG hC hn ih
  have hG : xm_IsG p l e (xm_room (d + 1) mc ms) s m args below meth c Q cA D A tS 5 ad0 o0 G := hG
  have hC : xm_Cx p s m args c cX5_pair 5 RX5 (Cond.code yX5_pair cX5_pair 5 (some .int) :: xm_W) cA D A tS := hC
  have hn : meth.name = "pair" := hn
  obtain ⟨hx, hb, hml, hown, hts, hK, hA, hSx, hNx⟩ := id hC
  have ht : ∀ w ∈ xm_W, w.before args s = true := fun w h => hts w (List.mem_cons_of_mem _ h)
  show xm_Oks (xm_Ent (xm_room (d + 1) mc ms) G (xm_Do xp_pg d)) xt_X5_pair
  unfold xt_X5_pair
  refine xm_Oks.step (sn_ldR hG fun H locs cells slots ls rest x h k => lv_aload_n hx hb dX5_pair_0 rfl h k) ?_
  refine xm_Oks.step (sn_ldR hG fun H locs cells slots ls rest x h k => lv_aload_n hx hb dX5_pair_1 rfl h k) ?_
  refine xm_Oks.step (sn_ldI hG fun H locs cells slots ls rest x h k => lv_iload_n hx hb dX5_pair_2 rfl h k) ?_
  refine xm_Oks.call (xm_sndC hG hC (xm_callV ⟨hx, hb, hml, hown, hts⟩ xw_357 xw_358 xw_359 xw_338 xw_360 (by decide +kernel) dX5_pair_3) (Nat.le_refl _) (by show 8 + (2 + 11) + 40 * d ≤ 40 * (d + 1); omega) (fun C0 h9 => by cases h9; exact ⟨5, _, _, by decide, by decide, rfl, rfl, rfl⟩) (fun as M v M1 mc ms h9 ad sz g1 g2 => ih 75 as M v M1 mc ms h9 ad sz g1 g2)) ?_
  refine xm_Oks.step (sn_if hG fun H locs cells slots ls rest x kt kf => lv_if_eq (tgt := 32) hx hb dX5_pair_6 (by decide) kt kf) ?_
  refine xm_Oks.step (sn_ldR hG fun H locs cells slots ls rest x h k => lv_aload_n hx hb dX5_pair_9 rfl h k) ?_
  refine xm_Oks.step (sn_ldI hG fun H locs cells slots ls rest x h k => lv_iload_n hx hb dX5_pair_10 rfl h k) ?_
  refine xm_Oks.call (xm_sndC hG hC (xm_callV ⟨hx, hb, hml, hown, hts⟩ xw_357 xw_358 xw_359 xw_338 xw_360 (by decide +kernel) dX5_pair_11) (Nat.le_refl _) (by show 8 + (2 + 11) + 40 * d ≤ 40 * (d + 1); omega) (fun C0 h9 => by cases h9; exact ⟨5, _, _, by decide, by decide, rfl, rfl, rfl⟩) (fun as M v M1 mc ms h9 ad sz g1 g2 => ih 75 as M v M1 mc ms h9 ad sz g1 g2)) ?_
  refine xm_Oks.step (sn_if hG fun H locs cells slots ls rest x kt kf => lv_if_eq (tgt := 32) hx hb dX5_pair_14 (by decide) kt kf) ?_
  refine xm_Oks.step (sn_ldI hG fun H locs cells slots ls rest x h k => lv_iload_n hx hb dX5_pair_17 rfl h k) ?_
  refine xm_Oks.step (sn_ldI hG fun H locs cells slots ls rest x h k => lv_iload_n hx hb dX5_pair_18 rfl h k) ?_
  refine xm_Oks.step (sn_icmp hG fun H locs cells slots ls rest x y kt kf => lv_icmp_eq (tgt := 32) hx hb dX5_pair_19 (by decide) kt kf) ?_
  refine xm_Oks.step (sn_ldI hG fun H locs cells slots ls rest x h k => lv_iload_n hx hb dX5_pair_22 rfl h k) ?_
  refine xm_Oks.step (sn_if hG fun H locs cells slots ls rest x kt kf => lv_if_lt (tgt := 32) hx hb dX5_pair_23 (by decide) kt kf) ?_
  refine xm_Oks.step (sn_ldI hG fun H locs cells slots ls rest x h k => lv_iload_n hx hb dX5_pair_26 rfl h k) ?_
  refine xm_Oks.step (sn_push hG (fun _ => trivial) fun ad H locs cells slots ls rest k => lv_bipush hx hb dX5_pair_27 (by decide) k) ?_
  refine xm_Oks.step (sn_icmp hG fun H locs cells slots ls rest x y kt kf => lv_icmp_le (tgt := 36) hx hb dX5_pair_29 (by decide) kt kf) ?_
  refine xm_Oks.step (sn_push hG (fun _ => trivial) fun ad H locs cells slots ls rest k => lv_iconst hx hb dX5_pair_32 (by decide) k) ?_
  refine xm_Oks.step (sn_goto hG fun H locs cells slots ls rest k => lv_goto (tgt := 37) hx hb dX5_pair_33 (by decide) k) ?_
  refine xm_Oks.step (sn_push hG (fun _ => trivial) fun ad H locs cells slots ls rest k => lv_iconst hx hb dX5_pair_36 (by decide) k) ?_
  refine xm_Oks.step (sn_putI hG rfl rfl (by decide) (by decide) fun H locs cells slots ls rest q0 ws a fs v hP hD hS hw ⟨x, hv⟩ hl k => by subst hv; exact va_put (D := D) (ty := .int) (C := RX5) (T := TX5) (N := 22) hx hb ht xu_5 tyX5 tyX5_ok nmX5 hown hK hP hD hS q0 hw rfl 0 (by decide) (ht _ xw_335) (fun _ h9 => h9) rfl (by decide +kernel) rfl rfl hl dX5_pair_37 k) ?_
  refine xm_Oks.step (sn_ldR hG fun H locs cells slots ls rest x h k => lv_aload_n hx hb dX5_pair_40 rfl h k) ?_
  refine xm_Oks.step (sn_getI hG rfl rfl (by decide) (by decide) fun H locs cells slots ls rest q0 ws a fs v hP hw hv k => va_get (D := D) (C := RX5) (T := TX5) (N := 22) hx hb ht xu_5 hown hK hP q0 hw rfl 0 (by decide) (ht _ xw_335) (fun _ h9 => h9) hv dX5_pair_41 k) ?_
  refine xm_Oks.step (sn_if hG fun H locs cells slots ls rest x kt kf => lv_if_le (tgt := 49) hx hb dX5_pair_44 (by decide) kt kf) ?_
  refine xm_Oks.step (sn_push hG (fun _ => trivial) fun ad H locs cells slots ls rest k => lv_iconst hx hb dX5_pair_47 (by decide) k) ?_
  refine xm_Oks.stop ?_
  refine xm_Oks.step (sn_ldR hG fun H locs cells slots ls rest x h k => lv_aload_n hx hb dX5_pair_49 rfl h k) ?_
  refine xm_Oks.step (sn_ldI hG fun H locs cells slots ls rest x h k => lv_iload_n hx hb dX5_pair_50 rfl h k) ?_
  refine xm_Oks.step (sn_ldI hG fun H locs cells slots ls rest x h k => lv_iload_n hx hb dX5_pair_51 rfl h k) ?_
  refine xm_Oks.call (xm_sndC hG hC (xm_callV ⟨hx, hb, hml, hown, hts⟩ xw_411 xw_412 xw_413 xw_338 xw_414 (by decide +kernel) dX5_pair_52) (Nat.le_refl _) (by show 8 + (5 + 11) + 40 * d ≤ 40 * (d + 1); omega) (fun C0 h9 => by cases h9; exact ⟨5, _, _, by decide, by decide, rfl, rfl, rfl⟩) (fun as M v M1 mc ms h9 ad sz g1 g2 => ih 84 as M v M1 mc ms h9 ad sz g1 g2)) ?_
  refine xm_Oks.step (sn_ldI hG fun H locs cells slots ls rest x h k => lv_iload_n hx hb dX5_pair_55 rfl h k) ?_
  refine xm_Oks.step (sn_ldI hG fun H locs cells slots ls rest x h k => lv_iload_n hx hb dX5_pair_56 rfl h k) ?_
  refine xm_Oks.call (xm_sndC hG hC (xm_callS ⟨hx, hb, hml, hown, hts⟩ xw_340 xw_341 xw_338 xw_342 (by decide +kernel) dX5_pair_57) (Nat.le_refl _) (by show 8 + (2 + 11) + 40 * d ≤ 40 * (d + 1); omega) (fun C0 h9 => by cases h9) (fun as M v M1 mc ms h9 ad sz g1 g2 => ih 77 as M v M1 mc ms h9 ad sz g1 g2)) ?_
  refine xm_Oks.step (sn_stI hG fun H locs cells slots ls rest x lv lv9 h he k => lv_istore hx hb dX5_pair_60 h (by decide) he k) ?_
  refine xm_Oks.step (sn_ldI hG fun H locs cells slots ls rest x h k => lv_iload_n hx hb dX5_pair_62 rfl h k) ?_
  refine xm_Oks.step (sn_sw hG fun H locs cells slots ls rest x k => xr_sw hx hb dX5_pair_63 (by decide) (by decide) (by decide) H locs cells slots ls rest x k) ?_
  refine xm_Oks.step (sn_ldR hG fun H locs cells slots ls rest x h k => lv_aload_n hx hb dX5_pair_116 rfl h k) ?_
  refine xm_Oks.call (xm_sndC hG hC (xm_callV ⟨hx, hb, hml, hown, hts⟩ xw_391 xw_392 xw_393 xw_338 xw_394 (by decide +kernel) dX5_pair_117) (Nat.le_refl _) (by show 8 + (7 + 11) + 40 * d ≤ 40 * (d + 1); omega) (fun C0 h9 => by cases h9; exact ⟨5, _, _, by decide, by decide, rfl, rfl, rfl⟩) (fun as M v M1 mc ms h9 ad sz g1 g2 => ih 86 as M v M1 mc ms h9 ad sz g1 g2)) ?_
  refine xm_Oks.step (sn_if hG fun H locs cells slots ls rest x kt kf => lv_if_eq (tgt := 127) hx hb dX5_pair_120 (by decide) kt kf) ?_
  refine xm_Oks.step (sn_push hG (fun _ => trivial) fun ad H locs cells slots ls rest k => lv_iconst hx hb dX5_pair_123 (by decide) k) ?_
  refine xm_Oks.step (sn_goto hG fun H locs cells slots ls rest k => lv_goto (tgt := 128) hx hb dX5_pair_124 (by decide) k) ?_
  refine xm_Oks.step (sn_push hG (fun _ => trivial) fun ad H locs cells slots ls rest k => lv_iconst hx hb dX5_pair_127 (by decide) k) ?_
  refine xm_Oks.stop ?_
  refine xm_Oks.step (sn_ldR hG fun H locs cells slots ls rest x h k => lv_aload_n hx hb dX5_pair_129 rfl h k) ?_
  refine xm_Oks.step (sn_getL hG rfl rfl (by decide) fun H locs cells slots ls rest q0 ws a fs v hP hw hv k => va_get (D := D) (C := RX5) (T := TX5) (N := 22) hx hb ht xu_5 hown hK hP q0 hw rfl 21 (by decide) (ht _ xw_370) (fun _ h9 => h9) hv dX5_pair_130 k) ?_
  refine xm_Oks.step (sn_one hG xg_l2i_inv (fun _ _ => trivial) fun ad H locs cells slots ls rest x k => lv_l2i hx hb dX5_pair_133 rfl k) ?_
  refine xm_Oks.stop ?_
  refine xm_Oks.step (sn_ldR hG fun H locs cells slots ls rest x h k => lv_aload_n hx hb dX5_pair_135 rfl h k) ?_
  refine xm_Oks.step (sn_getR hG rfl rfl (by decide) fun H locs cells slots ls rest q0 ws a fs v hP hw hv k => va_get (D := D) (C := RX5) (T := TX5) (N := 22) hx hb ht xu_5 hown hK hP q0 hw rfl 5 (by decide) (ht _ xw_327) (fun _ h9 => h9) hv dX5_pair_136 k) ?_
  refine xm_Oks.step (sn_ldI hG fun H locs cells slots ls rest x h k => lv_iload hx hb dX5_pair_139 h k) ?_
  refine xm_Oks.step (sn_iald hG fun H locs cells slots ls rest q0 ws a N f x hP hw hin k => va_iald hx hb hK hP q0 1 hw rfl hin dX5_pair_141 k) ?_
  refine xm_Oks.step (sn_ldI hG fun H locs cells slots ls rest x h k => lv_iload_n hx hb dX5_pair_142 rfl h k) ?_
  refine xm_Oks.step (sn_ldI hG fun H locs cells slots ls rest x h k => lv_iload_n hx hb dX5_pair_143 rfl h k) ?_
  refine xm_Oks.step (sn_icmp hG fun H locs cells slots ls rest x y kt kf => lv_icmp_le (tgt := 151) hx hb dX5_pair_144 (by decide) kt kf) ?_
  refine xm_Oks.step (sn_push hG (fun _ => trivial) fun ad H locs cells slots ls rest k => lv_iconst hx hb dX5_pair_147 (by decide) k) ?_
  refine xm_Oks.step (sn_goto hG fun H locs cells slots ls rest k => lv_goto (tgt := 152) hx hb dX5_pair_148 (by decide) k) ?_
  refine xm_Oks.step (sn_push hG (fun _ => trivial) fun ad H locs cells slots ls rest k => lv_iconst hx hb dX5_pair_151 (by decide) k) ?_
  refine xm_Oks.call (xm_sndC hG hC (xm_callS ⟨hx, hb, hml, hown, hts⟩ xw_419 xw_420 xw_338 xw_421 (by decide +kernel) dX5_pair_152) (Nat.le_refl _) (by show 8 + (2 + 11) + 40 * d ≤ 40 * (d + 1); omega) (fun C0 h9 => by cases h9) (fun as M v M1 mc ms h9 ad sz g1 g2 => ih 98 as M v M1 mc ms h9 ad sz g1 g2)) ?_
  refine xm_Oks.stop ?_
  refine xm_Oks.step (sn_ldR hG fun H locs cells slots ls rest x h k => lv_aload_n hx hb dX5_pair_156 rfl h k) ?_
  refine xm_Oks.step (sn_getR hG rfl rfl (by decide) fun H locs cells slots ls rest q0 ws a fs v hP hw hv k => va_get (D := D) (C := RX5) (T := TX5) (N := 22) hx hb ht xu_5 hown hK hP q0 hw rfl 6 (by decide) (ht _ xw_328) (fun _ h9 => h9) hv dX5_pair_157 k) ?_
  refine xm_Oks.step (sn_ldI hG fun H locs cells slots ls rest x h k => lv_iload hx hb dX5_pair_160 h k) ?_
  refine xm_Oks.step (sn_iald hG fun H locs cells slots ls rest q0 ws a N f x hP hw hin k => va_iald hx hb hK hP q0 1 hw rfl hin dX5_pair_162 k) ?_
  refine xm_Oks.stop ?_
  refine xm_Oks.step (sn_ldR hG fun H locs cells slots ls rest x h k => lv_aload_n hx hb dX5_pair_164 rfl h k) ?_
  refine xm_Oks.step (sn_getR hG rfl rfl (by decide) fun H locs cells slots ls rest q0 ws a fs v hP hw hv k => va_get (D := D) (C := RX5) (T := TX5) (N := 22) hx hb ht xu_5 hown hK hP q0 hw rfl 7 (by decide) (ht _ xw_329) (fun _ h9 => h9) hv dX5_pair_165 k) ?_
  refine xm_Oks.step (sn_ldI hG fun H locs cells slots ls rest x h k => lv_iload hx hb dX5_pair_168 h k) ?_
  refine xm_Oks.step (sn_iald hG fun H locs cells slots ls rest q0 ws a N f x hP hw hin k => va_iald hx hb hK hP q0 1 hw rfl hin dX5_pair_170 k) ?_
  refine xm_Oks.stop ?_
  refine xm_Oks.step (sn_ldR hG fun H locs cells slots ls rest x h k => lv_aload_n hx hb dX5_pair_172 rfl h k) ?_
  refine xm_Oks.step (sn_getR hG rfl rfl (by decide) fun H locs cells slots ls rest q0 ws a fs v hP hw hv k => va_get (D := D) (C := RX5) (T := TX5) (N := 22) hx hb ht xu_5 hown hK hP q0 hw rfl 8 (by decide) (ht _ xw_330) (fun _ h9 => h9) hv dX5_pair_173 k) ?_
  refine xm_Oks.step (sn_ldI hG fun H locs cells slots ls rest x h k => lv_iload hx hb dX5_pair_176 h k) ?_
  refine xm_Oks.step (sn_zald hG fun H locs cells slots ls rest q0 ws a N f x hP hw hin k => va_zald hx hb hK hP q0 3 hw rfl hin dX5_pair_178 k) ?_
  refine xm_Oks.step (sn_if hG fun H locs cells slots ls rest x kt kf => lv_if_eq (tgt := 186) hx hb dX5_pair_179 (by decide) kt kf) ?_
  refine xm_Oks.step (sn_push hG (fun _ => trivial) fun ad H locs cells slots ls rest k => lv_iconst hx hb dX5_pair_182 (by decide) k) ?_
  refine xm_Oks.step (sn_goto hG fun H locs cells slots ls rest k => lv_goto (tgt := 187) hx hb dX5_pair_183 (by decide) k) ?_
  refine xm_Oks.step (sn_push hG (fun _ => trivial) fun ad H locs cells slots ls rest k => lv_iconst hx hb dX5_pair_186 (by decide) k) ?_
  refine xm_Oks.stop ?_
  refine xm_Oks.step (sn_ldR hG fun H locs cells slots ls rest x h k => lv_aload_n hx hb dX5_pair_188 rfl h k) ?_
  refine xm_Oks.step (sn_getR hG rfl rfl (by decide) fun H locs cells slots ls rest q0 ws a fs v hP hw hv k => va_get (D := D) (C := RX5) (T := TX5) (N := 22) hx hb ht xu_5 hown hK hP q0 hw rfl 5 (by decide) (ht _ xw_327) (fun _ h9 => h9) hv dX5_pair_189 k) ?_
  refine xm_Oks.step (sn_ldI hG fun H locs cells slots ls rest x h k => lv_iload hx hb dX5_pair_192 h k) ?_
  refine xm_Oks.step (sn_iald hG fun H locs cells slots ls rest q0 ws a N f x hP hw hin k => va_iald hx hb hK hP q0 1 hw rfl hin dX5_pair_194 k) ?_
  refine xm_Oks.step (sn_if hG fun H locs cells slots ls rest x kt kf => lv_if_ne (tgt := 202) hx hb dX5_pair_195 (by decide) kt (fun h9 => kf (fun h8 => h8 h9))) ?_
  refine xm_Oks.step (sn_push hG (fun _ => trivial) fun ad H locs cells slots ls rest k => lv_iconst hx hb dX5_pair_198 (by decide) k) ?_
  refine xm_Oks.step (sn_goto hG fun H locs cells slots ls rest k => lv_goto (tgt := 228) hx hb dX5_pair_199 (by decide) k) ?_
  refine xm_Oks.step (sn_ldR hG fun H locs cells slots ls rest x h k => lv_aload_n hx hb dX5_pair_202 rfl h k) ?_
  refine xm_Oks.step (sn_ldR hG fun H locs cells slots ls rest x h k => lv_aload_n hx hb dX5_pair_203 rfl h k) ?_
  refine xm_Oks.step (sn_getR hG rfl rfl (by decide) fun H locs cells slots ls rest q0 ws a fs v hP hw hv k => va_get (D := D) (C := RX5) (T := TX5) (N := 22) hx hb ht xu_5 hown hK hP q0 hw rfl 5 (by decide) (ht _ xw_327) (fun _ h9 => h9) hv dX5_pair_204 k) ?_
  refine xm_Oks.step (sn_ldI hG fun H locs cells slots ls rest x h k => lv_iload hx hb dX5_pair_207 h k) ?_
  refine xm_Oks.step (sn_iald hG fun H locs cells slots ls rest q0 ws a N f x hP hw hin k => va_iald hx hb hK hP q0 1 hw rfl hin dX5_pair_209 k) ?_
  refine xm_Oks.step (sn_ldR hG fun H locs cells slots ls rest x h k => lv_aload_n hx hb dX5_pair_210 rfl h k) ?_
  refine xm_Oks.step (sn_getR hG rfl rfl (by decide) fun H locs cells slots ls rest q0 ws a fs v hP hw hv k => va_get (D := D) (C := RX5) (T := TX5) (N := 22) hx hb ht xu_5 hown hK hP q0 hw rfl 6 (by decide) (ht _ xw_328) (fun _ h9 => h9) hv dX5_pair_211 k) ?_
  refine xm_Oks.step (sn_ldI hG fun H locs cells slots ls rest x h k => lv_iload hx hb dX5_pair_214 h k) ?_
  refine xm_Oks.step (sn_iald hG fun H locs cells slots ls rest q0 ws a N f x hP hw hin k => va_iald hx hb hK hP q0 1 hw rfl hin dX5_pair_216 k) ?_
  refine xm_Oks.step (sn_ldR hG fun H locs cells slots ls rest x h k => lv_aload_n hx hb dX5_pair_217 rfl h k) ?_
  refine xm_Oks.step (sn_getR hG rfl rfl (by decide) fun H locs cells slots ls rest q0 ws a fs v hP hw hv k => va_get (D := D) (C := RX5) (T := TX5) (N := 22) hx hb ht xu_5 hown hK hP q0 hw rfl 7 (by decide) (ht _ xw_329) (fun _ h9 => h9) hv dX5_pair_218 k) ?_
  refine xm_Oks.step (sn_ldI hG fun H locs cells slots ls rest x h k => lv_iload hx hb dX5_pair_221 h k) ?_
  refine xm_Oks.step (sn_iald hG fun H locs cells slots ls rest q0 ws a N f x hP hw hin k => va_iald hx hb hK hP q0 1 hw rfl hin dX5_pair_223 k) ?_
  refine xm_Oks.call (xm_sndC hG hC (xm_callV ⟨hx, hb, hml, hown, hts⟩ xw_380 xw_381 xw_382 xw_338 xw_383 (by decide +kernel) dX5_pair_224) (Nat.le_refl _) (by show 8 + (8 + 11) + 40 * d ≤ 40 * (d + 1); omega) (fun C0 h9 => by cases h9; exact ⟨5, _, _, by decide, by decide, rfl, rfl, rfl⟩) (fun as M v M1 mc ms h9 ad sz g1 g2 => ih 88 as M v M1 mc ms h9 ad sz g1 g2)) ?_
  refine xm_Oks.step (sn_one hG xg_l2i_inv (fun _ _ => trivial) fun ad H locs cells slots ls rest x k => lv_l2i hx hb dX5_pair_227 rfl k) ?_
  refine xm_Oks.stop ?_
  refine xm_Oks.step (sn_ldR hG fun H locs cells slots ls rest x h k => lv_aload_n hx hb dX5_pair_229 rfl h k) ?_
  refine xm_Oks.step (sn_ldR hG fun H locs cells slots ls rest x h k => lv_aload_n hx hb dX5_pair_230 rfl h k) ?_
  refine xm_Oks.call (xm_sndC hG hC (xm_callV ⟨hx, hb, hml, hown, hts⟩ xw_395 xw_396 xw_397 xw_338 xw_398 (by decide +kernel) dX5_pair_231) (Nat.le_refl _) (by show 8 + (7 + 11) + 40 * d ≤ 40 * (d + 1); omega) (fun C0 h9 => by cases h9; exact ⟨5, _, _, by decide, by decide, rfl, rfl, rfl⟩) (fun as M v M1 mc ms h9 ad sz g1 g2 => ih 90 as M v M1 mc ms h9 ad sz g1 g2)) ?_
  refine xm_Oks.step (sn_ldR hG fun H locs cells slots ls rest x h k => lv_aload_n hx hb dX5_pair_234 rfl h k) ?_
  refine xm_Oks.step (sn_ldR hG fun H locs cells slots ls rest x h k => lv_aload_n hx hb dX5_pair_235 rfl h k) ?_
  refine xm_Oks.call (xm_sndC hG hC (xm_callV ⟨hx, hb, hml, hown, hts⟩ xw_395 xw_396 xw_397 xw_338 xw_398 (by decide +kernel) dX5_pair_236) (Nat.le_refl _) (by show 8 + (7 + 11) + 40 * d ≤ 40 * (d + 1); omega) (fun C0 h9 => by cases h9; exact ⟨5, _, _, by decide, by decide, rfl, rfl, rfl⟩) (fun as M v M1 mc ms h9 ad sz g1 g2 => ih 90 as M v M1 mc ms h9 ad sz g1 g2)) ?_
  refine xm_Oks.step (sn_push hG (fun _ => trivial) fun ad H locs cells slots ls rest k => lv_iconst hx hb dX5_pair_239 (by decide) k) ?_
  refine xm_Oks.step (sn_push hG (fun _ => trivial) fun ad H locs cells slots ls rest k => lv_iconst hx hb dX5_pair_240 (by decide) k) ?_
  refine xm_Oks.call (xm_sndC hG hC (xm_callV ⟨hx, hb, hml, hown, hts⟩ xw_384 xw_385 xw_386 xw_338 xw_387 (by decide +kernel) dX5_pair_241) (Nat.le_refl _) (by show 8 + (5 + 11) + 40 * d ≤ 40 * (d + 1); omega) (fun C0 h9 => by cases h9; exact ⟨5, _, _, by decide, by decide, rfl, rfl, rfl⟩) (fun as M v M1 mc ms h9 ad sz g1 g2 => ih 89 as M v M1 mc ms h9 ad sz g1 g2)) ?_
  refine xm_Oks.step (sn_push hG (fun _ => trivial) fun ad H locs cells slots ls rest k => lv_iconst hx hb dX5_pair_244 (by decide) k) ?_
  refine xm_Oks.call (xm_sndC hG hC (xm_callV ⟨hx, hb, hml, hown, hts⟩ xw_380 xw_381 xw_382 xw_338 xw_383 (by decide +kernel) dX5_pair_245) (Nat.le_refl _) (by show 8 + (8 + 11) + 40 * d ≤ 40 * (d + 1); omega) (fun C0 h9 => by cases h9; exact ⟨5, _, _, by decide, by decide, rfl, rfl, rfl⟩) (fun as M v M1 mc ms h9 ad sz g1 g2 => ih 88 as M v M1 mc ms h9 ad sz g1 g2)) ?_
  refine xm_Oks.step (sn_one hG xg_l2i_inv (fun _ _ => trivial) fun ad H locs cells slots ls rest x k => lv_l2i hx hb dX5_pair_248 rfl k) ?_
  refine xm_Oks.stop ?_
  refine xm_Oks.step (sn_ldR hG fun H locs cells slots ls rest x h k => lv_aload_n hx hb dX5_pair_250 rfl h k) ?_
  refine xm_Oks.call (xm_sndC hG hC (xm_callV ⟨hx, hb, hml, hown, hts⟩ xw_395 xw_396 xw_397 xw_338 xw_398 (by decide +kernel) dX5_pair_251) (Nat.le_refl _) (by show 8 + (7 + 11) + 40 * d ≤ 40 * (d + 1); omega) (fun C0 h9 => by cases h9; exact ⟨5, _, _, by decide, by decide, rfl, rfl, rfl⟩) (fun as M v M1 mc ms h9 ad sz g1 g2 => ih 90 as M v M1 mc ms h9 ad sz g1 g2)) ?_
  refine xm_Oks.step (sn_ldI hG fun H locs cells slots ls rest x h k => lv_iload_n hx hb dX5_pair_254 rfl h k) ?_
  refine xm_Oks.step (sn_ldI hG fun H locs cells slots ls rest x h k => lv_iload_n hx hb dX5_pair_255 rfl h k) ?_
  refine xm_Oks.step (sn_icmp hG fun H locs cells slots ls rest x y kt kf => lv_icmp_le (tgt := 263) hx hb dX5_pair_256 (by decide) kt kf) ?_
  refine xm_Oks.step (sn_push hG (fun _ => trivial) fun ad H locs cells slots ls rest k => lv_iconst hx hb dX5_pair_259 (by decide) k) ?_
  refine xm_Oks.step (sn_goto hG fun H locs cells slots ls rest k => lv_goto (tgt := 264) hx hb dX5_pair_260 (by decide) k) ?_
  refine xm_Oks.step (sn_push hG (fun _ => trivial) fun ad H locs cells slots ls rest k => lv_iconst hx hb dX5_pair_263 (by decide) k) ?_
  refine xm_Oks.call (xm_sndC hG hC (xm_callS ⟨hx, hb, hml, hown, hts⟩ xw_419 xw_420 xw_338 xw_421 (by decide +kernel) dX5_pair_264) (Nat.le_refl _) (by show 8 + (2 + 11) + 40 * d ≤ 40 * (d + 1); omega) (fun C0 h9 => by cases h9) (fun as M v M1 mc ms h9 ad sz g1 g2 => ih 98 as M v M1 mc ms h9 ad sz g1 g2)) ?_
  refine xm_Oks.stop ?_
  refine xm_Oks.step (sn_ldR hG fun H locs cells slots ls rest x h k => lv_aload_n hx hb dX5_pair_268 rfl h k) ?_
  refine xm_Oks.step (sn_getR hG rfl rfl (by decide) fun H locs cells slots ls rest q0 ws a fs v hP hw hv k => va_get (D := D) (C := RX5) (T := TX5) (N := 22) hx hb ht xu_5 hown hK hP q0 hw rfl 9 (by decide) (ht _ xw_332) (fun _ h9 => h9) hv dX5_pair_269 k) ?_
  refine xm_Oks.step (sn_ldI hG fun H locs cells slots ls rest x h k => lv_iload hx hb dX5_pair_272 h k) ?_
  refine xm_Oks.step (sn_lald hG fun H locs cells slots ls rest q0 ws a N f x hP hw hin k => va_lald hx hb hK hP q0 2 hw rfl hin dX5_pair_274 k) ?_
  refine xm_Oks.step (sn_push hG (fun _ => trivial) fun ad H locs cells slots ls rest k => lv_ldc2 hx hb hown (ht _ xw_422) dX5_pair_275 k) ?_
  refine xm_Oks.step (sn_lcmp hG fun H locs cells slots ls rest x y k => W.lcmp hx hb dX5_pair_278 k) ?_
  refine xm_Oks.step (sn_if hG fun H locs cells slots ls rest x kt kf => lv_if_le (tgt := 288) hx hb dX5_pair_279 (by decide) kt kf) ?_
  refine xm_Oks.step (sn_push hG (fun _ => trivial) fun ad H locs cells slots ls rest k => lv_ldc2 hx hb hown (ht _ xw_422) dX5_pair_282 k) ?_
  refine xm_Oks.step (sn_goto hG fun H locs cells slots ls rest k => lv_goto (tgt := 295) hx hb dX5_pair_285 (by decide) k) ?_
  refine xm_Oks.step (sn_ldR hG fun H locs cells slots ls rest x h k => lv_aload_n hx hb dX5_pair_288 rfl h k) ?_
  refine xm_Oks.step (sn_getR hG rfl rfl (by decide) fun H locs cells slots ls rest q0 ws a fs v hP hw hv k => va_get (D := D) (C := RX5) (T := TX5) (N := 22) hx hb ht xu_5 hown hK hP q0 hw rfl 9 (by decide) (ht _ xw_332) (fun _ h9 => h9) hv dX5_pair_289 k) ?_
  refine xm_Oks.step (sn_ldI hG fun H locs cells slots ls rest x h k => lv_iload hx hb dX5_pair_292 h k) ?_
  refine xm_Oks.step (sn_lald hG fun H locs cells slots ls rest q0 ws a N f x hP hw hin k => va_lald hx hb hK hP q0 2 hw rfl hin dX5_pair_294 k) ?_
  refine xm_Oks.step (sn_one hG xg_l2i_inv (fun _ _ => trivial) fun ad H locs cells slots ls rest x k => lv_l2i hx hb dX5_pair_295 rfl k) ?_
  refine xm_Oks.stop ?_
  refine xm_Oks.step (sn_ldR hG fun H locs cells slots ls rest x h k => lv_aload_n hx hb dX5_pair_297 rfl h k) ?_
  refine xm_Oks.step (sn_getR hG rfl rfl (by decide) fun H locs cells slots ls rest q0 ws a fs v hP hw hv k => va_get (D := D) (C := RX5) (T := TX5) (N := 22) hx hb ht xu_5 hown hK hP q0 hw rfl 10 (by decide) (ht _ xw_333) (fun _ h9 => h9) hv dX5_pair_298 k) ?_
  refine xm_Oks.step (sn_ldI hG fun H locs cells slots ls rest x h k => lv_iload hx hb dX5_pair_301 h k) ?_
  refine xm_Oks.step (sn_iald hG fun H locs cells slots ls rest q0 ws a N f x hP hw hin k => va_iald hx hb hK hP q0 1 hw rfl hin dX5_pair_303 k) ?_
  refine xm_Oks.stop ?_
  exact trivial
set_option maxHeartbeats 4000000 in
set_option maxRecDepth 100000 in
theorem xk_X5_all : xm_MOk xp_pg xp_pm 100 := by
  refine ⟨by decide +kernel, rfl, ?_, ?_⟩
  · show xm_Oks _ xt_X5_all
    exact ⟨trivial, trivial, trivial, trivial, trivial, trivial, trivial, trivial, trivial, trivial, trivial, trivial, trivial, trivial, trivial, trivial, trivial, trivial, trivial, ⟨dX5_all_35, rfl⟩, trivial⟩
  intro d mc ms p l e s m args below meth c Q cA D A tS ad0 o0 G hG hC hn ih
  have hG : xm_IsG p l e (xm_room (d + 1) mc ms) s m args below meth c Q cA D A tS 2 ad0 o0 G := hG
  have hC : xm_Cx p s m args c cX5_all 2 RX5 (Cond.code yX5_all cX5_all 2 (some .int) :: xm_W) cA D A tS := hC
  have hn : meth.name = "all" := hn
  obtain ⟨hx, hb, hml, hown, hts, hK, hA, hSx, hNx⟩ := id hC
  have ht : ∀ w ∈ xm_W, w.before args s = true := fun w h => hts w (List.mem_cons_of_mem _ h)
  show xm_Oks (xm_Ent (xm_room (d + 1) mc ms) G (xm_Do xp_pg d)) xt_X5_all
  unfold xt_X5_all
  refine xm_Oks.step (sn_ldR hG fun H locs cells slots ls rest x h k => lv_aload_n hx hb dX5_all_0 rfl h k) ?_
  refine xm_Oks.step (sn_ldI hG fun H locs cells slots ls rest x h k => lv_iload_n hx hb dX5_all_1 rfl h k) ?_
  refine xm_Oks.step (sn_if hG fun H locs cells slots ls rest x kt kf => lv_if_lt (tgt := 10) hx hb dX5_all_2 (by decide) kt kf) ?_
  refine xm_Oks.step (sn_ldI hG fun H locs cells slots ls rest x h k => lv_iload_n hx hb dX5_all_5 rfl h k) ?_
  refine xm_Oks.step (sn_push hG (fun _ => trivial) fun ad H locs cells slots ls rest k => lv_iconst hx hb dX5_all_6 (by decide) k) ?_
  refine xm_Oks.step (sn_icmp hG fun H locs cells slots ls rest x y kt kf => lv_icmp_le (tgt := 14) hx hb dX5_all_7 (by decide) kt kf) ?_
  refine xm_Oks.step (sn_push hG (fun _ => trivial) fun ad H locs cells slots ls rest k => lv_iconst hx hb dX5_all_10 (by decide) k) ?_
  refine xm_Oks.step (sn_goto hG fun H locs cells slots ls rest k => lv_goto (tgt := 15) hx hb dX5_all_11 (by decide) k) ?_
  refine xm_Oks.step (sn_push hG (fun _ => trivial) fun ad H locs cells slots ls rest k => lv_iconst hx hb dX5_all_14 (by decide) k) ?_
  refine xm_Oks.step (sn_putI hG rfl rfl (by decide) (by decide) fun H locs cells slots ls rest q0 ws a fs v hP hD hS hw ⟨x, hv⟩ hl k => by subst hv; exact va_put (D := D) (ty := .int) (C := RX5) (T := TX5) (N := 22) hx hb ht xu_5 tyX5 tyX5_ok nmX5 hown hK hP hD hS q0 hw rfl 0 (by decide) (ht _ xw_335) (fun _ h9 => h9) rfl (by decide +kernel) rfl rfl hl dX5_all_15 k) ?_
  refine xm_Oks.step (sn_ldR hG fun H locs cells slots ls rest x h k => lv_aload_n hx hb dX5_all_18 rfl h k) ?_
  refine xm_Oks.step (sn_getI hG rfl rfl (by decide) (by decide) fun H locs cells slots ls rest q0 ws a fs v hP hw hv k => va_get (D := D) (C := RX5) (T := TX5) (N := 22) hx hb ht xu_5 hown hK hP q0 hw rfl 0 (by decide) (ht _ xw_335) (fun _ h9 => h9) hv dX5_all_19 k) ?_
  refine xm_Oks.step (sn_if hG fun H locs cells slots ls rest x kt kf => lv_if_le (tgt := 29) hx hb dX5_all_22 (by decide) kt kf) ?_
  refine xm_Oks.step (sn_push hG (fun _ => trivial) fun ad H locs cells slots ls rest k => lv_iconst hx hb dX5_all_25 (by decide) k) ?_
  refine xm_Oks.step (sn_goto hG fun H locs cells slots ls rest k => lv_goto (tgt := 35) hx hb dX5_all_26 (by decide) k) ?_
  refine xm_Oks.step (sn_ldR hG fun H locs cells slots ls rest x h k => lv_aload_n hx hb dX5_all_29 rfl h k) ?_
  refine xm_Oks.step (sn_getR hG rfl rfl (by decide) fun H locs cells slots ls rest q0 ws a fs v hP hw hv k => va_get (D := D) (C := RX5) (T := TX5) (N := 22) hx hb ht xu_5 hown hK hP q0 hw rfl 11 (by decide) (ht _ xw_334) (fun _ h9 => h9) hv dX5_all_30 k) ?_
  refine xm_Oks.step (sn_ldI hG fun H locs cells slots ls rest x h k => lv_iload_n hx hb dX5_all_33 rfl h k) ?_
  refine xm_Oks.step (sn_iald hG fun H locs cells slots ls rest q0 ws a N f x hP hw hin k => va_iald hx hb hK hP q0 1 hw rfl hin dX5_all_34 k) ?_
  refine xm_Oks.stop ?_
  exact trivial
