set_option maxHeartbeats 4000000 in
set_option maxRecDepth 100000 in
theorem xk_X1_init : xm_MOk xp_pg xp_pm 13 := by
  refine ⟨by decide +kernel, rfl, ?_, ?_⟩
  · show xm_Oks _ xt_X1_init
    exact ⟨trivial, trivial, trivial, trivial, trivial, trivial, trivial, trivial, trivial, trivial, trivial, trivial, trivial, trivial, ⟨dX1_init_25, rfl⟩, trivial⟩
  intro d mc ms p l e s m args below meth c Q cA D A tS ad0 o0 G hG hC hn ih
  have hG : xm_IsG p l e (xm_room (d + 1) mc ms) s m args below meth c Q cA D A tS 5 ad0 o0 G := hG
  have hC : xm_Cx p s m args c cX1_init 5 RX1 (Cond.code yX1_init cX1_init 5 none :: xm_W) cA D A tS := hC
  have hn : meth.name = "<init>" := hn
  obtain ⟨hx, hb, hml, hown, hts, hK, hA, hSx, hNx⟩ := id hC
  have ht : ∀ w ∈ xm_W, w.before args s = true := fun w h => hts w (List.mem_cons_of_mem _ h)
  show xm_Oks (xm_Ent (xm_room (d + 1) mc ms) G (xm_Do xp_pg d)) xt_X1_init
  unfold xt_X1_init
  refine xm_Oks.step (sn_ldR hG fun H locs cells slots ls rest x h k => lv_aload_n hx hb dX1_init_0 rfl h k) ?_
  refine xm_Oks.step (sn_obj hG fun H locs cells slots ls rest a h1 h2 k => W.objInit hx hb hown (ht _ xw_34) (ht _ xw_1) (ht _ xw_2) rfl (h1.trans hml.symm) rfl dX1_init_1 (Nat.le_add_left 1 d) (by show 2 * 0 + _ + 12 ≤ 40 * (d + 1); omega) k) ?_
  refine xm_Oks.step (sn_ldR hG fun H locs cells slots ls rest x h k => lv_aload_n hx hb dX1_init_4 rfl h k) ?_
  refine xm_Oks.step (sn_ldR hG fun H locs cells slots ls rest x h k => lv_aload_n hx hb dX1_init_5 rfl h k) ?_
  refine xm_Oks.step (sn_putR hG rfl rfl (by decide) fun H locs cells slots ls rest q0 ws a fs v hP hD hS hw ⟨x, hv⟩ hl k => by subst hv; exact va_putF (D := D) (ty := .object "SkyAdvisor$Aircraft") (C := RX1) (T := TX1) (N := 11) hx hb ht xu_1 tyX1 tyX1_ok nmX1 hown hK hP hD hS q0 hw rfl 0 (by decide) (ht _ xw_35) (fun _ h9 => h9) rfl hn rfl (by decide +kernel) rfl rfl hl dX1_init_6 k) ?_
  refine xm_Oks.step (sn_ldR hG fun H locs cells slots ls rest x h k => lv_aload_n hx hb dX1_init_9 rfl h k) ?_
  refine xm_Oks.step (sn_ldR hG fun H locs cells slots ls rest x h k => lv_aload_n hx hb dX1_init_10 rfl h k) ?_
  refine xm_Oks.step (sn_putR hG rfl rfl (by decide) fun H locs cells slots ls rest q0 ws a fs v hP hD hS hw ⟨x, hv⟩ hl k => by subst hv; exact va_putF (D := D) (ty := .object "SkyAdvisor$Aircraft") (C := RX1) (T := TX1) (N := 11) hx hb ht xu_1 tyX1 tyX1_ok nmX1 hown hK hP hD hS q0 hw rfl 1 (by decide) (ht _ xw_36) (fun _ h9 => h9) rfl hn rfl (by decide +kernel) rfl rfl hl dX1_init_11 k) ?_
  refine xm_Oks.step (sn_ldR hG fun H locs cells slots ls rest x h k => lv_aload_n hx hb dX1_init_14 rfl h k) ?_
  refine xm_Oks.step (sn_ldR hG fun H locs cells slots ls rest x h k => lv_aload_n hx hb dX1_init_15 rfl h k) ?_
  refine xm_Oks.step (sn_putR hG rfl rfl (by decide) fun H locs cells slots ls rest q0 ws a fs v hP hD hS hw ⟨x, hv⟩ hl k => by subst hv; exact va_putF (D := D) (ty := .object "SkyAdvisor$Settings") (C := RX1) (T := TX1) (N := 11) hx hb ht xu_1 tyX1 tyX1_ok nmX1 hown hK hP hD hS q0 hw rfl 2 (by decide) (ht _ xw_37) (fun _ h9 => h9) rfl hn rfl (by decide +kernel) rfl rfl hl dX1_init_16 k) ?_
  refine xm_Oks.step (sn_ldR hG fun H locs cells slots ls rest x h k => lv_aload_n hx hb dX1_init_19 rfl h k) ?_
  refine xm_Oks.step (sn_ldR hG fun H locs cells slots ls rest x h k => lv_aload hx hb dX1_init_20 h k) ?_
  refine xm_Oks.step (sn_putR hG rfl rfl (by decide) fun H locs cells slots ls rest q0 ws a fs v hP hD hS hw ⟨x, hv⟩ hl k => by subst hv; exact va_putF (D := D) (ty := .object "SkyAdvisor$Tally") (C := RX1) (T := TX1) (N := 11) hx hb ht xu_1 tyX1 tyX1_ok nmX1 hown hK hP hD hS q0 hw rfl 3 (by decide) (ht _ xw_38) (fun _ h9 => h9) rfl hn rfl (by decide +kernel) rfl rfl hl dX1_init_22 k) ?_
  refine xm_Oks.stop ?_
  exact trivial
set_option maxHeartbeats 4000000 in
set_option maxRecDepth 100000 in
theorem xk_X1_isThere : xm_MOk xp_pg xp_pm 14 := by
  refine ⟨by decide +kernel, rfl, ?_, ?_⟩
  · show xm_Oks _ xt_X1_isThere
    exact ⟨trivial, trivial, trivial, trivial, trivial, trivial, trivial, trivial, trivial, trivial, trivial, ⟨dX1_isThere_25, rfl⟩, trivial⟩
  intro d mc ms p l e s m args below meth c Q cA D A tS ad0 o0 G hG hC hn ih
  have hG : xm_IsG p l e (xm_room (d + 1) mc ms) s m args below meth c Q cA D A tS 1 ad0 o0 G := hG
  have hC : xm_Cx p s m args c cX1_isThere 1 RX1 (Cond.code yX1_isThere cX1_isThere 1 (some .boolean) :: xm_W) cA D A tS := hC
  have hn : meth.name = "isThere" := hn
  obtain ⟨hx, hb, hml, hown, hts, hK, hA, hSx, hNx⟩ := id hC
  have ht : ∀ w ∈ xm_W, w.before args s = true := fun w h => hts w (List.mem_cons_of_mem _ h)
  show xm_Oks (xm_Ent (xm_room (d + 1) mc ms) G (xm_Do xp_pg d)) xt_X1_isThere
  unfold xt_X1_isThere
  refine xm_Oks.step (sn_ldR hG fun H locs cells slots ls rest x h k => lv_aload_n hx hb dX1_isThere_0 rfl h k) ?_
  refine xm_Oks.step (sn_getR hG rfl rfl (by decide) fun H locs cells slots ls rest q0 ws a fs v hP hw hv k => va_get (D := D) (C := RX1) (T := TX1) (N := 11) hx hb ht xu_1 hown hK hP q0 hw rfl 0 (by decide) (ht _ xw_35) (fun _ h9 => h9) hv dX1_isThere_1 k) ?_
  refine xm_Oks.step (sn_getI hG rfl rfl (by decide) (by decide) fun H locs cells slots ls rest q0 ws a fs v hP hw hv k => va_get (D := D) (C := RX0) (T := TX0) (N := 8) hx hb ht xu_0 hown hK hP q0 hw rfl 0 (by decide) (ht _ xw_39) (fun _ h9 => h9) hv dX1_isThere_4 k) ?_
  refine xm_Oks.step (sn_if hG fun H locs cells slots ls rest x kt kf => lv_if_eq (tgt := 24) hx hb dX1_isThere_7 (by decide) kt kf) ?_
  refine xm_Oks.step (sn_ldR hG fun H locs cells slots ls rest x h k => lv_aload_n hx hb dX1_isThere_10 rfl h k) ?_
  refine xm_Oks.step (sn_getR hG rfl rfl (by decide) fun H locs cells slots ls rest q0 ws a fs v hP hw hv k => va_get (D := D) (C := RX1) (T := TX1) (N := 11) hx hb ht xu_1 hown hK hP q0 hw rfl 1 (by decide) (ht _ xw_36) (fun _ h9 => h9) hv dX1_isThere_11 k) ?_
  refine xm_Oks.step (sn_getI hG rfl rfl (by decide) (by decide) fun H locs cells slots ls rest q0 ws a fs v hP hw hv k => va_get (D := D) (C := RX0) (T := TX0) (N := 8) hx hb ht xu_0 hown hK hP q0 hw rfl 0 (by decide) (ht _ xw_39) (fun _ h9 => h9) hv dX1_isThere_14 k) ?_
  refine xm_Oks.step (sn_if hG fun H locs cells slots ls rest x kt kf => lv_if_eq (tgt := 24) hx hb dX1_isThere_17 (by decide) kt kf) ?_
  refine xm_Oks.step (sn_push hG (fun _ => trivial) fun ad H locs cells slots ls rest k => lv_iconst hx hb dX1_isThere_20 (by decide) k) ?_
  refine xm_Oks.step (sn_goto hG fun H locs cells slots ls rest k => lv_goto (tgt := 25) hx hb dX1_isThere_21 (by decide) k) ?_
  refine xm_Oks.step (sn_push hG (fun _ => trivial) fun ad H locs cells slots ls rest k => lv_iconst hx hb dX1_isThere_24 (by decide) k) ?_
  refine xm_Oks.stop ?_
  exact trivial
set_option maxHeartbeats 4000000 in
set_option maxRecDepth 100000 in
theorem xk_X1_has : xm_MOk xp_pg xp_pm 15 := by
  refine ⟨by decide +kernel, rfl, ?_, ?_⟩
  · show xm_Oks _ xt_X1_has
    exact ⟨trivial, trivial, trivial, trivial, trivial, trivial, trivial, trivial, trivial, trivial, trivial, ⟨dX1_has_21, rfl⟩, trivial⟩
  intro d mc ms p l e s m args below meth c Q cA D A tS ad0 o0 G hG hC hn ih
  have hG : xm_IsG p l e (xm_room (d + 1) mc ms) s m args below meth c Q cA D A tS 2 ad0 o0 G := hG
  have hC : xm_Cx p s m args c cX1_has 2 RX1 (Cond.code yX1_has cX1_has 2 (some .boolean) :: xm_W) cA D A tS := hC
  have hn : meth.name = "has" := hn
  obtain ⟨hx, hb, hml, hown, hts, hK, hA, hSx, hNx⟩ := id hC
  have ht : ∀ w ∈ xm_W, w.before args s = true := fun w h => hts w (List.mem_cons_of_mem _ h)
  show xm_Oks (xm_Ent (xm_room (d + 1) mc ms) G (xm_Do xp_pg d)) xt_X1_has
  unfold xt_X1_has
  refine xm_Oks.step (sn_ldR hG fun H locs cells slots ls rest x h k => lv_aload_n hx hb dX1_has_0 rfl h k) ?_
  refine xm_Oks.step (sn_getR hG rfl rfl (by decide) fun H locs cells slots ls rest q0 ws a fs v hP hw hv k => va_get (D := D) (C := RX1) (T := TX1) (N := 11) hx hb ht xu_1 hown hK hP q0 hw rfl 0 (by decide) (ht _ xw_35) (fun _ h9 => h9) hv dX1_has_1 k) ?_
  refine xm_Oks.step (sn_ldR hG fun H locs cells slots ls rest x h k => lv_aload_n hx hb dX1_has_4 rfl h k) ?_
  refine xm_Oks.step (sn_acmp hG fun H locs cells slots ls rest x y kt kf => lv_acmp_eq (rx := some x) (ry := some y) (tgt := 16) hx hb dX1_has_5 (by decide) (fun h9 => kt (Option.some.inj h9)) (fun h9 => kf (fun h8 => h9 (congrArg some h8)))) ?_
  refine xm_Oks.step (sn_ldR hG fun H locs cells slots ls rest x h k => lv_aload_n hx hb dX1_has_8 rfl h k) ?_
  refine xm_Oks.step (sn_getR hG rfl rfl (by decide) fun H locs cells slots ls rest q0 ws a fs v hP hw hv k => va_get (D := D) (C := RX1) (T := TX1) (N := 11) hx hb ht xu_1 hown hK hP q0 hw rfl 1 (by decide) (ht _ xw_36) (fun _ h9 => h9) hv dX1_has_9 k) ?_
  refine xm_Oks.step (sn_ldR hG fun H locs cells slots ls rest x h k => lv_aload_n hx hb dX1_has_12 rfl h k) ?_
  refine xm_Oks.step (sn_acmp hG fun H locs cells slots ls rest x y kt kf => lv_acmp_ne (rx := some x) (ry := some y) (tgt := 20) hx hb dX1_has_13 (by decide) (fun h9 => kf (fun h8 => h9 (congrArg some h8))) (fun h9 => kt (Option.some.inj h9))) ?_
  refine xm_Oks.step (sn_push hG (fun _ => trivial) fun ad H locs cells slots ls rest k => lv_iconst hx hb dX1_has_16 (by decide) k) ?_
  refine xm_Oks.step (sn_goto hG fun H locs cells slots ls rest k => lv_goto (tgt := 21) hx hb dX1_has_17 (by decide) k) ?_
  refine xm_Oks.step (sn_push hG (fun _ => trivial) fun ad H locs cells slots ls rest k => lv_iconst hx hb dX1_has_20 (by decide) k) ?_
  refine xm_Oks.stop ?_
  exact trivial
set_option maxHeartbeats 4000000 in
set_option maxRecDepth 100000 in
theorem xk_X1_isHeeded : xm_MOk xp_pg xp_pm 16 := by
  refine ⟨by decide +kernel, rfl, ?_, ?_⟩
  · show xm_Oks _ xt_X1_isHeeded
    exact ⟨trivial, trivial, trivial, trivial, trivial, trivial, trivial, trivial, trivial, trivial, trivial, trivial, ⟨dX1_isHeeded_26, rfl⟩, trivial⟩
  intro d mc ms p l e s m args below meth c Q cA D A tS ad0 o0 G hG hC hn ih
  have hG : xm_IsG p l e (xm_room (d + 1) mc ms) s m args below meth c Q cA D A tS 1 ad0 o0 G := hG
  have hC : xm_Cx p s m args c cX1_isHeeded 1 RX1 (Cond.code yX1_isHeeded cX1_isHeeded 1 (some .boolean) :: xm_W) cA D A tS := hC
  have hn : meth.name = "isHeeded" := hn
  obtain ⟨hx, hb, hml, hown, hts, hK, hA, hSx, hNx⟩ := id hC
  have ht : ∀ w ∈ xm_W, w.before args s = true := fun w h => hts w (List.mem_cons_of_mem _ h)
  show xm_Oks (xm_Ent (xm_room (d + 1) mc ms) G (xm_Do xp_pg d)) xt_X1_isHeeded
  unfold xt_X1_isHeeded
  refine xm_Oks.step (sn_ldR hG fun H locs cells slots ls rest x h k => lv_aload_n hx hb dX1_isHeeded_0 rfl h k) ?_
  refine xm_Oks.step (sn_getI hG rfl rfl (by decide) (by decide) fun H locs cells slots ls rest q0 ws a fs v hP hw hv k => va_get (D := D) (C := RX1) (T := TX1) (N := 11) hx hb ht xu_1 hown hK hP q0 hw rfl 9 (by decide) (ht _ xw_40) (fun _ h9 => h9) hv dX1_isHeeded_1 k) ?_
  refine xm_Oks.step (sn_if hG fun H locs cells slots ls rest x kt kf => lv_if_eq (tgt := 25) hx hb dX1_isHeeded_4 (by decide) kt kf) ?_
  refine xm_Oks.step (sn_ldR hG fun H locs cells slots ls rest x h k => lv_aload_n hx hb dX1_isHeeded_7 rfl h k) ?_
  refine xm_Oks.step (sn_getI hG rfl rfl (by decide) (by decide) fun H locs cells slots ls rest q0 ws a fs v hP hw hv k => va_get (D := D) (C := RX1) (T := TX1) (N := 11) hx hb ht xu_1 hown hK hP q0 hw rfl 7 (by decide) (ht _ xw_41) (fun _ h9 => h9) hv dX1_isHeeded_8 k) ?_
  refine xm_Oks.step (sn_ldR hG fun H locs cells slots ls rest x h k => lv_aload_n hx hb dX1_isHeeded_11 rfl h k) ?_
  refine xm_Oks.step (sn_getR hG rfl rfl (by decide) fun H locs cells slots ls rest q0 ws a fs v hP hw hv k => va_get (D := D) (C := RX1) (T := TX1) (N := 11) hx hb ht xu_1 hown hK hP q0 hw rfl 2 (by decide) (ht _ xw_37) (fun _ h9 => h9) hv dX1_isHeeded_12 k) ?_
  refine xm_Oks.call (xm_sndC hG hC (xm_callV ⟨hx, hb, hml, hown, hts⟩ xw_42 xw_43 xw_44 xw_45 xw_46 (by decide +kernel) dX1_isHeeded_15) (Nat.le_refl _) (by show 8 + (1 + 11) + 40 * d ≤ 40 * (d + 1); omega) (fun C0 h9 => by cases h9; exact ⟨2, _, _, by decide, by decide, rfl, rfl, rfl⟩) (fun as M v M1 mc ms h9 ad sz g1 g2 => ih 49 as M v M1 mc ms h9 ad sz g1 g2)) ?_
  refine xm_Oks.step (sn_icmp hG fun H locs cells slots ls rest x y kt kf => lv_icmp_lt (tgt := 25) hx hb dX1_isHeeded_18 (by decide) kt kf) ?_
  refine xm_Oks.step (sn_push hG (fun _ => trivial) fun ad H locs cells slots ls rest k => lv_iconst hx hb dX1_isHeeded_21 (by decide) k) ?_
  refine xm_Oks.step (sn_goto hG fun H locs cells slots ls rest k => lv_goto (tgt := 26) hx hb dX1_isHeeded_22 (by decide) k) ?_
  refine xm_Oks.step (sn_push hG (fun _ => trivial) fun ad H locs cells slots ls rest k => lv_iconst hx hb dX1_isHeeded_25 (by decide) k) ?_
  refine xm_Oks.stop ?_
  exact trivial
set_option maxHeartbeats 4000000 in
set_option maxRecDepth 100000 in
theorem xk_X1_sendsUp : xm_MOk xp_pg xp_pm 17 := by
  refine ⟨by decide +kernel, rfl, ?_, ?_⟩
  · show xm_Oks _ xt_X1_sendsUp
    exact ⟨trivial, trivial, trivial, trivial, trivial, trivial, trivial, trivial, trivial, trivial, trivial, trivial, trivial, ⟨dX1_sendsUp_25, rfl⟩, trivial⟩
  intro d mc ms p l e s m args below meth c Q cA D A tS ad0 o0 G hG hC hn ih
  have hG : xm_IsG p l e (xm_room (d + 1) mc ms) s m args below meth c Q cA D A tS 2 ad0 o0 G := hG
  have hC : xm_Cx p s m args c cX1_sendsUp 2 RX1 (Cond.code yX1_sendsUp cX1_sendsUp 2 (some .boolean) :: xm_W) cA D A tS := hC
  have hn : meth.name = "sendsUp" := hn
  obtain ⟨hx, hb, hml, hown, hts, hK, hA, hSx, hNx⟩ := id hC
  have ht : ∀ w ∈ xm_W, w.before args s = true := fun w h => hts w (List.mem_cons_of_mem _ h)
  show xm_Oks (xm_Ent (xm_room (d + 1) mc ms) G (xm_Do xp_pg d)) xt_X1_sendsUp
  unfold xt_X1_sendsUp
  refine xm_Oks.step (sn_ldR hG fun H locs cells slots ls rest x h k => lv_aload_n hx hb dX1_sendsUp_0 rfl h k) ?_
  refine xm_Oks.step (sn_getI hG rfl rfl (by decide) (by decide) fun H locs cells slots ls rest q0 ws a fs v hP hw hv k => va_get (D := D) (C := RX1) (T := TX1) (N := 11) hx hb ht xu_1 hown hK hP q0 hw rfl 6 (by decide) (ht _ xw_47) (fun _ h9 => h9) hv dX1_sendsUp_1 k) ?_
  refine xm_Oks.step (sn_ldR hG fun H locs cells slots ls rest x h k => lv_aload_n hx hb dX1_sendsUp_4 rfl h k) ?_
  refine xm_Oks.step (sn_getR hG rfl rfl (by decide) fun H locs cells slots ls rest q0 ws a fs v hP hw hv k => va_get (D := D) (C := RX1) (T := TX1) (N := 11) hx hb ht xu_1 hown hK hP q0 hw rfl 0 (by decide) (ht _ xw_35) (fun _ h9 => h9) hv dX1_sendsUp_5 k) ?_
  refine xm_Oks.step (sn_ldR hG fun H locs cells slots ls rest x h k => lv_aload_n hx hb dX1_sendsUp_8 rfl h k) ?_
  refine xm_Oks.step (sn_acmp hG fun H locs cells slots ls rest x y kt kf => lv_acmp_ne (rx := some x) (ry := some y) (tgt := 16) hx hb dX1_sendsUp_9 (by decide) (fun h9 => kf (fun h8 => h9 (congrArg some h8))) (fun h9 => kt (Option.some.inj h9))) ?_
  refine xm_Oks.step (sn_push hG (fun _ => trivial) fun ad H locs cells slots ls rest k => lv_iconst hx hb dX1_sendsUp_12 (by decide) k) ?_
  refine xm_Oks.step (sn_goto hG fun H locs cells slots ls rest k => lv_goto (tgt := 17) hx hb dX1_sendsUp_13 (by decide) k) ?_
  refine xm_Oks.step (sn_push hG (fun _ => trivial) fun ad H locs cells slots ls rest k => lv_iconst hx hb dX1_sendsUp_16 (by decide) k) ?_
  refine xm_Oks.step (sn_icmp hG fun H locs cells slots ls rest x y kt kf => lv_icmp_ne (tgt := 24) hx hb dX1_sendsUp_17 (by decide) kt (fun h9 => kf (fun h8 => h8 h9))) ?_
  refine xm_Oks.step (sn_push hG (fun _ => trivial) fun ad H locs cells slots ls rest k => lv_iconst hx hb dX1_sendsUp_20 (by decide) k) ?_
  refine xm_Oks.step (sn_goto hG fun H locs cells slots ls rest k => lv_goto (tgt := 25) hx hb dX1_sendsUp_21 (by decide) k) ?_
  refine xm_Oks.step (sn_push hG (fun _ => trivial) fun ad H locs cells slots ls rest k => lv_iconst hx hb dX1_sendsUp_24 (by decide) k) ?_
  refine xm_Oks.stop ?_
  exact trivial
set_option maxHeartbeats 4000000 in
set_option maxRecDepth 100000 in
theorem xk_X1_dropAdvice : xm_MOk xp_pg xp_pm 18 := by
  refine ⟨by decide +kernel, rfl, ?_, ?_⟩
  · show xm_Oks _ xt_X1_dropAdvice
    exact ⟨trivial, trivial, trivial, trivial, trivial, trivial, trivial, trivial, trivial, trivial, trivial, trivial, trivial, trivial, trivial, ⟨dX1_dropAdvice_25, rfl⟩, trivial⟩
  intro d mc ms p l e s m args below meth c Q cA D A tS ad0 o0 G hG hC hn ih
  have hG : xm_IsG p l e (xm_room (d + 1) mc ms) s m args below meth c Q cA D A tS 1 ad0 o0 G := hG
  have hC : xm_Cx p s m args c cX1_dropAdvice 1 RX1 (Cond.code yX1_dropAdvice cX1_dropAdvice 1 none :: xm_W) cA D A tS := hC
  have hn : meth.name = "dropAdvice" := hn
  obtain ⟨hx, hb, hml, hown, hts, hK, hA, hSx, hNx⟩ := id hC
  have ht : ∀ w ∈ xm_W, w.before args s = true := fun w h => hts w (List.mem_cons_of_mem _ h)
  show xm_Oks (xm_Ent (xm_room (d + 1) mc ms) G (xm_Do xp_pg d)) xt_X1_dropAdvice
  unfold xt_X1_dropAdvice
  refine xm_Oks.step (sn_ldR hG fun H locs cells slots ls rest x h k => lv_aload_n hx hb dX1_dropAdvice_0 rfl h k) ?_
  refine xm_Oks.step (sn_push hG (fun _ => trivial) fun ad H locs cells slots ls rest k => lv_iconst hx hb dX1_dropAdvice_1 (by decide) k) ?_
  refine xm_Oks.step (sn_putZ hG rfl rfl (by decide) (by decide) fun H locs cells slots ls rest q0 ws a fs v hP hD hS hw hv hl k => by rcases hv with rfl | rfl <;> exact va_put (D := D) (ty := .boolean) (C := RX1) (T := TX1) (N := 11) hx hb ht xu_1 tyX1 tyX1_ok nmX1 hown hK hP hD hS q0 hw rfl 9 (by decide) (ht _ xw_40) (fun _ h9 => h9) rfl (by decide +kernel) rfl rfl hl dX1_dropAdvice_2 k) ?_
  refine xm_Oks.step (sn_ldR hG fun H locs cells slots ls rest x h k => lv_aload_n hx hb dX1_dropAdvice_5 rfl h k) ?_
  refine xm_Oks.step (sn_push hG (fun _ => trivial) fun ad H locs cells slots ls rest k => lv_iconst hx hb dX1_dropAdvice_6 (by decide) k) ?_
  refine xm_Oks.step (sn_putZ hG rfl rfl (by decide) (by decide) fun H locs cells slots ls rest q0 ws a fs v hP hD hS hw hv hl k => by rcases hv with rfl | rfl <;> exact va_put (D := D) (ty := .boolean) (C := RX1) (T := TX1) (N := 11) hx hb ht xu_1 tyX1 tyX1_ok nmX1 hown hK hP hD hS q0 hw rfl 6 (by decide) (ht _ xw_47) (fun _ h9 => h9) rfl (by decide +kernel) rfl rfl hl dX1_dropAdvice_7 k) ?_
  refine xm_Oks.step (sn_ldR hG fun H locs cells slots ls rest x h k => lv_aload_n hx hb dX1_dropAdvice_10 rfl h k) ?_
  refine xm_Oks.step (sn_push hG (fun _ => trivial) fun ad H locs cells slots ls rest k => lv_iconst hx hb dX1_dropAdvice_11 (by decide) k) ?_
  refine xm_Oks.step (sn_putI hG rfl rfl (by decide) (by decide) fun H locs cells slots ls rest q0 ws a fs v hP hD hS hw ⟨x, hv⟩ hl k => by subst hv; exact va_put (D := D) (ty := .int) (C := RX1) (T := TX1) (N := 11) hx hb ht xu_1 tyX1 tyX1_ok nmX1 hown hK hP hD hS q0 hw rfl 10 (by decide) (ht _ xw_48) (fun _ h9 => h9) rfl (by decide +kernel) rfl rfl hl dX1_dropAdvice_12 k) ?_
  refine xm_Oks.step (sn_ldR hG fun H locs cells slots ls rest x h k => lv_aload_n hx hb dX1_dropAdvice_15 rfl h k) ?_
  refine xm_Oks.step (sn_push hG (fun _ => trivial) fun ad H locs cells slots ls rest k => lv_iconst hx hb dX1_dropAdvice_16 (by decide) k) ?_
  refine xm_Oks.step (sn_putI hG rfl rfl (by decide) (by decide) fun H locs cells slots ls rest q0 ws a fs v hP hD hS hw ⟨x, hv⟩ hl k => by subst hv; exact va_put (D := D) (ty := .int) (C := RX1) (T := TX1) (N := 11) hx hb ht xu_1 tyX1 tyX1_ok nmX1 hown hK hP hD hS q0 hw rfl 7 (by decide) (ht _ xw_41) (fun _ h9 => h9) rfl (by decide +kernel) rfl rfl hl dX1_dropAdvice_17 k) ?_
  refine xm_Oks.step (sn_ldR hG fun H locs cells slots ls rest x h k => lv_aload_n hx hb dX1_dropAdvice_20 rfl h k) ?_
  refine xm_Oks.step (sn_push hG (fun _ => trivial) fun ad H locs cells slots ls rest k => lv_iconst hx hb dX1_dropAdvice_21 (by decide) k) ?_
  refine xm_Oks.step (sn_putZ hG rfl rfl (by decide) (by decide) fun H locs cells slots ls rest q0 ws a fs v hP hD hS hw hv hl k => by rcases hv with rfl | rfl <;> exact va_put (D := D) (ty := .boolean) (C := RX1) (T := TX1) (N := 11) hx hb ht xu_1 tyX1 tyX1_ok nmX1 hown hK hP hD hS q0 hw rfl 8 (by decide) (ht _ xw_49) (fun _ h9 => h9) rfl (by decide +kernel) rfl rfl hl dX1_dropAdvice_22 k) ?_
  refine xm_Oks.stop ?_
  exact trivial
set_option maxHeartbeats 4000000 in
set_option maxRecDepth 100000 in
theorem xk_X1_restartLeast : xm_MOk xp_pg xp_pm 19 := by
  refine ⟨by decide +kernel, rfl, ?_, ?_⟩
  · show xm_Oks _ xt_X1_restartLeast
    exact ⟨trivial, trivial, trivial, trivial, trivial, trivial, trivial, trivial, ⟨dX1_restartLeast_16, rfl⟩, trivial⟩
  intro d mc ms p l e s m args below meth c Q cA D A tS ad0 o0 G hG hC hn ih
  have hG : xm_IsG p l e (xm_room (d + 1) mc ms) s m args below meth c Q cA D A tS 1 ad0 o0 G := hG
  have hC : xm_Cx p s m args c cX1_restartLeast 1 RX1 (Cond.code yX1_restartLeast cX1_restartLeast 1 none :: xm_W) cA D A tS := hC
  have hn : meth.name = "restartLeast" := hn
  obtain ⟨hx, hb, hml, hown, hts, hK, hA, hSx, hNx⟩ := id hC
  have ht : ∀ w ∈ xm_W, w.before args s = true := fun w h => hts w (List.mem_cons_of_mem _ h)
  show xm_Oks (xm_Ent (xm_room (d + 1) mc ms) G (xm_Do xp_pg d)) xt_X1_restartLeast
  unfold xt_X1_restartLeast
  refine xm_Oks.step (sn_ldR hG fun H locs cells slots ls rest x h k => lv_aload_n hx hb dX1_restartLeast_0 rfl h k) ?_
  refine xm_Oks.step (sn_ldR hG fun H locs cells slots ls rest x h k => lv_aload_n hx hb dX1_restartLeast_1 rfl h k) ?_
  refine xm_Oks.call (xm_sndC hG hC (xm_callV ⟨hx, hb, hml, hown, hts⟩ xw_50 xw_51 xw_52 xw_53 xw_54 (by decide +kernel) dX1_restartLeast_2) (Nat.le_refl _) (by show 8 + (5 + 11) + 40 * d ≤ 40 * (d + 1); omega) (fun C0 h9 => by cases h9; exact ⟨1, _, _, by decide, by decide, rfl, rfl, rfl⟩) (fun as M v M1 mc ms h9 ad sz g1 g2 => ih 33 as M v M1 mc ms h9 ad sz g1 g2)) ?_
  refine xm_Oks.step (sn_putL hG rfl rfl (by decide) fun H locs cells slots ls rest q0 ws a fs v hP hD hS hw ⟨x, hv⟩ hl k => by subst hv; exact va_put (D := D) (ty := .long) (C := RX1) (T := TX1) (N := 11) hx hb ht xu_1 tyX1 tyX1_ok nmX1 hown hK hP hD hS q0 hw rfl 4 (by decide) (ht _ xw_55) (fun _ h9 => h9) rfl (by decide +kernel) rfl rfl hl dX1_restartLeast_5 k) ?_
  refine xm_Oks.step (sn_ldR hG fun H locs cells slots ls rest x h k => lv_aload_n hx hb dX1_restartLeast_8 rfl h k) ?_
  refine xm_Oks.step (sn_ldR hG fun H locs cells slots ls rest x h k => lv_aload_n hx hb dX1_restartLeast_9 rfl h k) ?_
  refine xm_Oks.call (xm_sndC hG hC (xm_callV ⟨hx, hb, hml, hown, hts⟩ xw_56 xw_57 xw_58 xw_53 xw_59 (by decide +kernel) dX1_restartLeast_10) (Nat.le_refl _) (by show 8 + (1 + 11) + 40 * d ≤ 40 * (d + 1); omega) (fun C0 h9 => by cases h9; exact ⟨1, _, _, by decide, by decide, rfl, rfl, rfl⟩) (fun as M v M1 mc ms h9 ad sz g1 g2 => ih 34 as M v M1 mc ms h9 ad sz g1 g2)) ?_
  refine xm_Oks.step (sn_putI hG rfl rfl (by decide) (by decide) fun H locs cells slots ls rest q0 ws a fs v hP hD hS hw ⟨x, hv⟩ hl k => by subst hv; exact va_put (D := D) (ty := .int) (C := RX1) (T := TX1) (N := 11) hx hb ht xu_1 tyX1 tyX1_ok nmX1 hown hK hP hD hS q0 hw rfl 5 (by decide) (ht _ xw_60) (fun _ h9 => h9) rfl (by decide +kernel) rfl rfl hl dX1_restartLeast_13 k) ?_
  refine xm_Oks.stop ?_
  exact trivial
set_option maxHeartbeats 4000000 in
set_option maxRecDepth 100000 in
theorem xk_X1_lookAtLeast : xm_MOk xp_pg xp_pm 20 := by
  refine ⟨by decide +kernel, rfl, ?_, ?_⟩
  · show xm_Oks _ xt_X1_lookAtLeast
    exact ⟨trivial, trivial, trivial, trivial, trivial, trivial, trivial, trivial, trivial, trivial, trivial, trivial, trivial, trivial, ⟨dX1_lookAtLeast_30, rfl⟩, trivial⟩
  intro d mc ms p l e s m args below meth c Q cA D A tS ad0 o0 G hG hC hn ih
  have hG : xm_IsG p l e (xm_room (d + 1) mc ms) s m args below meth c Q cA D A tS 1 ad0 o0 G := hG
  have hC : xm_Cx p s m args c cX1_lookAtLeast 1 RX1 (Cond.code yX1_lookAtLeast cX1_lookAtLeast 1 none :: xm_W) cA D A tS := hC
  have hn : meth.name = "lookAtLeast" := hn
  obtain ⟨hx, hb, hml, hown, hts, hK, hA, hSx, hNx⟩ := id hC
  have ht : ∀ w ∈ xm_W, w.before args s = true := fun w h => hts w (List.mem_cons_of_mem _ h)
  show xm_Oks (xm_Ent (xm_room (d + 1) mc ms) G (xm_Do xp_pg d)) xt_X1_lookAtLeast
  unfold xt_X1_lookAtLeast
  refine xm_Oks.step (sn_ldR hG fun H locs cells slots ls rest x h k => lv_aload_n hx hb dX1_lookAtLeast_0 rfl h k) ?_
  refine xm_Oks.step (sn_ldR hG fun H locs cells slots ls rest x h k => lv_aload_n hx hb dX1_lookAtLeast_1 rfl h k) ?_
  refine xm_Oks.step (sn_getL hG rfl rfl (by decide) fun H locs cells slots ls rest q0 ws a fs v hP hw hv k => va_get (D := D) (C := RX1) (T := TX1) (N := 11) hx hb ht xu_1 hown hK hP q0 hw rfl 4 (by decide) (ht _ xw_55) (fun _ h9 => h9) hv dX1_lookAtLeast_2 k) ?_
  refine xm_Oks.step (sn_ldR hG fun H locs cells slots ls rest x h k => lv_aload_n hx hb dX1_lookAtLeast_5 rfl h k) ?_
  refine xm_Oks.call (xm_sndC hG hC (xm_callV ⟨hx, hb, hml, hown, hts⟩ xw_50 xw_51 xw_52 xw_53 xw_54 (by decide +kernel) dX1_lookAtLeast_6) (Nat.le_refl _) (by show 8 + (5 + 11) + 40 * d ≤ 40 * (d + 1); omega) (fun C0 h9 => by cases h9; exact ⟨1, _, _, by decide, by decide, rfl, rfl, rfl⟩) (fun as M v M1 mc ms h9 ad sz g1 g2 => ih 33 as M v M1 mc ms h9 ad sz g1 g2)) ?_
  refine xm_Oks.step (sn_mbinL hG fun H locs cells slots ls rest x y h1 h2 h3 h4 k => va_mmin_long hx hb (hml.trans h1.symm) hown (ht _ xw_61) (ht _ xw_62) (ht _ xw_10) (ht _ xw_63) (Nat.le_add_left 1 d) (by show _ + 15 ≤ 40 * (d + 1); omega) h2 h3 dX1_lookAtLeast_9 k) ?_
  refine xm_Oks.step (sn_putL hG rfl rfl (by decide) fun H locs cells slots ls rest q0 ws a fs v hP hD hS hw ⟨x, hv⟩ hl k => by subst hv; exact va_put (D := D) (ty := .long) (C := RX1) (T := TX1) (N := 11) hx hb ht xu_1 tyX1 tyX1_ok nmX1 hown hK hP hD hS q0 hw rfl 4 (by decide) (ht _ xw_55) (fun _ h9 => h9) rfl (by decide +kernel) rfl rfl hl dX1_lookAtLeast_12 k) ?_
  refine xm_Oks.step (sn_ldR hG fun H locs cells slots ls rest x h k => lv_aload_n hx hb dX1_lookAtLeast_15 rfl h k) ?_
  refine xm_Oks.step (sn_ldR hG fun H locs cells slots ls rest x h k => lv_aload_n hx hb dX1_lookAtLeast_16 rfl h k) ?_
  refine xm_Oks.step (sn_getI hG rfl rfl (by decide) (by decide) fun H locs cells slots ls rest q0 ws a fs v hP hw hv k => va_get (D := D) (C := RX1) (T := TX1) (N := 11) hx hb ht xu_1 hown hK hP q0 hw rfl 5 (by decide) (ht _ xw_60) (fun _ h9 => h9) hv dX1_lookAtLeast_17 k) ?_
  refine xm_Oks.step (sn_ldR hG fun H locs cells slots ls rest x h k => lv_aload_n hx hb dX1_lookAtLeast_20 rfl h k) ?_
  refine xm_Oks.call (xm_sndC hG hC (xm_callV ⟨hx, hb, hml, hown, hts⟩ xw_56 xw_57 xw_58 xw_53 xw_59 (by decide +kernel) dX1_lookAtLeast_21) (Nat.le_refl _) (by show 8 + (1 + 11) + 40 * d ≤ 40 * (d + 1); omega) (fun C0 h9 => by cases h9; exact ⟨1, _, _, by decide, by decide, rfl, rfl, rfl⟩) (fun as M v M1 mc ms h9 ad sz g1 g2 => ih 34 as M v M1 mc ms h9 ad sz g1 g2)) ?_
  refine xm_Oks.step (sn_mbin hG fun H locs cells slots ls rest x y h1 h2 h3 h4 k => va_mmin hx hb (hml.trans h1.symm) hown (ht _ xw_64) (ht _ xw_9) (ht _ xw_10) (ht _ xw_11) (Nat.le_add_left 1 d) (by show _ + 13 ≤ 40 * (d + 1); omega) h2 h3 dX1_lookAtLeast_24 k) ?_
  refine xm_Oks.step (sn_putI hG rfl rfl (by decide) (by decide) fun H locs cells slots ls rest q0 ws a fs v hP hD hS hw ⟨x, hv⟩ hl k => by subst hv; exact va_put (D := D) (ty := .int) (C := RX1) (T := TX1) (N := 11) hx hb ht xu_1 tyX1 tyX1_ok nmX1 hown hK hP hD hS q0 hw rfl 5 (by decide) (ht _ xw_60) (fun _ h9 => h9) rfl (by decide +kernel) rfl rfl hl dX1_lookAtLeast_27 k) ?_
  refine xm_Oks.stop ?_
  exact trivial
set_option maxHeartbeats 4000000 in
set_option maxRecDepth 100000 in
theorem xk_X1_review : xm_MOk xp_pg xp_pm 21 := by
  refine ⟨by decide +kernel, rfl, ?_, ?_⟩
  · show xm_Oks _ xt_X1_review
    exact ⟨trivial, trivial, trivial, trivial, trivial, trivial, trivial, trivial, trivial, trivial, trivial, trivial, trivial, trivial, trivial, trivial, trivial, trivial, trivial, trivial, trivial, trivial, trivial, trivial, trivial, trivial, trivial, trivial, trivial, trivial, trivial, trivial, trivial, trivial, trivial, trivial, trivial, trivial, trivial, trivial, trivial, trivial, trivial, trivial, trivial, trivial, trivial, trivial, trivial, trivial, trivial, trivial, trivial, trivial, trivial, trivial, trivial, trivial, trivial, trivial, trivial, trivial, trivial, trivial, trivial, trivial, trivial, trivial, trivial, trivial, trivial, trivial, trivial, trivial, trivial, trivial, trivial, trivial, ⟨dX1_review_146, rfl⟩, trivial⟩
  intro d mc ms p l e s m args below meth c Q cA D A tS ad0 o0 G hG hC hn ih
  have hG : xm_IsG p l e (xm_room (d + 1) mc ms) s m args below meth c Q cA D A tS 3 ad0 o0 G := hG
  have hC : xm_Cx p s m args c cX1_review 3 RX1 (Cond.code yX1_review cX1_review 3 none :: xm_W) cA D A tS := hC
  have hn : meth.name = "review" := hn
  obtain ⟨hx, hb, hml, hown, hts, hK, hA, hSx, hNx⟩ := id hC
  have ht : ∀ w ∈ xm_W, w.before args s = true := fun w h => hts w (List.mem_cons_of_mem _ h)
  show xm_Oks (xm_Ent (xm_room (d + 1) mc ms) G (xm_Do xp_pg d)) xt_X1_review
  unfold xt_X1_review
  refine xm_Oks.step (sn_ldR hG fun H locs cells slots ls rest x h k => lv_aload_n hx hb dX1_review_0 rfl h k) ?_
  refine xm_Oks.call (xm_sndC hG hC (xm_callV ⟨hx, hb, hml, hown, hts⟩ xw_65 xw_66 xw_67 xw_53 xw_68 (by decide +kernel) dX1_review_1) (Nat.le_refl _) (by show 8 + (1 + 11) + 40 * d ≤ 40 * (d + 1); omega) (fun C0 h9 => by cases h9; exact ⟨1, _, _, by decide, by decide, rfl, rfl, rfl⟩) (fun as M v M1 mc ms h9 ad sz g1 g2 => ih 27 as M v M1 mc ms h9 ad sz g1 g2)) ?_
  refine xm_Oks.step (sn_stI hG fun H locs cells slots ls rest x lv lv9 h he k => lv_istore_n hx hb dX1_review_4 rfl h (by decide) he k) ?_
  refine xm_Oks.step (sn_ldR hG fun H locs cells slots ls rest x h k => lv_aload_n hx hb dX1_review_5 rfl h k) ?_
  refine xm_Oks.call (xm_sndC hG hC (xm_callV ⟨hx, hb, hml, hown, hts⟩ xw_69 xw_70 xw_71 xw_53 xw_72 (by decide +kernel) dX1_review_6) (Nat.le_refl _) (by show 8 + (9 + 11) + 40 * d ≤ 40 * (d + 1); omega) (fun C0 h9 => by cases h9; exact ⟨1, _, _, by decide, by decide, rfl, rfl, rfl⟩) (fun as M v M1 mc ms h9 ad sz g1 g2 => ih 36 as M v M1 mc ms h9 ad sz g1 g2)) ?_
  refine xm_Oks.step (sn_stI hG fun H locs cells slots ls rest x lv lv9 h he k => lv_istore_n hx hb dX1_review_9 rfl h (by decide) he k) ?_
  refine xm_Oks.step (sn_ldR hG fun H locs cells slots ls rest x h k => lv_aload_n hx hb dX1_review_10 rfl h k) ?_
  refine xm_Oks.step (sn_getI hG rfl rfl (by decide) (by decide) fun H locs cells slots ls rest q0 ws a fs v hP hw hv k => va_get (D := D) (C := RX1) (T := TX1) (N := 11) hx hb ht xu_1 hown hK hP q0 hw rfl 9 (by decide) (ht _ xw_40) (fun _ h9 => h9) hv dX1_review_11 k) ?_
  refine xm_Oks.step (sn_if hG fun H locs cells slots ls rest x kt kf => lv_if_ne (tgt := 52) hx hb dX1_review_14 (by decide) kt (fun h9 => kf (fun h8 => h8 h9))) ?_
  refine xm_Oks.step (sn_ldI hG fun H locs cells slots ls rest x h k => lv_iload_n hx hb dX1_review_17 rfl h k) ?_
  refine xm_Oks.step (sn_if hG fun H locs cells slots ls rest x kt kf => lv_if_eq (tgt := 146) hx hb dX1_review_18 (by decide) kt kf) ?_
  refine xm_Oks.step (sn_ldR hG fun H locs cells slots ls rest x h k => lv_aload_n hx hb dX1_review_21 rfl h k) ?_
  refine xm_Oks.step (sn_push hG (fun _ => trivial) fun ad H locs cells slots ls rest k => lv_iconst hx hb dX1_review_22 (by decide) k) ?_
  refine xm_Oks.step (sn_putZ hG rfl rfl (by decide) (by decide) fun H locs cells slots ls rest q0 ws a fs v hP hD hS hw hv hl k => by rcases hv with rfl | rfl <;> exact va_put (D := D) (ty := .boolean) (C := RX1) (T := TX1) (N := 11) hx hb ht xu_1 tyX1 tyX1_ok nmX1 hown hK hP hD hS q0 hw rfl 9 (by decide) (ht _ xw_40) (fun _ h9 => h9) rfl (by decide +kernel) rfl rfl hl dX1_review_23 k) ?_
  refine xm_Oks.step (sn_ldR hG fun H locs cells slots ls rest x h k => lv_aload_n hx hb dX1_review_26 rfl h k) ?_
  refine xm_Oks.step (sn_ldR hG fun H locs cells slots ls rest x h k => lv_aload_n hx hb dX1_review_27 rfl h k) ?_
  refine xm_Oks.step (sn_ldI hG fun H locs cells slots ls rest x h k => lv_iload_n hx hb dX1_review_28 rfl h k) ?_
  refine xm_Oks.call (xm_sndC hG hC (xm_callV ⟨hx, hb, hml, hown, hts⟩ xw_73 xw_74 xw_75 xw_53 xw_76 (by decide +kernel) dX1_review_29) (Nat.le_refl _) (by show 8 + (6 + 11) + 40 * d ≤ 40 * (d + 1); omega) (fun C0 h9 => by cases h9; exact ⟨1, _, _, by decide, by decide, rfl, rfl, rfl⟩) (fun as M v M1 mc ms h9 ad sz g1 g2 => ih 39 as M v M1 mc ms h9 ad sz g1 g2)) ?_
  refine xm_Oks.step (sn_ldI hG fun H locs cells slots ls rest x h k => lv_iload_n hx hb dX1_review_32 rfl h k) ?_
  refine xm_Oks.call (xm_sndC hG hC (xm_callV ⟨hx, hb, hml, hown, hts⟩ xw_77 xw_78 xw_79 xw_53 xw_80 (by decide +kernel) dX1_review_33) (Nat.le_refl _) (by show 8 + (3 + 11) + 40 * d ≤ 40 * (d + 1); omega) (fun C0 h9 => by cases h9; exact ⟨1, _, _, by decide, by decide, rfl, rfl, rfl⟩) (fun as M v M1 mc ms h9 ad sz g1 g2 => ih 22 as M v M1 mc ms h9 ad sz g1 g2)) ?_
  refine xm_Oks.step (sn_ldR hG fun H locs cells slots ls rest x h k => lv_aload_n hx hb dX1_review_36 rfl h k) ?_
  refine xm_Oks.step (sn_getR hG rfl rfl (by decide) fun H locs cells slots ls rest q0 ws a fs v hP hw hv k => va_get (D := D) (C := RX1) (T := TX1) (N := 11) hx hb ht xu_1 hown hK hP q0 hw rfl 3 (by decide) (ht _ xw_38) (fun _ h9 => h9) hv dX1_review_37 k) ?_
  refine xm_Oks.step (sn_dup hG fun H locs cells slots ls rest v h k => lv_dup hx hb dX1_review_40 h k) ?_
  refine xm_Oks.step (sn_getI hG rfl rfl (by decide) (by decide) fun H locs cells slots ls rest q0 ws a fs v hP hw hv k => va_get (D := D) (C := RX3) (T := TX3) (N := 5) hx hb ht xu_3 hown hK hP q0 hw rfl 0 (by decide) (ht _ xw_81) (fun _ h9 => h9) hv dX1_review_41 k) ?_
  refine xm_Oks.step (sn_push hG (fun _ => trivial) fun ad H locs cells slots ls rest k => lv_iconst hx hb dX1_review_44 (by decide) k) ?_
  refine xm_Oks.step (sn_bin hG fun H locs cells slots ls rest x y k => lv_iadd hx hb dX1_review_45 k) ?_
  refine xm_Oks.step (sn_putI hG rfl rfl (by decide) (by decide) fun H locs cells slots ls rest q0 ws a fs v hP hD hS hw ⟨x, hv⟩ hl k => by subst hv; exact va_put (D := D) (ty := .int) (C := RX3) (T := TX3) (N := 5) hx hb ht xu_3 tyX3 tyX3_ok nmX3 hown hK hP hD hS q0 hw rfl 0 (by decide) (ht _ xw_81) (fun _ h9 => h9) rfl (by decide +kernel) rfl rfl hl dX1_review_46 k) ?_
  refine xm_Oks.step (sn_goto hG fun H locs cells slots ls rest k => lv_goto (tgt := 146) hx hb dX1_review_49 (by decide) k) ?_
  refine xm_Oks.step (sn_ldI hG fun H locs cells slots ls rest x h k => lv_iload_n hx hb dX1_review_52 rfl h k) ?_
  refine xm_Oks.step (sn_if hG fun H locs cells slots ls rest x kt kf => lv_if_ne (tgt := 85) hx hb dX1_review_53 (by decide) kt (fun h9 => kf (fun h8 => h8 h9))) ?_
  refine xm_Oks.step (sn_ldR hG fun H locs cells slots ls rest x h k => lv_aload_n hx hb dX1_review_56 rfl h k) ?_
  refine xm_Oks.call (xm_sndC hG hC (xm_callV ⟨hx, hb, hml, hown, hts⟩ xw_82 xw_83 xw_84 xw_53 xw_85 (by decide +kernel) dX1_review_57) (Nat.le_refl _) (by show 8 + (9 + 11) + 40 * d ≤ 40 * (d + 1); omega) (fun C0 h9 => by cases h9; exact ⟨1, _, _, by decide, by decide, rfl, rfl, rfl⟩) (fun as M v M1 mc ms h9 ad sz g1 g2 => ih 35 as M v M1 mc ms h9 ad sz g1 g2)) ?_
  refine xm_Oks.step (sn_push hG (fun _ => trivial) fun ad H locs cells slots ls rest k => lv_lconst hx hb dX1_review_60 (by decide) k) ?_
  refine xm_Oks.step (sn_lcmp hG fun H locs cells slots ls rest x y k => W.lcmp hx hb dX1_review_61 k) ?_
  refine xm_Oks.step (sn_if hG fun H locs cells slots ls rest x kt kf => lv_if_lt (tgt := 85) hx hb dX1_review_62 (by decide) kt kf) ?_
  refine xm_Oks.step (sn_ldR hG fun H locs cells slots ls rest x h k => lv_aload_n hx hb dX1_review_65 rfl h k) ?_
  refine xm_Oks.call (xm_sndC hG hC (xm_callV ⟨hx, hb, hml, hown, hts⟩ xw_86 xw_87 xw_88 xw_53 xw_89 (by decide +kernel) dX1_review_66) (Nat.le_refl _) (by show 8 + (1 + 11) + 40 * d ≤ 40 * (d + 1); omega) (fun C0 h9 => by cases h9; exact ⟨1, _, _, by decide, by decide, rfl, rfl, rfl⟩) (fun as M v M1 mc ms h9 ad sz g1 g2 => ih 18 as M v M1 mc ms h9 ad sz g1 g2)) ?_
  refine xm_Oks.step (sn_ldR hG fun H locs cells slots ls rest x h k => lv_aload_n hx hb dX1_review_69 rfl h k) ?_
  refine xm_Oks.step (sn_getR hG rfl rfl (by decide) fun H locs cells slots ls rest q0 ws a fs v hP hw hv k => va_get (D := D) (C := RX1) (T := TX1) (N := 11) hx hb ht xu_1 hown hK hP q0 hw rfl 3 (by decide) (ht _ xw_38) (fun _ h9 => h9) hv dX1_review_70 k) ?_
  refine xm_Oks.step (sn_dup hG fun H locs cells slots ls rest v h k => lv_dup hx hb dX1_review_73 h k) ?_
  refine xm_Oks.step (sn_getI hG rfl rfl (by decide) (by decide) fun H locs cells slots ls rest q0 ws a fs v hP hw hv k => va_get (D := D) (C := RX3) (T := TX3) (N := 5) hx hb ht xu_3 hown hK hP q0 hw rfl 3 (by decide) (ht _ xw_90) (fun _ h9 => h9) hv dX1_review_74 k) ?_
  refine xm_Oks.step (sn_push hG (fun _ => trivial) fun ad H locs cells slots ls rest k => lv_iconst hx hb dX1_review_77 (by decide) k) ?_
  refine xm_Oks.step (sn_bin hG fun H locs cells slots ls rest x y k => lv_iadd hx hb dX1_review_78 k) ?_
  refine xm_Oks.step (sn_putI hG rfl rfl (by decide) (by decide) fun H locs cells slots ls rest q0 ws a fs v hP hD hS hw ⟨x, hv⟩ hl k => by subst hv; exact va_put (D := D) (ty := .int) (C := RX3) (T := TX3) (N := 5) hx hb ht xu_3 tyX3 tyX3_ok nmX3 hown hK hP hD hS q0 hw rfl 3 (by decide) (ht _ xw_90) (fun _ h9 => h9) rfl (by decide +kernel) rfl rfl hl dX1_review_79 k) ?_
  refine xm_Oks.step (sn_goto hG fun H locs cells slots ls rest k => lv_goto (tgt := 146) hx hb dX1_review_82 (by decide) k) ?_
  refine xm_Oks.step (sn_ldR hG fun H locs cells slots ls rest x h k => lv_aload_n hx hb dX1_review_85 rfl h k) ?_
  refine xm_Oks.step (sn_dup hG fun H locs cells slots ls rest v h k => lv_dup hx hb dX1_review_86 h k) ?_
  refine xm_Oks.step (sn_getI hG rfl rfl (by decide) (by decide) fun H locs cells slots ls rest q0 ws a fs v hP hw hv k => va_get (D := D) (C := RX1) (T := TX1) (N := 11) hx hb ht xu_1 hown hK hP q0 hw rfl 7 (by decide) (ht _ xw_41) (fun _ h9 => h9) hv dX1_review_87 k) ?_
  refine xm_Oks.step (sn_push hG (fun _ => trivial) fun ad H locs cells slots ls rest k => lv_iconst hx hb dX1_review_90 (by decide) k) ?_
  refine xm_Oks.step (sn_bin hG fun H locs cells slots ls rest x y k => lv_iadd hx hb dX1_review_91 k) ?_
  refine xm_Oks.step (sn_putI hG rfl rfl (by decide) (by decide) fun H locs cells slots ls rest q0 ws a fs v hP hD hS hw ⟨x, hv⟩ hl k => by subst hv; exact va_put (D := D) (ty := .int) (C := RX1) (T := TX1) (N := 11) hx hb ht xu_1 tyX1 tyX1_ok nmX1 hown hK hP hD hS q0 hw rfl 7 (by decide) (ht _ xw_41) (fun _ h9 => h9) rfl (by decide +kernel) rfl rfl hl dX1_review_92 k) ?_
  refine xm_Oks.step (sn_ldR hG fun H locs cells slots ls rest x h k => lv_aload_n hx hb dX1_review_95 rfl h k) ?_
  refine xm_Oks.step (sn_ldI hG fun H locs cells slots ls rest x h k => lv_iload_n hx hb dX1_review_96 rfl h k) ?_
  refine xm_Oks.call (xm_sndC hG hC (xm_callV ⟨hx, hb, hml, hown, hts⟩ xw_91 xw_92 xw_93 xw_53 xw_94 (by decide +kernel) dX1_review_97) (Nat.le_refl _) (by show 8 + (2 + 11) + 40 * d ≤ 40 * (d + 1); omega) (fun C0 h9 => by cases h9; exact ⟨1, _, _, by decide, by decide, rfl, rfl, rfl⟩) (fun as M v M1 mc ms h9 ad sz g1 g2 => ih 24 as M v M1 mc ms h9 ad sz g1 g2)) ?_
  refine xm_Oks.step (sn_if hG fun H locs cells slots ls rest x kt kf => lv_if_eq (tgt := 141) hx hb dX1_review_100 (by decide) kt kf) ?_
  refine xm_Oks.step (sn_ldR hG fun H locs cells slots ls rest x h k => lv_aload_n hx hb dX1_review_103 rfl h k) ?_
  refine xm_Oks.step (sn_ldR hG fun H locs cells slots ls rest x h k => lv_aload_n hx hb dX1_review_104 rfl h k) ?_
  refine xm_Oks.step (sn_getI hG rfl rfl (by decide) (by decide) fun H locs cells slots ls rest q0 ws a fs v hP hw hv k => va_get (D := D) (C := RX1) (T := TX1) (N := 11) hx hb ht xu_1 hown hK hP q0 hw rfl 6 (by decide) (ht _ xw_47) (fun _ h9 => h9) hv dX1_review_105 k) ?_
  refine xm_Oks.step (sn_if hG fun H locs cells slots ls rest x kt kf => lv_if_ne (tgt := 115) hx hb dX1_review_108 (by decide) kt (fun h9 => kf (fun h8 => h8 h9))) ?_
  refine xm_Oks.step (sn_push hG (fun _ => trivial) fun ad H locs cells slots ls rest k => lv_iconst hx hb dX1_review_111 (by decide) k) ?_
  refine xm_Oks.step (sn_goto hG fun H locs cells slots ls rest k => lv_goto (tgt := 116) hx hb dX1_review_112 (by decide) k) ?_
  refine xm_Oks.step (sn_push hG (fun _ => trivial) fun ad H locs cells slots ls rest k => lv_iconst hx hb dX1_review_115 (by decide) k) ?_
  refine xm_Oks.step (sn_ldI hG fun H locs cells slots ls rest x h k => lv_iload_n hx hb dX1_review_116 rfl h k) ?_
  refine xm_Oks.call (xm_sndC hG hC (xm_callV ⟨hx, hb, hml, hown, hts⟩ xw_77 xw_78 xw_79 xw_53 xw_80 (by decide +kernel) dX1_review_117) (Nat.le_refl _) (by show 8 + (3 + 11) + 40 * d ≤ 40 * (d + 1); omega) (fun C0 h9 => by cases h9; exact ⟨1, _, _, by decide, by decide, rfl, rfl, rfl⟩) (fun as M v M1 mc ms h9 ad sz g1 g2 => ih 22 as M v M1 mc ms h9 ad sz g1 g2)) ?_
  refine xm_Oks.step (sn_ldR hG fun H locs cells slots ls rest x h k => lv_aload_n hx hb dX1_review_120 rfl h k) ?_
  refine xm_Oks.step (sn_push hG (fun _ => trivial) fun ad H locs cells slots ls rest k => lv_iconst hx hb dX1_review_121 (by decide) k) ?_
  refine xm_Oks.step (sn_putZ hG rfl rfl (by decide) (by decide) fun H locs cells slots ls rest q0 ws a fs v hP hD hS hw hv hl k => by rcases hv with rfl | rfl <;> exact va_put (D := D) (ty := .boolean) (C := RX1) (T := TX1) (N := 11) hx hb ht xu_1 tyX1 tyX1_ok nmX1 hown hK hP hD hS q0 hw rfl 8 (by decide) (ht _ xw_49) (fun _ h9 => h9) rfl (by decide +kernel) rfl rfl hl dX1_review_122 k) ?_
  refine xm_Oks.step (sn_ldR hG fun H locs cells slots ls rest x h k => lv_aload_n hx hb dX1_review_125 rfl h k) ?_
  refine xm_Oks.step (sn_getR hG rfl rfl (by decide) fun H locs cells slots ls rest q0 ws a fs v hP hw hv k => va_get (D := D) (C := RX1) (T := TX1) (N := 11) hx hb ht xu_1 hown hK hP q0 hw rfl 3 (by decide) (ht _ xw_38) (fun _ h9 => h9) hv dX1_review_126 k) ?_
  refine xm_Oks.step (sn_dup hG fun H locs cells slots ls rest v h k => lv_dup hx hb dX1_review_129 h k) ?_
  refine xm_Oks.step (sn_getI hG rfl rfl (by decide) (by decide) fun H locs cells slots ls rest q0 ws a fs v hP hw hv k => va_get (D := D) (C := RX3) (T := TX3) (N := 5) hx hb ht xu_3 hown hK hP q0 hw rfl 1 (by decide) (ht _ xw_95) (fun _ h9 => h9) hv dX1_review_130 k) ?_
  refine xm_Oks.step (sn_push hG (fun _ => trivial) fun ad H locs cells slots ls rest k => lv_iconst hx hb dX1_review_133 (by decide) k) ?_
  refine xm_Oks.step (sn_bin hG fun H locs cells slots ls rest x y k => lv_iadd hx hb dX1_review_134 k) ?_
  refine xm_Oks.step (sn_putI hG rfl rfl (by decide) (by decide) fun H locs cells slots ls rest q0 ws a fs v hP hD hS hw ⟨x, hv⟩ hl k => by subst hv; exact va_put (D := D) (ty := .int) (C := RX3) (T := TX3) (N := 5) hx hb ht xu_3 tyX3 tyX3_ok nmX3 hown hK hP hD hS q0 hw rfl 1 (by decide) (ht _ xw_95) (fun _ h9 => h9) rfl (by decide +kernel) rfl rfl hl dX1_review_135 k) ?_
  refine xm_Oks.step (sn_goto hG fun H locs cells slots ls rest k => lv_goto (tgt := 146) hx hb dX1_review_138 (by decide) k) ?_
  refine xm_Oks.step (sn_ldR hG fun H locs cells slots ls rest x h k => lv_aload_n hx hb dX1_review_141 rfl h k) ?_
  refine xm_Oks.step (sn_ldI hG fun H locs cells slots ls rest x h k => lv_iload_n hx hb dX1_review_142 rfl h k) ?_
  refine xm_Oks.call (xm_sndC hG hC (xm_callV ⟨hx, hb, hml, hown, hts⟩ xw_96 xw_97 xw_98 xw_53 xw_99 (by decide +kernel) dX1_review_143) (Nat.le_refl _) (by show 8 + (3 + 11) + 40 * d ≤ 40 * (d + 1); omega) (fun C0 h9 => by cases h9; exact ⟨1, _, _, by decide, by decide, rfl, rfl, rfl⟩) (fun as M v M1 mc ms h9 ad sz g1 g2 => ih 23 as M v M1 mc ms h9 ad sz g1 g2)) ?_
  refine xm_Oks.stop ?_
  exact trivial
set_option maxHeartbeats 4000000 in
set_option maxRecDepth 100000 in
theorem xk_X1_takeSense : xm_MOk xp_pg xp_pm 22 := by
  refine ⟨by decide +kernel, rfl, ?_, ?_⟩
  · show xm_Oks _ xt_X1_takeSense
    exact ⟨trivial, trivial, trivial, trivial, trivial, trivial, trivial, trivial, trivial, trivial, trivial, trivial, trivial, trivial, ⟨dX1_takeSense_22, rfl⟩, trivial⟩
  intro d mc ms p l e s m args below meth c Q cA D A tS ad0 o0 G hG hC hn ih
  have hG : xm_IsG p l e (xm_room (d + 1) mc ms) s m args below meth c Q cA D A tS 3 ad0 o0 G := hG
  have hC : xm_Cx p s m args c cX1_takeSense 3 RX1 (Cond.code yX1_takeSense cX1_takeSense 3 none :: xm_W) cA D A tS := hC
  have hn : meth.name = "takeSense" := hn
  obtain ⟨hx, hb, hml, hown, hts, hK, hA, hSx, hNx⟩ := id hC
  have ht : ∀ w ∈ xm_W, w.before args s = true := fun w h => hts w (List.mem_cons_of_mem _ h)
  show xm_Oks (xm_Ent (xm_room (d + 1) mc ms) G (xm_Do xp_pg d)) xt_X1_takeSense
  unfold xt_X1_takeSense
  refine xm_Oks.step (sn_ldR hG fun H locs cells slots ls rest x h k => lv_aload_n hx hb dX1_takeSense_0 rfl h k) ?_
  refine xm_Oks.step (sn_ldI hG fun H locs cells slots ls rest x h k => lv_iload_n hx hb dX1_takeSense_1 rfl h k) ?_
  refine xm_Oks.step (sn_putZ hG rfl rfl (by decide) (by decide) fun H locs cells slots ls rest q0 ws a fs v hP hD hS hw hv hl k => by rcases hv with rfl | rfl <;> exact va_put (D := D) (ty := .boolean) (C := RX1) (T := TX1) (N := 11) hx hb ht xu_1 tyX1 tyX1_ok nmX1 hown hK hP hD hS q0 hw rfl 6 (by decide) (ht _ xw_47) (fun _ h9 => h9) rfl (by decide +kernel) rfl rfl hl dX1_takeSense_2 k) ?_
  refine xm_Oks.step (sn_ldR hG fun H locs cells slots ls rest x h k => lv_aload_n hx hb dX1_takeSense_5 rfl h k) ?_
  refine xm_Oks.step (sn_push hG (fun _ => trivial) fun ad H locs cells slots ls rest k => lv_iconst hx hb dX1_takeSense_6 (by decide) k) ?_
  refine xm_Oks.step (sn_putI hG rfl rfl (by decide) (by decide) fun H locs cells slots ls rest q0 ws a fs v hP hD hS hw ⟨x, hv⟩ hl k => by subst hv; exact va_put (D := D) (ty := .int) (C := RX1) (T := TX1) (N := 11) hx hb ht xu_1 tyX1 tyX1_ok nmX1 hown hK hP hD hS q0 hw rfl 7 (by decide) (ht _ xw_41) (fun _ h9 => h9) rfl (by decide +kernel) rfl rfl hl dX1_takeSense_7 k) ?_
  refine xm_Oks.step (sn_ldR hG fun H locs cells slots ls rest x h k => lv_aload_n hx hb dX1_takeSense_10 rfl h k) ?_
  refine xm_Oks.step (sn_ldR hG fun H locs cells slots ls rest x h k => lv_aload_n hx hb dX1_takeSense_11 rfl h k) ?_
  refine xm_Oks.step (sn_ldI hG fun H locs cells slots ls rest x h k => lv_iload_n hx hb dX1_takeSense_12 rfl h k) ?_
  refine xm_Oks.step (sn_push hG (fun _ => trivial) fun ad H locs cells slots ls rest k => lv_iconst hx hb dX1_takeSense_13 (by decide) k) ?_
  refine xm_Oks.step (sn_push hG (fun _ => trivial) fun ad H locs cells slots ls rest k => lv_iconst hx hb dX1_takeSense_14 (by decide) k) ?_
  refine xm_Oks.step (sn_ldI hG fun H locs cells slots ls rest x h k => lv_iload_n hx hb dX1_takeSense_15 rfl h k) ?_
  refine xm_Oks.call (xm_sndC hG hC (xm_callV ⟨hx, hb, hml, hown, hts⟩ xw_100 xw_101 xw_102 xw_53 xw_103 (by decide +kernel) dX1_takeSense_16) (Nat.le_refl _) (by show 8 + (6 + 11) + 40 * d ≤ 40 * (d + 1); omega) (fun C0 h9 => by cases h9; exact ⟨1, _, _, by decide, by decide, rfl, rfl, rfl⟩) (fun as M v M1 mc ms h9 ad sz g1 g2 => ih 38 as M v M1 mc ms h9 ad sz g1 g2)) ?_
  refine xm_Oks.step (sn_putI hG rfl rfl (by decide) (by decide) fun H locs cells slots ls rest q0 ws a fs v hP hD hS hw ⟨x, hv⟩ hl k => by subst hv; exact va_put (D := D) (ty := .int) (C := RX1) (T := TX1) (N := 11) hx hb ht xu_1 tyX1 tyX1_ok nmX1 hown hK hP hD hS q0 hw rfl 10 (by decide) (ht _ xw_48) (fun _ h9 => h9) rfl (by decide +kernel) rfl rfl hl dX1_takeSense_19 k) ?_
  refine xm_Oks.stop ?_
  exact trivial
set_option maxHeartbeats 4000000 in
set_option maxRecDepth 100000 in
theorem xk_X1_strengthen : xm_MOk xp_pg xp_pm 23 := by
  refine ⟨by decide +kernel, rfl, ?_, ?_⟩
  · show xm_Oks _ xt_X1_strengthen
    exact ⟨trivial, trivial, trivial, trivial, trivial, trivial, trivial, trivial, trivial, trivial, trivial, trivial, trivial, trivial, trivial, trivial, trivial, trivial, trivial, trivial, trivial, trivial, trivial, trivial, ⟨dX1_strengthen_44, rfl⟩, trivial⟩
  intro d mc ms p l e s m args below meth c Q cA D A tS ad0 o0 G hG hC hn ih
  have hG : xm_IsG p l e (xm_room (d + 1) mc ms) s m args below meth c Q cA D A tS 3 ad0 o0 G := hG
  have hC : xm_Cx p s m args c cX1_strengthen 3 RX1 (Cond.code yX1_strengthen cX1_strengthen 3 none :: xm_W) cA D A tS := hC
  have hn : meth.name = "strengthen" := hn
  obtain ⟨hx, hb, hml, hown, hts, hK, hA, hSx, hNx⟩ := id hC
  have ht : ∀ w ∈ xm_W, w.before args s = true := fun w h => hts w (List.mem_cons_of_mem _ h)
  show xm_Oks (xm_Ent (xm_room (d + 1) mc ms) G (xm_Do xp_pg d)) xt_X1_strengthen
  unfold xt_X1_strengthen
  refine xm_Oks.step (sn_ldR hG fun H locs cells slots ls rest x h k => lv_aload_n hx hb dX1_strengthen_0 rfl h k) ?_
  refine xm_Oks.step (sn_ldR hG fun H locs cells slots ls rest x h k => lv_aload_n hx hb dX1_strengthen_1 rfl h k) ?_
  refine xm_Oks.step (sn_getI hG rfl rfl (by decide) (by decide) fun H locs cells slots ls rest q0 ws a fs v hP hw hv k => va_get (D := D) (C := RX1) (T := TX1) (N := 11) hx hb ht xu_1 hown hK hP q0 hw rfl 6 (by decide) (ht _ xw_47) (fun _ h9 => h9) hv dX1_strengthen_2 k) ?_
  refine xm_Oks.step (sn_ldR hG fun H locs cells slots ls rest x h k => lv_aload_n hx hb dX1_strengthen_5 rfl h k) ?_
  refine xm_Oks.step (sn_getI hG rfl rfl (by decide) (by decide) fun H locs cells slots ls rest q0 ws a fs v hP hw hv k => va_get (D := D) (C := RX1) (T := TX1) (N := 11) hx hb ht xu_1 hown hK hP q0 hw rfl 10 (by decide) (ht _ xw_48) (fun _ h9 => h9) hv dX1_strengthen_6 k) ?_
  refine xm_Oks.step (sn_ldR hG fun H locs cells slots ls rest x h k => lv_aload_n hx hb dX1_strengthen_9 rfl h k) ?_
  refine xm_Oks.step (sn_getI hG rfl rfl (by decide) (by decide) fun H locs cells slots ls rest q0 ws a fs v hP hw hv k => va_get (D := D) (C := RX1) (T := TX1) (N := 11) hx hb ht xu_1 hown hK hP q0 hw rfl 7 (by decide) (ht _ xw_41) (fun _ h9 => h9) hv dX1_strengthen_10 k) ?_
  refine xm_Oks.step (sn_ldI hG fun H locs cells slots ls rest x h k => lv_iload_n hx hb dX1_strengthen_13 rfl h k) ?_
  refine xm_Oks.call (xm_sndC hG hC (xm_callV ⟨hx, hb, hml, hown, hts⟩ xw_100 xw_101 xw_102 xw_53 xw_103 (by decide +kernel) dX1_strengthen_14) (Nat.le_refl _) (by show 8 + (6 + 11) + 40 * d ≤ 40 * (d + 1); omega) (fun C0 h9 => by cases h9; exact ⟨1, _, _, by decide, by decide, rfl, rfl, rfl⟩) (fun as M v M1 mc ms h9 ad sz g1 g2 => ih 38 as M v M1 mc ms h9 ad sz g1 g2)) ?_
  refine xm_Oks.step (sn_stI hG fun H locs cells slots ls rest x lv lv9 h he k => lv_istore_n hx hb dX1_strengthen_17 rfl h (by decide) he k) ?_
  refine xm_Oks.step (sn_ldI hG fun H locs cells slots ls rest x h k => lv_iload_n hx hb dX1_strengthen_18 rfl h k) ?_
  refine xm_Oks.step (sn_ldR hG fun H locs cells slots ls rest x h k => lv_aload_n hx hb dX1_strengthen_19 rfl h k) ?_
  refine xm_Oks.step (sn_getI hG rfl rfl (by decide) (by decide) fun H locs cells slots ls rest q0 ws a fs v hP hw hv k => va_get (D := D) (C := RX1) (T := TX1) (N := 11) hx hb ht xu_1 hown hK hP q0 hw rfl 10 (by decide) (ht _ xw_48) (fun _ h9 => h9) hv dX1_strengthen_20 k) ?_
  refine xm_Oks.step (sn_icmp hG fun H locs cells slots ls rest x y kt kf => lv_icmp_le (tgt := 44) hx hb dX1_strengthen_23 (by decide) kt kf) ?_
  refine xm_Oks.step (sn_ldR hG fun H locs cells slots ls rest x h k => lv_aload_n hx hb dX1_strengthen_26 rfl h k) ?_
  refine xm_Oks.step (sn_ldI hG fun H locs cells slots ls rest x h k => lv_iload_n hx hb dX1_strengthen_27 rfl h k) ?_
  refine xm_Oks.step (sn_putI hG rfl rfl (by decide) (by decide) fun H locs cells slots ls rest q0 ws a fs v hP hD hS hw ⟨x, hv⟩ hl k => by subst hv; exact va_put (D := D) (ty := .int) (C := RX1) (T := TX1) (N := 11) hx hb ht xu_1 tyX1 tyX1_ok nmX1 hown hK hP hD hS q0 hw rfl 10 (by decide) (ht _ xw_48) (fun _ h9 => h9) rfl (by decide +kernel) rfl rfl hl dX1_strengthen_28 k) ?_
  refine xm_Oks.step (sn_ldR hG fun H locs cells slots ls rest x h k => lv_aload_n hx hb dX1_strengthen_31 rfl h k) ?_
  refine xm_Oks.step (sn_getR hG rfl rfl (by decide) fun H locs cells slots ls rest q0 ws a fs v hP hw hv k => va_get (D := D) (C := RX1) (T := TX1) (N := 11) hx hb ht xu_1 hown hK hP q0 hw rfl 3 (by decide) (ht _ xw_38) (fun _ h9 => h9) hv dX1_strengthen_32 k) ?_
  refine xm_Oks.step (sn_dup hG fun H locs cells slots ls rest v h k => lv_dup hx hb dX1_strengthen_35 h k) ?_
  refine xm_Oks.step (sn_getI hG rfl rfl (by decide) (by decide) fun H locs cells slots ls rest q0 ws a fs v hP hw hv k => va_get (D := D) (C := RX3) (T := TX3) (N := 5) hx hb ht xu_3 hown hK hP q0 hw rfl 2 (by decide) (ht _ xw_104) (fun _ h9 => h9) hv dX1_strengthen_36 k) ?_
  refine xm_Oks.step (sn_push hG (fun _ => trivial) fun ad H locs cells slots ls rest k => lv_iconst hx hb dX1_strengthen_39 (by decide) k) ?_
  refine xm_Oks.step (sn_bin hG fun H locs cells slots ls rest x y k => lv_iadd hx hb dX1_strengthen_40 k) ?_
  refine xm_Oks.step (sn_putI hG rfl rfl (by decide) (by decide) fun H locs cells slots ls rest q0 ws a fs v hP hD hS hw ⟨x, hv⟩ hl k => by subst hv; exact va_put (D := D) (ty := .int) (C := RX3) (T := TX3) (N := 5) hx hb ht xu_3 tyX3 tyX3_ok nmX3 hown hK hP hD hS q0 hw rfl 2 (by decide) (ht _ xw_104) (fun _ h9 => h9) rfl (by decide +kernel) rfl rfl hl dX1_strengthen_41 k) ?_
  refine xm_Oks.stop ?_
  exact trivial
set_option maxHeartbeats 4000000 in
set_option maxRecDepth 100000 in
theorem xk_X1_mustTurn : xm_MOk xp_pg xp_pm 24 := by
  refine ⟨by decide +kernel, rfl, ?_, ?_⟩
  · show xm_Oks _ xt_X1_mustTurn
    exact ⟨trivial, trivial, trivial, trivial, trivial, trivial, trivial, trivial, trivial, trivial, trivial, trivial, trivial, trivial, trivial, trivial, trivial, trivial, trivial, trivial, trivial, trivial, trivial, trivial, trivial, trivial, trivial, trivial, trivial, trivial, trivial, trivial, trivial, trivial, trivial, ⟨dX1_mustTurn_69, rfl⟩, trivial⟩
  intro d mc ms p l e s m args below meth c Q cA D A tS ad0 o0 G hG hC hn ih
  have hG : xm_IsG p l e (xm_room (d + 1) mc ms) s m args below meth c Q cA D A tS 2 ad0 o0 G := hG
  have hC : xm_Cx p s m args c cX1_mustTurn 2 RX1 (Cond.code yX1_mustTurn cX1_mustTurn 2 (some .boolean) :: xm_W) cA D A tS := hC
  have hn : meth.name = "mustTurn" := hn
  obtain ⟨hx, hb, hml, hown, hts, hK, hA, hSx, hNx⟩ := id hC
  have ht : ∀ w ∈ xm_W, w.before args s = true := fun w h => hts w (List.mem_cons_of_mem _ h)
  show xm_Oks (xm_Ent (xm_room (d + 1) mc ms) G (xm_Do xp_pg d)) xt_X1_mustTurn
  unfold xt_X1_mustTurn
  refine xm_Oks.step (sn_ldR hG fun H locs cells slots ls rest x h k => lv_aload_n hx hb dX1_mustTurn_0 rfl h k) ?_
  refine xm_Oks.step (sn_getI hG rfl rfl (by decide) (by decide) fun H locs cells slots ls rest q0 ws a fs v hP hw hv k => va_get (D := D) (C := RX1) (T := TX1) (N := 11) hx hb ht xu_1 hown hK hP q0 hw rfl 8 (by decide) (ht _ xw_49) (fun _ h9 => h9) hv dX1_mustTurn_1 k) ?_
  refine xm_Oks.step (sn_if hG fun H locs cells slots ls rest x kt kf => lv_if_ne (tgt := 68) hx hb dX1_mustTurn_4 (by decide) kt (fun h9 => kf (fun h8 => h8 h9))) ?_
  refine xm_Oks.step (sn_ldI hG fun H locs cells slots ls rest x h k => lv_iload_n hx hb dX1_mustTurn_7 rfl h k) ?_
  refine xm_Oks.step (sn_ldR hG fun H locs cells slots ls rest x h k => lv_aload_n hx hb dX1_mustTurn_8 rfl h k) ?_
  refine xm_Oks.step (sn_getR hG rfl rfl (by decide) fun H locs cells slots ls rest q0 ws a fs v hP hw hv k => va_get (D := D) (C := RX1) (T := TX1) (N := 11) hx hb ht xu_1 hown hK hP q0 hw rfl 2 (by decide) (ht _ xw_37) (fun _ h9 => h9) hv dX1_mustTurn_9 k) ?_
  refine xm_Oks.call (xm_sndC hG hC (xm_callV ⟨hx, hb, hml, hown, hts⟩ xw_42 xw_43 xw_44 xw_45 xw_46 (by decide +kernel) dX1_mustTurn_12) (Nat.le_refl _) (by show 8 + (1 + 11) + 40 * d ≤ 40 * (d + 1); omega) (fun C0 h9 => by cases h9; exact ⟨2, _, _, by decide, by decide, rfl, rfl, rfl⟩) (fun as M v M1 mc ms h9 ad sz g1 g2 => ih 49 as M v M1 mc ms h9 ad sz g1 g2)) ?_
  refine xm_Oks.step (sn_icmp hG fun H locs cells slots ls rest x y kt kf => lv_icmp_le (tgt := 68) hx hb dX1_mustTurn_15 (by decide) kt kf) ?_
  refine xm_Oks.step (sn_ldR hG fun H locs cells slots ls rest x h k => lv_aload_n hx hb dX1_mustTurn_18 rfl h k) ?_
  refine xm_Oks.step (sn_ldR hG fun H locs cells slots ls rest x h k => lv_aload_n hx hb dX1_mustTurn_19 rfl h k) ?_
  refine xm_Oks.step (sn_getI hG rfl rfl (by decide) (by decide) fun H locs cells slots ls rest q0 ws a fs v hP hw hv k => va_get (D := D) (C := RX1) (T := TX1) (N := 11) hx hb ht xu_1 hown hK hP q0 hw rfl 6 (by decide) (ht _ xw_47) (fun _ h9 => h9) hv dX1_mustTurn_20 k) ?_
  refine xm_Oks.step (sn_push hG (fun _ => trivial) fun ad H locs cells slots ls rest k => lv_iconst hx hb dX1_mustTurn_23 (by decide) k) ?_
  refine xm_Oks.step (sn_ldR hG fun H locs cells slots ls rest x h k => lv_aload_n hx hb dX1_mustTurn_24 rfl h k) ?_
  refine xm_Oks.step (sn_getI hG rfl rfl (by decide) (by decide) fun H locs cells slots ls rest q0 ws a fs v hP hw hv k => va_get (D := D) (C := RX1) (T := TX1) (N := 11) hx hb ht xu_1 hown hK hP q0 hw rfl 7 (by decide) (ht _ xw_41) (fun _ h9 => h9) hv dX1_mustTurn_25 k) ?_
  refine xm_Oks.step (sn_ldI hG fun H locs cells slots ls rest x h k => lv_iload_n hx hb dX1_mustTurn_28 rfl h k) ?_
  refine xm_Oks.call (xm_sndC hG hC (xm_callV ⟨hx, hb, hml, hown, hts⟩ xw_105 xw_106 xw_107 xw_53 xw_108 (by decide +kernel) dX1_mustTurn_29) (Nat.le_refl _) (by show 8 + (9 + 11) + 40 * d ≤ 40 * (d + 1); omega) (fun C0 h9 => by cases h9; exact ⟨1, _, _, by decide, by decide, rfl, rfl, rfl⟩) (fun as M v M1 mc ms h9 ad sz g1 g2 => ih 37 as M v M1 mc ms h9 ad sz g1 g2)) ?_
  refine xm_Oks.step (sn_if hG fun H locs cells slots ls rest x kt kf => lv_if_ge (tgt := 68) hx hb dX1_mustTurn_32 (by decide) kt kf) ?_
  refine xm_Oks.step (sn_ldR hG fun H locs cells slots ls rest x h k => lv_aload_n hx hb dX1_mustTurn_35 rfl h k) ?_
  refine xm_Oks.step (sn_ldR hG fun H locs cells slots ls rest x h k => lv_aload_n hx hb dX1_mustTurn_36 rfl h k) ?_
  refine xm_Oks.step (sn_getI hG rfl rfl (by decide) (by decide) fun H locs cells slots ls rest q0 ws a fs v hP hw hv k => va_get (D := D) (C := RX1) (T := TX1) (N := 11) hx hb ht xu_1 hown hK hP q0 hw rfl 6 (by decide) (ht _ xw_47) (fun _ h9 => h9) hv dX1_mustTurn_37 k) ?_
  refine xm_Oks.step (sn_if hG fun H locs cells slots ls rest x kt kf => lv_if_ne (tgt := 47) hx hb dX1_mustTurn_40 (by decide) kt (fun h9 => kf (fun h8 => h8 h9))) ?_
  refine xm_Oks.step (sn_push hG (fun _ => trivial) fun ad H locs cells slots ls rest k => lv_iconst hx hb dX1_mustTurn_43 (by decide) k) ?_
  refine xm_Oks.step (sn_goto hG fun H locs cells slots ls rest k => lv_goto (tgt := 48) hx hb dX1_mustTurn_44 (by decide) k) ?_
  refine xm_Oks.step (sn_push hG (fun _ => trivial) fun ad H locs cells slots ls rest k => lv_iconst hx hb dX1_mustTurn_47 (by decide) k) ?_
  refine xm_Oks.step (sn_push hG (fun _ => trivial) fun ad H locs cells slots ls rest k => lv_iconst hx hb dX1_mustTurn_48 (by decide) k) ?_
  refine xm_Oks.step (sn_push hG (fun _ => trivial) fun ad H locs cells slots ls rest k => lv_iconst hx hb dX1_mustTurn_49 (by decide) k) ?_
  refine xm_Oks.step (sn_ldI hG fun H locs cells slots ls rest x h k => lv_iload_n hx hb dX1_mustTurn_50 rfl h k) ?_
  refine xm_Oks.call (xm_sndC hG hC (xm_callV ⟨hx, hb, hml, hown, hts⟩ xw_105 xw_106 xw_107 xw_53 xw_108 (by decide +kernel) dX1_mustTurn_51) (Nat.le_refl _) (by show 8 + (9 + 11) + 40 * d ≤ 40 * (d + 1); omega) (fun C0 h9 => by cases h9; exact ⟨1, _, _, by decide, by decide, rfl, rfl, rfl⟩) (fun as M v M1 mc ms h9 ad sz g1 g2 => ih 37 as M v M1 mc ms h9 ad sz g1 g2)) ?_
  refine xm_Oks.step (sn_ldR hG fun H locs cells slots ls rest x h k => lv_aload_n hx hb dX1_mustTurn_54 rfl h k) ?_
  refine xm_Oks.step (sn_getR hG rfl rfl (by decide) fun H locs cells slots ls rest q0 ws a fs v hP hw hv k => va_get (D := D) (C := RX1) (T := TX1) (N := 11) hx hb ht xu_1 hown hK hP q0 hw rfl 2 (by decide) (ht _ xw_37) (fun _ h9 => h9) hv dX1_mustTurn_55 k) ?_
  refine xm_Oks.call (xm_sndC hG hC (xm_callV ⟨hx, hb, hml, hown, hts⟩ xw_109 xw_110 xw_111 xw_45 xw_112 (by decide +kernel) dX1_mustTurn_58) (Nat.le_refl _) (by show 8 + (1 + 11) + 40 * d ≤ 40 * (d + 1); omega) (fun C0 h9 => by cases h9; exact ⟨2, _, _, by decide, by decide, rfl, rfl, rfl⟩) (fun as M v M1 mc ms h9 ad sz g1 g2 => ih 48 as M v M1 mc ms h9 ad sz g1 g2)) ?_
  refine xm_Oks.step (sn_icmp hG fun H locs cells slots ls rest x y kt kf => lv_icmp_lt (tgt := 68) hx hb dX1_mustTurn_61 (by decide) kt kf) ?_
  refine xm_Oks.step (sn_push hG (fun _ => trivial) fun ad H locs cells slots ls rest k => lv_iconst hx hb dX1_mustTurn_64 (by decide) k) ?_
  refine xm_Oks.step (sn_goto hG fun H locs cells slots ls rest k => lv_goto (tgt := 69) hx hb dX1_mustTurn_65 (by decide) k) ?_
  refine xm_Oks.step (sn_push hG (fun _ => trivial) fun ad H locs cells slots ls rest k => lv_iconst hx hb dX1_mustTurn_68 (by decide) k) ?_
  refine xm_Oks.stop ?_
  exact trivial
set_option maxHeartbeats 4000000 in
set_option maxRecDepth 100000 in
theorem xk_X1_answer : xm_MOk xp_pg xp_pm 25 := by
  refine ⟨by decide +kernel, rfl, ?_, ?_⟩
  · show xm_Oks _ xt_X1_answer
    exact ⟨trivial, trivial, trivial, trivial, trivial, trivial, trivial, trivial, ⟨dX1_answer_68, rfl⟩, trivial, trivial, ⟨dX1_answer_73, rfl⟩, trivial, trivial, trivial, trivial, trivial, trivial, trivial, trivial, trivial, ⟨dX1_answer_93, rfl⟩, trivial, trivial, ⟨dX1_answer_98, rfl⟩, trivial, trivial, ⟨dX1_answer_103, rfl⟩, trivial, trivial, trivial, trivial, trivial, trivial, ⟨dX1_answer_116, rfl⟩, trivial, trivial, trivial, trivial, trivial, trivial, trivial, trivial, trivial, trivial, trivial, trivial, trivial, trivial, trivial, ⟨dX1_answer_148, rfl⟩, trivial, trivial, trivial, trivial, ⟨dX1_answer_157, rfl⟩, trivial, trivial, trivial, trivial, trivial, trivial, ⟨dX1_answer_170, rfl⟩, trivial, trivial, trivial, trivial, trivial, ⟨dX1_answer_182, rfl⟩, trivial, trivial, ⟨dX1_answer_187, rfl⟩, trivial⟩
  intro d mc ms p l e s m args below meth c Q cA D A tS ad0 o0 G hG hC hn ih
  have hG : xm_IsG p l e (xm_room (d + 1) mc ms) s m args below meth c Q cA D A tS 3 ad0 o0 G := hG
  have hC : xm_Cx p s m args c cX1_answer 3 RX1 (Cond.code yX1_answer cX1_answer 3 (some .int) :: xm_W) cA D A tS := hC
  have hn : meth.name = "answer" := hn
  obtain ⟨hx, hb, hml, hown, hts, hK, hA, hSx, hNx⟩ := id hC
  have ht : ∀ w ∈ xm_W, w.before args s = true := fun w h => hts w (List.mem_cons_of_mem _ h)
  show xm_Oks (xm_Ent (xm_room (d + 1) mc ms) G (xm_Do xp_pg d)) xt_X1_answer
  unfold xt_X1_answer
  refine xm_Oks.step (sn_ldI hG fun H locs cells slots ls rest x h k => lv_iload_n hx hb dX1_answer_0 rfl h k) ?_
  refine xm_Oks.step (sn_sw hG fun H locs cells slots ls rest x k => xr_sw hx hb dX1_answer_1 (by decide) (by decide) (by decide) H locs cells slots ls rest x k) ?_
  refine xm_Oks.step (sn_ldR hG fun H locs cells slots ls rest x h k => lv_aload_n hx hb dX1_answer_56 rfl h k) ?_
  refine xm_Oks.call (xm_sndC hG hC (xm_callV ⟨hx, hb, hml, hown, hts⟩ xw_65 xw_66 xw_67 xw_53 xw_68 (by decide +kernel) dX1_answer_57) (Nat.le_refl _) (by show 8 + (1 + 11) + 40 * d ≤ 40 * (d + 1); omega) (fun C0 h9 => by cases h9; exact ⟨1, _, _, by decide, by decide, rfl, rfl, rfl⟩) (fun as M v M1 mc ms h9 ad sz g1 g2 => ih 27 as M v M1 mc ms h9 ad sz g1 g2)) ?_
  refine xm_Oks.step (sn_if hG fun H locs cells slots ls rest x kt kf => lv_if_eq (tgt := 67) hx hb dX1_answer_60 (by decide) kt kf) ?_
  refine xm_Oks.step (sn_push hG (fun _ => trivial) fun ad H locs cells slots ls rest k => lv_iconst hx hb dX1_answer_63 (by decide) k) ?_
  refine xm_Oks.step (sn_goto hG fun H locs cells slots ls rest k => lv_goto (tgt := 68) hx hb dX1_answer_64 (by decide) k) ?_
  refine xm_Oks.step (sn_push hG (fun _ => trivial) fun ad H locs cells slots ls rest k => lv_iconst hx hb dX1_answer_67 (by decide) k) ?_
  refine xm_Oks.stop ?_
  refine xm_Oks.step (sn_ldR hG fun H locs cells slots ls rest x h k => lv_aload_n hx hb dX1_answer_69 rfl h k) ?_
  refine xm_Oks.call (xm_sndC hG hC (xm_callV ⟨hx, hb, hml, hown, hts⟩ xw_69 xw_70 xw_71 xw_53 xw_72 (by decide +kernel) dX1_answer_70) (Nat.le_refl _) (by show 8 + (9 + 11) + 40 * d ≤ 40 * (d + 1); omega) (fun C0 h9 => by cases h9; exact ⟨1, _, _, by decide, by decide, rfl, rfl, rfl⟩) (fun as M v M1 mc ms h9 ad sz g1 g2 => ih 36 as M v M1 mc ms h9 ad sz g1 g2)) ?_
  refine xm_Oks.stop ?_
  refine xm_Oks.step (sn_ldR hG fun H locs cells slots ls rest x h k => lv_aload_n hx hb dX1_answer_74 rfl h k) ?_
  refine xm_Oks.step (sn_getI hG rfl rfl (by decide) (by decide) fun H locs cells slots ls rest q0 ws a fs v hP hw hv k => va_get (D := D) (C := RX1) (T := TX1) (N := 11) hx hb ht xu_1 hown hK hP q0 hw rfl 9 (by decide) (ht _ xw_40) (fun _ h9 => h9) hv dX1_answer_75 k) ?_
  refine xm_Oks.step (sn_if hG fun H locs cells slots ls rest x kt kf => lv_if_eq (tgt := 92) hx hb dX1_answer_78 (by decide) kt kf) ?_
  refine xm_Oks.step (sn_ldR hG fun H locs cells slots ls rest x h k => lv_aload_n hx hb dX1_answer_81 rfl h k) ?_
  refine xm_Oks.step (sn_getI hG rfl rfl (by decide) (by decide) fun H locs cells slots ls rest q0 ws a fs v hP hw hv k => va_get (D := D) (C := RX1) (T := TX1) (N := 11) hx hb ht xu_1 hown hK hP q0 hw rfl 6 (by decide) (ht _ xw_47) (fun _ h9 => h9) hv dX1_answer_82 k) ?_
  refine xm_Oks.step (sn_ldI hG fun H locs cells slots ls rest x h k => lv_iload_n hx hb dX1_answer_85 rfl h k) ?_
  refine xm_Oks.call (xm_sndC hG hC (xm_callS ⟨hx, hb, hml, hown, hts⟩ xw_113 xw_114 xw_53 xw_115 (by decide +kernel) dX1_answer_86) (Nat.le_refl _) (by show 8 + (2 + 11) + 40 * d ≤ 40 * (d + 1); omega) (fun C0 h9 => by cases h9) (fun as M v M1 mc ms h9 ad sz g1 g2 => ih 26 as M v M1 mc ms h9 ad sz g1 g2)) ?_
  refine xm_Oks.step (sn_goto hG fun H locs cells slots ls rest k => lv_goto (tgt := 93) hx hb dX1_answer_89 (by decide) k) ?_
  refine xm_Oks.step (sn_push hG (fun _ => trivial) fun ad H locs cells slots ls rest k => lv_iconst hx hb dX1_answer_92 (by decide) k) ?_
  refine xm_Oks.stop ?_
  refine xm_Oks.step (sn_ldR hG fun H locs cells slots ls rest x h k => lv_aload_n hx hb dX1_answer_94 rfl h k) ?_
  refine xm_Oks.step (sn_getI hG rfl rfl (by decide) (by decide) fun H locs cells slots ls rest q0 ws a fs v hP hw hv k => va_get (D := D) (C := RX1) (T := TX1) (N := 11) hx hb ht xu_1 hown hK hP q0 hw rfl 10 (by decide) (ht _ xw_48) (fun _ h9 => h9) hv dX1_answer_95 k) ?_
  refine xm_Oks.stop ?_
  refine xm_Oks.step (sn_ldR hG fun H locs cells slots ls rest x h k => lv_aload_n hx hb dX1_answer_99 rfl h k) ?_
  refine xm_Oks.step (sn_getI hG rfl rfl (by decide) (by decide) fun H locs cells slots ls rest q0 ws a fs v hP hw hv k => va_get (D := D) (C := RX1) (T := TX1) (N := 11) hx hb ht xu_1 hown hK hP q0 hw rfl 7 (by decide) (ht _ xw_41) (fun _ h9 => h9) hv dX1_answer_100 k) ?_
  refine xm_Oks.stop ?_
  refine xm_Oks.step (sn_ldR hG fun H locs cells slots ls rest x h k => lv_aload_n hx hb dX1_answer_104 rfl h k) ?_
  refine xm_Oks.step (sn_getI hG rfl rfl (by decide) (by decide) fun H locs cells slots ls rest q0 ws a fs v hP hw hv k => va_get (D := D) (C := RX1) (T := TX1) (N := 11) hx hb ht xu_1 hown hK hP q0 hw rfl 8 (by decide) (ht _ xw_49) (fun _ h9 => h9) hv dX1_answer_105 k) ?_
  refine xm_Oks.step (sn_if hG fun H locs cells slots ls rest x kt kf => lv_if_eq (tgt := 115) hx hb dX1_answer_108 (by decide) kt kf) ?_
  refine xm_Oks.step (sn_push hG (fun _ => trivial) fun ad H locs cells slots ls rest k => lv_iconst hx hb dX1_answer_111 (by decide) k) ?_
  refine xm_Oks.step (sn_goto hG fun H locs cells slots ls rest k => lv_goto (tgt := 116) hx hb dX1_answer_112 (by decide) k) ?_
  refine xm_Oks.step (sn_push hG (fun _ => trivial) fun ad H locs cells slots ls rest k => lv_iconst hx hb dX1_answer_115 (by decide) k) ?_
  refine xm_Oks.stop ?_
  refine xm_Oks.step (sn_ldR hG fun H locs cells slots ls rest x h k => lv_aload_n hx hb dX1_answer_117 rfl h k) ?_
  refine xm_Oks.step (sn_getI hG rfl rfl (by decide) (by decide) fun H locs cells slots ls rest q0 ws a fs v hP hw hv k => va_get (D := D) (C := RX1) (T := TX1) (N := 11) hx hb ht xu_1 hown hK hP q0 hw rfl 9 (by decide) (ht _ xw_40) (fun _ h9 => h9) hv dX1_answer_118 k) ?_
  refine xm_Oks.step (sn_if hG fun H locs cells slots ls rest x kt kf => lv_if_eq (tgt := 147) hx hb dX1_answer_121 (by decide) kt kf) ?_
  refine xm_Oks.step (sn_ldR hG fun H locs cells slots ls rest x h k => lv_aload_n hx hb dX1_answer_124 rfl h k) ?_
  refine xm_Oks.step (sn_ldR hG fun H locs cells slots ls rest x h k => lv_aload_n hx hb dX1_answer_125 rfl h k) ?_
  refine xm_Oks.step (sn_getI hG rfl rfl (by decide) (by decide) fun H locs cells slots ls rest q0 ws a fs v hP hw hv k => va_get (D := D) (C := RX1) (T := TX1) (N := 11) hx hb ht xu_1 hown hK hP q0 hw rfl 6 (by decide) (ht _ xw_47) (fun _ h9 => h9) hv dX1_answer_126 k) ?_
  refine xm_Oks.step (sn_ldR hG fun H locs cells slots ls rest x h k => lv_aload_n hx hb dX1_answer_129 rfl h k) ?_
  refine xm_Oks.step (sn_getI hG rfl rfl (by decide) (by decide) fun H locs cells slots ls rest q0 ws a fs v hP hw hv k => va_get (D := D) (C := RX1) (T := TX1) (N := 11) hx hb ht xu_1 hown hK hP q0 hw rfl 10 (by decide) (ht _ xw_48) (fun _ h9 => h9) hv dX1_answer_130 k) ?_
  refine xm_Oks.step (sn_ldR hG fun H locs cells slots ls rest x h k => lv_aload_n hx hb dX1_answer_133 rfl h k) ?_
  refine xm_Oks.step (sn_getI hG rfl rfl (by decide) (by decide) fun H locs cells slots ls rest q0 ws a fs v hP hw hv k => va_get (D := D) (C := RX1) (T := TX1) (N := 11) hx hb ht xu_1 hown hK hP q0 hw rfl 7 (by decide) (ht _ xw_41) (fun _ h9 => h9) hv dX1_answer_134 k) ?_
  refine xm_Oks.step (sn_ldR hG fun H locs cells slots ls rest x h k => lv_aload_n hx hb dX1_answer_137 rfl h k) ?_
  refine xm_Oks.call (xm_sndC hG hC (xm_callV ⟨hx, hb, hml, hown, hts⟩ xw_69 xw_70 xw_71 xw_53 xw_72 (by decide +kernel) dX1_answer_138) (Nat.le_refl _) (by show 8 + (9 + 11) + 40 * d ≤ 40 * (d + 1); omega) (fun C0 h9 => by cases h9; exact ⟨1, _, _, by decide, by decide, rfl, rfl, rfl⟩) (fun as M v M1 mc ms h9 ad sz g1 g2 => ih 36 as M v M1 mc ms h9 ad sz g1 g2)) ?_
  refine xm_Oks.call (xm_sndC hG hC (xm_callV ⟨hx, hb, hml, hown, hts⟩ xw_105 xw_106 xw_107 xw_53 xw_108 (by decide +kernel) dX1_answer_141) (Nat.le_refl _) (by show 8 + (9 + 11) + 40 * d ≤ 40 * (d + 1); omega) (fun C0 h9 => by cases h9; exact ⟨1, _, _, by decide, by decide, rfl, rfl, rfl⟩) (fun as M v M1 mc ms h9 ad sz g1 g2 => ih 37 as M v M1 mc ms h9 ad sz g1 g2)) ?_
  refine xm_Oks.step (sn_goto hG fun H locs cells slots ls rest k => lv_goto (tgt := 148) hx hb dX1_answer_144 (by decide) k) ?_
  refine xm_Oks.step (sn_push hG (fun _ => trivial) fun ad H locs cells slots ls rest k => lv_iconst hx hb dX1_answer_147 (by decide) k) ?_
  refine xm_Oks.stop ?_
  refine xm_Oks.step (sn_ldR hG fun H locs cells slots ls rest x h k => lv_aload_n hx hb dX1_answer_149 rfl h k) ?_
  refine xm_Oks.step (sn_ldR hG fun H locs cells slots ls rest x h k => lv_aload_n hx hb dX1_answer_150 rfl h k) ?_
  refine xm_Oks.call (xm_sndC hG hC (xm_callV ⟨hx, hb, hml, hown, hts⟩ xw_69 xw_70 xw_71 xw_53 xw_72 (by decide +kernel) dX1_answer_151) (Nat.le_refl _) (by show 8 + (9 + 11) + 40 * d ≤ 40 * (d + 1); omega) (fun C0 h9 => by cases h9; exact ⟨1, _, _, by decide, by decide, rfl, rfl, rfl⟩) (fun as M v M1 mc ms h9 ad sz g1 g2 => ih 36 as M v M1 mc ms h9 ad sz g1 g2)) ?_
  refine xm_Oks.call (xm_sndC hG hC (xm_callV ⟨hx, hb, hml, hown, hts⟩ xw_116 xw_117 xw_118 xw_53 xw_119 (by decide +kernel) dX1_answer_154) (Nat.le_refl _) (by show 8 + (3 + 11) + 40 * d ≤ 40 * (d + 1); omega) (fun C0 h9 => by cases h9; exact ⟨1, _, _, by decide, by decide, rfl, rfl, rfl⟩) (fun as M v M1 mc ms h9 ad sz g1 g2 => ih 40 as M v M1 mc ms h9 ad sz g1 g2)) ?_
  refine xm_Oks.stop ?_
  refine xm_Oks.step (sn_ldR hG fun H locs cells slots ls rest x h k => lv_aload_n hx hb dX1_answer_158 rfl h k) ?_
  refine xm_Oks.step (sn_ldR hG fun H locs cells slots ls rest x h k => lv_aload_n hx hb dX1_answer_159 rfl h k) ?_
  refine xm_Oks.call (xm_sndC hG hC (xm_callV ⟨hx, hb, hml, hown, hts⟩ xw_69 xw_70 xw_71 xw_53 xw_72 (by decide +kernel) dX1_answer_160) (Nat.le_refl _) (by show 8 + (9 + 11) + 40 * d ≤ 40 * (d + 1); omega) (fun C0 h9 => by cases h9; exact ⟨1, _, _, by decide, by decide, rfl, rfl, rfl⟩) (fun as M v M1 mc ms h9 ad sz g1 g2 => ih 36 as M v M1 mc ms h9 ad sz g1 g2)) ?_
  refine xm_Oks.call (xm_sndC hG hC (xm_callV ⟨hx, hb, hml, hown, hts⟩ xw_73 xw_74 xw_75 xw_53 xw_76 (by decide +kernel) dX1_answer_163) (Nat.le_refl _) (by show 8 + (6 + 11) + 40 * d ≤ 40 * (d + 1); omega) (fun C0 h9 => by cases h9; exact ⟨1, _, _, by decide, by decide, rfl, rfl, rfl⟩) (fun as M v M1 mc ms h9 ad sz g1 g2 => ih 39 as M v M1 mc ms h9 ad sz g1 g2)) ?_
  refine xm_Oks.step (sn_ldI hG fun H locs cells slots ls rest x h k => lv_iload_n hx hb dX1_answer_166 rfl h k) ?_
  refine xm_Oks.call (xm_sndC hG hC (xm_callS ⟨hx, hb, hml, hown, hts⟩ xw_113 xw_114 xw_53 xw_115 (by decide +kernel) dX1_answer_167) (Nat.le_refl _) (by show 8 + (2 + 11) + 40 * d ≤ 40 * (d + 1); omega) (fun C0 h9 => by cases h9) (fun as M v M1 mc ms h9 ad sz g1 g2 => ih 26 as M v M1 mc ms h9 ad sz g1 g2)) ?_
  refine xm_Oks.stop ?_
  refine xm_Oks.step (sn_ldR hG fun H locs cells slots ls rest x h k => lv_aload_n hx hb dX1_answer_171 rfl h k) ?_
  refine xm_Oks.step (sn_getL hG rfl rfl (by decide) fun H locs cells slots ls rest q0 ws a fs v hP hw hv k => va_get (D := D) (C := RX1) (T := TX1) (N := 11) hx hb ht xu_1 hown hK hP q0 hw rfl 4 (by decide) (ht _ xw_55) (fun _ h9 => h9) hv dX1_answer_172 k) ?_
  refine xm_Oks.step (sn_push hG (fun _ => trivial) fun ad H locs cells slots ls rest k => lv_ldc2 hx hb hown (ht _ xw_120) dX1_answer_175 k) ?_
  refine xm_Oks.step (sn_mbinL hG fun H locs cells slots ls rest x y h1 h2 h3 h4 k => va_mmin_long hx hb (hml.trans h1.symm) hown (ht _ xw_61) (ht _ xw_62) (ht _ xw_10) (ht _ xw_63) (Nat.le_add_left 1 d) (by show _ + 15 ≤ 40 * (d + 1); omega) h2 h3 dX1_answer_178 k) ?_
  refine xm_Oks.step (sn_one hG xg_l2i_inv (fun _ _ => trivial) fun ad H locs cells slots ls rest x k => lv_l2i hx hb dX1_answer_181 rfl k) ?_
  refine xm_Oks.stop ?_
  refine xm_Oks.step (sn_ldR hG fun H locs cells slots ls rest x h k => lv_aload_n hx hb dX1_answer_183 rfl h k) ?_
  refine xm_Oks.step (sn_getI hG rfl rfl (by decide) (by decide) fun H locs cells slots ls rest q0 ws a fs v hP hw hv k => va_get (D := D) (C := RX1) (T := TX1) (N := 11) hx hb ht xu_1 hown hK hP q0 hw rfl 5 (by decide) (ht _ xw_60) (fun _ h9 => h9) hv dX1_answer_184 k) ?_
  refine xm_Oks.stop ?_
  exact trivial
set_option maxHeartbeats 4000000 in
set_option maxRecDepth 100000 in
theorem xk_X1_senseFor : xm_MOk xp_pg xp_pm 26 := by
  refine ⟨by decide +kernel, rfl, ?_, ?_⟩
  · show xm_Oks _ xt_X1_senseFor
    exact ⟨trivial, trivial, trivial, trivial, trivial, trivial, ⟨dX1_senseFor_10, rfl⟩, trivial⟩
  intro d mc ms p l e s m args below meth c Q cA D A tS ad0 o0 G hG hC hn ih
  have hG : xm_IsG p l e (xm_room (d + 1) mc ms) s m args below meth c Q cA D A tS 2 ad0 o0 G := hG
  have hC : xm_Cx p s m args c cX1_senseFor 2 RX1 (Cond.code yX1_senseFor cX1_senseFor 2 (some .int) :: xm_W) cA D A tS := hC
  have hn : meth.name = "senseFor" := hn
  obtain ⟨hx, hb, hml, hown, hts, hK, hA, hSx, hNx⟩ := id hC
  have ht : ∀ w ∈ xm_W, w.before args s = true := fun w h => hts w (List.mem_cons_of_mem _ h)
  show xm_Oks (xm_Ent (xm_room (d + 1) mc ms) G (xm_Do xp_pg d)) xt_X1_senseFor
  unfold xt_X1_senseFor
  refine xm_Oks.step (sn_ldI hG fun H locs cells slots ls rest x h k => lv_iload_n hx hb dX1_senseFor_0 rfl h k) ?_
  refine xm_Oks.step (sn_ldI hG fun H locs cells slots ls rest x h k => lv_iload_n hx hb dX1_senseFor_1 rfl h k) ?_
  refine xm_Oks.step (sn_icmp hG fun H locs cells slots ls rest x y kt kf => lv_icmp_ne (tgt := 9) hx hb dX1_senseFor_2 (by decide) kt (fun h9 => kf (fun h8 => h8 h9))) ?_
  refine xm_Oks.step (sn_push hG (fun _ => trivial) fun ad H locs cells slots ls rest k => lv_iconst hx hb dX1_senseFor_5 (by decide) k) ?_
  refine xm_Oks.step (sn_goto hG fun H locs cells slots ls rest k => lv_goto (tgt := 10) hx hb dX1_senseFor_6 (by decide) k) ?_
  refine xm_Oks.step (sn_push hG (fun _ => trivial) fun ad H locs cells slots ls rest k => lv_iconst hx hb dX1_senseFor_9 (by decide) k) ?_
  refine xm_Oks.stop ?_
  exact trivial
set_option maxHeartbeats 4000000 in
set_option maxRecDepth 100000 in
theorem xk_X1_alerts : xm_MOk xp_pg xp_pm 27 := by
  refine ⟨by decide +kernel, rfl, ?_, ?_⟩
  · show xm_Oks _ xt_X1_alerts
    exact ⟨trivial, trivial, trivial, trivial, trivial, trivial, trivial, trivial, trivial, trivial, trivial, trivial, trivial, trivial, trivial, ⟨dX1_alerts_33, rfl⟩, trivial⟩
  intro d mc ms p l e s m args below meth c Q cA D A tS ad0 o0 G hG hC hn ih
  have hG : xm_IsG p l e (xm_room (d + 1) mc ms) s m args below meth c Q cA D A tS 1 ad0 o0 G := hG
  have hC : xm_Cx p s m args c cX1_alerts 1 RX1 (Cond.code yX1_alerts cX1_alerts 1 (some .boolean) :: xm_W) cA D A tS := hC
  have hn : meth.name = "alerts" := hn
  obtain ⟨hx, hb, hml, hown, hts, hK, hA, hSx, hNx⟩ := id hC
  have ht : ∀ w ∈ xm_W, w.before args s = true := fun w h => hts w (List.mem_cons_of_mem _ h)
  show xm_Oks (xm_Ent (xm_room (d + 1) mc ms) G (xm_Do xp_pg d)) xt_X1_alerts
  unfold xt_X1_alerts
  refine xm_Oks.step (sn_ldR hG fun H locs cells slots ls rest x h k => lv_aload_n hx hb dX1_alerts_0 rfl h k) ?_
  refine xm_Oks.call (xm_sndC hG hC (xm_callV ⟨hx, hb, hml, hown, hts⟩ xw_121 xw_122 xw_123 xw_53 xw_124 (by decide +kernel) dX1_alerts_1) (Nat.le_refl _) (by show 8 + (1 + 11) + 40 * d ≤ 40 * (d + 1); omega) (fun C0 h9 => by cases h9; exact ⟨1, _, _, by decide, by decide, rfl, rfl, rfl⟩) (fun as M v M1 mc ms h9 ad sz g1 g2 => ih 28 as M v M1 mc ms h9 ad sz g1 g2)) ?_
  refine xm_Oks.step (sn_if hG fun H locs cells slots ls rest x kt kf => lv_if_ne (tgt := 21) hx hb dX1_alerts_4 (by decide) kt (fun h9 => kf (fun h8 => h8 h9))) ?_
  refine xm_Oks.step (sn_ldR hG fun H locs cells slots ls rest x h k => lv_aload_n hx hb dX1_alerts_7 rfl h k) ?_
  refine xm_Oks.call (xm_sndC hG hC (xm_callV ⟨hx, hb, hml, hown, hts⟩ xw_125 xw_126 xw_127 xw_53 xw_128 (by decide +kernel) dX1_alerts_8) (Nat.le_refl _) (by show 8 + (3 + 11) + 40 * d ≤ 40 * (d + 1); omega) (fun C0 h9 => by cases h9; exact ⟨1, _, _, by decide, by decide, rfl, rfl, rfl⟩) (fun as M v M1 mc ms h9 ad sz g1 g2 => ih 29 as M v M1 mc ms h9 ad sz g1 g2)) ?_
  refine xm_Oks.step (sn_if hG fun H locs cells slots ls rest x kt kf => lv_if_eq (tgt := 32) hx hb dX1_alerts_11 (by decide) kt kf) ?_
  refine xm_Oks.step (sn_ldR hG fun H locs cells slots ls rest x h k => lv_aload_n hx hb dX1_alerts_14 rfl h k) ?_
  refine xm_Oks.call (xm_sndC hG hC (xm_callV ⟨hx, hb, hml, hown, hts⟩ xw_129 xw_130 xw_131 xw_53 xw_132 (by decide +kernel) dX1_alerts_15) (Nat.le_refl _) (by show 8 + (13 + 11) + 40 * d ≤ 40 * (d + 1); omega) (fun C0 h9 => by cases h9; exact ⟨1, _, _, by decide, by decide, rfl, rfl, rfl⟩) (fun as M v M1 mc ms h9 ad sz g1 g2 => ih 30 as M v M1 mc ms h9 ad sz g1 g2)) ?_
  refine xm_Oks.step (sn_if hG fun H locs cells slots ls rest x kt kf => lv_if_eq (tgt := 32) hx hb dX1_alerts_18 (by decide) kt kf) ?_
  refine xm_Oks.step (sn_ldR hG fun H locs cells slots ls rest x h k => lv_aload_n hx hb dX1_alerts_21 rfl h k) ?_
  refine xm_Oks.call (xm_sndC hG hC (xm_callV ⟨hx, hb, hml, hown, hts⟩ xw_133 xw_134 xw_135 xw_53 xw_136 (by decide +kernel) dX1_alerts_22) (Nat.le_refl _) (by show 8 + (3 + 11) + 40 * d ≤ 40 * (d + 1); omega) (fun C0 h9 => by cases h9; exact ⟨1, _, _, by decide, by decide, rfl, rfl, rfl⟩) (fun as M v M1 mc ms h9 ad sz g1 g2 => ih 31 as M v M1 mc ms h9 ad sz g1 g2)) ?_
  refine xm_Oks.step (sn_if hG fun H locs cells slots ls rest x kt kf => lv_if_eq (tgt := 32) hx hb dX1_alerts_25 (by decide) kt kf) ?_
  refine xm_Oks.step (sn_push hG (fun _ => trivial) fun ad H locs cells slots ls rest k => lv_iconst hx hb dX1_alerts_28 (by decide) k) ?_
  refine xm_Oks.step (sn_goto hG fun H locs cells slots ls rest k => lv_goto (tgt := 33) hx hb dX1_alerts_29 (by decide) k) ?_
  refine xm_Oks.step (sn_push hG (fun _ => trivial) fun ad H locs cells slots ls rest k => lv_iconst hx hb dX1_alerts_32 (by decide) k) ?_
  refine xm_Oks.stop ?_
  exact trivial
set_option maxHeartbeats 4000000 in
set_option maxRecDepth 100000 in
theorem xk_X1_isNear : xm_MOk xp_pg xp_pm 28 := by
  refine ⟨by decide +kernel, rfl, ?_, ?_⟩
  · show xm_Oks _ xt_X1_isNear
    exact ⟨trivial, trivial, trivial, trivial, trivial, trivial, trivial, trivial, trivial, ⟨dX1_isNear_17, rfl⟩, trivial⟩
  intro d mc ms p l e s m args below meth c Q cA D A tS ad0 o0 G hG hC hn ih
  have hG : xm_IsG p l e (xm_room (d + 1) mc ms) s m args below meth c Q cA D A tS 1 ad0 o0 G := hG
  have hC : xm_Cx p s m args c cX1_isNear 1 RX1 (Cond.code yX1_isNear cX1_isNear 1 (some .boolean) :: xm_W) cA D A tS := hC
  have hn : meth.name = "isNear" := hn
  obtain ⟨hx, hb, hml, hown, hts, hK, hA, hSx, hNx⟩ := id hC
  have ht : ∀ w ∈ xm_W, w.before args s = true := fun w h => hts w (List.mem_cons_of_mem _ h)
  show xm_Oks (xm_Ent (xm_room (d + 1) mc ms) G (xm_Do xp_pg d)) xt_X1_isNear
  unfold xt_X1_isNear
  refine xm_Oks.step (sn_ldR hG fun H locs cells slots ls rest x h k => lv_aload_n hx hb dX1_isNear_0 rfl h k) ?_
  refine xm_Oks.call (xm_sndC hG hC (xm_callV ⟨hx, hb, hml, hown, hts⟩ xw_50 xw_51 xw_52 xw_53 xw_54 (by decide +kernel) dX1_isNear_1) (Nat.le_refl _) (by show 8 + (5 + 11) + 40 * d ≤ 40 * (d + 1); omega) (fun C0 h9 => by cases h9; exact ⟨1, _, _, by decide, by decide, rfl, rfl, rfl⟩) (fun as M v M1 mc ms h9 ad sz g1 g2 => ih 33 as M v M1 mc ms h9 ad sz g1 g2)) ?_
  refine xm_Oks.step (sn_ldR hG fun H locs cells slots ls rest x h k => lv_aload_n hx hb dX1_isNear_4 rfl h k) ?_
  refine xm_Oks.call (xm_sndC hG hC (xm_callV ⟨hx, hb, hml, hown, hts⟩ xw_137 xw_138 xw_139 xw_53 xw_140 (by decide +kernel) dX1_isNear_5) (Nat.le_refl _) (by show 8 + (3 + 11) + 40 * d ≤ 40 * (d + 1); omega) (fun C0 h9 => by cases h9; exact ⟨1, _, _, by decide, by decide, rfl, rfl, rfl⟩) (fun as M v M1 mc ms h9 ad sz g1 g2 => ih 32 as M v M1 mc ms h9 ad sz g1 g2)) ?_
  refine xm_Oks.step (sn_lcmp hG fun H locs cells slots ls rest x y k => W.lcmp hx hb dX1_isNear_8 k) ?_
  refine xm_Oks.step (sn_if hG fun H locs cells slots ls rest x kt kf => lv_if_gt (tgt := 16) hx hb dX1_isNear_9 (by decide) kt kf) ?_
  refine xm_Oks.step (sn_push hG (fun _ => trivial) fun ad H locs cells slots ls rest k => lv_iconst hx hb dX1_isNear_12 (by decide) k) ?_
  refine xm_Oks.step (sn_goto hG fun H locs cells slots ls rest k => lv_goto (tgt := 17) hx hb dX1_isNear_13 (by decide) k) ?_
  refine xm_Oks.step (sn_push hG (fun _ => trivial) fun ad H locs cells slots ls rest k => lv_iconst hx hb dX1_isNear_16 (by decide) k) ?_
  refine xm_Oks.stop ?_
  exact trivial
set_option maxHeartbeats 4000000 in
set_option maxRecDepth 100000 in
theorem xk_X1_comesNearInTime : xm_MOk xp_pg xp_pm 29 := by
  refine ⟨by decide +kernel, rfl, ?_, ?_⟩
  · show xm_Oks _ xt_X1_comesNearInTime
    exact ⟨trivial, trivial, trivial, trivial, trivial, trivial, trivial, trivial, trivial, trivial, trivial, trivial, trivial, trivial, trivial, trivial, trivial, trivial, trivial, trivial, trivial, trivial, trivial, trivial, ⟨dX1_comesNearInTime_40, rfl⟩, trivial⟩
  intro d mc ms p l e s m args below meth c Q cA D A tS ad0 o0 G hG hC hn ih
  have hG : xm_IsG p l e (xm_room (d + 1) mc ms) s m args below meth c Q cA D A tS 3 ad0 o0 G := hG
  have hC : xm_Cx p s m args c cX1_comesNearInTime 3 RX1 (Cond.code yX1_comesNearInTime cX1_comesNearInTime 3 (some .boolean) :: xm_W) cA D A tS := hC
  have hn : meth.name = "comesNearInTime" := hn
  obtain ⟨hx, hb, hml, hown, hts, hK, hA, hSx, hNx⟩ := id hC
  have ht : ∀ w ∈ xm_W, w.before args s = true := fun w h => hts w (List.mem_cons_of_mem _ h)
  show xm_Oks (xm_Ent (xm_room (d + 1) mc ms) G (xm_Do xp_pg d)) xt_X1_comesNearInTime
  unfold xt_X1_comesNearInTime
  refine xm_Oks.step (sn_ldR hG fun H locs cells slots ls rest x h k => lv_aload_n hx hb dX1_comesNearInTime_0 rfl h k) ?_
  refine xm_Oks.call (xm_sndC hG hC (xm_callV ⟨hx, hb, hml, hown, hts⟩ xw_82 xw_83 xw_84 xw_53 xw_85 (by decide +kernel) dX1_comesNearInTime_1) (Nat.le_refl _) (by show 8 + (9 + 11) + 40 * d ≤ 40 * (d + 1); omega) (fun C0 h9 => by cases h9; exact ⟨1, _, _, by decide, by decide, rfl, rfl, rfl⟩) (fun as M v M1 mc ms h9 ad sz g1 g2 => ih 35 as M v M1 mc ms h9 ad sz g1 g2)) ?_
  refine xm_Oks.step (sn_stL hG fun H locs cells slots ls rest x lv lv9 h he k => lv_lstore_n hx hb dX1_comesNearInTime_4 rfl h (by decide) he k) ?_
  refine xm_Oks.step (sn_ldL hG fun H locs cells slots ls rest x h k => lv_lload_n hx hb dX1_comesNearInTime_5 rfl h k) ?_
  refine xm_Oks.step (sn_push hG (fun _ => trivial) fun ad H locs cells slots ls rest k => lv_lconst hx hb dX1_comesNearInTime_6 (by decide) k) ?_
  refine xm_Oks.step (sn_lcmp hG fun H locs cells slots ls rest x y k => W.lcmp hx hb dX1_comesNearInTime_7 k) ?_
  refine xm_Oks.step (sn_if hG fun H locs cells slots ls rest x kt kf => lv_if_ge (tgt := 39) hx hb dX1_comesNearInTime_8 (by decide) kt kf) ?_
  refine xm_Oks.step (sn_ldR hG fun H locs cells slots ls rest x h k => lv_aload_n hx hb dX1_comesNearInTime_11 rfl h k) ?_
  refine xm_Oks.call (xm_sndC hG hC (xm_callV ⟨hx, hb, hml, hown, hts⟩ xw_50 xw_51 xw_52 xw_53 xw_54 (by decide +kernel) dX1_comesNearInTime_12) (Nat.le_refl _) (by show 8 + (5 + 11) + 40 * d ≤ 40 * (d + 1); omega) (fun C0 h9 => by cases h9; exact ⟨1, _, _, by decide, by decide, rfl, rfl, rfl⟩) (fun as M v M1 mc ms h9 ad sz g1 g2 => ih 33 as M v M1 mc ms h9 ad sz g1 g2)) ?_
  refine xm_Oks.step (sn_ldR hG fun H locs cells slots ls rest x h k => lv_aload_n hx hb dX1_comesNearInTime_15 rfl h k) ?_
  refine xm_Oks.call (xm_sndC hG hC (xm_callV ⟨hx, hb, hml, hown, hts⟩ xw_137 xw_138 xw_139 xw_53 xw_140 (by decide +kernel) dX1_comesNearInTime_16) (Nat.le_refl _) (by show 8 + (3 + 11) + 40 * d ≤ 40 * (d + 1); omega) (fun C0 h9 => by cases h9; exact ⟨1, _, _, by decide, by decide, rfl, rfl, rfl⟩) (fun as M v M1 mc ms h9 ad sz g1 g2 => ih 32 as M v M1 mc ms h9 ad sz g1 g2)) ?_
  refine xm_Oks.step (sn_binL hG fun H locs cells slots ls rest x y k => lv_lsub hx hb dX1_comesNearInTime_19 k) ?_
  refine xm_Oks.step (sn_ldR hG fun H locs cells slots ls rest x h k => lv_aload_n hx hb dX1_comesNearInTime_20 rfl h k) ?_
  refine xm_Oks.step (sn_getR hG rfl rfl (by decide) fun H locs cells slots ls rest q0 ws a fs v hP hw hv k => va_get (D := D) (C := RX1) (T := TX1) (N := 11) hx hb ht xu_1 hown hK hP q0 hw rfl 2 (by decide) (ht _ xw_37) (fun _ h9 => h9) hv dX1_comesNearInTime_21 k) ?_
  refine xm_Oks.call (xm_sndC hG hC (xm_callV ⟨hx, hb, hml, hown, hts⟩ xw_141 xw_142 xw_143 xw_45 xw_144 (by decide +kernel) dX1_comesNearInTime_24) (Nat.le_refl _) (by show 8 + (1 + 11) + 40 * d ≤ 40 * (d + 1); omega) (fun C0 h9 => by cases h9; exact ⟨2, _, _, by decide, by decide, rfl, rfl, rfl⟩) (fun as M v M1 mc ms h9 ad sz g1 g2 => ih 44 as M v M1 mc ms h9 ad sz g1 g2)) ?_
  refine xm_Oks.step (sn_one hG xg_i2l_inv (fun _ _ => trivial) fun ad H locs cells slots ls rest x k => lv_i2l hx hb dX1_comesNearInTime_27 rfl k) ?_
  refine xm_Oks.step (sn_ldL hG fun H locs cells slots ls rest x h k => lv_lload_n hx hb dX1_comesNearInTime_28 rfl h k) ?_
  refine xm_Oks.step (sn_one hG xg_unL_inv (fun _ _ => trivial) fun ad H locs cells slots ls rest x k => lv_lneg hx hb dX1_comesNearInTime_29 k) ?_
  refine xm_Oks.step (sn_binL hG fun H locs cells slots ls rest x y k => lv_lmul hx hb dX1_comesNearInTime_30 k) ?_
  refine xm_Oks.step (sn_lcmp hG fun H locs cells slots ls rest x y k => W.lcmp hx hb dX1_comesNearInTime_31 k) ?_
  refine xm_Oks.step (sn_if hG fun H locs cells slots ls rest x kt kf => lv_if_gt (tgt := 39) hx hb dX1_comesNearInTime_32 (by decide) kt kf) ?_
  refine xm_Oks.step (sn_push hG (fun _ => trivial) fun ad H locs cells slots ls rest k => lv_iconst hx hb dX1_comesNearInTime_35 (by decide) k) ?_
  refine xm_Oks.step (sn_goto hG fun H locs cells slots ls rest k => lv_goto (tgt := 40) hx hb dX1_comesNearInTime_36 (by decide) k) ?_
  refine xm_Oks.step (sn_push hG (fun _ => trivial) fun ad H locs cells slots ls rest k => lv_iconst hx hb dX1_comesNearInTime_39 (by decide) k) ?_
  refine xm_Oks.stop ?_
  exact trivial
set_option maxHeartbeats 4000000 in
set_option maxRecDepth 100000 in
theorem xk_X1_passesNear : xm_MOk xp_pg xp_pm 30 := by
  refine ⟨by decide +kernel, rfl, ?_, ?_⟩
  · show xm_Oks _ xt_X1_passesNear
    exact ⟨trivial, trivial, trivial, trivial, trivial, trivial, trivial, trivial, trivial, trivial, trivial, trivial, trivial, trivial, trivial, trivial, trivial, trivial, trivial, trivial, trivial, trivial, trivial, trivial, trivial, trivial, trivial, trivial, trivial, trivial, trivial, trivial, trivial, trivial, trivial, trivial, trivial, trivial, trivial, trivial, trivial, trivial, trivial, trivial, trivial, trivial, trivial, trivial, trivial, trivial, trivial, trivial, trivial, trivial, trivial, trivial, trivial, trivial, trivial, trivial, trivial, trivial, trivial, trivial, trivial, trivial, trivial, trivial, ⟨dX1_passesNear_122, rfl⟩, trivial⟩
  intro d mc ms p l e s m args below meth c Q cA D A tS ad0 o0 G hG hC hn ih
  have hG : xm_IsG p l e (xm_room (d + 1) mc ms) s m args below meth c Q cA D A tS 13 ad0 o0 G := hG
  have hC : xm_Cx p s m args c cX1_passesNear 13 RX1 (Cond.code yX1_passesNear cX1_passesNear 13 (some .boolean) :: xm_W) cA D A tS := hC
  have hn : meth.name = "passesNear" := hn
  obtain ⟨hx, hb, hml, hown, hts, hK, hA, hSx, hNx⟩ := id hC
  have ht : ∀ w ∈ xm_W, w.before args s = true := fun w h => hts w (List.mem_cons_of_mem _ h)
  show xm_Oks (xm_Ent (xm_room (d + 1) mc ms) G (xm_Do xp_pg d)) xt_X1_passesNear
  unfold xt_X1_passesNear
  refine xm_Oks.step (sn_ldR hG fun H locs cells slots ls rest x h k => lv_aload_n hx hb dX1_passesNear_0 rfl h k) ?_
  refine xm_Oks.step (sn_getR hG rfl rfl (by decide) fun H locs cells slots ls rest q0 ws a fs v hP hw hv k => va_get (D := D) (C := RX1) (T := TX1) (N := 11) hx hb ht xu_1 hown hK hP q0 hw rfl 1 (by decide) (ht _ xw_36) (fun _ h9 => h9) hv dX1_passesNear_1 k) ?_
  refine xm_Oks.step (sn_getI hG rfl rfl (by decide) (by decide) fun H locs cells slots ls rest q0 ws a fs v hP hw hv k => va_get (D := D) (C := RX0) (T := TX0) (N := 8) hx hb ht xu_0 hown hK hP q0 hw rfl 2 (by decide) (ht _ xw_145) (fun _ h9 => h9) hv dX1_passesNear_4 k) ?_
  refine xm_Oks.step (sn_ldR hG fun H locs cells slots ls rest x h k => lv_aload_n hx hb dX1_passesNear_7 rfl h k) ?_
  refine xm_Oks.step (sn_getR hG rfl rfl (by decide) fun H locs cells slots ls rest q0 ws a fs v hP hw hv k => va_get (D := D) (C := RX1) (T := TX1) (N := 11) hx hb ht xu_1 hown hK hP q0 hw rfl 0 (by decide) (ht _ xw_35) (fun _ h9 => h9) hv dX1_passesNear_8 k) ?_
  refine xm_Oks.step (sn_getI hG rfl rfl (by decide) (by decide) fun H locs cells slots ls rest q0 ws a fs v hP hw hv k => va_get (D := D) (C := RX0) (T := TX0) (N := 8) hx hb ht xu_0 hown hK hP q0 hw rfl 2 (by decide) (ht _ xw_145) (fun _ h9 => h9) hv dX1_passesNear_11 k) ?_
  refine xm_Oks.step (sn_bin hG fun H locs cells slots ls rest x y k => lv_isub hx hb dX1_passesNear_14 k) ?_
  refine xm_Oks.step (sn_one hG xg_i2l_inv (fun _ _ => trivial) fun ad H locs cells slots ls rest x k => lv_i2l hx hb dX1_passesNear_15 rfl k) ?_
  refine xm_Oks.step (sn_stL hG fun H locs cells slots ls rest x lv lv9 h he k => lv_lstore_n hx hb dX1_passesNear_16 rfl h (by decide) he k) ?_
  refine xm_Oks.step (sn_ldR hG fun H locs cells slots ls rest x h k => lv_aload_n hx hb dX1_passesNear_17 rfl h k) ?_
  refine xm_Oks.step (sn_getR hG rfl rfl (by decide) fun H locs cells slots ls rest q0 ws a fs v hP hw hv k => va_get (D := D) (C := RX1) (T := TX1) (N := 11) hx hb ht xu_1 hown hK hP q0 hw rfl 1 (by decide) (ht _ xw_36) (fun _ h9 => h9) hv dX1_passesNear_18 k) ?_
  refine xm_Oks.step (sn_getI hG rfl rfl (by decide) (by decide) fun H locs cells slots ls rest q0 ws a fs v hP hw hv k => va_get (D := D) (C := RX0) (T := TX0) (N := 8) hx hb ht xu_0 hown hK hP q0 hw rfl 3 (by decide) (ht _ xw_146) (fun _ h9 => h9) hv dX1_passesNear_21 k) ?_
  refine xm_Oks.step (sn_ldR hG fun H locs cells slots ls rest x h k => lv_aload_n hx hb dX1_passesNear_24 rfl h k) ?_
  refine xm_Oks.step (sn_getR hG rfl rfl (by decide) fun H locs cells slots ls rest q0 ws a fs v hP hw hv k => va_get (D := D) (C := RX1) (T := TX1) (N := 11) hx hb ht xu_1 hown hK hP q0 hw rfl 0 (by decide) (ht _ xw_35) (fun _ h9 => h9) hv dX1_passesNear_25 k) ?_
  refine xm_Oks.step (sn_getI hG rfl rfl (by decide) (by decide) fun H locs cells slots ls rest q0 ws a fs v hP hw hv k => va_get (D := D) (C := RX0) (T := TX0) (N := 8) hx hb ht xu_0 hown hK hP q0 hw rfl 3 (by decide) (ht _ xw_146) (fun _ h9 => h9) hv dX1_passesNear_28 k) ?_
  refine xm_Oks.step (sn_bin hG fun H locs cells slots ls rest x y k => lv_isub hx hb dX1_passesNear_31 k) ?_
  refine xm_Oks.step (sn_one hG xg_i2l_inv (fun _ _ => trivial) fun ad H locs cells slots ls rest x k => lv_i2l hx hb dX1_passesNear_32 rfl k) ?_
  refine xm_Oks.step (sn_stL hG fun H locs cells slots ls rest x lv lv9 h he k => lv_lstore_n hx hb dX1_passesNear_33 rfl h (by decide) he k) ?_
  refine xm_Oks.step (sn_ldR hG fun H locs cells slots ls rest x h k => lv_aload_n hx hb dX1_passesNear_34 rfl h k) ?_
  refine xm_Oks.step (sn_getR hG rfl rfl (by decide) fun H locs cells slots ls rest q0 ws a fs v hP hw hv k => va_get (D := D) (C := RX1) (T := TX1) (N := 11) hx hb ht xu_1 hown hK hP q0 hw rfl 1 (by decide) (ht _ xw_36) (fun _ h9 => h9) hv dX1_passesNear_35 k) ?_
  refine xm_Oks.step (sn_getI hG rfl rfl (by decide) (by decide) fun H locs cells slots ls rest q0 ws a fs v hP hw hv k => va_get (D := D) (C := RX0) (T := TX0) (N := 8) hx hb ht xu_0 hown hK hP q0 hw rfl 5 (by decide) (ht _ xw_147) (fun _ h9 => h9) hv dX1_passesNear_38 k) ?_
  refine xm_Oks.step (sn_ldR hG fun H locs cells slots ls rest x h k => lv_aload_n hx hb dX1_passesNear_41 rfl h k) ?_
  refine xm_Oks.step (sn_getR hG rfl rfl (by decide) fun H locs cells slots ls rest q0 ws a fs v hP hw hv k => va_get (D := D) (C := RX1) (T := TX1) (N := 11) hx hb ht xu_1 hown hK hP q0 hw rfl 0 (by decide) (ht _ xw_35) (fun _ h9 => h9) hv dX1_passesNear_42 k) ?_
  refine xm_Oks.step (sn_getI hG rfl rfl (by decide) (by decide) fun H locs cells slots ls rest q0 ws a fs v hP hw hv k => va_get (D := D) (C := RX0) (T := TX0) (N := 8) hx hb ht xu_0 hown hK hP q0 hw rfl 5 (by decide) (ht _ xw_147) (fun _ h9 => h9) hv dX1_passesNear_45 k) ?_
  refine xm_Oks.step (sn_bin hG fun H locs cells slots ls rest x y k => lv_isub hx hb dX1_passesNear_48 k) ?_
  refine xm_Oks.step (sn_one hG xg_i2l_inv (fun _ _ => trivial) fun ad H locs cells slots ls rest x k => lv_i2l hx hb dX1_passesNear_49 rfl k) ?_
  refine xm_Oks.step (sn_stL hG fun H locs cells slots ls rest x lv lv9 h he k => lv_lstore hx hb dX1_passesNear_50 h (by decide) he k) ?_
  refine xm_Oks.step (sn_ldR hG fun H locs cells slots ls rest x h k => lv_aload_n hx hb dX1_passesNear_52 rfl h k) ?_
  refine xm_Oks.step (sn_getR hG rfl rfl (by decide) fun H locs cells slots ls rest q0 ws a fs v hP hw hv k => va_get (D := D) (C := RX1) (T := TX1) (N := 11) hx hb ht xu_1 hown hK hP q0 hw rfl 1 (by decide) (ht _ xw_36) (fun _ h9 => h9) hv dX1_passesNear_53 k) ?_
  refine xm_Oks.step (sn_getI hG rfl rfl (by decide) (by decide) fun H locs cells slots ls rest q0 ws a fs v hP hw hv k => va_get (D := D) (C := RX0) (T := TX0) (N := 8) hx hb ht xu_0 hown hK hP q0 hw rfl 6 (by decide) (ht _ xw_148) (fun _ h9 => h9) hv dX1_passesNear_56 k) ?_
  refine xm_Oks.step (sn_ldR hG fun H locs cells slots ls rest x h k => lv_aload_n hx hb dX1_passesNear_59 rfl h k) ?_
  refine xm_Oks.step (sn_getR hG rfl rfl (by decide) fun H locs cells slots ls rest q0 ws a fs v hP hw hv k => va_get (D := D) (C := RX1) (T := TX1) (N := 11) hx hb ht xu_1 hown hK hP q0 hw rfl 0 (by decide) (ht _ xw_35) (fun _ h9 => h9) hv dX1_passesNear_60 k) ?_
  refine xm_Oks.step (sn_getI hG rfl rfl (by decide) (by decide) fun H locs cells slots ls rest q0 ws a fs v hP hw hv k => va_get (D := D) (C := RX0) (T := TX0) (N := 8) hx hb ht xu_0 hown hK hP q0 hw rfl 6 (by decide) (ht _ xw_148) (fun _ h9 => h9) hv dX1_passesNear_63 k) ?_
  refine xm_Oks.step (sn_bin hG fun H locs cells slots ls rest x y k => lv_isub hx hb dX1_passesNear_66 k) ?_
  refine xm_Oks.step (sn_one hG xg_i2l_inv (fun _ _ => trivial) fun ad H locs cells slots ls rest x k => lv_i2l hx hb dX1_passesNear_67 rfl k) ?_
  refine xm_Oks.step (sn_stL hG fun H locs cells slots ls rest x lv lv9 h he k => lv_lstore hx hb dX1_passesNear_68 h (by decide) he k) ?_
  refine xm_Oks.step (sn_ldL hG fun H locs cells slots ls rest x h k => lv_lload_n hx hb dX1_passesNear_70 rfl h k) ?_
  refine xm_Oks.step (sn_ldL hG fun H locs cells slots ls rest x h k => lv_lload hx hb dX1_passesNear_71 h k) ?_
  refine xm_Oks.step (sn_binL hG fun H locs cells slots ls rest x y k => lv_lmul hx hb dX1_passesNear_73 k) ?_
  refine xm_Oks.step (sn_ldL hG fun H locs cells slots ls rest x h k => lv_lload_n hx hb dX1_passesNear_74 rfl h k) ?_
  refine xm_Oks.step (sn_ldL hG fun H locs cells slots ls rest x h k => lv_lload hx hb dX1_passesNear_75 h k) ?_
  refine xm_Oks.step (sn_binL hG fun H locs cells slots ls rest x y k => lv_lmul hx hb dX1_passesNear_77 k) ?_
  refine xm_Oks.step (sn_binL hG fun H locs cells slots ls rest x y k => lv_lsub hx hb dX1_passesNear_78 k) ?_
  refine xm_Oks.step (sn_stL hG fun H locs cells slots ls rest x lv lv9 h he k => lv_lstore hx hb dX1_passesNear_79 h (by decide) he k) ?_
  refine xm_Oks.step (sn_ldR hG fun H locs cells slots ls rest x h k => lv_aload_n hx hb dX1_passesNear_81 rfl h k) ?_
  refine xm_Oks.step (sn_getR hG rfl rfl (by decide) fun H locs cells slots ls rest q0 ws a fs v hP hw hv k => va_get (D := D) (C := RX1) (T := TX1) (N := 11) hx hb ht xu_1 hown hK hP q0 hw rfl 2 (by decide) (ht _ xw_37) (fun _ h9 => h9) hv dX1_passesNear_82 k) ?_
  refine xm_Oks.call (xm_sndC hG hC (xm_callV ⟨hx, hb, hml, hown, hts⟩ xw_149 xw_150 xw_151 xw_45 xw_152 (by decide +kernel) dX1_passesNear_85) (Nat.le_refl _) (by show 8 + (1 + 11) + 40 * d ≤ 40 * (d + 1); omega) (fun C0 h9 => by cases h9; exact ⟨2, _, _, by decide, by decide, rfl, rfl, rfl⟩) (fun as M v M1 mc ms h9 ad sz g1 g2 => ih 46 as M v M1 mc ms h9 ad sz g1 g2)) ?_
  refine xm_Oks.step (sn_one hG xg_i2l_inv (fun _ _ => trivial) fun ad H locs cells slots ls rest x k => lv_i2l hx hb dX1_passesNear_88 rfl k) ?_
  refine xm_Oks.step (sn_stL hG fun H locs cells slots ls rest x lv lv9 h he k => lv_lstore hx hb dX1_passesNear_89 h (by decide) he k) ?_
  refine xm_Oks.step (sn_ldL hG fun H locs cells slots ls rest x h k => lv_lload hx hb dX1_passesNear_91 h k) ?_
  refine xm_Oks.step (sn_ldL hG fun H locs cells slots ls rest x h k => lv_lload hx hb dX1_passesNear_93 h k) ?_
  refine xm_Oks.step (sn_binL hG fun H locs cells slots ls rest x y k => lv_lmul hx hb dX1_passesNear_95 k) ?_
  refine xm_Oks.step (sn_ldL hG fun H locs cells slots ls rest x h k => lv_lload hx hb dX1_passesNear_96 h k) ?_
  refine xm_Oks.step (sn_ldL hG fun H locs cells slots ls rest x h k => lv_lload hx hb dX1_passesNear_98 h k) ?_
  refine xm_Oks.step (sn_binL hG fun H locs cells slots ls rest x y k => lv_lmul hx hb dX1_passesNear_100 k) ?_
  refine xm_Oks.step (sn_ldL hG fun H locs cells slots ls rest x h k => lv_lload hx hb dX1_passesNear_101 h k) ?_
  refine xm_Oks.step (sn_ldL hG fun H locs cells slots ls rest x h k => lv_lload hx hb dX1_passesNear_103 h k) ?_
  refine xm_Oks.step (sn_binL hG fun H locs cells slots ls rest x y k => lv_lmul hx hb dX1_passesNear_105 k) ?_
  refine xm_Oks.step (sn_ldL hG fun H locs cells slots ls rest x h k => lv_lload hx hb dX1_passesNear_106 h k) ?_
  refine xm_Oks.step (sn_ldL hG fun H locs cells slots ls rest x h k => lv_lload hx hb dX1_passesNear_108 h k) ?_
  refine xm_Oks.step (sn_binL hG fun H locs cells slots ls rest x y k => lv_lmul hx hb dX1_passesNear_110 k) ?_
  refine xm_Oks.step (sn_binL hG fun H locs cells slots ls rest x y k => lv_ladd hx hb dX1_passesNear_111 k) ?_
  refine xm_Oks.step (sn_binL hG fun H locs cells slots ls rest x y k => lv_lmul hx hb dX1_passesNear_112 k) ?_
  refine xm_Oks.step (sn_lcmp hG fun H locs cells slots ls rest x y k => W.lcmp hx hb dX1_passesNear_113 k) ?_
  refine xm_Oks.step (sn_if hG fun H locs cells slots ls rest x kt kf => lv_if_gt (tgt := 121) hx hb dX1_passesNear_114 (by decide) kt kf) ?_
  refine xm_Oks.step (sn_push hG (fun _ => trivial) fun ad H locs cells slots ls rest k => lv_iconst hx hb dX1_passesNear_117 (by decide) k) ?_
  refine xm_Oks.step (sn_goto hG fun H locs cells slots ls rest k => lv_goto (tgt := 122) hx hb dX1_passesNear_118 (by decide) k) ?_
  refine xm_Oks.step (sn_push hG (fun _ => trivial) fun ad H locs cells slots ls rest k => lv_iconst hx hb dX1_passesNear_121 (by decide) k) ?_
  refine xm_Oks.stop ?_
  exact trivial
set_option maxHeartbeats 4000000 in
set_option maxRecDepth 100000 in
theorem xk_X1_meetsInHeight : xm_MOk xp_pg xp_pm 31 := by
  refine ⟨by decide +kernel, rfl, ?_, ?_⟩
  · show xm_Oks _ xt_X1_meetsInHeight
    exact ⟨trivial, trivial, trivial, trivial, trivial, trivial, trivial, trivial, trivial, trivial, trivial, trivial, trivial, trivial, trivial, trivial, trivial, trivial, trivial, trivial, trivial, trivial, trivial, trivial, trivial, trivial, trivial, trivial, trivial, trivial, trivial, trivial, trivial, trivial, trivial, trivial, trivial, trivial, ⟨dX1_meetsInHeight_76, rfl⟩, trivial⟩
  intro d mc ms p l e s m args below meth c Q cA D A tS ad0 o0 G hG hC hn ih
  have hG : xm_IsG p l e (xm_room (d + 1) mc ms) s m args below meth c Q cA D A tS 3 ad0 o0 G := hG
  have hC : xm_Cx p s m args c cX1_meetsInHeight 3 RX1 (Cond.code yX1_meetsInHeight cX1_meetsInHeight 3 (some .boolean) :: xm_W) cA D A tS := hC
  have hn : meth.name = "meetsInHeight" := hn
  obtain ⟨hx, hb, hml, hown, hts, hK, hA, hSx, hNx⟩ := id hC
  have ht : ∀ w ∈ xm_W, w.before args s = true := fun w h => hts w (List.mem_cons_of_mem _ h)
  show xm_Oks (xm_Ent (xm_room (d + 1) mc ms) G (xm_Do xp_pg d)) xt_X1_meetsInHeight
  unfold xt_X1_meetsInHeight
  refine xm_Oks.step (sn_ldR hG fun H locs cells slots ls rest x h k => lv_aload_n hx hb dX1_meetsInHeight_0 rfl h k) ?_
  refine xm_Oks.step (sn_getR hG rfl rfl (by decide) fun H locs cells slots ls rest q0 ws a fs v hP hw hv k => va_get (D := D) (C := RX1) (T := TX1) (N := 11) hx hb ht xu_1 hown hK hP q0 hw rfl 1 (by decide) (ht _ xw_36) (fun _ h9 => h9) hv dX1_meetsInHeight_1 k) ?_
  refine xm_Oks.step (sn_getI hG rfl rfl (by decide) (by decide) fun H locs cells slots ls rest q0 ws a fs v hP hw hv k => va_get (D := D) (C := RX0) (T := TX0) (N := 8) hx hb ht xu_0 hown hK hP q0 hw rfl 4 (by decide) (ht _ xw_153) (fun _ h9 => h9) hv dX1_meetsInHeight_4 k) ?_
  refine xm_Oks.step (sn_ldR hG fun H locs cells slots ls rest x h k => lv_aload_n hx hb dX1_meetsInHeight_7 rfl h k) ?_
  refine xm_Oks.step (sn_getR hG rfl rfl (by decide) fun H locs cells slots ls rest q0 ws a fs v hP hw hv k => va_get (D := D) (C := RX1) (T := TX1) (N := 11) hx hb ht xu_1 hown hK hP q0 hw rfl 0 (by decide) (ht _ xw_35) (fun _ h9 => h9) hv dX1_meetsInHeight_8 k) ?_
  refine xm_Oks.step (sn_getI hG rfl rfl (by decide) (by decide) fun H locs cells slots ls rest q0 ws a fs v hP hw hv k => va_get (D := D) (C := RX0) (T := TX0) (N := 8) hx hb ht xu_0 hown hK hP q0 hw rfl 4 (by decide) (ht _ xw_153) (fun _ h9 => h9) hv dX1_meetsInHeight_11 k) ?_
  refine xm_Oks.step (sn_bin hG fun H locs cells slots ls rest x y k => lv_isub hx hb dX1_meetsInHeight_14 k) ?_
  refine xm_Oks.step (sn_stI hG fun H locs cells slots ls rest x lv lv9 h he k => lv_istore_n hx hb dX1_meetsInHeight_15 rfl h (by decide) he k) ?_
  refine xm_Oks.step (sn_ldR hG fun H locs cells slots ls rest x h k => lv_aload_n hx hb dX1_meetsInHeight_16 rfl h k) ?_
  refine xm_Oks.step (sn_getR hG rfl rfl (by decide) fun H locs cells slots ls rest q0 ws a fs v hP hw hv k => va_get (D := D) (C := RX1) (T := TX1) (N := 11) hx hb ht xu_1 hown hK hP q0 hw rfl 1 (by decide) (ht _ xw_36) (fun _ h9 => h9) hv dX1_meetsInHeight_17 k) ?_
  refine xm_Oks.step (sn_getI hG rfl rfl (by decide) (by decide) fun H locs cells slots ls rest q0 ws a fs v hP hw hv k => va_get (D := D) (C := RX0) (T := TX0) (N := 8) hx hb ht xu_0 hown hK hP q0 hw rfl 7 (by decide) (ht _ xw_154) (fun _ h9 => h9) hv dX1_meetsInHeight_20 k) ?_
  refine xm_Oks.step (sn_ldR hG fun H locs cells slots ls rest x h k => lv_aload_n hx hb dX1_meetsInHeight_23 rfl h k) ?_
  refine xm_Oks.step (sn_getR hG rfl rfl (by decide) fun H locs cells slots ls rest q0 ws a fs v hP hw hv k => va_get (D := D) (C := RX1) (T := TX1) (N := 11) hx hb ht xu_1 hown hK hP q0 hw rfl 0 (by decide) (ht _ xw_35) (fun _ h9 => h9) hv dX1_meetsInHeight_24 k) ?_
  refine xm_Oks.step (sn_getI hG rfl rfl (by decide) (by decide) fun H locs cells slots ls rest q0 ws a fs v hP hw hv k => va_get (D := D) (C := RX0) (T := TX0) (N := 8) hx hb ht xu_0 hown hK hP q0 hw rfl 7 (by decide) (ht _ xw_154) (fun _ h9 => h9) hv dX1_meetsInHeight_27 k) ?_
  refine xm_Oks.step (sn_bin hG fun H locs cells slots ls rest x y k => lv_isub hx hb dX1_meetsInHeight_30 k) ?_
  refine xm_Oks.step (sn_stI hG fun H locs cells slots ls rest x lv lv9 h he k => lv_istore_n hx hb dX1_meetsInHeight_31 rfl h (by decide) he k) ?_
  refine xm_Oks.step (sn_ldI hG fun H locs cells slots ls rest x h k => lv_iload_n hx hb dX1_meetsInHeight_32 rfl h k) ?_
  refine xm_Oks.step (sn_mun hG fun H locs cells slots ls rest x h1 h2 h3 h4 k => va_mabs hx hb (hml.trans h1.symm) hown (ht _ xw_155) (ht _ xw_156) (ht _ xw_10) (ht _ xw_157) (Nat.le_add_left 1 d) (by show _ + 13 ≤ 40 * (d + 1); omega) h2 h3 dX1_meetsInHeight_33 k) ?_
  refine xm_Oks.step (sn_ldR hG fun H locs cells slots ls rest x h k => lv_aload_n hx hb dX1_meetsInHeight_36 rfl h k) ?_
  refine xm_Oks.step (sn_getR hG rfl rfl (by decide) fun H locs cells slots ls rest q0 ws a fs v hP hw hv k => va_get (D := D) (C := RX1) (T := TX1) (N := 11) hx hb ht xu_1 hown hK hP q0 hw rfl 2 (by decide) (ht _ xw_37) (fun _ h9 => h9) hv dX1_meetsInHeight_37 k) ?_
  refine xm_Oks.call (xm_sndC hG hC (xm_callV ⟨hx, hb, hml, hown, hts⟩ xw_158 xw_159 xw_160 xw_45 xw_161 (by decide +kernel) dX1_meetsInHeight_40) (Nat.le_refl _) (by show 8 + (1 + 11) + 40 * d ≤ 40 * (d + 1); omega) (fun C0 h9 => by cases h9; exact ⟨2, _, _, by decide, by decide, rfl, rfl, rfl⟩) (fun as M v M1 mc ms h9 ad sz g1 g2 => ih 47 as M v M1 mc ms h9 ad sz g1 g2)) ?_
  refine xm_Oks.step (sn_icmp hG fun H locs cells slots ls rest x y kt kf => lv_icmp_le (tgt := 71) hx hb dX1_meetsInHeight_43 (by decide) kt kf) ?_
  refine xm_Oks.step (sn_ldI hG fun H locs cells slots ls rest x h k => lv_iload_n hx hb dX1_meetsInHeight_46 rfl h k) ?_
  refine xm_Oks.step (sn_ldI hG fun H locs cells slots ls rest x h k => lv_iload_n hx hb dX1_meetsInHeight_47 rfl h k) ?_
  refine xm_Oks.step (sn_bin hG fun H locs cells slots ls rest x y k => lv_imul hx hb dX1_meetsInHeight_48 k) ?_
  refine xm_Oks.step (sn_if hG fun H locs cells slots ls rest x kt kf => lv_if_ge (tgt := 75) hx hb dX1_meetsInHeight_49 (by decide) kt kf) ?_
  refine xm_Oks.step (sn_ldI hG fun H locs cells slots ls rest x h k => lv_iload_n hx hb dX1_meetsInHeight_52 rfl h k) ?_
  refine xm_Oks.step (sn_mun hG fun H locs cells slots ls rest x h1 h2 h3 h4 k => va_mabs hx hb (hml.trans h1.symm) hown (ht _ xw_155) (ht _ xw_156) (ht _ xw_10) (ht _ xw_157) (Nat.le_add_left 1 d) (by show _ + 13 ≤ 40 * (d + 1); omega) h2 h3 dX1_meetsInHeight_53 k) ?_
  refine xm_Oks.step (sn_ldR hG fun H locs cells slots ls rest x h k => lv_aload_n hx hb dX1_meetsInHeight_56 rfl h k) ?_
  refine xm_Oks.step (sn_getR hG rfl rfl (by decide) fun H locs cells slots ls rest q0 ws a fs v hP hw hv k => va_get (D := D) (C := RX1) (T := TX1) (N := 11) hx hb ht xu_1 hown hK hP q0 hw rfl 2 (by decide) (ht _ xw_37) (fun _ h9 => h9) hv dX1_meetsInHeight_57 k) ?_
  refine xm_Oks.call (xm_sndC hG hC (xm_callV ⟨hx, hb, hml, hown, hts⟩ xw_141 xw_142 xw_143 xw_45 xw_144 (by decide +kernel) dX1_meetsInHeight_60) (Nat.le_refl _) (by show 8 + (1 + 11) + 40 * d ≤ 40 * (d + 1); omega) (fun C0 h9 => by cases h9; exact ⟨2, _, _, by decide, by decide, rfl, rfl, rfl⟩) (fun as M v M1 mc ms h9 ad sz g1 g2 => ih 44 as M v M1 mc ms h9 ad sz g1 g2)) ?_
  refine xm_Oks.step (sn_ldI hG fun H locs cells slots ls rest x h k => lv_iload_n hx hb dX1_meetsInHeight_63 rfl h k) ?_
  refine xm_Oks.step (sn_mun hG fun H locs cells slots ls rest x h1 h2 h3 h4 k => va_mabs hx hb (hml.trans h1.symm) hown (ht _ xw_155) (ht _ xw_156) (ht _ xw_10) (ht _ xw_157) (Nat.le_add_left 1 d) (by show _ + 13 ≤ 40 * (d + 1); omega) h2 h3 dX1_meetsInHeight_64 k) ?_
  refine xm_Oks.step (sn_bin hG fun H locs cells slots ls rest x y k => lv_imul hx hb dX1_meetsInHeight_67 k) ?_
  refine xm_Oks.step (sn_icmp hG fun H locs cells slots ls rest x y kt kf => lv_icmp_gt (tgt := 75) hx hb dX1_meetsInHeight_68 (by decide) kt kf) ?_
  refine xm_Oks.step (sn_push hG (fun _ => trivial) fun ad H locs cells slots ls rest k => lv_iconst hx hb dX1_meetsInHeight_71 (by decide) k) ?_
  refine xm_Oks.step (sn_goto hG fun H locs cells slots ls rest k => lv_goto (tgt := 76) hx hb dX1_meetsInHeight_72 (by decide) k) ?_
  refine xm_Oks.step (sn_push hG (fun _ => trivial) fun ad H locs cells slots ls rest k => lv_iconst hx hb dX1_meetsInHeight_75 (by decide) k) ?_
  refine xm_Oks.stop ?_
  exact trivial
set_option maxHeartbeats 4000000 in
set_option maxRecDepth 100000 in
theorem xk_X1_nearSquared : xm_MOk xp_pg xp_pm 32 := by
  refine ⟨by decide +kernel, rfl, ?_, ?_⟩
  · show xm_Oks _ xt_X1_nearSquared
    exact ⟨trivial, trivial, trivial, trivial, trivial, trivial, trivial, trivial, ⟨dX1_nearSquared_12, rfl⟩, trivial⟩
  intro d mc ms p l e s m args below meth c Q cA D A tS ad0 o0 G hG hC hn ih
  have hG : xm_IsG p l e (xm_room (d + 1) mc ms) s m args below meth c Q cA D A tS 3 ad0 o0 G := hG
  have hC : xm_Cx p s m args c cX1_nearSquared 3 RX1 (Cond.code yX1_nearSquared cX1_nearSquared 3 (some .long) :: xm_W) cA D A tS := hC
  have hn : meth.name = "nearSquared" := hn
  obtain ⟨hx, hb, hml, hown, hts, hK, hA, hSx, hNx⟩ := id hC
  have ht : ∀ w ∈ xm_W, w.before args s = true := fun w h => hts w (List.mem_cons_of_mem _ h)
  show xm_Oks (xm_Ent (xm_room (d + 1) mc ms) G (xm_Do xp_pg d)) xt_X1_nearSquared
  unfold xt_X1_nearSquared
  refine xm_Oks.step (sn_ldR hG fun H locs cells slots ls rest x h k => lv_aload_n hx hb dX1_nearSquared_0 rfl h k) ?_
  refine xm_Oks.step (sn_getR hG rfl rfl (by decide) fun H locs cells slots ls rest q0 ws a fs v hP hw hv k => va_get (D := D) (C := RX1) (T := TX1) (N := 11) hx hb ht xu_1 hown hK hP q0 hw rfl 2 (by decide) (ht _ xw_37) (fun _ h9 => h9) hv dX1_nearSquared_1 k) ?_
  refine xm_Oks.call (xm_sndC hG hC (xm_callV ⟨hx, hb, hml, hown, hts⟩ xw_162 xw_163 xw_164 xw_45 xw_165 (by decide +kernel) dX1_nearSquared_4) (Nat.le_refl _) (by show 8 + (1 + 11) + 40 * d ≤ 40 * (d + 1); omega) (fun C0 h9 => by cases h9; exact ⟨2, _, _, by decide, by decide, rfl, rfl, rfl⟩) (fun as M v M1 mc ms h9 ad sz g1 g2 => ih 45 as M v M1 mc ms h9 ad sz g1 g2)) ?_
  refine xm_Oks.step (sn_one hG xg_i2l_inv (fun _ _ => trivial) fun ad H locs cells slots ls rest x k => lv_i2l hx hb dX1_nearSquared_7 rfl k) ?_
  refine xm_Oks.step (sn_stL hG fun H locs cells slots ls rest x lv lv9 h he k => lv_lstore_n hx hb dX1_nearSquared_8 rfl h (by decide) he k) ?_
  refine xm_Oks.step (sn_ldL hG fun H locs cells slots ls rest x h k => lv_lload_n hx hb dX1_nearSquared_9 rfl h k) ?_
  refine xm_Oks.step (sn_ldL hG fun H locs cells slots ls rest x h k => lv_lload_n hx hb dX1_nearSquared_10 rfl h k) ?_
  refine xm_Oks.step (sn_binL hG fun H locs cells slots ls rest x y k => lv_lmul hx hb dX1_nearSquared_11 k) ?_
  refine xm_Oks.stop ?_
  exact trivial
set_option maxHeartbeats 4000000 in
set_option maxRecDepth 100000 in
theorem xk_X1_distanceSquared : xm_MOk xp_pg xp_pm 33 := by
  refine ⟨by decide +kernel, rfl, ?_, ?_⟩
  · show xm_Oks _ xt_X1_distanceSquared
    exact ⟨trivial, trivial, trivial, trivial, trivial, trivial, trivial, trivial, trivial, trivial, trivial, trivial, trivial, trivial, trivial, trivial, trivial, trivial, trivial, trivial, trivial, trivial, trivial, trivial, trivial, ⟨dX1_distanceSquared_41, rfl⟩, trivial⟩
  intro d mc ms p l e s m args below meth c Q cA D A tS ad0 o0 G hG hC hn ih
  have hG : xm_IsG p l e (xm_room (d + 1) mc ms) s m args below meth c Q cA D A tS 5 ad0 o0 G := hG
  have hC : xm_Cx p s m args c cX1_distanceSquared 5 RX1 (Cond.code yX1_distanceSquared cX1_distanceSquared 5 (some .long) :: xm_W) cA D A tS := hC
  have hn : meth.name = "distanceSquared" := hn
  obtain ⟨hx, hb, hml, hown, hts, hK, hA, hSx, hNx⟩ := id hC
  have ht : ∀ w ∈ xm_W, w.before args s = true := fun w h => hts w (List.mem_cons_of_mem _ h)
  show xm_Oks (xm_Ent (xm_room (d + 1) mc ms) G (xm_Do xp_pg d)) xt_X1_distanceSquared
  unfold xt_X1_distanceSquared
  refine xm_Oks.step (sn_ldR hG fun H locs cells slots ls rest x h k => lv_aload_n hx hb dX1_distanceSquared_0 rfl h k) ?_
  refine xm_Oks.step (sn_getR hG rfl rfl (by decide) fun H locs cells slots ls rest q0 ws a fs v hP hw hv k => va_get (D := D) (C := RX1) (T := TX1) (N := 11) hx hb ht xu_1 hown hK hP q0 hw rfl 1 (by decide) (ht _ xw_36) (fun _ h9 => h9) hv dX1_distanceSquared_1 k) ?_
  refine xm_Oks.step (sn_getI hG rfl rfl (by decide) (by decide) fun H locs cells slots ls rest q0 ws a fs v hP hw hv k => va_get (D := D) (C := RX0) (T := TX0) (N := 8) hx hb ht xu_0 hown hK hP q0 hw rfl 2 (by decide) (ht _ xw_145) (fun _ h9 => h9) hv dX1_distanceSquared_4 k) ?_
  refine xm_Oks.step (sn_ldR hG fun H locs cells slots ls rest x h k => lv_aload_n hx hb dX1_distanceSquared_7 rfl h k) ?_
  refine xm_Oks.step (sn_getR hG rfl rfl (by decide) fun H locs cells slots ls rest q0 ws a fs v hP hw hv k => va_get (D := D) (C := RX1) (T := TX1) (N := 11) hx hb ht xu_1 hown hK hP q0 hw rfl 0 (by decide) (ht _ xw_35) (fun _ h9 => h9) hv dX1_distanceSquared_8 k) ?_
  refine xm_Oks.step (sn_getI hG rfl rfl (by decide) (by decide) fun H locs cells slots ls rest q0 ws a fs v hP hw hv k => va_get (D := D) (C := RX0) (T := TX0) (N := 8) hx hb ht xu_0 hown hK hP q0 hw rfl 2 (by decide) (ht _ xw_145) (fun _ h9 => h9) hv dX1_distanceSquared_11 k) ?_
  refine xm_Oks.step (sn_bin hG fun H locs cells slots ls rest x y k => lv_isub hx hb dX1_distanceSquared_14 k) ?_
  refine xm_Oks.step (sn_one hG xg_i2l_inv (fun _ _ => trivial) fun ad H locs cells slots ls rest x k => lv_i2l hx hb dX1_distanceSquared_15 rfl k) ?_
  refine xm_Oks.step (sn_stL hG fun H locs cells slots ls rest x lv lv9 h he k => lv_lstore_n hx hb dX1_distanceSquared_16 rfl h (by decide) he k) ?_
  refine xm_Oks.step (sn_ldR hG fun H locs cells slots ls rest x h k => lv_aload_n hx hb dX1_distanceSquared_17 rfl h k) ?_
  refine xm_Oks.step (sn_getR hG rfl rfl (by decide) fun H locs cells slots ls rest q0 ws a fs v hP hw hv k => va_get (D := D) (C := RX1) (T := TX1) (N := 11) hx hb ht xu_1 hown hK hP q0 hw rfl 1 (by decide) (ht _ xw_36) (fun _ h9 => h9) hv dX1_distanceSquared_18 k) ?_
  refine xm_Oks.step (sn_getI hG rfl rfl (by decide) (by decide) fun H locs cells slots ls rest q0 ws a fs v hP hw hv k => va_get (D := D) (C := RX0) (T := TX0) (N := 8) hx hb ht xu_0 hown hK hP q0 hw rfl 3 (by decide) (ht _ xw_146) (fun _ h9 => h9) hv dX1_distanceSquared_21 k) ?_
  refine xm_Oks.step (sn_ldR hG fun H locs cells slots ls rest x h k => lv_aload_n hx hb dX1_distanceSquared_24 rfl h k) ?_
  refine xm_Oks.step (sn_getR hG rfl rfl (by decide) fun H locs cells slots ls rest q0 ws a fs v hP hw hv k => va_get (D := D) (C := RX1) (T := TX1) (N := 11) hx hb ht xu_1 hown hK hP q0 hw rfl 0 (by decide) (ht _ xw_35) (fun _ h9 => h9) hv dX1_distanceSquared_25 k) ?_
  refine xm_Oks.step (sn_getI hG rfl rfl (by decide) (by decide) fun H locs cells slots ls rest q0 ws a fs v hP hw hv k => va_get (D := D) (C := RX0) (T := TX0) (N := 8) hx hb ht xu_0 hown hK hP q0 hw rfl 3 (by decide) (ht _ xw_146) (fun _ h9 => h9) hv dX1_distanceSquared_28 k) ?_
  refine xm_Oks.step (sn_bin hG fun H locs cells slots ls rest x y k => lv_isub hx hb dX1_distanceSquared_31 k) ?_
  refine xm_Oks.step (sn_one hG xg_i2l_inv (fun _ _ => trivial) fun ad H locs cells slots ls rest x k => lv_i2l hx hb dX1_distanceSquared_32 rfl k) ?_
  refine xm_Oks.step (sn_stL hG fun H locs cells slots ls rest x lv lv9 h he k => lv_lstore_n hx hb dX1_distanceSquared_33 rfl h (by decide) he k) ?_
  refine xm_Oks.step (sn_ldL hG fun H locs cells slots ls rest x h k => lv_lload_n hx hb dX1_distanceSquared_34 rfl h k) ?_
  refine xm_Oks.step (sn_ldL hG fun H locs cells slots ls rest x h k => lv_lload_n hx hb dX1_distanceSquared_35 rfl h k) ?_
  refine xm_Oks.step (sn_binL hG fun H locs cells slots ls rest x y k => lv_lmul hx hb dX1_distanceSquared_36 k) ?_
  refine xm_Oks.step (sn_ldL hG fun H locs cells slots ls rest x h k => lv_lload_n hx hb dX1_distanceSquared_37 rfl h k) ?_
  refine xm_Oks.step (sn_ldL hG fun H locs cells slots ls rest x h k => lv_lload_n hx hb dX1_distanceSquared_38 rfl h k) ?_
  refine xm_Oks.step (sn_binL hG fun H locs cells slots ls rest x y k => lv_lmul hx hb dX1_distanceSquared_39 k) ?_
  refine xm_Oks.step (sn_binL hG fun H locs cells slots ls rest x y k => lv_ladd hx hb dX1_distanceSquared_40 k) ?_
  refine xm_Oks.stop ?_
  exact trivial
set_option maxHeartbeats 4000000 in
set_option maxRecDepth 100000 in
theorem xk_X1_heightBetween : xm_MOk xp_pg xp_pm 34 := by
  refine ⟨by decide +kernel, rfl, ?_, ?_⟩
  · show xm_Oks _ xt_X1_heightBetween
    exact ⟨trivial, trivial, trivial, trivial, trivial, trivial, trivial, trivial, ⟨dX1_heightBetween_18, rfl⟩, trivial⟩
  intro d mc ms p l e s m args below meth c Q cA D A tS ad0 o0 G hG hC hn ih
  have hG : xm_IsG p l e (xm_room (d + 1) mc ms) s m args below meth c Q cA D A tS 1 ad0 o0 G := hG
  have hC : xm_Cx p s m args c cX1_heightBetween 1 RX1 (Cond.code yX1_heightBetween cX1_heightBetween 1 (some .int) :: xm_W) cA D A tS := hC
  have hn : meth.name = "heightBetween" := hn
  obtain ⟨hx, hb, hml, hown, hts, hK, hA, hSx, hNx⟩ := id hC
  have ht : ∀ w ∈ xm_W, w.before args s = true := fun w h => hts w (List.mem_cons_of_mem _ h)
  show xm_Oks (xm_Ent (xm_room (d + 1) mc ms) G (xm_Do xp_pg d)) xt_X1_heightBetween
  unfold xt_X1_heightBetween
  refine xm_Oks.step (sn_ldR hG fun H locs cells slots ls rest x h k => lv_aload_n hx hb dX1_heightBetween_0 rfl h k) ?_
  refine xm_Oks.step (sn_getR hG rfl rfl (by decide) fun H locs cells slots ls rest q0 ws a fs v hP hw hv k => va_get (D := D) (C := RX1) (T := TX1) (N := 11) hx hb ht xu_1 hown hK hP q0 hw rfl 1 (by decide) (ht _ xw_36) (fun _ h9 => h9) hv dX1_heightBetween_1 k) ?_
  refine xm_Oks.step (sn_getI hG rfl rfl (by decide) (by decide) fun H locs cells slots ls rest q0 ws a fs v hP hw hv k => va_get (D := D) (C := RX0) (T := TX0) (N := 8) hx hb ht xu_0 hown hK hP q0 hw rfl 4 (by decide) (ht _ xw_153) (fun _ h9 => h9) hv dX1_heightBetween_4 k) ?_
  refine xm_Oks.step (sn_ldR hG fun H locs cells slots ls rest x h k => lv_aload_n hx hb dX1_heightBetween_7 rfl h k) ?_
  refine xm_Oks.step (sn_getR hG rfl rfl (by decide) fun H locs cells slots ls rest q0 ws a fs v hP hw hv k => va_get (D := D) (C := RX1) (T := TX1) (N := 11) hx hb ht xu_1 hown hK hP q0 hw rfl 0 (by decide) (ht _ xw_35) (fun _ h9 => h9) hv dX1_heightBetween_8 k) ?_
  refine xm_Oks.step (sn_getI hG rfl rfl (by decide) (by decide) fun H locs cells slots ls rest q0 ws a fs v hP hw hv k => va_get (D := D) (C := RX0) (T := TX0) (N := 8) hx hb ht xu_0 hown hK hP q0 hw rfl 4 (by decide) (ht _ xw_153) (fun _ h9 => h9) hv dX1_heightBetween_11 k) ?_
  refine xm_Oks.step (sn_bin hG fun H locs cells slots ls rest x y k => lv_isub hx hb dX1_heightBetween_14 k) ?_
  refine xm_Oks.step (sn_mun hG fun H locs cells slots ls rest x h1 h2 h3 h4 k => va_mabs hx hb (hml.trans h1.symm) hown (ht _ xw_155) (ht _ xw_156) (ht _ xw_10) (ht _ xw_157) (Nat.le_add_left 1 d) (by show _ + 13 ≤ 40 * (d + 1); omega) h2 h3 dX1_heightBetween_15 k) ?_
  refine xm_Oks.stop ?_
  exact trivial
set_option maxHeartbeats 4000000 in
set_option maxRecDepth 100000 in
theorem xk_X1_closing : xm_MOk xp_pg xp_pm 35 := by
  refine ⟨by decide +kernel, rfl, ?_, ?_⟩
  · show xm_Oks _ xt_X1_closing
    exact ⟨trivial, trivial, trivial, trivial, trivial, trivial, trivial, trivial, trivial, trivial, trivial, trivial, trivial, trivial, trivial, trivial, trivial, trivial, trivial, trivial, trivial, trivial, trivial, trivial, trivial, trivial, trivial, trivial, trivial, trivial, trivial, trivial, trivial, trivial, trivial, trivial, trivial, trivial, trivial, trivial, trivial, trivial, trivial, ⟨dX1_closing_79, rfl⟩, trivial⟩
  intro d mc ms p l e s m args below meth c Q cA D A tS ad0 o0 G hG hC hn ih
  have hG : xm_IsG p l e (xm_room (d + 1) mc ms) s m args below meth c Q cA D A tS 9 ad0 o0 G := hG
  have hC : xm_Cx p s m args c cX1_closing 9 RX1 (Cond.code yX1_closing cX1_closing 9 (some .long) :: xm_W) cA D A tS := hC
  have hn : meth.name = "closing" := hn
  obtain ⟨hx, hb, hml, hown, hts, hK, hA, hSx, hNx⟩ := id hC
  have ht : ∀ w ∈ xm_W, w.before args s = true := fun w h => hts w (List.mem_cons_of_mem _ h)
  show xm_Oks (xm_Ent (xm_room (d + 1) mc ms) G (xm_Do xp_pg d)) xt_X1_closing
  unfold xt_X1_closing
  refine xm_Oks.step (sn_ldR hG fun H locs cells slots ls rest x h k => lv_aload_n hx hb dX1_closing_0 rfl h k) ?_
  refine xm_Oks.step (sn_getR hG rfl rfl (by decide) fun H locs cells slots ls rest q0 ws a fs v hP hw hv k => va_get (D := D) (C := RX1) (T := TX1) (N := 11) hx hb ht xu_1 hown hK hP q0 hw rfl 1 (by decide) (ht _ xw_36) (fun _ h9 => h9) hv dX1_closing_1 k) ?_
  refine xm_Oks.step (sn_getI hG rfl rfl (by decide) (by decide) fun H locs cells slots ls rest q0 ws a fs v hP hw hv k => va_get (D := D) (C := RX0) (T := TX0) (N := 8) hx hb ht xu_0 hown hK hP q0 hw rfl 2 (by decide) (ht _ xw_145) (fun _ h9 => h9) hv dX1_closing_4 k) ?_
  refine xm_Oks.step (sn_ldR hG fun H locs cells slots ls rest x h k => lv_aload_n hx hb dX1_closing_7 rfl h k) ?_
  refine xm_Oks.step (sn_getR hG rfl rfl (by decide) fun H locs cells slots ls rest q0 ws a fs v hP hw hv k => va_get (D := D) (C := RX1) (T := TX1) (N := 11) hx hb ht xu_1 hown hK hP q0 hw rfl 0 (by decide) (ht _ xw_35) (fun _ h9 => h9) hv dX1_closing_8 k) ?_
  refine xm_Oks.step (sn_getI hG rfl rfl (by decide) (by decide) fun H locs cells slots ls rest q0 ws a fs v hP hw hv k => va_get (D := D) (C := RX0) (T := TX0) (N := 8) hx hb ht xu_0 hown hK hP q0 hw rfl 2 (by decide) (ht _ xw_145) (fun _ h9 => h9) hv dX1_closing_11 k) ?_
  refine xm_Oks.step (sn_bin hG fun H locs cells slots ls rest x y k => lv_isub hx hb dX1_closing_14 k) ?_
  refine xm_Oks.step (sn_one hG xg_i2l_inv (fun _ _ => trivial) fun ad H locs cells slots ls rest x k => lv_i2l hx hb dX1_closing_15 rfl k) ?_
  refine xm_Oks.step (sn_stL hG fun H locs cells slots ls rest x lv lv9 h he k => lv_lstore_n hx hb dX1_closing_16 rfl h (by decide) he k) ?_
  refine xm_Oks.step (sn_ldR hG fun H locs cells slots ls rest x h k => lv_aload_n hx hb dX1_closing_17 rfl h k) ?_
  refine xm_Oks.step (sn_getR hG rfl rfl (by decide) fun H locs cells slots ls rest q0 ws a fs v hP hw hv k => va_get (D := D) (C := RX1) (T := TX1) (N := 11) hx hb ht xu_1 hown hK hP q0 hw rfl 1 (by decide) (ht _ xw_36) (fun _ h9 => h9) hv dX1_closing_18 k) ?_
  refine xm_Oks.step (sn_getI hG rfl rfl (by decide) (by decide) fun H locs cells slots ls rest q0 ws a fs v hP hw hv k => va_get (D := D) (C := RX0) (T := TX0) (N := 8) hx hb ht xu_0 hown hK hP q0 hw rfl 3 (by decide) (ht _ xw_146) (fun _ h9 => h9) hv dX1_closing_21 k) ?_
  refine xm_Oks.step (sn_ldR hG fun H locs cells slots ls rest x h k => lv_aload_n hx hb dX1_closing_24 rfl h k) ?_
  refine xm_Oks.step (sn_getR hG rfl rfl (by decide) fun H locs cells slots ls rest q0 ws a fs v hP hw hv k => va_get (D := D) (C := RX1) (T := TX1) (N := 11) hx hb ht xu_1 hown hK hP q0 hw rfl 0 (by decide) (ht _ xw_35) (fun _ h9 => h9) hv dX1_closing_25 k) ?_
  refine xm_Oks.step (sn_getI hG rfl rfl (by decide) (by decide) fun H locs cells slots ls rest q0 ws a fs v hP hw hv k => va_get (D := D) (C := RX0) (T := TX0) (N := 8) hx hb ht xu_0 hown hK hP q0 hw rfl 3 (by decide) (ht _ xw_146) (fun _ h9 => h9) hv dX1_closing_28 k) ?_
  refine xm_Oks.step (sn_bin hG fun H locs cells slots ls rest x y k => lv_isub hx hb dX1_closing_31 k) ?_
  refine xm_Oks.step (sn_one hG xg_i2l_inv (fun _ _ => trivial) fun ad H locs cells slots ls rest x k => lv_i2l hx hb dX1_closing_32 rfl k) ?_
  refine xm_Oks.step (sn_stL hG fun H locs cells slots ls rest x lv lv9 h he k => lv_lstore_n hx hb dX1_closing_33 rfl h (by decide) he k) ?_
  refine xm_Oks.step (sn_ldR hG fun H locs cells slots ls rest x h k => lv_aload_n hx hb dX1_closing_34 rfl h k) ?_
  refine xm_Oks.step (sn_getR hG rfl rfl (by decide) fun H locs cells slots ls rest q0 ws a fs v hP hw hv k => va_get (D := D) (C := RX1) (T := TX1) (N := 11) hx hb ht xu_1 hown hK hP q0 hw rfl 1 (by decide) (ht _ xw_36) (fun _ h9 => h9) hv dX1_closing_35 k) ?_
  refine xm_Oks.step (sn_getI hG rfl rfl (by decide) (by decide) fun H locs cells slots ls rest q0 ws a fs v hP hw hv k => va_get (D := D) (C := RX0) (T := TX0) (N := 8) hx hb ht xu_0 hown hK hP q0 hw rfl 5 (by decide) (ht _ xw_147) (fun _ h9 => h9) hv dX1_closing_38 k) ?_
  refine xm_Oks.step (sn_ldR hG fun H locs cells slots ls rest x h k => lv_aload_n hx hb dX1_closing_41 rfl h k) ?_
  refine xm_Oks.step (sn_getR hG rfl rfl (by decide) fun H locs cells slots ls rest q0 ws a fs v hP hw hv k => va_get (D := D) (C := RX1) (T := TX1) (N := 11) hx hb ht xu_1 hown hK hP q0 hw rfl 0 (by decide) (ht _ xw_35) (fun _ h9 => h9) hv dX1_closing_42 k) ?_
  refine xm_Oks.step (sn_getI hG rfl rfl (by decide) (by decide) fun H locs cells slots ls rest q0 ws a fs v hP hw hv k => va_get (D := D) (C := RX0) (T := TX0) (N := 8) hx hb ht xu_0 hown hK hP q0 hw rfl 5 (by decide) (ht _ xw_147) (fun _ h9 => h9) hv dX1_closing_45 k) ?_
  refine xm_Oks.step (sn_bin hG fun H locs cells slots ls rest x y k => lv_isub hx hb dX1_closing_48 k) ?_
  refine xm_Oks.step (sn_one hG xg_i2l_inv (fun _ _ => trivial) fun ad H locs cells slots ls rest x k => lv_i2l hx hb dX1_closing_49 rfl k) ?_
  refine xm_Oks.step (sn_stL hG fun H locs cells slots ls rest x lv lv9 h he k => lv_lstore hx hb dX1_closing_50 h (by decide) he k) ?_
  refine xm_Oks.step (sn_ldR hG fun H locs cells slots ls rest x h k => lv_aload_n hx hb dX1_closing_52 rfl h k) ?_
  refine xm_Oks.step (sn_getR hG rfl rfl (by decide) fun H locs cells slots ls rest q0 ws a fs v hP hw hv k => va_get (D := D) (C := RX1) (T := TX1) (N := 11) hx hb ht xu_1 hown hK hP q0 hw rfl 1 (by decide) (ht _ xw_36) (fun _ h9 => h9) hv dX1_closing_53 k) ?_
  refine xm_Oks.step (sn_getI hG rfl rfl (by decide) (by decide) fun H locs cells slots ls rest q0 ws a fs v hP hw hv k => va_get (D := D) (C := RX0) (T := TX0) (N := 8) hx hb ht xu_0 hown hK hP q0 hw rfl 6 (by decide) (ht _ xw_148) (fun _ h9 => h9) hv dX1_closing_56 k) ?_
  refine xm_Oks.step (sn_ldR hG fun H locs cells slots ls rest x h k => lv_aload_n hx hb dX1_closing_59 rfl h k) ?_
  refine xm_Oks.step (sn_getR hG rfl rfl (by decide) fun H locs cells slots ls rest q0 ws a fs v hP hw hv k => va_get (D := D) (C := RX1) (T := TX1) (N := 11) hx hb ht xu_1 hown hK hP q0 hw rfl 0 (by decide) (ht _ xw_35) (fun _ h9 => h9) hv dX1_closing_60 k) ?_
  refine xm_Oks.step (sn_getI hG rfl rfl (by decide) (by decide) fun H locs cells slots ls rest q0 ws a fs v hP hw hv k => va_get (D := D) (C := RX0) (T := TX0) (N := 8) hx hb ht xu_0 hown hK hP q0 hw rfl 6 (by decide) (ht _ xw_148) (fun _ h9 => h9) hv dX1_closing_63 k) ?_
  refine xm_Oks.step (sn_bin hG fun H locs cells slots ls rest x y k => lv_isub hx hb dX1_closing_66 k) ?_
  refine xm_Oks.step (sn_one hG xg_i2l_inv (fun _ _ => trivial) fun ad H locs cells slots ls rest x k => lv_i2l hx hb dX1_closing_67 rfl k) ?_
  refine xm_Oks.step (sn_stL hG fun H locs cells slots ls rest x lv lv9 h he k => lv_lstore hx hb dX1_closing_68 h (by decide) he k) ?_
  refine xm_Oks.step (sn_ldL hG fun H locs cells slots ls rest x h k => lv_lload_n hx hb dX1_closing_70 rfl h k) ?_
  refine xm_Oks.step (sn_ldL hG fun H locs cells slots ls rest x h k => lv_lload hx hb dX1_closing_71 h k) ?_
  refine xm_Oks.step (sn_binL hG fun H locs cells slots ls rest x y k => lv_lmul hx hb dX1_closing_73 k) ?_
  refine xm_Oks.step (sn_ldL hG fun H locs cells slots ls rest x h k => lv_lload_n hx hb dX1_closing_74 rfl h k) ?_
  refine xm_Oks.step (sn_ldL hG fun H locs cells slots ls rest x h k => lv_lload hx hb dX1_closing_75 h k) ?_
  refine xm_Oks.step (sn_binL hG fun H locs cells slots ls rest x y k => lv_lmul hx hb dX1_closing_77 k) ?_
  refine xm_Oks.step (sn_binL hG fun H locs cells slots ls rest x y k => lv_ladd hx hb dX1_closing_78 k) ?_
  refine xm_Oks.stop ?_
  exact trivial
set_option maxHeartbeats 4000000 in
set_option maxRecDepth 100000 in
theorem xk_X1_timeLeft : xm_MOk xp_pg xp_pm 36 := by
  refine ⟨by decide +kernel, rfl, ?_, ?_⟩
  · show xm_Oks _ xt_X1_timeLeft
    exact ⟨trivial, trivial, trivial, trivial, trivial, trivial, trivial, trivial, trivial, trivial, trivial, trivial, trivial, trivial, trivial, trivial, trivial, trivial, trivial, trivial, trivial, trivial, trivial, trivial, trivial, trivial, trivial, trivial, trivial, trivial, trivial, trivial, trivial, trivial, trivial, trivial, trivial, trivial, ⟨dX1_timeLeft_64, rfl⟩, trivial, trivial, trivial, trivial, trivial, trivial, trivial, trivial, trivial, trivial, ⟨dX1_timeLeft_83, rfl⟩, trivial⟩
  intro d mc ms p l e s m args below meth c Q cA D A tS ad0 o0 G hG hC hn ih
  have hG : xm_IsG p l e (xm_room (d + 1) mc ms) s m args below meth c Q cA D A tS 9 ad0 o0 G := hG
  have hC : xm_Cx p s m args c cX1_timeLeft 9 RX1 (Cond.code yX1_timeLeft cX1_timeLeft 9 (some .int) :: xm_W) cA D A tS := hC
  have hn : meth.name = "timeLeft" := hn
  obtain ⟨hx, hb, hml, hown, hts, hK, hA, hSx, hNx⟩ := id hC
  have ht : ∀ w ∈ xm_W, w.before args s = true := fun w h => hts w (List.mem_cons_of_mem _ h)
  show xm_Oks (xm_Ent (xm_room (d + 1) mc ms) G (xm_Do xp_pg d)) xt_X1_timeLeft
  unfold xt_X1_timeLeft
  refine xm_Oks.step (sn_ldR hG fun H locs cells slots ls rest x h k => lv_aload_n hx hb dX1_timeLeft_0 rfl h k) ?_
  refine xm_Oks.step (sn_getR hG rfl rfl (by decide) fun H locs cells slots ls rest q0 ws a fs v hP hw hv k => va_get (D := D) (C := RX1) (T := TX1) (N := 11) hx hb ht xu_1 hown hK hP q0 hw rfl 1 (by decide) (ht _ xw_36) (fun _ h9 => h9) hv dX1_timeLeft_1 k) ?_
  refine xm_Oks.step (sn_getI hG rfl rfl (by decide) (by decide) fun H locs cells slots ls rest q0 ws a fs v hP hw hv k => va_get (D := D) (C := RX0) (T := TX0) (N := 8) hx hb ht xu_0 hown hK hP q0 hw rfl 5 (by decide) (ht _ xw_147) (fun _ h9 => h9) hv dX1_timeLeft_4 k) ?_
  refine xm_Oks.step (sn_ldR hG fun H locs cells slots ls rest x h k => lv_aload_n hx hb dX1_timeLeft_7 rfl h k) ?_
  refine xm_Oks.step (sn_getR hG rfl rfl (by decide) fun H locs cells slots ls rest q0 ws a fs v hP hw hv k => va_get (D := D) (C := RX1) (T := TX1) (N := 11) hx hb ht xu_1 hown hK hP q0 hw rfl 0 (by decide) (ht _ xw_35) (fun _ h9 => h9) hv dX1_timeLeft_8 k) ?_
  refine xm_Oks.step (sn_getI hG rfl rfl (by decide) (by decide) fun H locs cells slots ls rest q0 ws a fs v hP hw hv k => va_get (D := D) (C := RX0) (T := TX0) (N := 8) hx hb ht xu_0 hown hK hP q0 hw rfl 5 (by decide) (ht _ xw_147) (fun _ h9 => h9) hv dX1_timeLeft_11 k) ?_
  refine xm_Oks.step (sn_bin hG fun H locs cells slots ls rest x y k => lv_isub hx hb dX1_timeLeft_14 k) ?_
  refine xm_Oks.step (sn_one hG xg_i2l_inv (fun _ _ => trivial) fun ad H locs cells slots ls rest x k => lv_i2l hx hb dX1_timeLeft_15 rfl k) ?_
  refine xm_Oks.step (sn_stL hG fun H locs cells slots ls rest x lv lv9 h he k => lv_lstore_n hx hb dX1_timeLeft_16 rfl h (by decide) he k) ?_
  refine xm_Oks.step (sn_ldR hG fun H locs cells slots ls rest x h k => lv_aload_n hx hb dX1_timeLeft_17 rfl h k) ?_
  refine xm_Oks.step (sn_getR hG rfl rfl (by decide) fun H locs cells slots ls rest q0 ws a fs v hP hw hv k => va_get (D := D) (C := RX1) (T := TX1) (N := 11) hx hb ht xu_1 hown hK hP q0 hw rfl 1 (by decide) (ht _ xw_36) (fun _ h9 => h9) hv dX1_timeLeft_18 k) ?_
  refine xm_Oks.step (sn_getI hG rfl rfl (by decide) (by decide) fun H locs cells slots ls rest q0 ws a fs v hP hw hv k => va_get (D := D) (C := RX0) (T := TX0) (N := 8) hx hb ht xu_0 hown hK hP q0 hw rfl 6 (by decide) (ht _ xw_148) (fun _ h9 => h9) hv dX1_timeLeft_21 k) ?_
  refine xm_Oks.step (sn_ldR hG fun H locs cells slots ls rest x h k => lv_aload_n hx hb dX1_timeLeft_24 rfl h k) ?_
  refine xm_Oks.step (sn_getR hG rfl rfl (by decide) fun H locs cells slots ls rest q0 ws a fs v hP hw hv k => va_get (D := D) (C := RX1) (T := TX1) (N := 11) hx hb ht xu_1 hown hK hP q0 hw rfl 0 (by decide) (ht _ xw_35) (fun _ h9 => h9) hv dX1_timeLeft_25 k) ?_
  refine xm_Oks.step (sn_getI hG rfl rfl (by decide) (by decide) fun H locs cells slots ls rest q0 ws a fs v hP hw hv k => va_get (D := D) (C := RX0) (T := TX0) (N := 8) hx hb ht xu_0 hown hK hP q0 hw rfl 6 (by decide) (ht _ xw_148) (fun _ h9 => h9) hv dX1_timeLeft_28 k) ?_
  refine xm_Oks.step (sn_bin hG fun H locs cells slots ls rest x y k => lv_isub hx hb dX1_timeLeft_31 k) ?_
  refine xm_Oks.step (sn_one hG xg_i2l_inv (fun _ _ => trivial) fun ad H locs cells slots ls rest x k => lv_i2l hx hb dX1_timeLeft_32 rfl k) ?_
  refine xm_Oks.step (sn_stL hG fun H locs cells slots ls rest x lv lv9 h he k => lv_lstore_n hx hb dX1_timeLeft_33 rfl h (by decide) he k) ?_
  refine xm_Oks.step (sn_ldL hG fun H locs cells slots ls rest x h k => lv_lload_n hx hb dX1_timeLeft_34 rfl h k) ?_
  refine xm_Oks.step (sn_ldL hG fun H locs cells slots ls rest x h k => lv_lload_n hx hb dX1_timeLeft_35 rfl h k) ?_
  refine xm_Oks.step (sn_binL hG fun H locs cells slots ls rest x y k => lv_lmul hx hb dX1_timeLeft_36 k) ?_
  refine xm_Oks.step (sn_ldL hG fun H locs cells slots ls rest x h k => lv_lload_n hx hb dX1_timeLeft_37 rfl h k) ?_
  refine xm_Oks.step (sn_ldL hG fun H locs cells slots ls rest x h k => lv_lload_n hx hb dX1_timeLeft_38 rfl h k) ?_
  refine xm_Oks.step (sn_binL hG fun H locs cells slots ls rest x y k => lv_lmul hx hb dX1_timeLeft_39 k) ?_
  refine xm_Oks.step (sn_binL hG fun H locs cells slots ls rest x y k => lv_ladd hx hb dX1_timeLeft_40 k) ?_
  refine xm_Oks.step (sn_stL hG fun H locs cells slots ls rest x lv lv9 h he k => lv_lstore hx hb dX1_timeLeft_41 h (by decide) he k) ?_
  refine xm_Oks.step (sn_ldR hG fun H locs cells slots ls rest x h k => lv_aload_n hx hb dX1_timeLeft_43 rfl h k) ?_
  refine xm_Oks.call (xm_sndC hG hC (xm_callV ⟨hx, hb, hml, hown, hts⟩ xw_82 xw_83 xw_84 xw_53 xw_85 (by decide +kernel) dX1_timeLeft_44) (Nat.le_refl _) (by show 8 + (9 + 11) + 40 * d ≤ 40 * (d + 1); omega) (fun C0 h9 => by cases h9; exact ⟨1, _, _, by decide, by decide, rfl, rfl, rfl⟩) (fun as M v M1 mc ms h9 ad sz g1 g2 => ih 35 as M v M1 mc ms h9 ad sz g1 g2)) ?_
  refine xm_Oks.step (sn_stL hG fun H locs cells slots ls rest x lv lv9 h he k => lv_lstore hx hb dX1_timeLeft_47 h (by decide) he k) ?_
  refine xm_Oks.step (sn_ldL hG fun H locs cells slots ls rest x h k => lv_lload hx hb dX1_timeLeft_49 h k) ?_
  refine xm_Oks.step (sn_push hG (fun _ => trivial) fun ad H locs cells slots ls rest k => lv_lconst hx hb dX1_timeLeft_51 (by decide) k) ?_
  refine xm_Oks.step (sn_lcmp hG fun H locs cells slots ls rest x y k => W.lcmp hx hb dX1_timeLeft_52 k) ?_
  refine xm_Oks.step (sn_if hG fun H locs cells slots ls rest x kt kf => lv_if_ge (tgt := 63) hx hb dX1_timeLeft_53 (by decide) kt kf) ?_
  refine xm_Oks.step (sn_ldL hG fun H locs cells slots ls rest x h k => lv_lload hx hb dX1_timeLeft_56 h k) ?_
  refine xm_Oks.step (sn_push hG (fun _ => trivial) fun ad H locs cells slots ls rest k => lv_lconst hx hb dX1_timeLeft_58 (by decide) k) ?_
  refine xm_Oks.step (sn_lcmp hG fun H locs cells slots ls rest x y k => W.lcmp hx hb dX1_timeLeft_59 k) ?_
  refine xm_Oks.step (sn_if hG fun H locs cells slots ls rest x kt kf => lv_if_ne (tgt := 65) hx hb dX1_timeLeft_60 (by decide) kt (fun h9 => kf (fun h8 => h8 h9))) ?_
  refine xm_Oks.step (sn_push hG (fun _ => trivial) fun ad H locs cells slots ls rest k => lv_iconst hx hb dX1_timeLeft_63 (by decide) k) ?_
  refine xm_Oks.stop ?_
  refine xm_Oks.step (sn_ldL hG fun H locs cells slots ls rest x h k => lv_lload hx hb dX1_timeLeft_65 h k) ?_
  refine xm_Oks.step (sn_one hG xg_unL_inv (fun _ _ => trivial) fun ad H locs cells slots ls rest x k => lv_lneg hx hb dX1_timeLeft_67 k) ?_
  refine xm_Oks.step (sn_ldL hG fun H locs cells slots ls rest x h k => lv_lload hx hb dX1_timeLeft_68 h k) ?_
  refine xm_Oks.step (sn_divL hG fun H locs cells slots ls rest x y h0 k => lv_ldiv hx hb dX1_timeLeft_70 h0 k) ?_
  refine xm_Oks.step (sn_ldR hG fun H locs cells slots ls rest x h k => lv_aload_n hx hb dX1_timeLeft_71 rfl h k) ?_
  refine xm_Oks.step (sn_getR hG rfl rfl (by decide) fun H locs cells slots ls rest q0 ws a fs v hP hw hv k => va_get (D := D) (C := RX1) (T := TX1) (N := 11) hx hb ht xu_1 hown hK hP q0 hw rfl 2 (by decide) (ht _ xw_37) (fun _ h9 => h9) hv dX1_timeLeft_72 k) ?_
  refine xm_Oks.call (xm_sndC hG hC (xm_callV ⟨hx, hb, hml, hown, hts⟩ xw_141 xw_142 xw_143 xw_45 xw_144 (by decide +kernel) dX1_timeLeft_75) (Nat.le_refl _) (by show 8 + (1 + 11) + 40 * d ≤ 40 * (d + 1); omega) (fun C0 h9 => by cases h9; exact ⟨2, _, _, by decide, by decide, rfl, rfl, rfl⟩) (fun as M v M1 mc ms h9 ad sz g1 g2 => ih 44 as M v M1 mc ms h9 ad sz g1 g2)) ?_
  refine xm_Oks.step (sn_one hG xg_i2l_inv (fun _ _ => trivial) fun ad H locs cells slots ls rest x k => lv_i2l hx hb dX1_timeLeft_78 rfl k) ?_
  refine xm_Oks.step (sn_mbinL hG fun H locs cells slots ls rest x y h1 h2 h3 h4 k => va_mmin_long hx hb (hml.trans h1.symm) hown (ht _ xw_61) (ht _ xw_62) (ht _ xw_10) (ht _ xw_63) (Nat.le_add_left 1 d) (by show _ + 15 ≤ 40 * (d + 1); omega) h2 h3 dX1_timeLeft_79 k) ?_
  refine xm_Oks.step (sn_one hG xg_l2i_inv (fun _ _ => trivial) fun ad H locs cells slots ls rest x k => lv_l2i hx hb dX1_timeLeft_82 rfl k) ?_
  refine xm_Oks.stop ?_
  exact trivial
set_option maxHeartbeats 4000000 in
set_option maxRecDepth 100000 in
theorem xk_X1_parting : xm_MOk xp_pg xp_pm 37 := by
  refine ⟨by decide +kernel, rfl, ?_, ?_⟩
  · show xm_Oks _ xt_X1_parting
    exact ⟨trivial, trivial, trivial, trivial, trivial, trivial, trivial, trivial, trivial, trivial, trivial, trivial, trivial, trivial, trivial, trivial, trivial, trivial, trivial, trivial, trivial, trivial, trivial, trivial, trivial, trivial, trivial, trivial, trivial, trivial, trivial, trivial, trivial, trivial, trivial, trivial, trivial, trivial, trivial, trivial, trivial, ⟨dX1_parting_82, rfl⟩, trivial⟩
  intro d mc ms p l e s m args below meth c Q cA D A tS ad0 o0 G hG hC hn ih
  have hG : xm_IsG p l e (xm_room (d + 1) mc ms) s m args below meth c Q cA D A tS 9 ad0 o0 G := hG
  have hC : xm_Cx p s m args c cX1_parting 9 RX1 (Cond.code yX1_parting cX1_parting 9 (some .int) :: xm_W) cA D A tS := hC
  have hn : meth.name = "parting" := hn
  obtain ⟨hx, hb, hml, hown, hts, hK, hA, hSx, hNx⟩ := id hC
  have ht : ∀ w ∈ xm_W, w.before args s = true := fun w h => hts w (List.mem_cons_of_mem _ h)
  show xm_Oks (xm_Ent (xm_room (d + 1) mc ms) G (xm_Do xp_pg d)) xt_X1_parting
  unfold xt_X1_parting
  refine xm_Oks.step (sn_push hG (fun _ => trivial) fun ad H locs cells slots ls rest k => lv_iconst hx hb dX1_parting_0 (by decide) k) ?_
  refine xm_Oks.step (sn_ldI hG fun H locs cells slots ls rest x h k => lv_iload hx hb dX1_parting_1 h k) ?_
  refine xm_Oks.step (sn_ldR hG fun H locs cells slots ls rest x h k => lv_aload_n hx hb dX1_parting_3 rfl h k) ?_
  refine xm_Oks.step (sn_getR hG rfl rfl (by decide) fun H locs cells slots ls rest q0 ws a fs v hP hw hv k => va_get (D := D) (C := RX1) (T := TX1) (N := 11) hx hb ht xu_1 hown hK hP q0 hw rfl 2 (by decide) (ht _ xw_37) (fun _ h9 => h9) hv dX1_parting_4 k) ?_
  refine xm_Oks.call (xm_sndC hG hC (xm_callV ⟨hx, hb, hml, hown, hts⟩ xw_42 xw_43 xw_44 xw_45 xw_46 (by decide +kernel) dX1_parting_7) (Nat.le_refl _) (by show 8 + (1 + 11) + 40 * d ≤ 40 * (d + 1); omega) (fun C0 h9 => by cases h9; exact ⟨2, _, _, by decide, by decide, rfl, rfl, rfl⟩) (fun as M v M1 mc ms h9 ad sz g1 g2 => ih 49 as M v M1 mc ms h9 ad sz g1 g2)) ?_
  refine xm_Oks.step (sn_mbin hG fun H locs cells slots ls rest x y h1 h2 h3 h4 k => va_mmin hx hb (hml.trans h1.symm) hown (ht _ xw_64) (ht _ xw_9) (ht _ xw_10) (ht _ xw_11) (Nat.le_add_left 1 d) (by show _ + 13 ≤ 40 * (d + 1); omega) h2 h3 dX1_parting_10 k) ?_
  refine xm_Oks.step (sn_ldI hG fun H locs cells slots ls rest x h k => lv_iload_n hx hb dX1_parting_13 rfl h k) ?_
  refine xm_Oks.step (sn_bin hG fun H locs cells slots ls rest x y k => lv_isub hx hb dX1_parting_14 k) ?_
  refine xm_Oks.step (sn_mbin hG fun H locs cells slots ls rest x y h1 h2 h3 h4 k => va_mmax hx hb (hml.trans h1.symm) hown (ht _ xw_166) (ht _ xw_13) (ht _ xw_10) (ht _ xw_14) (Nat.le_add_left 1 d) (by show _ + 13 ≤ 40 * (d + 1); omega) h2 h3 dX1_parting_15 k) ?_
  refine xm_Oks.step (sn_stI hG fun H locs cells slots ls rest x lv lv9 h he k => lv_istore hx hb dX1_parting_18 h (by decide) he k) ?_
  refine xm_Oks.step (sn_ldI hG fun H locs cells slots ls rest x h k => lv_iload hx hb dX1_parting_20 h k) ?_
  refine xm_Oks.step (sn_ldI hG fun H locs cells slots ls rest x h k => lv_iload hx hb dX1_parting_22 h k) ?_
  refine xm_Oks.step (sn_bin hG fun H locs cells slots ls rest x y k => lv_isub hx hb dX1_parting_24 k) ?_
  refine xm_Oks.step (sn_stI hG fun H locs cells slots ls rest x lv lv9 h he k => lv_istore hx hb dX1_parting_25 h (by decide) he k) ?_
  refine xm_Oks.step (sn_ldI hG fun H locs cells slots ls rest x h k => lv_iload_n hx hb dX1_parting_27 rfl h k) ?_
  refine xm_Oks.step (sn_if hG fun H locs cells slots ls rest x kt kf => lv_if_eq (tgt := 38) hx hb dX1_parting_28 (by decide) kt kf) ?_
  refine xm_Oks.step (sn_ldR hG fun H locs cells slots ls rest x h k => lv_aload_n hx hb dX1_parting_31 rfl h k) ?_
  refine xm_Oks.step (sn_getR hG rfl rfl (by decide) fun H locs cells slots ls rest q0 ws a fs v hP hw hv k => va_get (D := D) (C := RX1) (T := TX1) (N := 11) hx hb ht xu_1 hown hK hP q0 hw rfl 0 (by decide) (ht _ xw_35) (fun _ h9 => h9) hv dX1_parting_32 k) ?_
  refine xm_Oks.step (sn_goto hG fun H locs cells slots ls rest k => lv_goto (tgt := 42) hx hb dX1_parting_35 (by decide) k) ?_
  refine xm_Oks.step (sn_ldR hG fun H locs cells slots ls rest x h k => lv_aload_n hx hb dX1_parting_38 rfl h k) ?_
  refine xm_Oks.step (sn_getR hG rfl rfl (by decide) fun H locs cells slots ls rest q0 ws a fs v hP hw hv k => va_get (D := D) (C := RX1) (T := TX1) (N := 11) hx hb ht xu_1 hown hK hP q0 hw rfl 1 (by decide) (ht _ xw_36) (fun _ h9 => h9) hv dX1_parting_39 k) ?_
  refine xm_Oks.step (sn_stR hG fun H locs cells slots ls rest x lv lv9 h he k => lv_astore hx hb dX1_parting_42 h (by decide) he k) ?_
  refine xm_Oks.step (sn_ldI hG fun H locs cells slots ls rest x h k => lv_iload_n hx hb dX1_parting_44 rfl h k) ?_
  refine xm_Oks.step (sn_if hG fun H locs cells slots ls rest x kt kf => lv_if_eq (tgt := 55) hx hb dX1_parting_45 (by decide) kt kf) ?_
  refine xm_Oks.step (sn_ldR hG fun H locs cells slots ls rest x h k => lv_aload_n hx hb dX1_parting_48 rfl h k) ?_
  refine xm_Oks.step (sn_getR hG rfl rfl (by decide) fun H locs cells slots ls rest q0 ws a fs v hP hw hv k => va_get (D := D) (C := RX1) (T := TX1) (N := 11) hx hb ht xu_1 hown hK hP q0 hw rfl 1 (by decide) (ht _ xw_36) (fun _ h9 => h9) hv dX1_parting_49 k) ?_
  refine xm_Oks.step (sn_goto hG fun H locs cells slots ls rest k => lv_goto (tgt := 59) hx hb dX1_parting_52 (by decide) k) ?_
  refine xm_Oks.step (sn_ldR hG fun H locs cells slots ls rest x h k => lv_aload_n hx hb dX1_parting_55 rfl h k) ?_
  refine xm_Oks.step (sn_getR hG rfl rfl (by decide) fun H locs cells slots ls rest q0 ws a fs v hP hw hv k => va_get (D := D) (C := RX1) (T := TX1) (N := 11) hx hb ht xu_1 hown hK hP q0 hw rfl 0 (by decide) (ht _ xw_35) (fun _ h9 => h9) hv dX1_parting_56 k) ?_
  refine xm_Oks.step (sn_stR hG fun H locs cells slots ls rest x lv lv9 h he k => lv_astore hx hb dX1_parting_59 h (by decide) he k) ?_
  refine xm_Oks.step (sn_ldR hG fun H locs cells slots ls rest x h k => lv_aload hx hb dX1_parting_61 h k) ?_
  refine xm_Oks.step (sn_ldI hG fun H locs cells slots ls rest x h k => lv_iload_n hx hb dX1_parting_63 rfl h k) ?_
  refine xm_Oks.step (sn_ldI hG fun H locs cells slots ls rest x h k => lv_iload hx hb dX1_parting_64 h k) ?_
  refine xm_Oks.step (sn_ldI hG fun H locs cells slots ls rest x h k => lv_iload hx hb dX1_parting_66 h k) ?_
  refine xm_Oks.call (xm_sndC hG hC (xm_callV ⟨hx, hb, hml, hown, hts⟩ xw_167 xw_168 xw_169 xw_6 xw_170 (by decide +kernel) dX1_parting_68) (Nat.le_refl _) (by show 8 + (5 + 11) + 40 * d ≤ 40 * (d + 1); omega) (fun C0 h9 => by cases h9; exact ⟨0, _, _, by decide, by decide, rfl, rfl, rfl⟩) (fun as M v M1 mc ms h9 ad sz g1 g2 => ih 10 as M v M1 mc ms h9 ad sz g1 g2)) ?_
  refine xm_Oks.step (sn_ldR hG fun H locs cells slots ls rest x h k => lv_aload hx hb dX1_parting_71 h k) ?_
  refine xm_Oks.step (sn_ldI hG fun H locs cells slots ls rest x h k => lv_iload_n hx hb dX1_parting_73 rfl h k) ?_
  refine xm_Oks.step (sn_ldI hG fun H locs cells slots ls rest x h k => lv_iload hx hb dX1_parting_74 h k) ?_
  refine xm_Oks.step (sn_ldI hG fun H locs cells slots ls rest x h k => lv_iload hx hb dX1_parting_76 h k) ?_
  refine xm_Oks.call (xm_sndC hG hC (xm_callV ⟨hx, hb, hml, hown, hts⟩ xw_171 xw_172 xw_173 xw_6 xw_174 (by decide +kernel) dX1_parting_78) (Nat.le_refl _) (by show 8 + (5 + 11) + 40 * d ≤ 40 * (d + 1); omega) (fun C0 h9 => by cases h9; exact ⟨0, _, _, by decide, by decide, rfl, rfl, rfl⟩) (fun as M v M1 mc ms h9 ad sz g1 g2 => ih 11 as M v M1 mc ms h9 ad sz g1 g2)) ?_
  refine xm_Oks.step (sn_bin hG fun H locs cells slots ls rest x y k => lv_isub hx hb dX1_parting_81 k) ?_
  refine xm_Oks.stop ?_
  exact trivial
set_option maxHeartbeats 4000000 in
set_option maxRecDepth 100000 in
theorem xk_X1_enough : xm_MOk xp_pg xp_pm 38 := by
  refine ⟨by decide +kernel, rfl, ?_, ?_⟩
  · show xm_Oks _ xt_X1_enough
    exact ⟨trivial, trivial, trivial, trivial, trivial, trivial, trivial, trivial, trivial, trivial, trivial, trivial, trivial, trivial, trivial, trivial, ⟨dX1_enough_31, rfl⟩, trivial, trivial, trivial, ⟨dX1_enough_39, rfl⟩, trivial⟩
  intro d mc ms p l e s m args below meth c Q cA D A tS ad0 o0 G hG hC hn ih
  have hG : xm_IsG p l e (xm_room (d + 1) mc ms) s m args below meth c Q cA D A tS 6 ad0 o0 G := hG
  have hC : xm_Cx p s m args c cX1_enough 6 RX1 (Cond.code yX1_enough cX1_enough 6 (some .int) :: xm_W) cA D A tS := hC
  have hn : meth.name = "enough" := hn
  obtain ⟨hx, hb, hml, hown, hts, hK, hA, hSx, hNx⟩ := id hC
  have ht : ∀ w ∈ xm_W, w.before args s = true := fun w h => hts w (List.mem_cons_of_mem _ h)
  show xm_Oks (xm_Ent (xm_room (d + 1) mc ms) G (xm_Do xp_pg d)) xt_X1_enough
  unfold xt_X1_enough
  refine xm_Oks.step (sn_ldI hG fun H locs cells slots ls rest x h k => lv_iload_n hx hb dX1_enough_0 rfl h k) ?_
  refine xm_Oks.step (sn_stI hG fun H locs cells slots ls rest x lv lv9 h he k => lv_istore hx hb dX1_enough_1 h (by decide) he k) ?_
  refine xm_Oks.step (sn_ldI hG fun H locs cells slots ls rest x h k => lv_iload hx hb dX1_enough_3 h k) ?_
  refine xm_Oks.step (sn_push hG (fun _ => trivial) fun ad H locs cells slots ls rest k => lv_iconst hx hb dX1_enough_5 (by decide) k) ?_
  refine xm_Oks.step (sn_icmp hG fun H locs cells slots ls rest x y kt kf => lv_icmp_ge (tgt := 38) hx hb dX1_enough_6 (by decide) kt kf) ?_
  refine xm_Oks.step (sn_ldR hG fun H locs cells slots ls rest x h k => lv_aload_n hx hb dX1_enough_9 rfl h k) ?_
  refine xm_Oks.step (sn_ldI hG fun H locs cells slots ls rest x h k => lv_iload_n hx hb dX1_enough_10 rfl h k) ?_
  refine xm_Oks.step (sn_ldI hG fun H locs cells slots ls rest x h k => lv_iload hx hb dX1_enough_11 h k) ?_
  refine xm_Oks.step (sn_ldI hG fun H locs cells slots ls rest x h k => lv_iload_n hx hb dX1_enough_13 rfl h k) ?_
  refine xm_Oks.step (sn_ldI hG fun H locs cells slots ls rest x h k => lv_iload hx hb dX1_enough_14 h k) ?_
  refine xm_Oks.call (xm_sndC hG hC (xm_callV ⟨hx, hb, hml, hown, hts⟩ xw_105 xw_106 xw_107 xw_53 xw_108 (by decide +kernel) dX1_enough_16) (Nat.le_refl _) (by show 8 + (9 + 11) + 40 * d ≤ 40 * (d + 1); omega) (fun C0 h9 => by cases h9; exact ⟨1, _, _, by decide, by decide, rfl, rfl, rfl⟩) (fun as M v M1 mc ms h9 ad sz g1 g2 => ih 37 as M v M1 mc ms h9 ad sz g1 g2)) ?_
  refine xm_Oks.step (sn_ldR hG fun H locs cells slots ls rest x h k => lv_aload_n hx hb dX1_enough_19 rfl h k) ?_
  refine xm_Oks.step (sn_getR hG rfl rfl (by decide) fun H locs cells slots ls rest q0 ws a fs v hP hw hv k => va_get (D := D) (C := RX1) (T := TX1) (N := 11) hx hb ht xu_1 hown hK hP q0 hw rfl 2 (by decide) (ht _ xw_37) (fun _ h9 => h9) hv dX1_enough_20 k) ?_
  refine xm_Oks.call (xm_sndC hG hC (xm_callV ⟨hx, hb, hml, hown, hts⟩ xw_109 xw_110 xw_111 xw_45 xw_112 (by decide +kernel) dX1_enough_23) (Nat.le_refl _) (by show 8 + (1 + 11) + 40 * d ≤ 40 * (d + 1); omega) (fun C0 h9 => by cases h9; exact ⟨2, _, _, by decide, by decide, rfl, rfl, rfl⟩) (fun as M v M1 mc ms h9 ad sz g1 g2 => ih 48 as M v M1 mc ms h9 ad sz g1 g2)) ?_
  refine xm_Oks.step (sn_icmp hG fun H locs cells slots ls rest x y kt kf => lv_icmp_lt (tgt := 32) hx hb dX1_enough_26 (by decide) kt kf) ?_
  refine xm_Oks.step (sn_ldI hG fun H locs cells slots ls rest x h k => lv_iload hx hb dX1_enough_29 h k) ?_
  refine xm_Oks.stop ?_
  refine xm_Oks.step (sn_inc hG fun H locs cells slots ls rest x lv lv9 j h hj he k => lv_iinc hx hb dX1_enough_32 h hj rfl (by decide) he k) ?_
  refine xm_Oks.step (sn_goto hG fun H locs cells slots ls rest k => lv_goto (tgt := 3) hx hb dX1_enough_35 (by decide) k) ?_
  refine xm_Oks.step (sn_push hG (fun _ => trivial) fun ad H locs cells slots ls rest k => lv_iconst hx hb dX1_enough_38 (by decide) k) ?_
  refine xm_Oks.stop ?_
  exact trivial
set_option maxHeartbeats 4000000 in
set_option maxRecDepth 100000 in
theorem xk_X1_chosenSense : xm_MOk xp_pg xp_pm 39 := by
  refine ⟨by decide +kernel, rfl, ?_, ?_⟩
  · show xm_Oks _ xt_X1_chosenSense
    exact ⟨trivial, trivial, trivial, trivial, trivial, trivial, trivial, trivial, trivial, trivial, trivial, trivial, trivial, trivial, trivial, trivial, trivial, trivial, trivial, trivial, trivial, trivial, trivial, ⟨dX1_chosenSense_33, rfl⟩, trivial, trivial, trivial, trivial, trivial, trivial, trivial, trivial, trivial, trivial, trivial, trivial, trivial, trivial, trivial, trivial, trivial, trivial, trivial, trivial, trivial, trivial, trivial, ⟨dX1_chosenSense_73, rfl⟩, trivial, trivial, trivial, trivial, trivial, trivial, trivial, trivial, trivial, trivial, ⟨dX1_chosenSense_96, rfl⟩, trivial⟩
  intro d mc ms p l e s m args below meth c Q cA D A tS ad0 o0 G hG hC hn ih
  have hG : xm_IsG p l e (xm_room (d + 1) mc ms) s m args below meth c Q cA D A tS 6 ad0 o0 G := hG
  have hC : xm_Cx p s m args c cX1_chosenSense 6 RX1 (Cond.code yX1_chosenSense cX1_chosenSense 6 (some .boolean) :: xm_W) cA D A tS := hC
  have hn : meth.name = "chosenSense" := hn
  obtain ⟨hx, hb, hml, hown, hts, hK, hA, hSx, hNx⟩ := id hC
  have ht : ∀ w ∈ xm_W, w.before args s = true := fun w h => hts w (List.mem_cons_of_mem _ h)
  show xm_Oks (xm_Ent (xm_room (d + 1) mc ms) G (xm_Do xp_pg d)) xt_X1_chosenSense
  unfold xt_X1_chosenSense
  refine xm_Oks.step (sn_ldR hG fun H locs cells slots ls rest x h k => lv_aload_n hx hb dX1_chosenSense_0 rfl h k) ?_
  refine xm_Oks.step (sn_push hG (fun _ => trivial) fun ad H locs cells slots ls rest k => lv_iconst hx hb dX1_chosenSense_1 (by decide) k) ?_
  refine xm_Oks.step (sn_push hG (fun _ => trivial) fun ad H locs cells slots ls rest k => lv_iconst hx hb dX1_chosenSense_2 (by decide) k) ?_
  refine xm_Oks.step (sn_push hG (fun _ => trivial) fun ad H locs cells slots ls rest k => lv_iconst hx hb dX1_chosenSense_3 (by decide) k) ?_
  refine xm_Oks.step (sn_ldI hG fun H locs cells slots ls rest x h k => lv_iload_n hx hb dX1_chosenSense_4 rfl h k) ?_
  refine xm_Oks.call (xm_sndC hG hC (xm_callV ⟨hx, hb, hml, hown, hts⟩ xw_100 xw_101 xw_102 xw_53 xw_103 (by decide +kernel) dX1_chosenSense_5) (Nat.le_refl _) (by show 8 + (6 + 11) + 40 * d ≤ 40 * (d + 1); omega) (fun C0 h9 => by cases h9; exact ⟨1, _, _, by decide, by decide, rfl, rfl, rfl⟩) (fun as M v M1 mc ms h9 ad sz g1 g2 => ih 38 as M v M1 mc ms h9 ad sz g1 g2)) ?_
  refine xm_Oks.step (sn_stI hG fun H locs cells slots ls rest x lv lv9 h he k => lv_istore_n hx hb dX1_chosenSense_8 rfl h (by decide) he k) ?_
  refine xm_Oks.step (sn_ldR hG fun H locs cells slots ls rest x h k => lv_aload_n hx hb dX1_chosenSense_9 rfl h k) ?_
  refine xm_Oks.step (sn_push hG (fun _ => trivial) fun ad H locs cells slots ls rest k => lv_iconst hx hb dX1_chosenSense_10 (by decide) k) ?_
  refine xm_Oks.step (sn_push hG (fun _ => trivial) fun ad H locs cells slots ls rest k => lv_iconst hx hb dX1_chosenSense_11 (by decide) k) ?_
  refine xm_Oks.step (sn_push hG (fun _ => trivial) fun ad H locs cells slots ls rest k => lv_iconst hx hb dX1_chosenSense_12 (by decide) k) ?_
  refine xm_Oks.step (sn_ldI hG fun H locs cells slots ls rest x h k => lv_iload_n hx hb dX1_chosenSense_13 rfl h k) ?_
  refine xm_Oks.call (xm_sndC hG hC (xm_callV ⟨hx, hb, hml, hown, hts⟩ xw_100 xw_101 xw_102 xw_53 xw_103 (by decide +kernel) dX1_chosenSense_14) (Nat.le_refl _) (by show 8 + (6 + 11) + 40 * d ≤ 40 * (d + 1); omega) (fun C0 h9 => by cases h9; exact ⟨1, _, _, by decide, by decide, rfl, rfl, rfl⟩) (fun as M v M1 mc ms h9 ad sz g1 g2 => ih 38 as M v M1 mc ms h9 ad sz g1 g2)) ?_
  refine xm_Oks.step (sn_stI hG fun H locs cells slots ls rest x lv lv9 h he k => lv_istore_n hx hb dX1_chosenSense_17 rfl h (by decide) he k) ?_
  refine xm_Oks.step (sn_ldI hG fun H locs cells slots ls rest x h k => lv_iload_n hx hb dX1_chosenSense_18 rfl h k) ?_
  refine xm_Oks.step (sn_ldI hG fun H locs cells slots ls rest x h k => lv_iload_n hx hb dX1_chosenSense_19 rfl h k) ?_
  refine xm_Oks.step (sn_icmp hG fun H locs cells slots ls rest x y kt kf => lv_icmp_eq (tgt := 34) hx hb dX1_chosenSense_20 (by decide) kt kf) ?_
  refine xm_Oks.step (sn_ldI hG fun H locs cells slots ls rest x h k => lv_iload_n hx hb dX1_chosenSense_23 rfl h k) ?_
  refine xm_Oks.step (sn_ldI hG fun H locs cells slots ls rest x h k => lv_iload_n hx hb dX1_chosenSense_24 rfl h k) ?_
  refine xm_Oks.step (sn_icmp hG fun H locs cells slots ls rest x y kt kf => lv_icmp_ge (tgt := 32) hx hb dX1_chosenSense_25 (by decide) kt kf) ?_
  refine xm_Oks.step (sn_push hG (fun _ => trivial) fun ad H locs cells slots ls rest k => lv_iconst hx hb dX1_chosenSense_28 (by decide) k) ?_
  refine xm_Oks.step (sn_goto hG fun H locs cells slots ls rest k => lv_goto (tgt := 33) hx hb dX1_chosenSense_29 (by decide) k) ?_
  refine xm_Oks.step (sn_push hG (fun _ => trivial) fun ad H locs cells slots ls rest k => lv_iconst hx hb dX1_chosenSense_32 (by decide) k) ?_
  refine xm_Oks.stop ?_
  refine xm_Oks.step (sn_ldR hG fun H locs cells slots ls rest x h k => lv_aload_n hx hb dX1_chosenSense_34 rfl h k) ?_
  refine xm_Oks.step (sn_push hG (fun _ => trivial) fun ad H locs cells slots ls rest k => lv_iconst hx hb dX1_chosenSense_35 (by decide) k) ?_
  refine xm_Oks.step (sn_ldI hG fun H locs cells slots ls rest x h k => lv_iload_n hx hb dX1_chosenSense_36 rfl h k) ?_
  refine xm_Oks.step (sn_push hG (fun _ => trivial) fun ad H locs cells slots ls rest k => lv_iconst hx hb dX1_chosenSense_37 (by decide) k) ?_
  refine xm_Oks.step (sn_ldI hG fun H locs cells slots ls rest x h k => lv_iload_n hx hb dX1_chosenSense_38 rfl h k) ?_
  refine xm_Oks.call (xm_sndC hG hC (xm_callV ⟨hx, hb, hml, hown, hts⟩ xw_105 xw_106 xw_107 xw_53 xw_108 (by decide +kernel) dX1_chosenSense_39) (Nat.le_refl _) (by show 8 + (9 + 11) + 40 * d ≤ 40 * (d + 1); omega) (fun C0 h9 => by cases h9; exact ⟨1, _, _, by decide, by decide, rfl, rfl, rfl⟩) (fun as M v M1 mc ms h9 ad sz g1 g2 => ih 37 as M v M1 mc ms h9 ad sz g1 g2)) ?_
  refine xm_Oks.step (sn_stI hG fun H locs cells slots ls rest x lv lv9 h he k => lv_istore hx hb dX1_chosenSense_42 h (by decide) he k) ?_
  refine xm_Oks.step (sn_ldR hG fun H locs cells slots ls rest x h k => lv_aload_n hx hb dX1_chosenSense_44 rfl h k) ?_
  refine xm_Oks.step (sn_push hG (fun _ => trivial) fun ad H locs cells slots ls rest k => lv_iconst hx hb dX1_chosenSense_45 (by decide) k) ?_
  refine xm_Oks.step (sn_ldI hG fun H locs cells slots ls rest x h k => lv_iload_n hx hb dX1_chosenSense_46 rfl h k) ?_
  refine xm_Oks.step (sn_push hG (fun _ => trivial) fun ad H locs cells slots ls rest k => lv_iconst hx hb dX1_chosenSense_47 (by decide) k) ?_
  refine xm_Oks.step (sn_ldI hG fun H locs cells slots ls rest x h k => lv_iload_n hx hb dX1_chosenSense_48 rfl h k) ?_
  refine xm_Oks.call (xm_sndC hG hC (xm_callV ⟨hx, hb, hml, hown, hts⟩ xw_105 xw_106 xw_107 xw_53 xw_108 (by decide +kernel) dX1_chosenSense_49) (Nat.le_refl _) (by show 8 + (9 + 11) + 40 * d ≤ 40 * (d + 1); omega) (fun C0 h9 => by cases h9; exact ⟨1, _, _, by decide, by decide, rfl, rfl, rfl⟩) (fun as M v M1 mc ms h9 ad sz g1 g2 => ih 37 as M v M1 mc ms h9 ad sz g1 g2)) ?_
  refine xm_Oks.step (sn_stI hG fun H locs cells slots ls rest x lv lv9 h he k => lv_istore hx hb dX1_chosenSense_52 h (by decide) he k) ?_
  refine xm_Oks.step (sn_ldI hG fun H locs cells slots ls rest x h k => lv_iload hx hb dX1_chosenSense_54 h k) ?_
  refine xm_Oks.step (sn_ldI hG fun H locs cells slots ls rest x h k => lv_iload hx hb dX1_chosenSense_56 h k) ?_
  refine xm_Oks.step (sn_icmp hG fun H locs cells slots ls rest x y kt kf => lv_icmp_eq (tgt := 74) hx hb dX1_chosenSense_58 (by decide) kt kf) ?_
  refine xm_Oks.step (sn_ldI hG fun H locs cells slots ls rest x h k => lv_iload hx hb dX1_chosenSense_61 h k) ?_
  refine xm_Oks.step (sn_ldI hG fun H locs cells slots ls rest x h k => lv_iload hx hb dX1_chosenSense_63 h k) ?_
  refine xm_Oks.step (sn_icmp hG fun H locs cells slots ls rest x y kt kf => lv_icmp_le (tgt := 72) hx hb dX1_chosenSense_65 (by decide) kt kf) ?_
  refine xm_Oks.step (sn_push hG (fun _ => trivial) fun ad H locs cells slots ls rest k => lv_iconst hx hb dX1_chosenSense_68 (by decide) k) ?_
  refine xm_Oks.step (sn_goto hG fun H locs cells slots ls rest k => lv_goto (tgt := 73) hx hb dX1_chosenSense_69 (by decide) k) ?_
  refine xm_Oks.step (sn_push hG (fun _ => trivial) fun ad H locs cells slots ls rest k => lv_iconst hx hb dX1_chosenSense_72 (by decide) k) ?_
  refine xm_Oks.stop ?_
  refine xm_Oks.step (sn_ldR hG fun H locs cells slots ls rest x h k => lv_aload_n hx hb dX1_chosenSense_74 rfl h k) ?_
  refine xm_Oks.step (sn_getR hG rfl rfl (by decide) fun H locs cells slots ls rest q0 ws a fs v hP hw hv k => va_get (D := D) (C := RX1) (T := TX1) (N := 11) hx hb ht xu_1 hown hK hP q0 hw rfl 0 (by decide) (ht _ xw_35) (fun _ h9 => h9) hv dX1_chosenSense_75 k) ?_
  refine xm_Oks.step (sn_getI hG rfl rfl (by decide) (by decide) fun H locs cells slots ls rest q0 ws a fs v hP hw hv k => va_get (D := D) (C := RX0) (T := TX0) (N := 8) hx hb ht xu_0 hown hK hP q0 hw rfl 4 (by decide) (ht _ xw_153) (fun _ h9 => h9) hv dX1_chosenSense_78 k) ?_
  refine xm_Oks.step (sn_ldR hG fun H locs cells slots ls rest x h k => lv_aload_n hx hb dX1_chosenSense_81 rfl h k) ?_
  refine xm_Oks.step (sn_getR hG rfl rfl (by decide) fun H locs cells slots ls rest q0 ws a fs v hP hw hv k => va_get (D := D) (C := RX1) (T := TX1) (N := 11) hx hb ht xu_1 hown hK hP q0 hw rfl 1 (by decide) (ht _ xw_36) (fun _ h9 => h9) hv dX1_chosenSense_82 k) ?_
  refine xm_Oks.step (sn_getI hG rfl rfl (by decide) (by decide) fun H locs cells slots ls rest q0 ws a fs v hP hw hv k => va_get (D := D) (C := RX0) (T := TX0) (N := 8) hx hb ht xu_0 hown hK hP q0 hw rfl 4 (by decide) (ht _ xw_153) (fun _ h9 => h9) hv dX1_chosenSense_85 k) ?_
  refine xm_Oks.step (sn_icmp hG fun H locs cells slots ls rest x y kt kf => lv_icmp_lt (tgt := 95) hx hb dX1_chosenSense_88 (by decide) kt kf) ?_
  refine xm_Oks.step (sn_push hG (fun _ => trivial) fun ad H locs cells slots ls rest k => lv_iconst hx hb dX1_chosenSense_91 (by decide) k) ?_
  refine xm_Oks.step (sn_goto hG fun H locs cells slots ls rest k => lv_goto (tgt := 96) hx hb dX1_chosenSense_92 (by decide) k) ?_
  refine xm_Oks.step (sn_push hG (fun _ => trivial) fun ad H locs cells slots ls rest k => lv_iconst hx hb dX1_chosenSense_95 (by decide) k) ?_
  refine xm_Oks.stop ?_
  exact trivial
