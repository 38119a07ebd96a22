set_option maxHeartbeats 4000000 in
set_option maxRecDepth 100000 in
theorem xk_X0_init : xm_MOk xp_pg xp_pm 0 := by
  refine ⟨by decide +kernel, rfl, ?_, ?_⟩
  · show xm_Oks _ xt_X0_init
    exact ⟨trivial, trivial, ⟨dX0_init_4, rfl⟩, trivial⟩
  intro d mc ms p l e s m args below meth c Q cA D A tS ad0 o0 G hG hC hn ih
  have hG : xm_IsG p l e (xm_room (d + 1) mc ms) s m args below meth c Q cA D A tS 1 ad0 o0 G := hG
  have hC : xm_Cx p s m args c cX0_init 1 RX0 (Cond.code yX0_init cX0_init 1 none :: xm_W) cA D A tS := hC
  have hn : meth.name = "<init>" := hn
  obtain ⟨hx, hb, hml, hown, hts, hK, hA, hSx, hNx⟩ := id hC
  have ht : ∀ w ∈ xm_W, w.before args s = true := fun w h => hts w (List.mem_cons_of_mem _ h)
  show xm_Oks (xm_Ent (xm_room (d + 1) mc ms) G (xm_Do xp_pg d)) xt_X0_init
  unfold xt_X0_init
  refine xm_Oks.step (sn_ldR hG fun H locs cells slots ls rest x h k => lv_aload_n hx hb dX0_init_0 rfl h k) ?_
  refine xm_Oks.step (sn_obj hG fun H locs cells slots ls rest a h1 h2 k => W.objInit hx hb hown (ht _ xw_0) (ht _ xw_1) (ht _ xw_2) rfl (h1.trans hml.symm) rfl dX0_init_1 (Nat.le_add_left 1 d) (by show 2 * 0 + _ + 12 ≤ 40 * (d + 1); omega) k) ?_
  refine xm_Oks.stop ?_
  exact trivial
set_option maxHeartbeats 4000000 in
set_option maxRecDepth 100000 in
theorem xk_X0_isPlace : xm_MOk xp_pg xp_pm 1 := by
  refine ⟨by decide +kernel, rfl, ?_, ?_⟩
  · show xm_Oks _ xt_X0_isPlace
    exact ⟨trivial, trivial, trivial, trivial, trivial, trivial, trivial, trivial, trivial, trivial, trivial, trivial, trivial, trivial, trivial, ⟨dX0_isPlace_33, rfl⟩, trivial⟩
  intro d mc ms p l e s m args below meth c Q cA D A tS ad0 o0 G hG hC hn ih
  have hG : xm_IsG p l e (xm_room (d + 1) mc ms) s m args below meth c Q cA D A tS 3 ad0 o0 G := hG
  have hC : xm_Cx p s m args c cX0_isPlace 3 RX0 (Cond.code yX0_isPlace cX0_isPlace 3 (some .boolean) :: xm_W) cA D A tS := hC
  have hn : meth.name = "isPlace" := hn
  obtain ⟨hx, hb, hml, hown, hts, hK, hA, hSx, hNx⟩ := id hC
  have ht : ∀ w ∈ xm_W, w.before args s = true := fun w h => hts w (List.mem_cons_of_mem _ h)
  show xm_Oks (xm_Ent (xm_room (d + 1) mc ms) G (xm_Do xp_pg d)) xt_X0_isPlace
  unfold xt_X0_isPlace
  refine xm_Oks.step (sn_ldI hG fun H locs cells slots ls rest x h k => lv_iload_n hx hb dX0_isPlace_0 rfl h k) ?_
  refine xm_Oks.step (sn_push hG (fun _ => trivial) fun ad H locs cells slots ls rest k => lv_ldc hx hb hown (ht _ xw_3) dX0_isPlace_1 k) ?_
  refine xm_Oks.call (xm_sndC hG hC (xm_callS ⟨hx, hb, hml, hown, hts⟩ xw_4 xw_5 xw_6 xw_7 (by decide +kernel) dX0_isPlace_3) (Nat.le_refl _) (by show 8 + (2 + 11) + 40 * d ≤ 40 * (d + 1); omega) (fun C0 h9 => by cases h9) (fun as M v M1 mc ms h9 ad sz g1 g2 => ih 3 as M v M1 mc ms h9 ad sz g1 g2)) ?_
  refine xm_Oks.step (sn_if hG fun H locs cells slots ls rest x kt kf => lv_if_eq (tgt := 32) hx hb dX0_isPlace_6 (by decide) kt kf) ?_
  refine xm_Oks.step (sn_ldI hG fun H locs cells slots ls rest x h k => lv_iload_n hx hb dX0_isPlace_9 rfl h k) ?_
  refine xm_Oks.step (sn_push hG (fun _ => trivial) fun ad H locs cells slots ls rest k => lv_ldc hx hb hown (ht _ xw_3) dX0_isPlace_10 k) ?_
  refine xm_Oks.call (xm_sndC hG hC (xm_callS ⟨hx, hb, hml, hown, hts⟩ xw_4 xw_5 xw_6 xw_7 (by decide +kernel) dX0_isPlace_12) (Nat.le_refl _) (by show 8 + (2 + 11) + 40 * d ≤ 40 * (d + 1); omega) (fun C0 h9 => by cases h9) (fun as M v M1 mc ms h9 ad sz g1 g2 => ih 3 as M v M1 mc ms h9 ad sz g1 g2)) ?_
  refine xm_Oks.step (sn_if hG fun H locs cells slots ls rest x kt kf => lv_if_eq (tgt := 32) hx hb dX0_isPlace_15 (by decide) kt kf) ?_
  refine xm_Oks.step (sn_ldI hG fun H locs cells slots ls rest x h k => lv_iload_n hx hb dX0_isPlace_18 rfl h k) ?_
  refine xm_Oks.step (sn_push hG (fun _ => trivial) fun ad H locs cells slots ls rest k => lv_sipush hx hb dX0_isPlace_19 (by decide) k) ?_
  refine xm_Oks.call (xm_sndC hG hC (xm_callS ⟨hx, hb, hml, hown, hts⟩ xw_4 xw_5 xw_6 xw_7 (by decide +kernel) dX0_isPlace_22) (Nat.le_refl _) (by show 8 + (2 + 11) + 40 * d ≤ 40 * (d + 1); omega) (fun C0 h9 => by cases h9) (fun as M v M1 mc ms h9 ad sz g1 g2 => ih 3 as M v M1 mc ms h9 ad sz g1 g2)) ?_
  refine xm_Oks.step (sn_if hG fun H locs cells slots ls rest x kt kf => lv_if_eq (tgt := 32) hx hb dX0_isPlace_25 (by decide) kt kf) ?_
  refine xm_Oks.step (sn_push hG (fun _ => trivial) fun ad H locs cells slots ls rest k => lv_iconst hx hb dX0_isPlace_28 (by decide) k) ?_
  refine xm_Oks.step (sn_goto hG fun H locs cells slots ls rest k => lv_goto (tgt := 33) hx hb dX0_isPlace_29 (by decide) k) ?_
  refine xm_Oks.step (sn_push hG (fun _ => trivial) fun ad H locs cells slots ls rest k => lv_iconst hx hb dX0_isPlace_32 (by decide) k) ?_
  refine xm_Oks.stop ?_
  exact trivial
set_option maxHeartbeats 4000000 in
set_option maxRecDepth 100000 in
theorem xk_X0_isSpeed : xm_MOk xp_pg xp_pm 2 := by
  refine ⟨by decide +kernel, rfl, ?_, ?_⟩
  · show xm_Oks _ xt_X0_isSpeed
    exact ⟨trivial, trivial, trivial, trivial, trivial, trivial, trivial, trivial, trivial, trivial, trivial, trivial, trivial, trivial, trivial, ⟨dX0_isSpeed_34, rfl⟩, trivial⟩
  intro d mc ms p l e s m args below meth c Q cA D A tS ad0 o0 G hG hC hn ih
  have hG : xm_IsG p l e (xm_room (d + 1) mc ms) s m args below meth c Q cA D A tS 3 ad0 o0 G := hG
  have hC : xm_Cx p s m args c cX0_isSpeed 3 RX0 (Cond.code yX0_isSpeed cX0_isSpeed 3 (some .boolean) :: xm_W) cA D A tS := hC
  have hn : meth.name = "isSpeed" := hn
  obtain ⟨hx, hb, hml, hown, hts, hK, hA, hSx, hNx⟩ := id hC
  have ht : ∀ w ∈ xm_W, w.before args s = true := fun w h => hts w (List.mem_cons_of_mem _ h)
  show xm_Oks (xm_Ent (xm_room (d + 1) mc ms) G (xm_Do xp_pg d)) xt_X0_isSpeed
  unfold xt_X0_isSpeed
  refine xm_Oks.step (sn_ldI hG fun H locs cells slots ls rest x h k => lv_iload_n hx hb dX0_isSpeed_0 rfl h k) ?_
  refine xm_Oks.step (sn_push hG (fun _ => trivial) fun ad H locs cells slots ls rest k => lv_sipush hx hb dX0_isSpeed_1 (by decide) k) ?_
  refine xm_Oks.call (xm_sndC hG hC (xm_callS ⟨hx, hb, hml, hown, hts⟩ xw_4 xw_5 xw_6 xw_7 (by decide +kernel) dX0_isSpeed_4) (Nat.le_refl _) (by show 8 + (2 + 11) + 40 * d ≤ 40 * (d + 1); omega) (fun C0 h9 => by cases h9) (fun as M v M1 mc ms h9 ad sz g1 g2 => ih 3 as M v M1 mc ms h9 ad sz g1 g2)) ?_
  refine xm_Oks.step (sn_if hG fun H locs cells slots ls rest x kt kf => lv_if_eq (tgt := 33) hx hb dX0_isSpeed_7 (by decide) kt kf) ?_
  refine xm_Oks.step (sn_ldI hG fun H locs cells slots ls rest x h k => lv_iload_n hx hb dX0_isSpeed_10 rfl h k) ?_
  refine xm_Oks.step (sn_push hG (fun _ => trivial) fun ad H locs cells slots ls rest k => lv_sipush hx hb dX0_isSpeed_11 (by decide) k) ?_
  refine xm_Oks.call (xm_sndC hG hC (xm_callS ⟨hx, hb, hml, hown, hts⟩ xw_4 xw_5 xw_6 xw_7 (by decide +kernel) dX0_isSpeed_14) (Nat.le_refl _) (by show 8 + (2 + 11) + 40 * d ≤ 40 * (d + 1); omega) (fun C0 h9 => by cases h9) (fun as M v M1 mc ms h9 ad sz g1 g2 => ih 3 as M v M1 mc ms h9 ad sz g1 g2)) ?_
  refine xm_Oks.step (sn_if hG fun H locs cells slots ls rest x kt kf => lv_if_eq (tgt := 33) hx hb dX0_isSpeed_17 (by decide) kt kf) ?_
  refine xm_Oks.step (sn_ldI hG fun H locs cells slots ls rest x h k => lv_iload_n hx hb dX0_isSpeed_20 rfl h k) ?_
  refine xm_Oks.step (sn_push hG (fun _ => trivial) fun ad H locs cells slots ls rest k => lv_bipush hx hb dX0_isSpeed_21 (by decide) k) ?_
  refine xm_Oks.call (xm_sndC hG hC (xm_callS ⟨hx, hb, hml, hown, hts⟩ xw_4 xw_5 xw_6 xw_7 (by decide +kernel) dX0_isSpeed_23) (Nat.le_refl _) (by show 8 + (2 + 11) + 40 * d ≤ 40 * (d + 1); omega) (fun C0 h9 => by cases h9) (fun as M v M1 mc ms h9 ad sz g1 g2 => ih 3 as M v M1 mc ms h9 ad sz g1 g2)) ?_
  refine xm_Oks.step (sn_if hG fun H locs cells slots ls rest x kt kf => lv_if_eq (tgt := 33) hx hb dX0_isSpeed_26 (by decide) kt kf) ?_
  refine xm_Oks.step (sn_push hG (fun _ => trivial) fun ad H locs cells slots ls rest k => lv_iconst hx hb dX0_isSpeed_29 (by decide) k) ?_
  refine xm_Oks.step (sn_goto hG fun H locs cells slots ls rest k => lv_goto (tgt := 34) hx hb dX0_isSpeed_30 (by decide) k) ?_
  refine xm_Oks.step (sn_push hG (fun _ => trivial) fun ad H locs cells slots ls rest k => lv_iconst hx hb dX0_isSpeed_33 (by decide) k) ?_
  refine xm_Oks.stop ?_
  exact trivial
set_option maxHeartbeats 4000000 in
set_option maxRecDepth 100000 in
theorem xk_X0_isWithin : xm_MOk xp_pg xp_pm 3 := by
  refine ⟨by decide +kernel, rfl, ?_, ?_⟩
  · show xm_Oks _ xt_X0_isWithin
    exact ⟨trivial, trivial, trivial, trivial, trivial, trivial, trivial, trivial, trivial, trivial, ⟨dX0_isWithin_16, rfl⟩, trivial⟩
  intro d mc ms p l e s m args below meth c Q cA D A tS ad0 o0 G hG hC hn ih
  have hG : xm_IsG p l e (xm_room (d + 1) mc ms) s m args below meth c Q cA D A tS 2 ad0 o0 G := hG
  have hC : xm_Cx p s m args c cX0_isWithin 2 RX0 (Cond.code yX0_isWithin cX0_isWithin 2 (some .boolean) :: xm_W) cA D A tS := hC
  have hn : meth.name = "isWithin" := hn
  obtain ⟨hx, hb, hml, hown, hts, hK, hA, hSx, hNx⟩ := id hC
  have ht : ∀ w ∈ xm_W, w.before args s = true := fun w h => hts w (List.mem_cons_of_mem _ h)
  show xm_Oks (xm_Ent (xm_room (d + 1) mc ms) G (xm_Do xp_pg d)) xt_X0_isWithin
  unfold xt_X0_isWithin
  refine xm_Oks.step (sn_ldI hG fun H locs cells slots ls rest x h k => lv_iload_n hx hb dX0_isWithin_0 rfl h k) ?_
  refine xm_Oks.step (sn_ldI hG fun H locs cells slots ls rest x h k => lv_iload_n hx hb dX0_isWithin_1 rfl h k) ?_
  refine xm_Oks.step (sn_one hG xg_un_inv (fun _ _ => trivial) fun ad H locs cells slots ls rest x k => lv_ineg hx hb dX0_isWithin_2 k) ?_
  refine xm_Oks.step (sn_icmp hG fun H locs cells slots ls rest x y kt kf => lv_icmp_lt (tgt := 15) hx hb dX0_isWithin_3 (by decide) kt kf) ?_
  refine xm_Oks.step (sn_ldI hG fun H locs cells slots ls rest x h k => lv_iload_n hx hb dX0_isWithin_6 rfl h k) ?_
  refine xm_Oks.step (sn_ldI hG fun H locs cells slots ls rest x h k => lv_iload_n hx hb dX0_isWithin_7 rfl h k) ?_
  refine xm_Oks.step (sn_icmp hG fun H locs cells slots ls rest x y kt kf => lv_icmp_gt (tgt := 15) hx hb dX0_isWithin_8 (by decide) kt kf) ?_
  refine xm_Oks.step (sn_push hG (fun _ => trivial) fun ad H locs cells slots ls rest k => lv_iconst hx hb dX0_isWithin_11 (by decide) k) ?_
  refine xm_Oks.step (sn_goto hG fun H locs cells slots ls rest k => lv_goto (tgt := 16) hx hb dX0_isWithin_12 (by decide) k) ?_
  refine xm_Oks.step (sn_push hG (fun _ => trivial) fun ad H locs cells slots ls rest k => lv_iconst hx hb dX0_isWithin_15 (by decide) k) ?_
  refine xm_Oks.stop ?_
  exact trivial
set_option maxHeartbeats 4000000 in
set_option maxRecDepth 100000 in
theorem xk_X0_stopAt : xm_MOk xp_pg xp_pm 4 := by
  refine ⟨by decide +kernel, rfl, ?_, ?_⟩
  · show xm_Oks _ xt_X0_stopAt
    exact ⟨trivial, trivial, trivial, trivial, trivial, trivial, ⟨dX0_stopAt_10, rfl⟩, trivial⟩
  intro d mc ms p l e s m args below meth c Q cA D A tS ad0 o0 G hG hC hn ih
  have hG : xm_IsG p l e (xm_room (d + 1) mc ms) s m args below meth c Q cA D A tS 2 ad0 o0 G := hG
  have hC : xm_Cx p s m args c cX0_stopAt 2 RX0 (Cond.code yX0_stopAt cX0_stopAt 2 (some .int) :: xm_W) cA D A tS := hC
  have hn : meth.name = "stopAt" := hn
  obtain ⟨hx, hb, hml, hown, hts, hK, hA, hSx, hNx⟩ := id hC
  have ht : ∀ w ∈ xm_W, w.before args s = true := fun w h => hts w (List.mem_cons_of_mem _ h)
  show xm_Oks (xm_Ent (xm_room (d + 1) mc ms) G (xm_Do xp_pg d)) xt_X0_stopAt
  unfold xt_X0_stopAt
  refine xm_Oks.step (sn_ldI hG fun H locs cells slots ls rest x h k => lv_iload_n hx hb dX0_stopAt_0 rfl h k) ?_
  refine xm_Oks.step (sn_one hG xg_un_inv (fun _ _ => trivial) fun ad H locs cells slots ls rest x k => lv_ineg hx hb dX0_stopAt_1 k) ?_
  refine xm_Oks.step (sn_ldI hG fun H locs cells slots ls rest x h k => lv_iload_n hx hb dX0_stopAt_2 rfl h k) ?_
  refine xm_Oks.step (sn_ldI hG fun H locs cells slots ls rest x h k => lv_iload_n hx hb dX0_stopAt_3 rfl h k) ?_
  refine xm_Oks.step (sn_mbin hG fun H locs cells slots ls rest x y h1 h2 h3 h4 k => va_mmin hx hb (hml.trans h1.symm) hown (ht _ xw_8) (ht _ xw_9) (ht _ xw_10) (ht _ xw_11) (Nat.le_add_left 1 d) (by show _ + 13 ≤ 40 * (d + 1); omega) h2 h3 dX0_stopAt_4 k) ?_
  refine xm_Oks.step (sn_mbin hG fun H locs cells slots ls rest x y h1 h2 h3 h4 k => va_mmax hx hb (hml.trans h1.symm) hown (ht _ xw_12) (ht _ xw_13) (ht _ xw_10) (ht _ xw_14) (Nat.le_add_left 1 d) (by show _ + 13 ≤ 40 * (d + 1); omega) h2 h3 dX0_stopAt_7 k) ?_
  refine xm_Oks.stop ?_
  exact trivial
set_option maxHeartbeats 4000000 in
set_option maxRecDepth 100000 in
theorem xk_X0_putAt : xm_MOk xp_pg xp_pm 5 := by
  refine ⟨by decide +kernel, rfl, ?_, ?_⟩
  · show xm_Oks _ xt_X0_putAt
    exact ⟨trivial, trivial, trivial, trivial, trivial, trivial, trivial, trivial, trivial, trivial, trivial, trivial, trivial, trivial, trivial, trivial, trivial, trivial, trivial, trivial, trivial, trivial, trivial, ⟨dX0_putAt_39, rfl⟩, trivial⟩
  intro d mc ms p l e s m args below meth c Q cA D A tS ad0 o0 G hG hC hn ih
  have hG : xm_IsG p l e (xm_room (d + 1) mc ms) s m args below meth c Q cA D A tS 4 ad0 o0 G := hG
  have hC : xm_Cx p s m args c cX0_putAt 4 RX0 (Cond.code yX0_putAt cX0_putAt 4 none :: xm_W) cA D A tS := hC
  have hn : meth.name = "putAt" := hn
  obtain ⟨hx, hb, hml, hown, hts, hK, hA, hSx, hNx⟩ := id hC
  have ht : ∀ w ∈ xm_W, w.before args s = true := fun w h => hts w (List.mem_cons_of_mem _ h)
  show xm_Oks (xm_Ent (xm_room (d + 1) mc ms) G (xm_Do xp_pg d)) xt_X0_putAt
  unfold xt_X0_putAt
  refine xm_Oks.step (sn_ldR hG fun H locs cells slots ls rest x h k => lv_aload_n hx hb dX0_putAt_0 rfl h k) ?_
  refine xm_Oks.step (sn_getI hG rfl rfl (by decide) (by decide) fun H locs cells slots ls rest q0 ws a fs v hP hw hv k => va_get (D := D) (C := RX0) (T := TX0) (N := 8) hx hb ht xu_0 hown hK hP q0 hw rfl 0 (by decide) (ht _ xw_15) (fun _ h9 => h9) hv dX0_putAt_1 k) ?_
  refine xm_Oks.step (sn_if hG fun H locs cells slots ls rest x kt kf => lv_if_ne (tgt := 24) hx hb dX0_putAt_4 (by decide) kt (fun h9 => kf (fun h8 => h8 h9))) ?_
  refine xm_Oks.step (sn_ldR hG fun H locs cells slots ls rest x h k => lv_aload_n hx hb dX0_putAt_7 rfl h k) ?_
  refine xm_Oks.step (sn_push hG (fun _ => trivial) fun ad H locs cells slots ls rest k => lv_iconst hx hb dX0_putAt_8 (by decide) k) ?_
  refine xm_Oks.step (sn_putZ hG rfl rfl (by decide) (by decide) fun H locs cells slots ls rest q0 ws a fs v hP hD hS hw hv hl k => by rcases hv with rfl | rfl <;> exact va_put (D := D) (ty := .boolean) (C := RX0) (T := TX0) (N := 8) hx hb ht xu_0 tyX0 tyX0_ok nmX0 hown hK hP hD hS q0 hw rfl 0 (by decide) (ht _ xw_15) (fun _ h9 => h9) rfl (by decide +kernel) rfl rfl hl dX0_putAt_9 k) ?_
  refine xm_Oks.step (sn_ldR hG fun H locs cells slots ls rest x h k => lv_aload_n hx hb dX0_putAt_12 rfl h k) ?_
  refine xm_Oks.step (sn_push hG (fun _ => trivial) fun ad H locs cells slots ls rest k => lv_iconst hx hb dX0_putAt_13 (by decide) k) ?_
  refine xm_Oks.step (sn_putZ hG rfl rfl (by decide) (by decide) fun H locs cells slots ls rest q0 ws a fs v hP hD hS hw hv hl k => by rcases hv with rfl | rfl <;> exact va_put (D := D) (ty := .boolean) (C := RX0) (T := TX0) (N := 8) hx hb ht xu_0 tyX0 tyX0_ok nmX0 hown hK hP hD hS q0 hw rfl 1 (by decide) (ht _ xw_16) (fun _ h9 => h9) rfl (by decide +kernel) rfl rfl hl dX0_putAt_14 k) ?_
  refine xm_Oks.step (sn_ldR hG fun H locs cells slots ls rest x h k => lv_aload_n hx hb dX0_putAt_17 rfl h k) ?_
  refine xm_Oks.step (sn_push hG (fun _ => trivial) fun ad H locs cells slots ls rest k => lv_iconst hx hb dX0_putAt_18 (by decide) k) ?_
  refine xm_Oks.step (sn_push hG (fun _ => trivial) fun ad H locs cells slots ls rest k => lv_iconst hx hb dX0_putAt_19 (by decide) k) ?_
  refine xm_Oks.step (sn_push hG (fun _ => trivial) fun ad H locs cells slots ls rest k => lv_iconst hx hb dX0_putAt_20 (by decide) k) ?_
  refine xm_Oks.call (xm_sndC hG hC (xm_callV ⟨hx, hb, hml, hown, hts⟩ xw_17 xw_18 xw_19 xw_6 xw_20 (by decide +kernel) dX0_putAt_21) (Nat.le_refl _) (by show 8 + (4 + 11) + 40 * d ≤ 40 * (d + 1); omega) (fun C0 h9 => by cases h9; exact ⟨0, _, _, by decide, by decide, rfl, rfl, rfl⟩) (fun as M v M1 mc ms h9 ad sz g1 g2 => ih 6 as M v M1 mc ms h9 ad sz g1 g2)) ?_
  refine xm_Oks.step (sn_ldR hG fun H locs cells slots ls rest x h k => lv_aload_n hx hb dX0_putAt_24 rfl h k) ?_
  refine xm_Oks.step (sn_ldI hG fun H locs cells slots ls rest x h k => lv_iload_n hx hb dX0_putAt_25 rfl h k) ?_
  refine xm_Oks.step (sn_putI hG rfl rfl (by decide) (by decide) fun H locs cells slots ls rest q0 ws a fs v hP hD hS hw ⟨x, hv⟩ hl k => by subst hv; exact va_put (D := D) (ty := .int) (C := RX0) (T := TX0) (N := 8) hx hb ht xu_0 tyX0 tyX0_ok nmX0 hown hK hP hD hS q0 hw rfl 2 (by decide) (ht _ xw_21) (fun _ h9 => h9) rfl (by decide +kernel) rfl rfl hl dX0_putAt_26 k) ?_
  refine xm_Oks.step (sn_ldR hG fun H locs cells slots ls rest x h k => lv_aload_n hx hb dX0_putAt_29 rfl h k) ?_
  refine xm_Oks.step (sn_ldI hG fun H locs cells slots ls rest x h k => lv_iload_n hx hb dX0_putAt_30 rfl h k) ?_
  refine xm_Oks.step (sn_putI hG rfl rfl (by decide) (by decide) fun H locs cells slots ls rest q0 ws a fs v hP hD hS hw ⟨x, hv⟩ hl k => by subst hv; exact va_put (D := D) (ty := .int) (C := RX0) (T := TX0) (N := 8) hx hb ht xu_0 tyX0 tyX0_ok nmX0 hown hK hP hD hS q0 hw rfl 3 (by decide) (ht _ xw_22) (fun _ h9 => h9) rfl (by decide +kernel) rfl rfl hl dX0_putAt_31 k) ?_
  refine xm_Oks.step (sn_ldR hG fun H locs cells slots ls rest x h k => lv_aload_n hx hb dX0_putAt_34 rfl h k) ?_
  refine xm_Oks.step (sn_ldI hG fun H locs cells slots ls rest x h k => lv_iload_n hx hb dX0_putAt_35 rfl h k) ?_
  refine xm_Oks.step (sn_putI hG rfl rfl (by decide) (by decide) fun H locs cells slots ls rest q0 ws a fs v hP hD hS hw ⟨x, hv⟩ hl k => by subst hv; exact va_put (D := D) (ty := .int) (C := RX0) (T := TX0) (N := 8) hx hb ht xu_0 tyX0 tyX0_ok nmX0 hown hK hP hD hS q0 hw rfl 4 (by decide) (ht _ xw_23) (fun _ h9 => h9) rfl (by decide +kernel) rfl rfl hl dX0_putAt_36 k) ?_
  refine xm_Oks.stop ?_
  exact trivial
set_option maxHeartbeats 4000000 in
set_option maxRecDepth 100000 in
theorem xk_X0_flyWith : xm_MOk xp_pg xp_pm 6 := by
  refine ⟨by decide +kernel, rfl, ?_, ?_⟩
  · show xm_Oks _ xt_X0_flyWith
    exact ⟨trivial, trivial, trivial, trivial, trivial, trivial, trivial, trivial, trivial, ⟨dX0_flyWith_15, rfl⟩, trivial⟩
  intro d mc ms p l e s m args below meth c Q cA D A tS ad0 o0 G hG hC hn ih
  have hG : xm_IsG p l e (xm_room (d + 1) mc ms) s m args below meth c Q cA D A tS 4 ad0 o0 G := hG
  have hC : xm_Cx p s m args c cX0_flyWith 4 RX0 (Cond.code yX0_flyWith cX0_flyWith 4 none :: xm_W) cA D A tS := hC
  have hn : meth.name = "flyWith" := hn
  obtain ⟨hx, hb, hml, hown, hts, hK, hA, hSx, hNx⟩ := id hC
  have ht : ∀ w ∈ xm_W, w.before args s = true := fun w h => hts w (List.mem_cons_of_mem _ h)
  show xm_Oks (xm_Ent (xm_room (d + 1) mc ms) G (xm_Do xp_pg d)) xt_X0_flyWith
  unfold xt_X0_flyWith
  refine xm_Oks.step (sn_ldR hG fun H locs cells slots ls rest x h k => lv_aload_n hx hb dX0_flyWith_0 rfl h k) ?_
  refine xm_Oks.step (sn_ldI hG fun H locs cells slots ls rest x h k => lv_iload_n hx hb dX0_flyWith_1 rfl h k) ?_
  refine xm_Oks.step (sn_putI hG rfl rfl (by decide) (by decide) fun H locs cells slots ls rest q0 ws a fs v hP hD hS hw ⟨x, hv⟩ hl k => by subst hv; exact va_put (D := D) (ty := .int) (C := RX0) (T := TX0) (N := 8) hx hb ht xu_0 tyX0 tyX0_ok nmX0 hown hK hP hD hS q0 hw rfl 5 (by decide) (ht _ xw_24) (fun _ h9 => h9) rfl (by decide +kernel) rfl rfl hl dX0_flyWith_2 k) ?_
  refine xm_Oks.step (sn_ldR hG fun H locs cells slots ls rest x h k => lv_aload_n hx hb dX0_flyWith_5 rfl h k) ?_
  refine xm_Oks.step (sn_ldI hG fun H locs cells slots ls rest x h k => lv_iload_n hx hb dX0_flyWith_6 rfl h k) ?_
  refine xm_Oks.step (sn_putI hG rfl rfl (by decide) (by decide) fun H locs cells slots ls rest q0 ws a fs v hP hD hS hw ⟨x, hv⟩ hl k => by subst hv; exact va_put (D := D) (ty := .int) (C := RX0) (T := TX0) (N := 8) hx hb ht xu_0 tyX0 tyX0_ok nmX0 hown hK hP hD hS q0 hw rfl 6 (by decide) (ht _ xw_25) (fun _ h9 => h9) rfl (by decide +kernel) rfl rfl hl dX0_flyWith_7 k) ?_
  refine xm_Oks.step (sn_ldR hG fun H locs cells slots ls rest x h k => lv_aload_n hx hb dX0_flyWith_10 rfl h k) ?_
  refine xm_Oks.step (sn_ldI hG fun H locs cells slots ls rest x h k => lv_iload_n hx hb dX0_flyWith_11 rfl h k) ?_
  refine xm_Oks.step (sn_putI hG rfl rfl (by decide) (by decide) fun H locs cells slots ls rest q0 ws a fs v hP hD hS hw ⟨x, hv⟩ hl k => by subst hv; exact va_put (D := D) (ty := .int) (C := RX0) (T := TX0) (N := 8) hx hb ht xu_0 tyX0 tyX0_ok nmX0 hown hK hP hD hS q0 hw rfl 7 (by decide) (ht _ xw_26) (fun _ h9 => h9) rfl (by decide +kernel) rfl rfl hl dX0_flyWith_12 k) ?_
  refine xm_Oks.stop ?_
  exact trivial
set_option maxHeartbeats 4000000 in
set_option maxRecDepth 100000 in
theorem xk_X0_move : xm_MOk xp_pg xp_pm 7 := by
  refine ⟨by decide +kernel, rfl, ?_, ?_⟩
  · show xm_Oks _ xt_X0_move
    exact ⟨trivial, trivial, trivial, trivial, trivial, trivial, trivial, trivial, trivial, trivial, trivial, trivial, trivial, trivial, trivial, trivial, trivial, trivial, trivial, trivial, trivial, trivial, trivial, trivial, trivial, trivial, trivial, ⟨dX0_move_55, rfl⟩, trivial⟩
  intro d mc ms p l e s m args below meth c Q cA D A tS ad0 o0 G hG hC hn ih
  have hG : xm_IsG p l e (xm_room (d + 1) mc ms) s m args below meth c Q cA D A tS 1 ad0 o0 G := hG
  have hC : xm_Cx p s m args c cX0_move 1 RX0 (Cond.code yX0_move cX0_move 1 none :: xm_W) cA D A tS := hC
  have hn : meth.name = "move" := hn
  obtain ⟨hx, hb, hml, hown, hts, hK, hA, hSx, hNx⟩ := id hC
  have ht : ∀ w ∈ xm_W, w.before args s = true := fun w h => hts w (List.mem_cons_of_mem _ h)
  show xm_Oks (xm_Ent (xm_room (d + 1) mc ms) G (xm_Do xp_pg d)) xt_X0_move
  unfold xt_X0_move
  refine xm_Oks.step (sn_ldR hG fun H locs cells slots ls rest x h k => lv_aload_n hx hb dX0_move_0 rfl h k) ?_
  refine xm_Oks.step (sn_ldR hG fun H locs cells slots ls rest x h k => lv_aload_n hx hb dX0_move_1 rfl h k) ?_
  refine xm_Oks.step (sn_getI hG rfl rfl (by decide) (by decide) fun H locs cells slots ls rest q0 ws a fs v hP hw hv k => va_get (D := D) (C := RX0) (T := TX0) (N := 8) hx hb ht xu_0 hown hK hP q0 hw rfl 2 (by decide) (ht _ xw_21) (fun _ h9 => h9) hv dX0_move_2 k) ?_
  refine xm_Oks.step (sn_ldR hG fun H locs cells slots ls rest x h k => lv_aload_n hx hb dX0_move_5 rfl h k) ?_
  refine xm_Oks.step (sn_getI hG rfl rfl (by decide) (by decide) fun H locs cells slots ls rest q0 ws a fs v hP hw hv k => va_get (D := D) (C := RX0) (T := TX0) (N := 8) hx hb ht xu_0 hown hK hP q0 hw rfl 5 (by decide) (ht _ xw_24) (fun _ h9 => h9) hv dX0_move_6 k) ?_
  refine xm_Oks.step (sn_bin hG fun H locs cells slots ls rest x y k => lv_iadd hx hb dX0_move_9 k) ?_
  refine xm_Oks.step (sn_push hG (fun _ => trivial) fun ad H locs cells slots ls rest k => lv_ldc hx hb hown (ht _ xw_3) dX0_move_10 k) ?_
  refine xm_Oks.call (xm_sndC hG hC (xm_callS ⟨hx, hb, hml, hown, hts⟩ xw_27 xw_28 xw_6 xw_29 (by decide +kernel) dX0_move_12) (Nat.le_refl _) (by show 8 + (2 + 11) + 40 * d ≤ 40 * (d + 1); omega) (fun C0 h9 => by cases h9) (fun as M v M1 mc ms h9 ad sz g1 g2 => ih 4 as M v M1 mc ms h9 ad sz g1 g2)) ?_
  refine xm_Oks.step (sn_putI hG rfl rfl (by decide) (by decide) fun H locs cells slots ls rest q0 ws a fs v hP hD hS hw ⟨x, hv⟩ hl k => by subst hv; exact va_put (D := D) (ty := .int) (C := RX0) (T := TX0) (N := 8) hx hb ht xu_0 tyX0 tyX0_ok nmX0 hown hK hP hD hS q0 hw rfl 2 (by decide) (ht _ xw_21) (fun _ h9 => h9) rfl (by decide +kernel) rfl rfl hl dX0_move_15 k) ?_
  refine xm_Oks.step (sn_ldR hG fun H locs cells slots ls rest x h k => lv_aload_n hx hb dX0_move_18 rfl h k) ?_
  refine xm_Oks.step (sn_ldR hG fun H locs cells slots ls rest x h k => lv_aload_n hx hb dX0_move_19 rfl h k) ?_
  refine xm_Oks.step (sn_getI hG rfl rfl (by decide) (by decide) fun H locs cells slots ls rest q0 ws a fs v hP hw hv k => va_get (D := D) (C := RX0) (T := TX0) (N := 8) hx hb ht xu_0 hown hK hP q0 hw rfl 3 (by decide) (ht _ xw_22) (fun _ h9 => h9) hv dX0_move_20 k) ?_
  refine xm_Oks.step (sn_ldR hG fun H locs cells slots ls rest x h k => lv_aload_n hx hb dX0_move_23 rfl h k) ?_
  refine xm_Oks.step (sn_getI hG rfl rfl (by decide) (by decide) fun H locs cells slots ls rest q0 ws a fs v hP hw hv k => va_get (D := D) (C := RX0) (T := TX0) (N := 8) hx hb ht xu_0 hown hK hP q0 hw rfl 6 (by decide) (ht _ xw_25) (fun _ h9 => h9) hv dX0_move_24 k) ?_
  refine xm_Oks.step (sn_bin hG fun H locs cells slots ls rest x y k => lv_iadd hx hb dX0_move_27 k) ?_
  refine xm_Oks.step (sn_push hG (fun _ => trivial) fun ad H locs cells slots ls rest k => lv_ldc hx hb hown (ht _ xw_3) dX0_move_28 k) ?_
  refine xm_Oks.call (xm_sndC hG hC (xm_callS ⟨hx, hb, hml, hown, hts⟩ xw_27 xw_28 xw_6 xw_29 (by decide +kernel) dX0_move_30) (Nat.le_refl _) (by show 8 + (2 + 11) + 40 * d ≤ 40 * (d + 1); omega) (fun C0 h9 => by cases h9) (fun as M v M1 mc ms h9 ad sz g1 g2 => ih 4 as M v M1 mc ms h9 ad sz g1 g2)) ?_
  refine xm_Oks.step (sn_putI hG rfl rfl (by decide) (by decide) fun H locs cells slots ls rest q0 ws a fs v hP hD hS hw ⟨x, hv⟩ hl k => by subst hv; exact va_put (D := D) (ty := .int) (C := RX0) (T := TX0) (N := 8) hx hb ht xu_0 tyX0 tyX0_ok nmX0 hown hK hP hD hS q0 hw rfl 3 (by decide) (ht _ xw_22) (fun _ h9 => h9) rfl (by decide +kernel) rfl rfl hl dX0_move_33 k) ?_
  refine xm_Oks.step (sn_ldR hG fun H locs cells slots ls rest x h k => lv_aload_n hx hb dX0_move_36 rfl h k) ?_
  refine xm_Oks.step (sn_ldR hG fun H locs cells slots ls rest x h k => lv_aload_n hx hb dX0_move_37 rfl h k) ?_
  refine xm_Oks.step (sn_getI hG rfl rfl (by decide) (by decide) fun H locs cells slots ls rest q0 ws a fs v hP hw hv k => va_get (D := D) (C := RX0) (T := TX0) (N := 8) hx hb ht xu_0 hown hK hP q0 hw rfl 4 (by decide) (ht _ xw_23) (fun _ h9 => h9) hv dX0_move_38 k) ?_
  refine xm_Oks.step (sn_ldR hG fun H locs cells slots ls rest x h k => lv_aload_n hx hb dX0_move_41 rfl h k) ?_
  refine xm_Oks.step (sn_getI hG rfl rfl (by decide) (by decide) fun H locs cells slots ls rest q0 ws a fs v hP hw hv k => va_get (D := D) (C := RX0) (T := TX0) (N := 8) hx hb ht xu_0 hown hK hP q0 hw rfl 7 (by decide) (ht _ xw_26) (fun _ h9 => h9) hv dX0_move_42 k) ?_
  refine xm_Oks.step (sn_bin hG fun H locs cells slots ls rest x y k => lv_iadd hx hb dX0_move_45 k) ?_
  refine xm_Oks.step (sn_push hG (fun _ => trivial) fun ad H locs cells slots ls rest k => lv_sipush hx hb dX0_move_46 (by decide) k) ?_
  refine xm_Oks.call (xm_sndC hG hC (xm_callS ⟨hx, hb, hml, hown, hts⟩ xw_27 xw_28 xw_6 xw_29 (by decide +kernel) dX0_move_49) (Nat.le_refl _) (by show 8 + (2 + 11) + 40 * d ≤ 40 * (d + 1); omega) (fun C0 h9 => by cases h9) (fun as M v M1 mc ms h9 ad sz g1 g2 => ih 4 as M v M1 mc ms h9 ad sz g1 g2)) ?_
  refine xm_Oks.step (sn_putI hG rfl rfl (by decide) (by decide) fun H locs cells slots ls rest q0 ws a fs v hP hD hS hw ⟨x, hv⟩ hl k => by subst hv; exact va_put (D := D) (ty := .int) (C := RX0) (T := TX0) (N := 8) hx hb ht xu_0 tyX0 tyX0_ok nmX0 hown hK hP hD hS q0 hw rfl 4 (by decide) (ht _ xw_23) (fun _ h9 => h9) rfl (by decide +kernel) rfl rfl hl dX0_move_52 k) ?_
  refine xm_Oks.stop ?_
  exact trivial
set_option maxHeartbeats 4000000 in
set_option maxRecDepth 100000 in
theorem xk_X0_pull : xm_MOk xp_pg xp_pm 8 := by
  refine ⟨by decide +kernel, rfl, ?_, ?_⟩
  · show xm_Oks _ xt_X0_pull
    exact ⟨trivial, trivial, trivial, trivial, trivial, trivial, trivial, trivial, trivial, trivial, trivial, trivial, trivial, trivial, trivial, trivial, trivial, trivial, trivial, trivial, trivial, trivial, trivial, trivial, trivial, trivial, trivial, trivial, trivial, trivial, trivial, trivial, trivial, trivial, trivial, trivial, trivial, trivial, trivial, ⟨dX0_pull_75, rfl⟩, trivial⟩
  intro d mc ms p l e s m args below meth c Q cA D A tS ad0 o0 G hG hC hn ih
  have hG : xm_IsG p l e (xm_room (d + 1) mc ms) s m args below meth c Q cA D A tS 4 ad0 o0 G := hG
  have hC : xm_Cx p s m args c cX0_pull 4 RX0 (Cond.code yX0_pull cX0_pull 4 none :: xm_W) cA D A tS := hC
  have hn : meth.name = "pull" := hn
  obtain ⟨hx, hb, hml, hown, hts, hK, hA, hSx, hNx⟩ := id hC
  have ht : ∀ w ∈ xm_W, w.before args s = true := fun w h => hts w (List.mem_cons_of_mem _ h)
  show xm_Oks (xm_Ent (xm_room (d + 1) mc ms) G (xm_Do xp_pg d)) xt_X0_pull
  unfold xt_X0_pull
  refine xm_Oks.step (sn_ldI hG fun H locs cells slots ls rest x h k => lv_iload_n hx hb dX0_pull_0 rfl h k) ?_
  refine xm_Oks.step (sn_if hG fun H locs cells slots ls rest x kt kf => lv_if_le (tgt := 16) hx hb dX0_pull_1 (by decide) kt kf) ?_
  refine xm_Oks.step (sn_ldI hG fun H locs cells slots ls rest x h k => lv_iload_n hx hb dX0_pull_4 rfl h k) ?_
  refine xm_Oks.step (sn_if hG fun H locs cells slots ls rest x kt kf => lv_if_le (tgt := 16) hx hb dX0_pull_5 (by decide) kt kf) ?_
  refine xm_Oks.step (sn_ldR hG fun H locs cells slots ls rest x h k => lv_aload_n hx hb dX0_pull_8 rfl h k) ?_
  refine xm_Oks.step (sn_ldI hG fun H locs cells slots ls rest x h k => lv_iload_n hx hb dX0_pull_9 rfl h k) ?_
  refine xm_Oks.call (xm_sndC hG hC (xm_callV ⟨hx, hb, hml, hown, hts⟩ xw_30 xw_31 xw_32 xw_6 xw_33 (by decide +kernel) dX0_pull_10) (Nat.le_refl _) (by show 8 + (2 + 11) + 40 * d ≤ 40 * (d + 1); omega) (fun C0 h9 => by cases h9; exact ⟨0, _, _, by decide, by decide, rfl, rfl, rfl⟩) (fun as M v M1 mc ms h9 ad sz g1 g2 => ih 9 as M v M1 mc ms h9 ad sz g1 g2)) ?_
  refine xm_Oks.step (sn_goto hG fun H locs cells slots ls rest k => lv_goto (tgt := 75) hx hb dX0_pull_13 (by decide) k) ?_
  refine xm_Oks.step (sn_ldI hG fun H locs cells slots ls rest x h k => lv_iload_n hx hb dX0_pull_16 rfl h k) ?_
  refine xm_Oks.step (sn_if hG fun H locs cells slots ls rest x kt kf => lv_if_le (tgt := 47) hx hb dX0_pull_17 (by decide) kt kf) ?_
  refine xm_Oks.step (sn_ldR hG fun H locs cells slots ls rest x h k => lv_aload_n hx hb dX0_pull_20 rfl h k) ?_
  refine xm_Oks.step (sn_ldR hG fun H locs cells slots ls rest x h k => lv_aload_n hx hb dX0_pull_21 rfl h k) ?_
  refine xm_Oks.step (sn_getI hG rfl rfl (by decide) (by decide) fun H locs cells slots ls rest q0 ws a fs v hP hw hv k => va_get (D := D) (C := RX0) (T := TX0) (N := 8) hx hb ht xu_0 hown hK hP q0 hw rfl 7 (by decide) (ht _ xw_26) (fun _ h9 => h9) hv dX0_pull_22 k) ?_
  refine xm_Oks.step (sn_ldR hG fun H locs cells slots ls rest x h k => lv_aload_n hx hb dX0_pull_25 rfl h k) ?_
  refine xm_Oks.step (sn_getI hG rfl rfl (by decide) (by decide) fun H locs cells slots ls rest q0 ws a fs v hP hw hv k => va_get (D := D) (C := RX0) (T := TX0) (N := 8) hx hb ht xu_0 hown hK hP q0 hw rfl 7 (by decide) (ht _ xw_26) (fun _ h9 => h9) hv dX0_pull_26 k) ?_
  refine xm_Oks.step (sn_ldI hG fun H locs cells slots ls rest x h k => lv_iload_n hx hb dX0_pull_29 rfl h k) ?_
  refine xm_Oks.step (sn_bin hG fun H locs cells slots ls rest x y k => lv_iadd hx hb dX0_pull_30 k) ?_
  refine xm_Oks.step (sn_push hG (fun _ => trivial) fun ad H locs cells slots ls rest k => lv_bipush hx hb dX0_pull_31 (by decide) k) ?_
  refine xm_Oks.step (sn_ldI hG fun H locs cells slots ls rest x h k => lv_iload_n hx hb dX0_pull_33 rfl h k) ?_
  refine xm_Oks.step (sn_bin hG fun H locs cells slots ls rest x y k => lv_imul hx hb dX0_pull_34 k) ?_
  refine xm_Oks.step (sn_mbin hG fun H locs cells slots ls rest x y h1 h2 h3 h4 k => va_mmin hx hb (hml.trans h1.symm) hown (ht _ xw_8) (ht _ xw_9) (ht _ xw_10) (ht _ xw_11) (Nat.le_add_left 1 d) (by show _ + 13 ≤ 40 * (d + 1); omega) h2 h3 dX0_pull_35 k) ?_
  refine xm_Oks.step (sn_mbin hG fun H locs cells slots ls rest x y h1 h2 h3 h4 k => va_mmax hx hb (hml.trans h1.symm) hown (ht _ xw_12) (ht _ xw_13) (ht _ xw_10) (ht _ xw_14) (Nat.le_add_left 1 d) (by show _ + 13 ≤ 40 * (d + 1); omega) h2 h3 dX0_pull_38 k) ?_
  refine xm_Oks.step (sn_putI hG rfl rfl (by decide) (by decide) fun H locs cells slots ls rest q0 ws a fs v hP hD hS hw ⟨x, hv⟩ hl k => by subst hv; exact va_put (D := D) (ty := .int) (C := RX0) (T := TX0) (N := 8) hx hb ht xu_0 tyX0 tyX0_ok nmX0 hown hK hP hD hS q0 hw rfl 7 (by decide) (ht _ xw_26) (fun _ h9 => h9) rfl (by decide +kernel) rfl rfl hl dX0_pull_41 k) ?_
  refine xm_Oks.step (sn_goto hG fun H locs cells slots ls rest k => lv_goto (tgt := 75) hx hb dX0_pull_44 (by decide) k) ?_
  refine xm_Oks.step (sn_ldI hG fun H locs cells slots ls rest x h k => lv_iload_n hx hb dX0_pull_47 rfl h k) ?_
  refine xm_Oks.step (sn_if hG fun H locs cells slots ls rest x kt kf => lv_if_le (tgt := 75) hx hb dX0_pull_48 (by decide) kt kf) ?_
  refine xm_Oks.step (sn_ldR hG fun H locs cells slots ls rest x h k => lv_aload_n hx hb dX0_pull_51 rfl h k) ?_
  refine xm_Oks.step (sn_ldR hG fun H locs cells slots ls rest x h k => lv_aload_n hx hb dX0_pull_52 rfl h k) ?_
  refine xm_Oks.step (sn_getI hG rfl rfl (by decide) (by decide) fun H locs cells slots ls rest q0 ws a fs v hP hw hv k => va_get (D := D) (C := RX0) (T := TX0) (N := 8) hx hb ht xu_0 hown hK hP q0 hw rfl 7 (by decide) (ht _ xw_26) (fun _ h9 => h9) hv dX0_pull_53 k) ?_
  refine xm_Oks.step (sn_ldR hG fun H locs cells slots ls rest x h k => lv_aload_n hx hb dX0_pull_56 rfl h k) ?_
  refine xm_Oks.step (sn_getI hG rfl rfl (by decide) (by decide) fun H locs cells slots ls rest q0 ws a fs v hP hw hv k => va_get (D := D) (C := RX0) (T := TX0) (N := 8) hx hb ht xu_0 hown hK hP q0 hw rfl 7 (by decide) (ht _ xw_26) (fun _ h9 => h9) hv dX0_pull_57 k) ?_
  refine xm_Oks.step (sn_ldI hG fun H locs cells slots ls rest x h k => lv_iload_n hx hb dX0_pull_60 rfl h k) ?_
  refine xm_Oks.step (sn_bin hG fun H locs cells slots ls rest x y k => lv_isub hx hb dX0_pull_61 k) ?_
  refine xm_Oks.step (sn_push hG (fun _ => trivial) fun ad H locs cells slots ls rest k => lv_bipush hx hb dX0_pull_62 (by decide) k) ?_
  refine xm_Oks.step (sn_ldI hG fun H locs cells slots ls rest x h k => lv_iload_n hx hb dX0_pull_64 rfl h k) ?_
  refine xm_Oks.step (sn_bin hG fun H locs cells slots ls rest x y k => lv_imul hx hb dX0_pull_65 k) ?_
  refine xm_Oks.step (sn_mbin hG fun H locs cells slots ls rest x y h1 h2 h3 h4 k => va_mmax hx hb (hml.trans h1.symm) hown (ht _ xw_12) (ht _ xw_13) (ht _ xw_10) (ht _ xw_14) (Nat.le_add_left 1 d) (by show _ + 13 ≤ 40 * (d + 1); omega) h2 h3 dX0_pull_66 k) ?_
  refine xm_Oks.step (sn_mbin hG fun H locs cells slots ls rest x y h1 h2 h3 h4 k => va_mmin hx hb (hml.trans h1.symm) hown (ht _ xw_8) (ht _ xw_9) (ht _ xw_10) (ht _ xw_11) (Nat.le_add_left 1 d) (by show _ + 13 ≤ 40 * (d + 1); omega) h2 h3 dX0_pull_69 k) ?_
  refine xm_Oks.step (sn_putI hG rfl rfl (by decide) (by decide) fun H locs cells slots ls rest q0 ws a fs v hP hD hS hw ⟨x, hv⟩ hl k => by subst hv; exact va_put (D := D) (ty := .int) (C := RX0) (T := TX0) (N := 8) hx hb ht xu_0 tyX0 tyX0_ok nmX0 hown hK hP hD hS q0 hw rfl 7 (by decide) (ht _ xw_26) (fun _ h9 => h9) rfl (by decide +kernel) rfl rfl hl dX0_pull_72 k) ?_
  refine xm_Oks.stop ?_
  exact trivial
set_option maxHeartbeats 4000000 in
set_option maxRecDepth 100000 in
theorem xk_X0_levelOff : xm_MOk xp_pg xp_pm 9 := by
  refine ⟨by decide +kernel, rfl, ?_, ?_⟩
  · show xm_Oks _ xt_X0_levelOff
    exact ⟨trivial, trivial, trivial, trivial, trivial, trivial, trivial, trivial, trivial, trivial, trivial, trivial, trivial, trivial, trivial, trivial, trivial, trivial, trivial, trivial, ⟨dX0_levelOff_38, rfl⟩, trivial⟩
  intro d mc ms p l e s m args below meth c Q cA D A tS ad0 o0 G hG hC hn ih
  have hG : xm_IsG p l e (xm_room (d + 1) mc ms) s m args below meth c Q cA D A tS 2 ad0 o0 G := hG
  have hC : xm_Cx p s m args c cX0_levelOff 2 RX0 (Cond.code yX0_levelOff cX0_levelOff 2 none :: xm_W) cA D A tS := hC
  have hn : meth.name = "levelOff" := hn
  obtain ⟨hx, hb, hml, hown, hts, hK, hA, hSx, hNx⟩ := id hC
  have ht : ∀ w ∈ xm_W, w.before args s = true := fun w h => hts w (List.mem_cons_of_mem _ h)
  show xm_Oks (xm_Ent (xm_room (d + 1) mc ms) G (xm_Do xp_pg d)) xt_X0_levelOff
  unfold xt_X0_levelOff
  refine xm_Oks.step (sn_ldR hG fun H locs cells slots ls rest x h k => lv_aload_n hx hb dX0_levelOff_0 rfl h k) ?_
  refine xm_Oks.step (sn_getI hG rfl rfl (by decide) (by decide) fun H locs cells slots ls rest q0 ws a fs v hP hw hv k => va_get (D := D) (C := RX0) (T := TX0) (N := 8) hx hb ht xu_0 hown hK hP q0 hw rfl 7 (by decide) (ht _ xw_26) (fun _ h9 => h9) hv dX0_levelOff_1 k) ?_
  refine xm_Oks.step (sn_if hG fun H locs cells slots ls rest x kt kf => lv_if_le (tgt := 24) hx hb dX0_levelOff_4 (by decide) kt kf) ?_
  refine xm_Oks.step (sn_ldR hG fun H locs cells slots ls rest x h k => lv_aload_n hx hb dX0_levelOff_7 rfl h k) ?_
  refine xm_Oks.step (sn_push hG (fun _ => trivial) fun ad H locs cells slots ls rest k => lv_iconst hx hb dX0_levelOff_8 (by decide) k) ?_
  refine xm_Oks.step (sn_ldR hG fun H locs cells slots ls rest x h k => lv_aload_n hx hb dX0_levelOff_9 rfl h k) ?_
  refine xm_Oks.step (sn_getI hG rfl rfl (by decide) (by decide) fun H locs cells slots ls rest q0 ws a fs v hP hw hv k => va_get (D := D) (C := RX0) (T := TX0) (N := 8) hx hb ht xu_0 hown hK hP q0 hw rfl 7 (by decide) (ht _ xw_26) (fun _ h9 => h9) hv dX0_levelOff_10 k) ?_
  refine xm_Oks.step (sn_ldI hG fun H locs cells slots ls rest x h k => lv_iload_n hx hb dX0_levelOff_13 rfl h k) ?_
  refine xm_Oks.step (sn_bin hG fun H locs cells slots ls rest x y k => lv_isub hx hb dX0_levelOff_14 k) ?_
  refine xm_Oks.step (sn_mbin hG fun H locs cells slots ls rest x y h1 h2 h3 h4 k => va_mmax hx hb (hml.trans h1.symm) hown (ht _ xw_12) (ht _ xw_13) (ht _ xw_10) (ht _ xw_14) (Nat.le_add_left 1 d) (by show _ + 13 ≤ 40 * (d + 1); omega) h2 h3 dX0_levelOff_15 k) ?_
  refine xm_Oks.step (sn_putI hG rfl rfl (by decide) (by decide) fun H locs cells slots ls rest q0 ws a fs v hP hD hS hw ⟨x, hv⟩ hl k => by subst hv; exact va_put (D := D) (ty := .int) (C := RX0) (T := TX0) (N := 8) hx hb ht xu_0 tyX0 tyX0_ok nmX0 hown hK hP hD hS q0 hw rfl 7 (by decide) (ht _ xw_26) (fun _ h9 => h9) rfl (by decide +kernel) rfl rfl hl dX0_levelOff_18 k) ?_
  refine xm_Oks.step (sn_goto hG fun H locs cells slots ls rest k => lv_goto (tgt := 38) hx hb dX0_levelOff_21 (by decide) k) ?_
  refine xm_Oks.step (sn_ldR hG fun H locs cells slots ls rest x h k => lv_aload_n hx hb dX0_levelOff_24 rfl h k) ?_
  refine xm_Oks.step (sn_push hG (fun _ => trivial) fun ad H locs cells slots ls rest k => lv_iconst hx hb dX0_levelOff_25 (by decide) k) ?_
  refine xm_Oks.step (sn_ldR hG fun H locs cells slots ls rest x h k => lv_aload_n hx hb dX0_levelOff_26 rfl h k) ?_
  refine xm_Oks.step (sn_getI hG rfl rfl (by decide) (by decide) fun H locs cells slots ls rest q0 ws a fs v hP hw hv k => va_get (D := D) (C := RX0) (T := TX0) (N := 8) hx hb ht xu_0 hown hK hP q0 hw rfl 7 (by decide) (ht _ xw_26) (fun _ h9 => h9) hv dX0_levelOff_27 k) ?_
  refine xm_Oks.step (sn_ldI hG fun H locs cells slots ls rest x h k => lv_iload_n hx hb dX0_levelOff_30 rfl h k) ?_
  refine xm_Oks.step (sn_bin hG fun H locs cells slots ls rest x y k => lv_iadd hx hb dX0_levelOff_31 k) ?_
  refine xm_Oks.step (sn_mbin hG fun H locs cells slots ls rest x y h1 h2 h3 h4 k => va_mmin hx hb (hml.trans h1.symm) hown (ht _ xw_8) (ht _ xw_9) (ht _ xw_10) (ht _ xw_11) (Nat.le_add_left 1 d) (by show _ + 13 ≤ 40 * (d + 1); omega) h2 h3 dX0_levelOff_32 k) ?_
  refine xm_Oks.step (sn_putI hG rfl rfl (by decide) (by decide) fun H locs cells slots ls rest q0 ws a fs v hP hD hS hw ⟨x, hv⟩ hl k => by subst hv; exact va_put (D := D) (ty := .int) (C := RX0) (T := TX0) (N := 8) hx hb ht xu_0 tyX0 tyX0_ok nmX0 hown hK hP hD hS q0 hw rfl 7 (by decide) (ht _ xw_26) (fun _ h9 => h9) rfl (by decide +kernel) rfl rfl hl dX0_levelOff_35 k) ?_
  refine xm_Oks.stop ?_
  exact trivial
set_option maxHeartbeats 4000000 in
set_option maxRecDepth 100000 in
theorem xk_X0_heightGoingUp : xm_MOk xp_pg xp_pm 10 := by
  refine ⟨by decide +kernel, rfl, ?_, ?_⟩
  · show xm_Oks _ xt_X0_heightGoingUp
    exact ⟨trivial, trivial, trivial, trivial, trivial, trivial, trivial, trivial, trivial, trivial, trivial, trivial, trivial, trivial, trivial, trivial, trivial, trivial, trivial, trivial, trivial, trivial, ⟨dX0_heightGoingUp_38, rfl⟩, trivial⟩
  intro d mc ms p l e s m args below meth c Q cA D A tS ad0 o0 G hG hC hn ih
  have hG : xm_IsG p l e (xm_room (d + 1) mc ms) s m args below meth c Q cA D A tS 5 ad0 o0 G := hG
  have hC : xm_Cx p s m args c cX0_heightGoingUp 5 RX0 (Cond.code yX0_heightGoingUp cX0_heightGoingUp 5 (some .int) :: xm_W) cA D A tS := hC
  have hn : meth.name = "heightGoingUp" := hn
  obtain ⟨hx, hb, hml, hown, hts, hK, hA, hSx, hNx⟩ := id hC
  have ht : ∀ w ∈ xm_W, w.before args s = true := fun w h => hts w (List.mem_cons_of_mem _ h)
  show xm_Oks (xm_Ent (xm_room (d + 1) mc ms) G (xm_Do xp_pg d)) xt_X0_heightGoingUp
  unfold xt_X0_heightGoingUp
  refine xm_Oks.step (sn_push hG (fun _ => trivial) fun ad H locs cells slots ls rest k => lv_bipush hx hb dX0_heightGoingUp_0 (by decide) k) ?_
  refine xm_Oks.step (sn_ldI hG fun H locs cells slots ls rest x h k => lv_iload_n hx hb dX0_heightGoingUp_2 rfl h k) ?_
  refine xm_Oks.step (sn_bin hG fun H locs cells slots ls rest x y k => lv_imul hx hb dX0_heightGoingUp_3 k) ?_
  refine xm_Oks.step (sn_stI hG fun H locs cells slots ls rest x lv lv9 h he k => lv_istore hx hb dX0_heightGoingUp_4 h (by decide) he k) ?_
  refine xm_Oks.step (sn_ldR hG fun H locs cells slots ls rest x h k => lv_aload_n hx hb dX0_heightGoingUp_6 rfl h k) ?_
  refine xm_Oks.step (sn_getI hG rfl rfl (by decide) (by decide) fun H locs cells slots ls rest q0 ws a fs v hP hw hv k => va_get (D := D) (C := RX0) (T := TX0) (N := 8) hx hb ht xu_0 hown hK hP q0 hw rfl 4 (by decide) (ht _ xw_23) (fun _ h9 => h9) hv dX0_heightGoingUp_7 k) ?_
  refine xm_Oks.step (sn_ldR hG fun H locs cells slots ls rest x h k => lv_aload_n hx hb dX0_heightGoingUp_10 rfl h k) ?_
  refine xm_Oks.step (sn_getI hG rfl rfl (by decide) (by decide) fun H locs cells slots ls rest q0 ws a fs v hP hw hv k => va_get (D := D) (C := RX0) (T := TX0) (N := 8) hx hb ht xu_0 hown hK hP q0 hw rfl 7 (by decide) (ht _ xw_26) (fun _ h9 => h9) hv dX0_heightGoingUp_11 k) ?_
  refine xm_Oks.step (sn_ldI hG fun H locs cells slots ls rest x h k => lv_iload_n hx hb dX0_heightGoingUp_14 rfl h k) ?_
  refine xm_Oks.step (sn_bin hG fun H locs cells slots ls rest x y k => lv_imul hx hb dX0_heightGoingUp_15 k) ?_
  refine xm_Oks.step (sn_bin hG fun H locs cells slots ls rest x y k => lv_iadd hx hb dX0_heightGoingUp_16 k) ?_
  refine xm_Oks.step (sn_ldR hG fun H locs cells slots ls rest x h k => lv_aload_n hx hb dX0_heightGoingUp_17 rfl h k) ?_
  refine xm_Oks.step (sn_getI hG rfl rfl (by decide) (by decide) fun H locs cells slots ls rest q0 ws a fs v hP hw hv k => va_get (D := D) (C := RX0) (T := TX0) (N := 8) hx hb ht xu_0 hown hK hP q0 hw rfl 7 (by decide) (ht _ xw_26) (fun _ h9 => h9) hv dX0_heightGoingUp_18 k) ?_
  refine xm_Oks.step (sn_ldI hG fun H locs cells slots ls rest x h k => lv_iload hx hb dX0_heightGoingUp_21 h k) ?_
  refine xm_Oks.step (sn_icmp hG fun H locs cells slots ls rest x y kt kf => lv_icmp_le (tgt := 33) hx hb dX0_heightGoingUp_23 (by decide) kt kf) ?_
  refine xm_Oks.step (sn_ldR hG fun H locs cells slots ls rest x h k => lv_aload_n hx hb dX0_heightGoingUp_26 rfl h k) ?_
  refine xm_Oks.step (sn_getI hG rfl rfl (by decide) (by decide) fun H locs cells slots ls rest q0 ws a fs v hP hw hv k => va_get (D := D) (C := RX0) (T := TX0) (N := 8) hx hb ht xu_0 hown hK hP q0 hw rfl 7 (by decide) (ht _ xw_26) (fun _ h9 => h9) hv dX0_heightGoingUp_27 k) ?_
  refine xm_Oks.step (sn_goto hG fun H locs cells slots ls rest k => lv_goto (tgt := 35) hx hb dX0_heightGoingUp_30 (by decide) k) ?_
  refine xm_Oks.step (sn_ldI hG fun H locs cells slots ls rest x h k => lv_iload hx hb dX0_heightGoingUp_33 h k) ?_
  refine xm_Oks.step (sn_ldI hG fun H locs cells slots ls rest x h k => lv_iload_n hx hb dX0_heightGoingUp_35 rfl h k) ?_
  refine xm_Oks.step (sn_bin hG fun H locs cells slots ls rest x y k => lv_imul hx hb dX0_heightGoingUp_36 k) ?_
  refine xm_Oks.step (sn_bin hG fun H locs cells slots ls rest x y k => lv_iadd hx hb dX0_heightGoingUp_37 k) ?_
  refine xm_Oks.stop ?_
  exact trivial
set_option maxHeartbeats 4000000 in
set_option maxRecDepth 100000 in
theorem xk_X0_heightGoingDown : xm_MOk xp_pg xp_pm 11 := by
  refine ⟨by decide +kernel, rfl, ?_, ?_⟩
  · show xm_Oks _ xt_X0_heightGoingDown
    exact ⟨trivial, trivial, trivial, trivial, trivial, trivial, trivial, trivial, trivial, trivial, trivial, trivial, trivial, trivial, trivial, trivial, trivial, trivial, trivial, trivial, trivial, trivial, ⟨dX0_heightGoingDown_38, rfl⟩, trivial⟩
  intro d mc ms p l e s m args below meth c Q cA D A tS ad0 o0 G hG hC hn ih
  have hG : xm_IsG p l e (xm_room (d + 1) mc ms) s m args below meth c Q cA D A tS 5 ad0 o0 G := hG
  have hC : xm_Cx p s m args c cX0_heightGoingDown 5 RX0 (Cond.code yX0_heightGoingDown cX0_heightGoingDown 5 (some .int) :: xm_W) cA D A tS := hC
  have hn : meth.name = "heightGoingDown" := hn
  obtain ⟨hx, hb, hml, hown, hts, hK, hA, hSx, hNx⟩ := id hC
  have ht : ∀ w ∈ xm_W, w.before args s = true := fun w h => hts w (List.mem_cons_of_mem _ h)
  show xm_Oks (xm_Ent (xm_room (d + 1) mc ms) G (xm_Do xp_pg d)) xt_X0_heightGoingDown
  unfold xt_X0_heightGoingDown
  refine xm_Oks.step (sn_push hG (fun _ => trivial) fun ad H locs cells slots ls rest k => lv_bipush hx hb dX0_heightGoingDown_0 (by decide) k) ?_
  refine xm_Oks.step (sn_ldI hG fun H locs cells slots ls rest x h k => lv_iload_n hx hb dX0_heightGoingDown_2 rfl h k) ?_
  refine xm_Oks.step (sn_bin hG fun H locs cells slots ls rest x y k => lv_imul hx hb dX0_heightGoingDown_3 k) ?_
  refine xm_Oks.step (sn_stI hG fun H locs cells slots ls rest x lv lv9 h he k => lv_istore hx hb dX0_heightGoingDown_4 h (by decide) he k) ?_
  refine xm_Oks.step (sn_ldR hG fun H locs cells slots ls rest x h k => lv_aload_n hx hb dX0_heightGoingDown_6 rfl h k) ?_
  refine xm_Oks.step (sn_getI hG rfl rfl (by decide) (by decide) fun H locs cells slots ls rest q0 ws a fs v hP hw hv k => va_get (D := D) (C := RX0) (T := TX0) (N := 8) hx hb ht xu_0 hown hK hP q0 hw rfl 4 (by decide) (ht _ xw_23) (fun _ h9 => h9) hv dX0_heightGoingDown_7 k) ?_
  refine xm_Oks.step (sn_ldR hG fun H locs cells slots ls rest x h k => lv_aload_n hx hb dX0_heightGoingDown_10 rfl h k) ?_
  refine xm_Oks.step (sn_getI hG rfl rfl (by decide) (by decide) fun H locs cells slots ls rest q0 ws a fs v hP hw hv k => va_get (D := D) (C := RX0) (T := TX0) (N := 8) hx hb ht xu_0 hown hK hP q0 hw rfl 7 (by decide) (ht _ xw_26) (fun _ h9 => h9) hv dX0_heightGoingDown_11 k) ?_
  refine xm_Oks.step (sn_ldI hG fun H locs cells slots ls rest x h k => lv_iload_n hx hb dX0_heightGoingDown_14 rfl h k) ?_
  refine xm_Oks.step (sn_bin hG fun H locs cells slots ls rest x y k => lv_imul hx hb dX0_heightGoingDown_15 k) ?_
  refine xm_Oks.step (sn_bin hG fun H locs cells slots ls rest x y k => lv_iadd hx hb dX0_heightGoingDown_16 k) ?_
  refine xm_Oks.step (sn_ldR hG fun H locs cells slots ls rest x h k => lv_aload_n hx hb dX0_heightGoingDown_17 rfl h k) ?_
  refine xm_Oks.step (sn_getI hG rfl rfl (by decide) (by decide) fun H locs cells slots ls rest q0 ws a fs v hP hw hv k => va_get (D := D) (C := RX0) (T := TX0) (N := 8) hx hb ht xu_0 hown hK hP q0 hw rfl 7 (by decide) (ht _ xw_26) (fun _ h9 => h9) hv dX0_heightGoingDown_18 k) ?_
  refine xm_Oks.step (sn_ldI hG fun H locs cells slots ls rest x h k => lv_iload hx hb dX0_heightGoingDown_21 h k) ?_
  refine xm_Oks.step (sn_icmp hG fun H locs cells slots ls rest x y kt kf => lv_icmp_ge (tgt := 33) hx hb dX0_heightGoingDown_23 (by decide) kt kf) ?_
  refine xm_Oks.step (sn_ldR hG fun H locs cells slots ls rest x h k => lv_aload_n hx hb dX0_heightGoingDown_26 rfl h k) ?_
  refine xm_Oks.step (sn_getI hG rfl rfl (by decide) (by decide) fun H locs cells slots ls rest q0 ws a fs v hP hw hv k => va_get (D := D) (C := RX0) (T := TX0) (N := 8) hx hb ht xu_0 hown hK hP q0 hw rfl 7 (by decide) (ht _ xw_26) (fun _ h9 => h9) hv dX0_heightGoingDown_27 k) ?_
  refine xm_Oks.step (sn_goto hG fun H locs cells slots ls rest k => lv_goto (tgt := 35) hx hb dX0_heightGoingDown_30 (by decide) k) ?_
  refine xm_Oks.step (sn_ldI hG fun H locs cells slots ls rest x h k => lv_iload hx hb dX0_heightGoingDown_33 h k) ?_
  refine xm_Oks.step (sn_ldI hG fun H locs cells slots ls rest x h k => lv_iload_n hx hb dX0_heightGoingDown_35 rfl h k) ?_
  refine xm_Oks.step (sn_bin hG fun H locs cells slots ls rest x y k => lv_imul hx hb dX0_heightGoingDown_36 k) ?_
  refine xm_Oks.step (sn_bin hG fun H locs cells slots ls rest x y k => lv_iadd hx hb dX0_heightGoingDown_37 k) ?_
  refine xm_Oks.stop ?_
  exact trivial
set_option maxHeartbeats 4000000 in
set_option maxRecDepth 100000 in
theorem xk_X0_answer : xm_MOk xp_pg xp_pm 12 := by
  refine ⟨by decide +kernel, rfl, ?_, ?_⟩
  · show xm_Oks _ xt_X0_answer
    exact ⟨trivial, trivial, trivial, trivial, ⟨dX0_answer_44, rfl⟩, trivial, trivial, ⟨dX0_answer_49, rfl⟩, trivial, trivial, ⟨dX0_answer_54, rfl⟩, trivial, trivial, ⟨dX0_answer_59, rfl⟩, trivial, trivial, ⟨dX0_answer_64, rfl⟩, trivial, trivial, ⟨dX0_answer_69, rfl⟩, trivial, trivial, trivial, trivial, trivial, trivial, ⟨dX0_answer_82, rfl⟩, trivial⟩
  intro d mc ms p l e s m args below meth c Q cA D A tS ad0 o0 G hG hC hn ih
  have hG : xm_IsG p l e (xm_room (d + 1) mc ms) s m args below meth c Q cA D A tS 2 ad0 o0 G := hG
  have hC : xm_Cx p s m args c cX0_answer 2 RX0 (Cond.code yX0_answer cX0_answer 2 (some .int) :: xm_W) cA D A tS := hC
  have hn : meth.name = "answer" := hn
  obtain ⟨hx, hb, hml, hown, hts, hK, hA, hSx, hNx⟩ := id hC
  have ht : ∀ w ∈ xm_W, w.before args s = true := fun w h => hts w (List.mem_cons_of_mem _ h)
  show xm_Oks (xm_Ent (xm_room (d + 1) mc ms) G (xm_Do xp_pg d)) xt_X0_answer
  unfold xt_X0_answer
  refine xm_Oks.step (sn_ldI hG fun H locs cells slots ls rest x h k => lv_iload_n hx hb dX0_answer_0 rfl h k) ?_
  refine xm_Oks.step (sn_sw hG fun H locs cells slots ls rest x k => xr_sw hx hb dX0_answer_1 (by decide) (by decide) (by decide) H locs cells slots ls rest x k) ?_
  refine xm_Oks.step (sn_ldR hG fun H locs cells slots ls rest x h k => lv_aload_n hx hb dX0_answer_40 rfl h k) ?_
  refine xm_Oks.step (sn_getI hG rfl rfl (by decide) (by decide) fun H locs cells slots ls rest q0 ws a fs v hP hw hv k => va_get (D := D) (C := RX0) (T := TX0) (N := 8) hx hb ht xu_0 hown hK hP q0 hw rfl 2 (by decide) (ht _ xw_21) (fun _ h9 => h9) hv dX0_answer_41 k) ?_
  refine xm_Oks.stop ?_
  refine xm_Oks.step (sn_ldR hG fun H locs cells slots ls rest x h k => lv_aload_n hx hb dX0_answer_45 rfl h k) ?_
  refine xm_Oks.step (sn_getI hG rfl rfl (by decide) (by decide) fun H locs cells slots ls rest q0 ws a fs v hP hw hv k => va_get (D := D) (C := RX0) (T := TX0) (N := 8) hx hb ht xu_0 hown hK hP q0 hw rfl 3 (by decide) (ht _ xw_22) (fun _ h9 => h9) hv dX0_answer_46 k) ?_
  refine xm_Oks.stop ?_
  refine xm_Oks.step (sn_ldR hG fun H locs cells slots ls rest x h k => lv_aload_n hx hb dX0_answer_50 rfl h k) ?_
  refine xm_Oks.step (sn_getI hG rfl rfl (by decide) (by decide) fun H locs cells slots ls rest q0 ws a fs v hP hw hv k => va_get (D := D) (C := RX0) (T := TX0) (N := 8) hx hb ht xu_0 hown hK hP q0 hw rfl 4 (by decide) (ht _ xw_23) (fun _ h9 => h9) hv dX0_answer_51 k) ?_
  refine xm_Oks.stop ?_
  refine xm_Oks.step (sn_ldR hG fun H locs cells slots ls rest x h k => lv_aload_n hx hb dX0_answer_55 rfl h k) ?_
  refine xm_Oks.step (sn_getI hG rfl rfl (by decide) (by decide) fun H locs cells slots ls rest q0 ws a fs v hP hw hv k => va_get (D := D) (C := RX0) (T := TX0) (N := 8) hx hb ht xu_0 hown hK hP q0 hw rfl 5 (by decide) (ht _ xw_24) (fun _ h9 => h9) hv dX0_answer_56 k) ?_
  refine xm_Oks.stop ?_
  refine xm_Oks.step (sn_ldR hG fun H locs cells slots ls rest x h k => lv_aload_n hx hb dX0_answer_60 rfl h k) ?_
  refine xm_Oks.step (sn_getI hG rfl rfl (by decide) (by decide) fun H locs cells slots ls rest q0 ws a fs v hP hw hv k => va_get (D := D) (C := RX0) (T := TX0) (N := 8) hx hb ht xu_0 hown hK hP q0 hw rfl 6 (by decide) (ht _ xw_25) (fun _ h9 => h9) hv dX0_answer_61 k) ?_
  refine xm_Oks.stop ?_
  refine xm_Oks.step (sn_ldR hG fun H locs cells slots ls rest x h k => lv_aload_n hx hb dX0_answer_65 rfl h k) ?_
  refine xm_Oks.step (sn_getI hG rfl rfl (by decide) (by decide) fun H locs cells slots ls rest q0 ws a fs v hP hw hv k => va_get (D := D) (C := RX0) (T := TX0) (N := 8) hx hb ht xu_0 hown hK hP q0 hw rfl 7 (by decide) (ht _ xw_26) (fun _ h9 => h9) hv dX0_answer_66 k) ?_
  refine xm_Oks.stop ?_
  refine xm_Oks.step (sn_ldR hG fun H locs cells slots ls rest x h k => lv_aload_n hx hb dX0_answer_70 rfl h k) ?_
  refine xm_Oks.step (sn_getI hG rfl rfl (by decide) (by decide) fun H locs cells slots ls rest q0 ws a fs v hP hw hv k => va_get (D := D) (C := RX0) (T := TX0) (N := 8) hx hb ht xu_0 hown hK hP q0 hw rfl 1 (by decide) (ht _ xw_16) (fun _ h9 => h9) hv dX0_answer_71 k) ?_
  refine xm_Oks.step (sn_if hG fun H locs cells slots ls rest x kt kf => lv_if_eq (tgt := 81) hx hb dX0_answer_74 (by decide) kt kf) ?_
  refine xm_Oks.step (sn_push hG (fun _ => trivial) fun ad H locs cells slots ls rest k => lv_iconst hx hb dX0_answer_77 (by decide) k) ?_
  refine xm_Oks.step (sn_goto hG fun H locs cells slots ls rest k => lv_goto (tgt := 82) hx hb dX0_answer_78 (by decide) k) ?_
  refine xm_Oks.step (sn_push hG (fun _ => trivial) fun ad H locs cells slots ls rest k => lv_iconst hx hb dX0_answer_81 (by decide) k) ?_
  refine xm_Oks.stop ?_
  exact trivial
