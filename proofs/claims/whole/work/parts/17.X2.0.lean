set_option maxHeartbeats 4000000 in
set_option maxRecDepth 100000 in
theorem xk_X2_init (hclone : xm_CloneOk) : xm_MOk xp_pg xp_pm 41 := by
  refine ⟨by decide +kernel, rfl, ?_, ?_⟩
  · show xm_Oks _ xt_X2_init
    exact ⟨trivial, trivial, trivial, trivial, trivial, trivial, trivial, ⟨dX2_init_17, rfl⟩, trivial⟩
  intro d mc ms p l e s m args below meth c Q cA D A tS ad0 o0 G hG hC hn ih
  have hG : xm_IsG p l e (xm_room (d + 1) mc ms) s m args below meth c Q cA D A tS 1 ad0 o0 G := hG
  have hC : xm_Cx p s m args c cX2_init 1 RX2 (Cond.code yX2_init cX2_init 1 none :: xm_W) cA D A tS := hC
  have hn : meth.name = "<init>" := hn
  obtain ⟨hx, hb, hml, hown, hts, hK, hA, hSx, hNx⟩ := id hC
  have ht : ∀ w ∈ xm_W, w.before args s = true := fun w h => hts w (List.mem_cons_of_mem _ h)
  show xm_Oks (xm_Ent (xm_room (d + 1) mc ms) G (xm_Do xp_pg d)) xt_X2_init
  unfold xt_X2_init
  refine xm_Oks.step (sn_ldR hG fun H locs cells slots ls rest x h k => lv_aload_n hx hb dX2_init_0 rfl h k) ?_
  refine xm_Oks.step (sn_obj hG fun H locs cells slots ls rest a h1 h2 k => W.objInit hx hb hown (ht _ xw_175) (ht _ xw_1) (ht _ xw_2) rfl (h1.trans hml.symm) rfl dX2_init_1 (Nat.le_add_left 1 d) (by show 2 * 0 + _ + 12 ≤ 40 * (d + 1); omega) k) ?_
  refine xm_Oks.step (sn_ldR hG fun H locs cells slots ls rest x h k => lv_aload_n hx hb dX2_init_4 rfl h k) ?_
  refine xm_Oks.step (sn_gst hG hC (by decide) fun H locs cells slots ls rest t hZ hS k => va_gets hx hb hZ hS hown (ht _ xw_176) (fun _ h9 => h9) dX2_init_5 k) ?_
  refine xm_Oks.step (hclone _ _ _ _ _ _ _ _ _ _ _ _ _ _ _ _ _ _ _ _ hG hC) ?_
  refine xm_Oks.step (sn_cast hG fun H locs cells slots ls rest q0 ws a z hP hw k => va_castA hx hb hown (ht _ xw_177) hP q0 hw (hK.2 1 (cA 1, .int) rfl).2 dX2_init_11 k) ?_
  refine xm_Oks.step (sn_putR hG rfl rfl (by decide) fun H locs cells slots ls rest q0 ws a fs v hP hD hS hw ⟨x, hv⟩ hl k => by subst hv; exact va_putF (D := D) (ty := .array .int) (C := RX2) (T := TX2) (N := 1) hx hb ht xu_2 tyX2 tyX2_ok nmX2 hown hK hP hD hS q0 hw rfl 0 (by decide) (ht _ xw_178) (fun _ h9 => h9) rfl hn rfl (by decide +kernel) rfl rfl hl dX2_init_14 k) ?_
  refine xm_Oks.stop ?_
  exact trivial
set_option maxHeartbeats 4000000 in
set_option maxRecDepth 100000 in
theorem xk_X2_allows : xm_MOk xp_pg xp_pm 42 := by
  refine ⟨by decide +kernel, rfl, ?_, ?_⟩
  · show xm_Oks _ xt_X2_allows
    exact ⟨trivial, trivial, trivial, trivial, trivial, trivial, trivial, trivial, trivial, trivial, trivial, trivial, trivial, trivial, trivial, trivial, trivial, trivial, trivial, ⟨dX2_allows_35, rfl⟩, trivial⟩
  intro d mc ms p l e s m args below meth c Q cA D A tS ad0 o0 G hG hC hn ih
  have hG : xm_IsG p l e (xm_room (d + 1) mc ms) s m args below meth c Q cA D A tS 2 ad0 o0 G := hG
  have hC : xm_Cx p s m args c cX2_allows 2 RX2 (Cond.code yX2_allows cX2_allows 2 (some .boolean) :: xm_W) cA D A tS := hC
  have hn : meth.name = "allows" := hn
  obtain ⟨hx, hb, hml, hown, hts, hK, hA, hSx, hNx⟩ := id hC
  have ht : ∀ w ∈ xm_W, w.before args s = true := fun w h => hts w (List.mem_cons_of_mem _ h)
  show xm_Oks (xm_Ent (xm_room (d + 1) mc ms) G (xm_Do xp_pg d)) xt_X2_allows
  unfold xt_X2_allows
  refine xm_Oks.step (sn_ldI hG fun H locs cells slots ls rest x h k => lv_iload_n hx hb dX2_allows_0 rfl h k) ?_
  refine xm_Oks.step (sn_if hG fun H locs cells slots ls rest x kt kf => lv_if_lt (tgt := 34) hx hb dX2_allows_1 (by decide) kt kf) ?_
  refine xm_Oks.step (sn_ldI hG fun H locs cells slots ls rest x h k => lv_iload_n hx hb dX2_allows_4 rfl h k) ?_
  refine xm_Oks.step (sn_gst hG hC (by decide) fun H locs cells slots ls rest t hZ hS k => va_gets hx hb hZ hS hown (ht _ xw_179) (fun _ h9 => h9) dX2_allows_5 k) ?_
  refine xm_Oks.step (sn_alen hG hC (xr_alen hx hb hK dX2_allows_8) (fun H locs cells slots ls rest t k0 hT hS k => va_tlen hx hb hT.T hS rfl dX2_allows_8 k)) ?_
  refine xm_Oks.step (sn_icmp hG fun H locs cells slots ls rest x y kt kf => lv_icmp_ge (tgt := 34) hx hb dX2_allows_9 (by decide) kt kf) ?_
  refine xm_Oks.step (sn_ldI hG fun H locs cells slots ls rest x h k => lv_iload_n hx hb dX2_allows_12 rfl h k) ?_
  refine xm_Oks.step (sn_gst hG hC (by decide) fun H locs cells slots ls rest t hZ hS k => va_gets hx hb hZ hS hown (ht _ xw_179) (fun _ h9 => h9) dX2_allows_13 k) ?_
  refine xm_Oks.step (sn_ldI hG fun H locs cells slots ls rest x h k => lv_iload_n hx hb dX2_allows_16 rfl h k) ?_
  refine xm_Oks.step (sn_tald hG hC (by decide) fun H locs cells slots ls rest t x hT hS hin k => va_ti hx hb hT.T hS hin rfl dX2_allows_17 k) ?_
  refine xm_Oks.step (sn_icmp hG fun H locs cells slots ls rest x y kt kf => lv_icmp_lt (tgt := 34) hx hb dX2_allows_18 (by decide) kt kf) ?_
  refine xm_Oks.step (sn_ldI hG fun H locs cells slots ls rest x h k => lv_iload_n hx hb dX2_allows_21 rfl h k) ?_
  refine xm_Oks.step (sn_gst hG hC (by decide) fun H locs cells slots ls rest t hZ hS k => va_gets hx hb hZ hS hown (ht _ xw_180) (fun _ h9 => h9) dX2_allows_22 k) ?_
  refine xm_Oks.step (sn_ldI hG fun H locs cells slots ls rest x h k => lv_iload_n hx hb dX2_allows_25 rfl h k) ?_
  refine xm_Oks.step (sn_tald hG hC (by decide) fun H locs cells slots ls rest t x hT hS hin k => va_ti hx hb hT.T hS hin rfl dX2_allows_26 k) ?_
  refine xm_Oks.step (sn_icmp hG fun H locs cells slots ls rest x y kt kf => lv_icmp_gt (tgt := 34) hx hb dX2_allows_27 (by decide) kt kf) ?_
  refine xm_Oks.step (sn_push hG (fun _ => trivial) fun ad H locs cells slots ls rest k => lv_iconst hx hb dX2_allows_30 (by decide) k) ?_
  refine xm_Oks.step (sn_goto hG fun H locs cells slots ls rest k => lv_goto (tgt := 35) hx hb dX2_allows_31 (by decide) k) ?_
  refine xm_Oks.step (sn_push hG (fun _ => trivial) fun ad H locs cells slots ls rest k => lv_iconst hx hb dX2_allows_34 (by decide) k) ?_
  refine xm_Oks.stop ?_
  exact trivial
set_option maxHeartbeats 4000000 in
set_option maxRecDepth 100000 in
theorem xk_X2_exchange : xm_MOk xp_pg xp_pm 43 := by
  refine ⟨by decide +kernel, rfl, ?_, ?_⟩
  · show xm_Oks _ xt_X2_exchange
    exact ⟨trivial, trivial, trivial, trivial, trivial, trivial, trivial, trivial, trivial, trivial, trivial, ⟨dX2_exchange_15, rfl⟩, trivial⟩
  intro d mc ms p l e s m args below meth c Q cA D A tS ad0 o0 G hG hC hn ih
  have hG : xm_IsG p l e (xm_room (d + 1) mc ms) s m args below meth c Q cA D A tS 4 ad0 o0 G := hG
  have hC : xm_Cx p s m args c cX2_exchange 4 RX2 (Cond.code yX2_exchange cX2_exchange 4 (some .int) :: xm_W) cA D A tS := hC
  have hn : meth.name = "exchange" := hn
  obtain ⟨hx, hb, hml, hown, hts, hK, hA, hSx, hNx⟩ := id hC
  have ht : ∀ w ∈ xm_W, w.before args s = true := fun w h => hts w (List.mem_cons_of_mem _ h)
  show xm_Oks (xm_Ent (xm_room (d + 1) mc ms) G (xm_Do xp_pg d)) xt_X2_exchange
  unfold xt_X2_exchange
  refine xm_Oks.step (sn_ldR hG fun H locs cells slots ls rest x h k => lv_aload_n hx hb dX2_exchange_0 rfl h k) ?_
  refine xm_Oks.step (sn_getR hG rfl rfl (by decide) fun H locs cells slots ls rest q0 ws a fs v hP hw hv k => va_get (D := D) (C := RX2) (T := TX2) (N := 1) hx hb ht xu_2 hown hK hP q0 hw rfl 0 (by decide) (ht _ xw_178) (fun _ h9 => h9) hv dX2_exchange_1 k) ?_
  refine xm_Oks.step (sn_ldI hG fun H locs cells slots ls rest x h k => lv_iload_n hx hb dX2_exchange_4 rfl h k) ?_
  refine xm_Oks.step (sn_iald hG fun H locs cells slots ls rest q0 ws a N f x hP hw hin k => va_iald hx hb hK hP q0 1 hw rfl hin dX2_exchange_5 k) ?_
  refine xm_Oks.step (sn_stI hG fun H locs cells slots ls rest x lv lv9 h he k => lv_istore_n hx hb dX2_exchange_6 rfl h (by decide) he k) ?_
  refine xm_Oks.step (sn_ldR hG fun H locs cells slots ls rest x h k => lv_aload_n hx hb dX2_exchange_7 rfl h k) ?_
  refine xm_Oks.step (sn_getR hG rfl rfl (by decide) fun H locs cells slots ls rest q0 ws a fs v hP hw hv k => va_get (D := D) (C := RX2) (T := TX2) (N := 1) hx hb ht xu_2 hown hK hP q0 hw rfl 0 (by decide) (ht _ xw_178) (fun _ h9 => h9) hv dX2_exchange_8 k) ?_
  refine xm_Oks.step (sn_ldI hG fun H locs cells slots ls rest x h k => lv_iload_n hx hb dX2_exchange_11 rfl h k) ?_
  refine xm_Oks.step (sn_ldI hG fun H locs cells slots ls rest x h k => lv_iload_n hx hb dX2_exchange_12 rfl h k) ?_
  refine xm_Oks.step (sn_iast hG fun H locs cells slots ls rest q0 ws a N f x v hP hD hS hw hin k => va_iast hx hb hK hP hD hS q0 1 hw rfl hin dX2_exchange_13 k) ?_
  refine xm_Oks.step (sn_ldI hG fun H locs cells slots ls rest x h k => lv_iload_n hx hb dX2_exchange_14 rfl h k) ?_
  refine xm_Oks.stop ?_
  exact trivial
set_option maxHeartbeats 4000000 in
set_option maxRecDepth 100000 in
theorem xk_X2_time : xm_MOk xp_pg xp_pm 44 := by
  refine ⟨by decide +kernel, rfl, ?_, ?_⟩
  · show xm_Oks _ xt_X2_time
    exact ⟨trivial, trivial, trivial, trivial, ⟨dX2_time_6, rfl⟩, trivial⟩
  intro d mc ms p l e s m args below meth c Q cA D A tS ad0 o0 G hG hC hn ih
  have hG : xm_IsG p l e (xm_room (d + 1) mc ms) s m args below meth c Q cA D A tS 1 ad0 o0 G := hG
  have hC : xm_Cx p s m args c cX2_time 1 RX2 (Cond.code yX2_time cX2_time 1 (some .int) :: xm_W) cA D A tS := hC
  have hn : meth.name = "time" := hn
  obtain ⟨hx, hb, hml, hown, hts, hK, hA, hSx, hNx⟩ := id hC
  have ht : ∀ w ∈ xm_W, w.before args s = true := fun w h => hts w (List.mem_cons_of_mem _ h)
  show xm_Oks (xm_Ent (xm_room (d + 1) mc ms) G (xm_Do xp_pg d)) xt_X2_time
  unfold xt_X2_time
  refine xm_Oks.step (sn_ldR hG fun H locs cells slots ls rest x h k => lv_aload_n hx hb dX2_time_0 rfl h k) ?_
  refine xm_Oks.step (sn_getR hG rfl rfl (by decide) fun H locs cells slots ls rest q0 ws a fs v hP hw hv k => va_get (D := D) (C := RX2) (T := TX2) (N := 1) hx hb ht xu_2 hown hK hP q0 hw rfl 0 (by decide) (ht _ xw_178) (fun _ h9 => h9) hv dX2_time_1 k) ?_
  refine xm_Oks.step (sn_push hG (fun _ => trivial) fun ad H locs cells slots ls rest k => lv_iconst hx hb dX2_time_4 (by decide) k) ?_
  refine xm_Oks.step (sn_iald hG fun H locs cells slots ls rest q0 ws a N f x hP hw hin k => va_iald hx hb hK hP q0 1 hw rfl hin dX2_time_5 k) ?_
  refine xm_Oks.stop ?_
  exact trivial
set_option maxHeartbeats 4000000 in
set_option maxRecDepth 100000 in
theorem xk_X2_near : xm_MOk xp_pg xp_pm 45 := by
  refine ⟨by decide +kernel, rfl, ?_, ?_⟩
  · show xm_Oks _ xt_X2_near
    exact ⟨trivial, trivial, trivial, trivial, ⟨dX2_near_6, rfl⟩, trivial⟩
  intro d mc ms p l e s m args below meth c Q cA D A tS ad0 o0 G hG hC hn ih
  have hG : xm_IsG p l e (xm_room (d + 1) mc ms) s m args below meth c Q cA D A tS 1 ad0 o0 G := hG
  have hC : xm_Cx p s m args c cX2_near 1 RX2 (Cond.code yX2_near cX2_near 1 (some .int) :: xm_W) cA D A tS := hC
  have hn : meth.name = "near" := hn
  obtain ⟨hx, hb, hml, hown, hts, hK, hA, hSx, hNx⟩ := id hC
  have ht : ∀ w ∈ xm_W, w.before args s = true := fun w h => hts w (List.mem_cons_of_mem _ h)
  show xm_Oks (xm_Ent (xm_room (d + 1) mc ms) G (xm_Do xp_pg d)) xt_X2_near
  unfold xt_X2_near
  refine xm_Oks.step (sn_ldR hG fun H locs cells slots ls rest x h k => lv_aload_n hx hb dX2_near_0 rfl h k) ?_
  refine xm_Oks.step (sn_getR hG rfl rfl (by decide) fun H locs cells slots ls rest q0 ws a fs v hP hw hv k => va_get (D := D) (C := RX2) (T := TX2) (N := 1) hx hb ht xu_2 hown hK hP q0 hw rfl 0 (by decide) (ht _ xw_178) (fun _ h9 => h9) hv dX2_near_1 k) ?_
  refine xm_Oks.step (sn_push hG (fun _ => trivial) fun ad H locs cells slots ls rest k => lv_iconst hx hb dX2_near_4 (by decide) k) ?_
  refine xm_Oks.step (sn_iald hG fun H locs cells slots ls rest q0 ws a N f x hP hw hin k => va_iald hx hb hK hP q0 1 hw rfl hin dX2_near_5 k) ?_
  refine xm_Oks.stop ?_
  exact trivial
set_option maxHeartbeats 4000000 in
set_option maxRecDepth 100000 in
theorem xk_X2_miss : xm_MOk xp_pg xp_pm 46 := by
  refine ⟨by decide +kernel, rfl, ?_, ?_⟩
  · show xm_Oks _ xt_X2_miss
    exact ⟨trivial, trivial, trivial, trivial, ⟨dX2_miss_6, rfl⟩, trivial⟩
  intro d mc ms p l e s m args below meth c Q cA D A tS ad0 o0 G hG hC hn ih
  have hG : xm_IsG p l e (xm_room (d + 1) mc ms) s m args below meth c Q cA D A tS 1 ad0 o0 G := hG
  have hC : xm_Cx p s m args c cX2_miss 1 RX2 (Cond.code yX2_miss cX2_miss 1 (some .int) :: xm_W) cA D A tS := hC
  have hn : meth.name = "miss" := hn
  obtain ⟨hx, hb, hml, hown, hts, hK, hA, hSx, hNx⟩ := id hC
  have ht : ∀ w ∈ xm_W, w.before args s = true := fun w h => hts w (List.mem_cons_of_mem _ h)
  show xm_Oks (xm_Ent (xm_room (d + 1) mc ms) G (xm_Do xp_pg d)) xt_X2_miss
  unfold xt_X2_miss
  refine xm_Oks.step (sn_ldR hG fun H locs cells slots ls rest x h k => lv_aload_n hx hb dX2_miss_0 rfl h k) ?_
  refine xm_Oks.step (sn_getR hG rfl rfl (by decide) fun H locs cells slots ls rest q0 ws a fs v hP hw hv k => va_get (D := D) (C := RX2) (T := TX2) (N := 1) hx hb ht xu_2 hown hK hP q0 hw rfl 0 (by decide) (ht _ xw_178) (fun _ h9 => h9) hv dX2_miss_1 k) ?_
  refine xm_Oks.step (sn_push hG (fun _ => trivial) fun ad H locs cells slots ls rest k => lv_iconst hx hb dX2_miss_4 (by decide) k) ?_
  refine xm_Oks.step (sn_iald hG fun H locs cells slots ls rest q0 ws a N f x hP hw hin k => va_iald hx hb hK hP q0 1 hw rfl hin dX2_miss_5 k) ?_
  refine xm_Oks.stop ?_
  exact trivial
set_option maxHeartbeats 4000000 in
set_option maxRecDepth 100000 in
theorem xk_X2_high : xm_MOk xp_pg xp_pm 47 := by
  refine ⟨by decide +kernel, rfl, ?_, ?_⟩
  · show xm_Oks _ xt_X2_high
    exact ⟨trivial, trivial, trivial, trivial, ⟨dX2_high_6, rfl⟩, trivial⟩
  intro d mc ms p l e s m args below meth c Q cA D A tS ad0 o0 G hG hC hn ih
  have hG : xm_IsG p l e (xm_room (d + 1) mc ms) s m args below meth c Q cA D A tS 1 ad0 o0 G := hG
  have hC : xm_Cx p s m args c cX2_high 1 RX2 (Cond.code yX2_high cX2_high 1 (some .int) :: xm_W) cA D A tS := hC
  have hn : meth.name = "high" := hn
  obtain ⟨hx, hb, hml, hown, hts, hK, hA, hSx, hNx⟩ := id hC
  have ht : ∀ w ∈ xm_W, w.before args s = true := fun w h => hts w (List.mem_cons_of_mem _ h)
  show xm_Oks (xm_Ent (xm_room (d + 1) mc ms) G (xm_Do xp_pg d)) xt_X2_high
  unfold xt_X2_high
  refine xm_Oks.step (sn_ldR hG fun H locs cells slots ls rest x h k => lv_aload_n hx hb dX2_high_0 rfl h k) ?_
  refine xm_Oks.step (sn_getR hG rfl rfl (by decide) fun H locs cells slots ls rest q0 ws a fs v hP hw hv k => va_get (D := D) (C := RX2) (T := TX2) (N := 1) hx hb ht xu_2 hown hK hP q0 hw rfl 0 (by decide) (ht _ xw_178) (fun _ h9 => h9) hv dX2_high_1 k) ?_
  refine xm_Oks.step (sn_push hG (fun _ => trivial) fun ad H locs cells slots ls rest k => lv_iconst hx hb dX2_high_4 (by decide) k) ?_
  refine xm_Oks.step (sn_iald hG fun H locs cells slots ls rest q0 ws a N f x hP hw hin k => va_iald hx hb hK hP q0 1 hw rfl hin dX2_high_5 k) ?_
  refine xm_Oks.stop ?_
  exact trivial
set_option maxHeartbeats 4000000 in
set_option maxRecDepth 100000 in
theorem xk_X2_wanted : xm_MOk xp_pg xp_pm 48 := by
  refine ⟨by decide +kernel, rfl, ?_, ?_⟩
  · show xm_Oks _ xt_X2_wanted
    exact ⟨trivial, trivial, trivial, trivial, ⟨dX2_wanted_6, rfl⟩, trivial⟩
  intro d mc ms p l e s m args below meth c Q cA D A tS ad0 o0 G hG hC hn ih
  have hG : xm_IsG p l e (xm_room (d + 1) mc ms) s m args below meth c Q cA D A tS 1 ad0 o0 G := hG
  have hC : xm_Cx p s m args c cX2_wanted 1 RX2 (Cond.code yX2_wanted cX2_wanted 1 (some .int) :: xm_W) cA D A tS := hC
  have hn : meth.name = "wanted" := hn
  obtain ⟨hx, hb, hml, hown, hts, hK, hA, hSx, hNx⟩ := id hC
  have ht : ∀ w ∈ xm_W, w.before args s = true := fun w h => hts w (List.mem_cons_of_mem _ h)
  show xm_Oks (xm_Ent (xm_room (d + 1) mc ms) G (xm_Do xp_pg d)) xt_X2_wanted
  unfold xt_X2_wanted
  refine xm_Oks.step (sn_ldR hG fun H locs cells slots ls rest x h k => lv_aload_n hx hb dX2_wanted_0 rfl h k) ?_
  refine xm_Oks.step (sn_getR hG rfl rfl (by decide) fun H locs cells slots ls rest q0 ws a fs v hP hw hv k => va_get (D := D) (C := RX2) (T := TX2) (N := 1) hx hb ht xu_2 hown hK hP q0 hw rfl 0 (by decide) (ht _ xw_178) (fun _ h9 => h9) hv dX2_wanted_1 k) ?_
  refine xm_Oks.step (sn_push hG (fun _ => trivial) fun ad H locs cells slots ls rest k => lv_iconst hx hb dX2_wanted_4 (by decide) k) ?_
  refine xm_Oks.step (sn_iald hG fun H locs cells slots ls rest q0 ws a N f x hP hw hin k => va_iald hx hb hK hP q0 1 hw rfl hin dX2_wanted_5 k) ?_
  refine xm_Oks.stop ?_
  exact trivial
set_option maxHeartbeats 4000000 in
set_option maxRecDepth 100000 in
theorem xk_X2_delay : xm_MOk xp_pg xp_pm 49 := by
  refine ⟨by decide +kernel, rfl, ?_, ?_⟩
  · show xm_Oks _ xt_X2_delay
    exact ⟨trivial, trivial, trivial, trivial, ⟨dX2_delay_6, rfl⟩, trivial⟩
  intro d mc ms p l e s m args below meth c Q cA D A tS ad0 o0 G hG hC hn ih
  have hG : xm_IsG p l e (xm_room (d + 1) mc ms) s m args below meth c Q cA D A tS 1 ad0 o0 G := hG
  have hC : xm_Cx p s m args c cX2_delay 1 RX2 (Cond.code yX2_delay cX2_delay 1 (some .int) :: xm_W) cA D A tS := hC
  have hn : meth.name = "delay" := hn
  obtain ⟨hx, hb, hml, hown, hts, hK, hA, hSx, hNx⟩ := id hC
  have ht : ∀ w ∈ xm_W, w.before args s = true := fun w h => hts w (List.mem_cons_of_mem _ h)
  show xm_Oks (xm_Ent (xm_room (d + 1) mc ms) G (xm_Do xp_pg d)) xt_X2_delay
  unfold xt_X2_delay
  refine xm_Oks.step (sn_ldR hG fun H locs cells slots ls rest x h k => lv_aload_n hx hb dX2_delay_0 rfl h k) ?_
  refine xm_Oks.step (sn_getR hG rfl rfl (by decide) fun H locs cells slots ls rest q0 ws a fs v hP hw hv k => va_get (D := D) (C := RX2) (T := TX2) (N := 1) hx hb ht xu_2 hown hK hP q0 hw rfl 0 (by decide) (ht _ xw_178) (fun _ h9 => h9) hv dX2_delay_1 k) ?_
  refine xm_Oks.step (sn_push hG (fun _ => trivial) fun ad H locs cells slots ls rest k => lv_iconst hx hb dX2_delay_4 (by decide) k) ?_
  refine xm_Oks.step (sn_iald hG fun H locs cells slots ls rest q0 ws a N f x hP hw hin k => va_iald hx hb hK hP q0 1 hw rfl hin dX2_delay_5 k) ?_
  refine xm_Oks.stop ?_
  exact trivial
set_option maxHeartbeats 4000000 in
set_option maxRecDepth 100000 in
theorem xk_X2_pull : xm_MOk xp_pg xp_pm 50 := by
  refine ⟨by decide +kernel, rfl, ?_, ?_⟩
  · show xm_Oks _ xt_X2_pull
    exact ⟨trivial, trivial, trivial, trivial, ⟨dX2_pull_7, rfl⟩, trivial⟩
  intro d mc ms p l e s m args below meth c Q cA D A tS ad0 o0 G hG hC hn ih
  have hG : xm_IsG p l e (xm_room (d + 1) mc ms) s m args below meth c Q cA D A tS 1 ad0 o0 G := hG
  have hC : xm_Cx p s m args c cX2_pull 1 RX2 (Cond.code yX2_pull cX2_pull 1 (some .int) :: xm_W) cA D A tS := hC
  have hn : meth.name = "pull" := hn
  obtain ⟨hx, hb, hml, hown, hts, hK, hA, hSx, hNx⟩ := id hC
  have ht : ∀ w ∈ xm_W, w.before args s = true := fun w h => hts w (List.mem_cons_of_mem _ h)
  show xm_Oks (xm_Ent (xm_room (d + 1) mc ms) G (xm_Do xp_pg d)) xt_X2_pull
  unfold xt_X2_pull
  refine xm_Oks.step (sn_ldR hG fun H locs cells slots ls rest x h k => lv_aload_n hx hb dX2_pull_0 rfl h k) ?_
  refine xm_Oks.step (sn_getR hG rfl rfl (by decide) fun H locs cells slots ls rest q0 ws a fs v hP hw hv k => va_get (D := D) (C := RX2) (T := TX2) (N := 1) hx hb ht xu_2 hown hK hP q0 hw rfl 0 (by decide) (ht _ xw_178) (fun _ h9 => h9) hv dX2_pull_1 k) ?_
  refine xm_Oks.step (sn_push hG (fun _ => trivial) fun ad H locs cells slots ls rest k => lv_bipush hx hb dX2_pull_4 (by decide) k) ?_
  refine xm_Oks.step (sn_iald hG fun H locs cells slots ls rest q0 ws a N f x hP hw hin k => va_iald hx hb hK hP q0 1 hw rfl hin dX2_pull_6 k) ?_
  refine xm_Oks.stop ?_
  exact trivial
