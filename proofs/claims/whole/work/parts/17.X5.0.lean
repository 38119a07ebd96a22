set_option maxHeartbeats 4000000 in
set_option maxRecDepth 100000 in
theorem xk_X5_init : xm_MOk xp_pg xp_pm 71 := by
  refine ⟨by decide +kernel, rfl, ?_, ?_⟩
  · show xm_Oks _ xt_X5_init
    exact ⟨trivial, trivial, trivial, trivial, trivial, trivial, trivial, trivial, trivial, trivial, trivial, trivial, trivial, trivial, trivial, trivial, trivial, trivial, trivial, trivial, trivial, trivial, trivial, trivial, trivial, trivial, trivial, trivial, trivial, trivial, trivial, trivial, trivial, trivial, trivial, trivial, trivial, trivial, trivial, trivial, trivial, trivial, trivial, trivial, trivial, trivial, trivial, trivial, trivial, trivial, trivial, trivial, trivial, trivial, trivial, trivial, trivial, trivial, trivial, trivial, trivial, trivial, trivial, trivial, trivial, trivial, trivial, trivial, trivial, trivial, trivial, trivial, trivial, trivial, trivial, trivial, trivial, trivial, trivial, trivial, trivial, ⟨dX5_init_151, rfl⟩, trivial⟩
  intro d mc ms p l e s m args below meth c Q cA D A tS ad0 o0 G hG hC hn ih
  have hG : xm_IsG p l e (xm_room (d + 1) mc ms) s m args below meth c Q cA D A tS 1 ad0 o0 G := hG
  have hC : xm_Cx p s m args c cX5_init 1 RX5 (Cond.code yX5_init cX5_init 1 none :: xm_W) cA D A tS := hC
  have hn : meth.name = "<init>" := hn
  obtain ⟨hx, hb, hml, hown, hts, hK, hA, hSx, hNx⟩ := id hC
  have ht : ∀ w ∈ xm_W, w.before args s = true := fun w h => hts w (List.mem_cons_of_mem _ h)
  show xm_Oks (xm_Ent (xm_room (d + 1) mc ms) G (xm_Do xp_pg d)) xt_X5_init
  unfold xt_X5_init
  refine xm_Oks.step (sn_ldR hG fun H locs cells slots ls rest x h k => lv_aload_n hx hb dX5_init_0 rfl h k) ?_
  refine xm_Oks.step (sn_obj hG fun H locs cells slots ls rest a h1 h2 k => W.objInit hx hb hown (ht _ xw_320) (ht _ xw_1) (ht _ xw_2) rfl (h1.trans hml.symm) rfl dX5_init_1 (Nat.le_add_left 1 d) (by show 2 * 0 + _ + 12 ≤ 40 * (d + 1); omega) k) ?_
  refine xm_Oks.step (sn_ldR hG fun H locs cells slots ls rest x h k => lv_aload_n hx hb dX5_init_4 rfl h k) ?_
  refine xm_Oks.step (sn_push hG (fun _ => trivial) fun ad H locs cells slots ls rest k => lv_bipush hx hb dX5_init_5 (by decide) k) ?_
  refine xm_Oks.step (sn_newa hG rfl (by decide) (fun _ _ _ => xm_nwI rfl) (xr_newI hx hb hK hA (ht _ xw_321) dX5_init_7)) ?_
  refine xm_Oks.step (sn_putR hG rfl rfl (by decide) fun H locs cells slots ls rest q0 ws a fs v hP hD hS hw ⟨x, hv⟩ hl k => by subst hv; exact va_putF (D := D) (ty := .array .int) (C := RX5) (T := TX5) (N := 22) hx hb ht xu_5 tyX5 tyX5_ok nmX5 hown hK hP hD hS q0 hw rfl 1 (by decide) (ht _ xw_322) (fun _ h9 => h9) rfl hn rfl (by decide +kernel) rfl rfl hl dX5_init_9 k) ?_
  refine xm_Oks.step (sn_ldR hG fun H locs cells slots ls rest x h k => lv_aload_n hx hb dX5_init_12 rfl h k) ?_
  refine xm_Oks.step (sn_push hG (fun _ => trivial) fun ad H locs cells slots ls rest k => lv_bipush hx hb dX5_init_13 (by decide) k) ?_
  refine xm_Oks.step (sn_newa hG rfl (by decide) (fun _ _ _ => xm_nwZ rfl) (xr_newZ hx hb hK hA (ht _ xw_323) dX5_init_15)) ?_
  refine xm_Oks.step (sn_putR hG rfl rfl (by decide) fun H locs cells slots ls rest q0 ws a fs v hP hD hS hw ⟨x, hv⟩ hl k => by subst hv; exact va_putF (D := D) (ty := .array .boolean) (C := RX5) (T := TX5) (N := 22) hx hb ht xu_5 tyX5 tyX5_ok nmX5 hown hK hP hD hS q0 hw rfl 2 (by decide) (ht _ xw_324) (fun _ h9 => h9) rfl hn rfl (by decide +kernel) rfl rfl hl dX5_init_17 k) ?_
  refine xm_Oks.step (sn_ldR hG fun H locs cells slots ls rest x h k => lv_aload_n hx hb dX5_init_20 rfl h k) ?_
  refine xm_Oks.step (sn_push hG (fun _ => trivial) fun ad H locs cells slots ls rest k => lv_bipush hx hb dX5_init_21 (by decide) k) ?_
  refine xm_Oks.step (sn_newa hG rfl (by decide) (fun _ _ _ => xm_nwZ rfl) (xr_newZ hx hb hK hA (ht _ xw_323) dX5_init_23)) ?_
  refine xm_Oks.step (sn_putR hG rfl rfl (by decide) fun H locs cells slots ls rest q0 ws a fs v hP hD hS hw ⟨x, hv⟩ hl k => by subst hv; exact va_putF (D := D) (ty := .array .boolean) (C := RX5) (T := TX5) (N := 22) hx hb ht xu_5 tyX5 tyX5_ok nmX5 hown hK hP hD hS q0 hw rfl 3 (by decide) (ht _ xw_325) (fun _ h9 => h9) rfl hn rfl (by decide +kernel) rfl rfl hl dX5_init_25 k) ?_
  refine xm_Oks.step (sn_ldR hG fun H locs cells slots ls rest x h k => lv_aload_n hx hb dX5_init_28 rfl h k) ?_
  refine xm_Oks.step (sn_push hG (fun _ => trivial) fun ad H locs cells slots ls rest k => lv_bipush hx hb dX5_init_29 (by decide) k) ?_
  refine xm_Oks.step (sn_newa hG rfl (by decide) (fun _ _ _ => xm_nwI rfl) (xr_newI hx hb hK hA (ht _ xw_321) dX5_init_31)) ?_
  refine xm_Oks.step (sn_putR hG rfl rfl (by decide) fun H locs cells slots ls rest q0 ws a fs v hP hD hS hw ⟨x, hv⟩ hl k => by subst hv; exact va_putF (D := D) (ty := .array .int) (C := RX5) (T := TX5) (N := 22) hx hb ht xu_5 tyX5 tyX5_ok nmX5 hown hK hP hD hS q0 hw rfl 4 (by decide) (ht _ xw_326) (fun _ h9 => h9) rfl hn rfl (by decide +kernel) rfl rfl hl dX5_init_33 k) ?_
  refine xm_Oks.step (sn_ldR hG fun H locs cells slots ls rest x h k => lv_aload_n hx hb dX5_init_36 rfl h k) ?_
  refine xm_Oks.step (sn_push hG (fun _ => trivial) fun ad H locs cells slots ls rest k => lv_bipush hx hb dX5_init_37 (by decide) k) ?_
  refine xm_Oks.step (sn_newa hG rfl (by decide) (fun _ _ _ => xm_nwI rfl) (xr_newI hx hb hK hA (ht _ xw_321) dX5_init_39)) ?_
  refine xm_Oks.step (sn_putR hG rfl rfl (by decide) fun H locs cells slots ls rest q0 ws a fs v hP hD hS hw ⟨x, hv⟩ hl k => by subst hv; exact va_putF (D := D) (ty := .array .int) (C := RX5) (T := TX5) (N := 22) hx hb ht xu_5 tyX5 tyX5_ok nmX5 hown hK hP hD hS q0 hw rfl 5 (by decide) (ht _ xw_327) (fun _ h9 => h9) rfl hn rfl (by decide +kernel) rfl rfl hl dX5_init_41 k) ?_
  refine xm_Oks.step (sn_ldR hG fun H locs cells slots ls rest x h k => lv_aload_n hx hb dX5_init_44 rfl h k) ?_
  refine xm_Oks.step (sn_push hG (fun _ => trivial) fun ad H locs cells slots ls rest k => lv_bipush hx hb dX5_init_45 (by decide) k) ?_
  refine xm_Oks.step (sn_newa hG rfl (by decide) (fun _ _ _ => xm_nwI rfl) (xr_newI hx hb hK hA (ht _ xw_321) dX5_init_47)) ?_
  refine xm_Oks.step (sn_putR hG rfl rfl (by decide) fun H locs cells slots ls rest q0 ws a fs v hP hD hS hw ⟨x, hv⟩ hl k => by subst hv; exact va_putF (D := D) (ty := .array .int) (C := RX5) (T := TX5) (N := 22) hx hb ht xu_5 tyX5 tyX5_ok nmX5 hown hK hP hD hS q0 hw rfl 6 (by decide) (ht _ xw_328) (fun _ h9 => h9) rfl hn rfl (by decide +kernel) rfl rfl hl dX5_init_49 k) ?_
  refine xm_Oks.step (sn_ldR hG fun H locs cells slots ls rest x h k => lv_aload_n hx hb dX5_init_52 rfl h k) ?_
  refine xm_Oks.step (sn_push hG (fun _ => trivial) fun ad H locs cells slots ls rest k => lv_bipush hx hb dX5_init_53 (by decide) k) ?_
  refine xm_Oks.step (sn_newa hG rfl (by decide) (fun _ _ _ => xm_nwI rfl) (xr_newI hx hb hK hA (ht _ xw_321) dX5_init_55)) ?_
  refine xm_Oks.step (sn_putR hG rfl rfl (by decide) fun H locs cells slots ls rest q0 ws a fs v hP hD hS hw ⟨x, hv⟩ hl k => by subst hv; exact va_putF (D := D) (ty := .array .int) (C := RX5) (T := TX5) (N := 22) hx hb ht xu_5 tyX5 tyX5_ok nmX5 hown hK hP hD hS q0 hw rfl 7 (by decide) (ht _ xw_329) (fun _ h9 => h9) rfl hn rfl (by decide +kernel) rfl rfl hl dX5_init_57 k) ?_
  refine xm_Oks.step (sn_ldR hG fun H locs cells slots ls rest x h k => lv_aload_n hx hb dX5_init_60 rfl h k) ?_
  refine xm_Oks.step (sn_push hG (fun _ => trivial) fun ad H locs cells slots ls rest k => lv_bipush hx hb dX5_init_61 (by decide) k) ?_
  refine xm_Oks.step (sn_newa hG rfl (by decide) (fun _ _ _ => xm_nwZ rfl) (xr_newZ hx hb hK hA (ht _ xw_323) dX5_init_63)) ?_
  refine xm_Oks.step (sn_putR hG rfl rfl (by decide) fun H locs cells slots ls rest q0 ws a fs v hP hD hS hw ⟨x, hv⟩ hl k => by subst hv; exact va_putF (D := D) (ty := .array .boolean) (C := RX5) (T := TX5) (N := 22) hx hb ht xu_5 tyX5 tyX5_ok nmX5 hown hK hP hD hS q0 hw rfl 8 (by decide) (ht _ xw_330) (fun _ h9 => h9) rfl hn rfl (by decide +kernel) rfl rfl hl dX5_init_65 k) ?_
  refine xm_Oks.step (sn_ldR hG fun H locs cells slots ls rest x h k => lv_aload_n hx hb dX5_init_68 rfl h k) ?_
  refine xm_Oks.step (sn_push hG (fun _ => trivial) fun ad H locs cells slots ls rest k => lv_bipush hx hb dX5_init_69 (by decide) k) ?_
  refine xm_Oks.step (sn_newa hG rfl (by decide) (fun _ _ _ => xm_nwL rfl) (xr_newL hx hb hK hA (ht _ xw_331) dX5_init_71)) ?_
  refine xm_Oks.step (sn_putR hG rfl rfl (by decide) fun H locs cells slots ls rest q0 ws a fs v hP hD hS hw ⟨x, hv⟩ hl k => by subst hv; exact va_putF (D := D) (ty := .array .long) (C := RX5) (T := TX5) (N := 22) hx hb ht xu_5 tyX5 tyX5_ok nmX5 hown hK hP hD hS q0 hw rfl 9 (by decide) (ht _ xw_332) (fun _ h9 => h9) rfl hn rfl (by decide +kernel) rfl rfl hl dX5_init_73 k) ?_
  refine xm_Oks.step (sn_ldR hG fun H locs cells slots ls rest x h k => lv_aload_n hx hb dX5_init_76 rfl h k) ?_
  refine xm_Oks.step (sn_push hG (fun _ => trivial) fun ad H locs cells slots ls rest k => lv_bipush hx hb dX5_init_77 (by decide) k) ?_
  refine xm_Oks.step (sn_newa hG rfl (by decide) (fun _ _ _ => xm_nwI rfl) (xr_newI hx hb hK hA (ht _ xw_321) dX5_init_79)) ?_
  refine xm_Oks.step (sn_putR hG rfl rfl (by decide) fun H locs cells slots ls rest q0 ws a fs v hP hD hS hw ⟨x, hv⟩ hl k => by subst hv; exact va_putF (D := D) (ty := .array .int) (C := RX5) (T := TX5) (N := 22) hx hb ht xu_5 tyX5 tyX5_ok nmX5 hown hK hP hD hS q0 hw rfl 10 (by decide) (ht _ xw_333) (fun _ h9 => h9) rfl hn rfl (by decide +kernel) rfl rfl hl dX5_init_81 k) ?_
  refine xm_Oks.step (sn_ldR hG fun H locs cells slots ls rest x h k => lv_aload_n hx hb dX5_init_84 rfl h k) ?_
  refine xm_Oks.step (sn_push hG (fun _ => trivial) fun ad H locs cells slots ls rest k => lv_iconst hx hb dX5_init_85 (by decide) k) ?_
  refine xm_Oks.step (sn_newa hG rfl (by decide) (fun _ _ _ => xm_nwI rfl) (xr_newI hx hb hK hA (ht _ xw_321) dX5_init_86)) ?_
  refine xm_Oks.step (sn_putR hG rfl rfl (by decide) fun H locs cells slots ls rest q0 ws a fs v hP hD hS hw ⟨x, hv⟩ hl k => by subst hv; exact va_putF (D := D) (ty := .array .int) (C := RX5) (T := TX5) (N := 22) hx hb ht xu_5 tyX5 tyX5_ok nmX5 hown hK hP hD hS q0 hw rfl 11 (by decide) (ht _ xw_334) (fun _ h9 => h9) rfl hn rfl (by decide +kernel) rfl rfl hl dX5_init_88 k) ?_
  refine xm_Oks.step (sn_ldR hG fun H locs cells slots ls rest x h k => lv_aload_n hx hb dX5_init_91 rfl h k) ?_
  refine xm_Oks.step (sn_getR hG rfl rfl (by decide) fun H locs cells slots ls rest q0 ws a fs v hP hw hv k => va_get (D := D) (C := RX5) (T := TX5) (N := 22) hx hb ht xu_5 hown hK hP q0 hw rfl 1 (by decide) (ht _ xw_322) (fun _ h9 => h9) hv dX5_init_92 k) ?_
  refine xm_Oks.step (sn_push hG (fun _ => trivial) fun ad H locs cells slots ls rest k => lv_iconst hx hb dX5_init_95 (by decide) k) ?_
  refine xm_Oks.step (sn_push hG (fun _ => trivial) fun ad H locs cells slots ls rest k => lv_bipush hx hb dX5_init_96 (by decide) k) ?_
  refine xm_Oks.step (sn_iast hG fun H locs cells slots ls rest q0 ws a N f x v hP hD hS hw hin k => va_iast hx hb hK hP hD hS q0 1 hw rfl hin dX5_init_98 k) ?_
  refine xm_Oks.step (sn_ldR hG fun H locs cells slots ls rest x h k => lv_aload_n hx hb dX5_init_99 rfl h k) ?_
  refine xm_Oks.step (sn_getR hG rfl rfl (by decide) fun H locs cells slots ls rest q0 ws a fs v hP hw hv k => va_get (D := D) (C := RX5) (T := TX5) (N := 22) hx hb ht xu_5 hown hK hP q0 hw rfl 1 (by decide) (ht _ xw_322) (fun _ h9 => h9) hv dX5_init_100 k) ?_
  refine xm_Oks.step (sn_push hG (fun _ => trivial) fun ad H locs cells slots ls rest k => lv_iconst hx hb dX5_init_103 (by decide) k) ?_
  refine xm_Oks.step (sn_push hG (fun _ => trivial) fun ad H locs cells slots ls rest k => lv_sipush hx hb dX5_init_104 (by decide) k) ?_
  refine xm_Oks.step (sn_iast hG fun H locs cells slots ls rest q0 ws a N f x v hP hD hS hw hin k => va_iast hx hb hK hP hD hS q0 1 hw rfl hin dX5_init_107 k) ?_
  refine xm_Oks.step (sn_ldR hG fun H locs cells slots ls rest x h k => lv_aload_n hx hb dX5_init_108 rfl h k) ?_
  refine xm_Oks.step (sn_getR hG rfl rfl (by decide) fun H locs cells slots ls rest q0 ws a fs v hP hw hv k => va_get (D := D) (C := RX5) (T := TX5) (N := 22) hx hb ht xu_5 hown hK hP q0 hw rfl 1 (by decide) (ht _ xw_322) (fun _ h9 => h9) hv dX5_init_109 k) ?_
  refine xm_Oks.step (sn_push hG (fun _ => trivial) fun ad H locs cells slots ls rest k => lv_iconst hx hb dX5_init_112 (by decide) k) ?_
  refine xm_Oks.step (sn_push hG (fun _ => trivial) fun ad H locs cells slots ls rest k => lv_sipush hx hb dX5_init_113 (by decide) k) ?_
  refine xm_Oks.step (sn_iast hG fun H locs cells slots ls rest q0 ws a N f x v hP hD hS hw hin k => va_iast hx hb hK hP hD hS q0 1 hw rfl hin dX5_init_116 k) ?_
  refine xm_Oks.step (sn_ldR hG fun H locs cells slots ls rest x h k => lv_aload_n hx hb dX5_init_117 rfl h k) ?_
  refine xm_Oks.step (sn_getR hG rfl rfl (by decide) fun H locs cells slots ls rest q0 ws a fs v hP hw hv k => va_get (D := D) (C := RX5) (T := TX5) (N := 22) hx hb ht xu_5 hown hK hP q0 hw rfl 1 (by decide) (ht _ xw_322) (fun _ h9 => h9) hv dX5_init_118 k) ?_
  refine xm_Oks.step (sn_push hG (fun _ => trivial) fun ad H locs cells slots ls rest k => lv_iconst hx hb dX5_init_121 (by decide) k) ?_
  refine xm_Oks.step (sn_push hG (fun _ => trivial) fun ad H locs cells slots ls rest k => lv_sipush hx hb dX5_init_122 (by decide) k) ?_
  refine xm_Oks.step (sn_iast hG fun H locs cells slots ls rest q0 ws a N f x v hP hD hS hw hin k => va_iast hx hb hK hP hD hS q0 1 hw rfl hin dX5_init_125 k) ?_
  refine xm_Oks.step (sn_ldR hG fun H locs cells slots ls rest x h k => lv_aload_n hx hb dX5_init_126 rfl h k) ?_
  refine xm_Oks.step (sn_getR hG rfl rfl (by decide) fun H locs cells slots ls rest q0 ws a fs v hP hw hv k => va_get (D := D) (C := RX5) (T := TX5) (N := 22) hx hb ht xu_5 hown hK hP q0 hw rfl 1 (by decide) (ht _ xw_322) (fun _ h9 => h9) hv dX5_init_127 k) ?_
  refine xm_Oks.step (sn_push hG (fun _ => trivial) fun ad H locs cells slots ls rest k => lv_iconst hx hb dX5_init_130 (by decide) k) ?_
  refine xm_Oks.step (sn_push hG (fun _ => trivial) fun ad H locs cells slots ls rest k => lv_sipush hx hb dX5_init_131 (by decide) k) ?_
  refine xm_Oks.step (sn_iast hG fun H locs cells slots ls rest q0 ws a N f x v hP hD hS hw hin k => va_iast hx hb hK hP hD hS q0 1 hw rfl hin dX5_init_134 k) ?_
  refine xm_Oks.step (sn_ldR hG fun H locs cells slots ls rest x h k => lv_aload_n hx hb dX5_init_135 rfl h k) ?_
  refine xm_Oks.step (sn_getR hG rfl rfl (by decide) fun H locs cells slots ls rest q0 ws a fs v hP hw hv k => va_get (D := D) (C := RX5) (T := TX5) (N := 22) hx hb ht xu_5 hown hK hP q0 hw rfl 1 (by decide) (ht _ xw_322) (fun _ h9 => h9) hv dX5_init_136 k) ?_
  refine xm_Oks.step (sn_push hG (fun _ => trivial) fun ad H locs cells slots ls rest k => lv_iconst hx hb dX5_init_139 (by decide) k) ?_
  refine xm_Oks.step (sn_push hG (fun _ => trivial) fun ad H locs cells slots ls rest k => lv_iconst hx hb dX5_init_140 (by decide) k) ?_
  refine xm_Oks.step (sn_iast hG fun H locs cells slots ls rest q0 ws a N f x v hP hD hS hw hin k => va_iast hx hb hK hP hD hS q0 1 hw rfl hin dX5_init_141 k) ?_
  refine xm_Oks.step (sn_ldR hG fun H locs cells slots ls rest x h k => lv_aload_n hx hb dX5_init_142 rfl h k) ?_
  refine xm_Oks.step (sn_getR hG rfl rfl (by decide) fun H locs cells slots ls rest q0 ws a fs v hP hw hv k => va_get (D := D) (C := RX5) (T := TX5) (N := 22) hx hb ht xu_5 hown hK hP q0 hw rfl 1 (by decide) (ht _ xw_322) (fun _ h9 => h9) hv dX5_init_143 k) ?_
  refine xm_Oks.step (sn_push hG (fun _ => trivial) fun ad H locs cells slots ls rest k => lv_bipush hx hb dX5_init_146 (by decide) k) ?_
  refine xm_Oks.step (sn_push hG (fun _ => trivial) fun ad H locs cells slots ls rest k => lv_bipush hx hb dX5_init_148 (by decide) k) ?_
  refine xm_Oks.step (sn_iast hG fun H locs cells slots ls rest q0 ws a N f x v hP hD hS hw hin k => va_iast hx hb hK hP hD hS q0 1 hw rfl hin dX5_init_150 k) ?_
  refine xm_Oks.stop ?_
  exact trivial
set_option maxHeartbeats 4000000 in
set_option maxRecDepth 100000 in
theorem xk_X5_thrown : xm_MOk xp_pg xp_pm 72 := by
  refine ⟨by decide +kernel, rfl, ?_, ?_⟩
  · show xm_Oks _ xt_X5_thrown
    exact ⟨trivial, trivial, ⟨dX5_thrown_4, rfl⟩, trivial⟩
  intro d mc ms p l e s m args below meth c Q cA D A tS ad0 o0 G hG hC hn ih
  have hG : xm_IsG p l e (xm_room (d + 1) mc ms) s m args below meth c Q cA D A tS 1 ad0 o0 G := hG
  have hC : xm_Cx p s m args c cX5_thrown 1 RX5 (Cond.code yX5_thrown cX5_thrown 1 (some .int) :: xm_W) cA D A tS := hC
  have hn : meth.name = "thrown" := hn
  obtain ⟨hx, hb, hml, hown, hts, hK, hA, hSx, hNx⟩ := id hC
  have ht : ∀ w ∈ xm_W, w.before args s = true := fun w h => hts w (List.mem_cons_of_mem _ h)
  show xm_Oks (xm_Ent (xm_room (d + 1) mc ms) G (xm_Do xp_pg d)) xt_X5_thrown
  unfold xt_X5_thrown
  refine xm_Oks.step (sn_ldR hG fun H locs cells slots ls rest x h k => lv_aload_n hx hb dX5_thrown_0 rfl h k) ?_
  refine xm_Oks.step (sn_getI hG rfl rfl (by decide) (by decide) fun H locs cells slots ls rest q0 ws a fs v hP hw hv k => va_get (D := D) (C := RX5) (T := TX5) (N := 22) hx hb ht xu_5 hown hK hP q0 hw rfl 0 (by decide) (ht _ xw_335) (fun _ h9 => h9) hv dX5_thrown_1 k) ?_
  refine xm_Oks.stop ?_
  exact trivial
set_option maxHeartbeats 4000000 in
set_option maxRecDepth 100000 in
theorem xk_X5_set : xm_MOk xp_pg xp_pm 73 := by
  refine ⟨by decide +kernel, rfl, ?_, ?_⟩
  · show xm_Oks _ xt_X5_set
    exact ⟨trivial, trivial, trivial, trivial, trivial, trivial, trivial, trivial, trivial, trivial, trivial, trivial, trivial, trivial, trivial, trivial, trivial, trivial, trivial, trivial, trivial, trivial, trivial, trivial, trivial, trivial, trivial, trivial, trivial, trivial, trivial, trivial, trivial, trivial, trivial, trivial, trivial, trivial, trivial, trivial, trivial, trivial, trivial, trivial, trivial, trivial, trivial, trivial, trivial, trivial, trivial, trivial, trivial, trivial, trivial, trivial, ⟨dX5_set_109, rfl⟩, trivial, trivial, trivial, trivial, trivial, trivial, trivial, trivial, trivial, trivial, trivial, ⟨dX5_set_127, rfl⟩, trivial⟩
  intro d mc ms p l e s m args below meth c Q cA D A tS ad0 o0 G hG hC hn ih
  have hG : xm_IsG p l e (xm_room (d + 1) mc ms) s m args below meth c Q cA D A tS 6 ad0 o0 G := hG
  have hC : xm_Cx p s m args c cX5_set 6 RX5 (Cond.code yX5_set cX5_set 6 (some .int) :: xm_W) cA D A tS := hC
  have hn : meth.name = "set" := hn
  obtain ⟨hx, hb, hml, hown, hts, hK, hA, hSx, hNx⟩ := id hC
  have ht : ∀ w ∈ xm_W, w.before args s = true := fun w h => hts w (List.mem_cons_of_mem _ h)
  show xm_Oks (xm_Ent (xm_room (d + 1) mc ms) G (xm_Do xp_pg d)) xt_X5_set
  unfold xt_X5_set
  refine xm_Oks.step (sn_ldI hG fun H locs cells slots ls rest x h k => lv_iload_n hx hb dX5_set_0 rfl h k) ?_
  refine xm_Oks.step (sn_if hG fun H locs cells slots ls rest x kt kf => lv_if_eq (tgt := 10) hx hb dX5_set_1 (by decide) kt kf) ?_
  refine xm_Oks.step (sn_ldI hG fun H locs cells slots ls rest x h k => lv_iload_n hx hb dX5_set_4 rfl h k) ?_
  refine xm_Oks.step (sn_push hG (fun _ => trivial) fun ad H locs cells slots ls rest k => lv_bipush hx hb dX5_set_5 (by decide) k) ?_
  refine xm_Oks.step (sn_icmp hG fun H locs cells slots ls rest x y kt kf => lv_icmp_ne (tgt := 14) hx hb dX5_set_7 (by decide) kt (fun h9 => kf (fun h8 => h8 h9))) ?_
  refine xm_Oks.step (sn_push hG (fun _ => trivial) fun ad H locs cells slots ls rest k => lv_iconst hx hb dX5_set_10 (by decide) k) ?_
  refine xm_Oks.step (sn_goto hG fun H locs cells slots ls rest k => lv_goto (tgt := 15) hx hb dX5_set_11 (by decide) k) ?_
  refine xm_Oks.step (sn_push hG (fun _ => trivial) fun ad H locs cells slots ls rest k => lv_iconst hx hb dX5_set_14 (by decide) k) ?_
  refine xm_Oks.step (sn_stI hG fun H locs cells slots ls rest x lv lv9 h he k => lv_istore_n hx hb dX5_set_15 rfl h (by decide) he k) ?_
  refine xm_Oks.step (sn_ldI hG fun H locs cells slots ls rest x h k => lv_iload_n hx hb dX5_set_16 rfl h k) ?_
  refine xm_Oks.step (sn_if hG fun H locs cells slots ls rest x kt kf => lv_if_ne (tgt := 25) hx hb dX5_set_17 (by decide) kt (fun h9 => kf (fun h8 => h8 h9))) ?_
  refine xm_Oks.step (sn_push hG (fun _ => trivial) fun ad H locs cells slots ls rest k => lv_bipush hx hb dX5_set_20 (by decide) k) ?_
  refine xm_Oks.step (sn_goto hG fun H locs cells slots ls rest k => lv_goto (tgt := 69) hx hb dX5_set_22 (by decide) k) ?_
  refine xm_Oks.step (sn_ldI hG fun H locs cells slots ls rest x h k => lv_iload_n hx hb dX5_set_25 rfl h k) ?_
  refine xm_Oks.step (sn_push hG (fun _ => trivial) fun ad H locs cells slots ls rest k => lv_iconst hx hb dX5_set_26 (by decide) k) ?_
  refine xm_Oks.step (sn_icmp hG fun H locs cells slots ls rest x y kt kf => lv_icmp_eq (tgt := 35) hx hb dX5_set_27 (by decide) kt kf) ?_
  refine xm_Oks.step (sn_ldI hG fun H locs cells slots ls rest x h k => lv_iload_n hx hb dX5_set_30 rfl h k) ?_
  refine xm_Oks.step (sn_push hG (fun _ => trivial) fun ad H locs cells slots ls rest k => lv_iconst hx hb dX5_set_31 (by decide) k) ?_
  refine xm_Oks.step (sn_icmp hG fun H locs cells slots ls rest x y kt kf => lv_icmp_ne (tgt := 41) hx hb dX5_set_32 (by decide) kt (fun h9 => kf (fun h8 => h8 h9))) ?_
  refine xm_Oks.step (sn_push hG (fun _ => trivial) fun ad H locs cells slots ls rest k => lv_sipush hx hb dX5_set_35 (by decide) k) ?_
  refine xm_Oks.step (sn_goto hG fun H locs cells slots ls rest k => lv_goto (tgt := 69) hx hb dX5_set_38 (by decide) k) ?_
  refine xm_Oks.step (sn_ldI hG fun H locs cells slots ls rest x h k => lv_iload_n hx hb dX5_set_41 rfl h k) ?_
  refine xm_Oks.step (sn_push hG (fun _ => trivial) fun ad H locs cells slots ls rest k => lv_iconst hx hb dX5_set_42 (by decide) k) ?_
  refine xm_Oks.step (sn_icmp hG fun H locs cells slots ls rest x y kt kf => lv_icmp_eq (tgt := 51) hx hb dX5_set_43 (by decide) kt kf) ?_
  refine xm_Oks.step (sn_ldI hG fun H locs cells slots ls rest x h k => lv_iload_n hx hb dX5_set_46 rfl h k) ?_
  refine xm_Oks.step (sn_push hG (fun _ => trivial) fun ad H locs cells slots ls rest k => lv_iconst hx hb dX5_set_47 (by decide) k) ?_
  refine xm_Oks.step (sn_icmp hG fun H locs cells slots ls rest x y kt kf => lv_icmp_ne (tgt := 57) hx hb dX5_set_48 (by decide) kt (fun h9 => kf (fun h8 => h8 h9))) ?_
  refine xm_Oks.step (sn_push hG (fun _ => trivial) fun ad H locs cells slots ls rest k => lv_sipush hx hb dX5_set_51 (by decide) k) ?_
  refine xm_Oks.step (sn_goto hG fun H locs cells slots ls rest k => lv_goto (tgt := 69) hx hb dX5_set_54 (by decide) k) ?_
  refine xm_Oks.step (sn_ldI hG fun H locs cells slots ls rest x h k => lv_iload_n hx hb dX5_set_57 rfl h k) ?_
  refine xm_Oks.step (sn_push hG (fun _ => trivial) fun ad H locs cells slots ls rest k => lv_iconst hx hb dX5_set_58 (by decide) k) ?_
  refine xm_Oks.step (sn_icmp hG fun H locs cells slots ls rest x y kt kf => lv_icmp_ne (tgt := 67) hx hb dX5_set_59 (by decide) kt (fun h9 => kf (fun h8 => h8 h9))) ?_
  refine xm_Oks.step (sn_push hG (fun _ => trivial) fun ad H locs cells slots ls rest k => lv_bipush hx hb dX5_set_62 (by decide) k) ?_
  refine xm_Oks.step (sn_goto hG fun H locs cells slots ls rest k => lv_goto (tgt := 69) hx hb dX5_set_64 (by decide) k) ?_
  refine xm_Oks.step (sn_push hG (fun _ => trivial) fun ad H locs cells slots ls rest k => lv_bipush hx hb dX5_set_67 (by decide) k) ?_
  refine xm_Oks.step (sn_stI hG fun H locs cells slots ls rest x lv lv9 h he k => lv_istore hx hb dX5_set_69 h (by decide) he k) ?_
  refine xm_Oks.step (sn_ldR hG fun H locs cells slots ls rest x h k => lv_aload_n hx hb dX5_set_71 rfl h k) ?_
  refine xm_Oks.step (sn_ldI hG fun H locs cells slots ls rest x h k => lv_iload_n hx hb dX5_set_72 rfl h k) ?_
  refine xm_Oks.step (sn_if hG fun H locs cells slots ls rest x kt kf => lv_if_lt (tgt := 93) hx hb dX5_set_73 (by decide) kt kf) ?_
  refine xm_Oks.step (sn_ldI hG fun H locs cells slots ls rest x h k => lv_iload_n hx hb dX5_set_76 rfl h k) ?_
  refine xm_Oks.step (sn_push hG (fun _ => trivial) fun ad H locs cells slots ls rest k => lv_bipush hx hb dX5_set_77 (by decide) k) ?_
  refine xm_Oks.step (sn_icmp hG fun H locs cells slots ls rest x y kt kf => lv_icmp_gt (tgt := 93) hx hb dX5_set_79 (by decide) kt kf) ?_
  refine xm_Oks.step (sn_ldI hG fun H locs cells slots ls rest x h k => lv_iload_n hx hb dX5_set_82 rfl h k) ?_
  refine xm_Oks.step (sn_ldI hG fun H locs cells slots ls rest x h k => lv_iload_n hx hb dX5_set_83 rfl h k) ?_
  refine xm_Oks.step (sn_icmp hG fun H locs cells slots ls rest x y kt kf => lv_icmp_lt (tgt := 93) hx hb dX5_set_84 (by decide) kt kf) ?_
  refine xm_Oks.step (sn_ldI hG fun H locs cells slots ls rest x h k => lv_iload_n hx hb dX5_set_87 rfl h k) ?_
  refine xm_Oks.step (sn_ldI hG fun H locs cells slots ls rest x h k => lv_iload hx hb dX5_set_88 h k) ?_
  refine xm_Oks.step (sn_icmp hG fun H locs cells slots ls rest x y kt kf => lv_icmp_le (tgt := 97) hx hb dX5_set_90 (by decide) kt kf) ?_
  refine xm_Oks.step (sn_push hG (fun _ => trivial) fun ad H locs cells slots ls rest k => lv_iconst hx hb dX5_set_93 (by decide) k) ?_
  refine xm_Oks.step (sn_goto hG fun H locs cells slots ls rest k => lv_goto (tgt := 98) hx hb dX5_set_94 (by decide) k) ?_
  refine xm_Oks.step (sn_push hG (fun _ => trivial) fun ad H locs cells slots ls rest k => lv_iconst hx hb dX5_set_97 (by decide) k) ?_
  refine xm_Oks.step (sn_putI hG rfl rfl (by decide) (by decide) fun H locs cells slots ls rest q0 ws a fs v hP hD hS hw ⟨x, hv⟩ hl k => by subst hv; exact va_put (D := D) (ty := .int) (C := RX5) (T := TX5) (N := 22) hx hb ht xu_5 tyX5 tyX5_ok nmX5 hown hK hP hD hS q0 hw rfl 0 (by decide) (ht _ xw_335) (fun _ h9 => h9) rfl (by decide +kernel) rfl rfl hl dX5_set_98 k) ?_
  refine xm_Oks.step (sn_ldR hG fun H locs cells slots ls rest x h k => lv_aload_n hx hb dX5_set_101 rfl h k) ?_
  refine xm_Oks.step (sn_getI hG rfl rfl (by decide) (by decide) fun H locs cells slots ls rest q0 ws a fs v hP hw hv k => va_get (D := D) (C := RX5) (T := TX5) (N := 22) hx hb ht xu_5 hown hK hP q0 hw rfl 0 (by decide) (ht _ xw_335) (fun _ h9 => h9) hv dX5_set_102 k) ?_
  refine xm_Oks.step (sn_if hG fun H locs cells slots ls rest x kt kf => lv_if_le (tgt := 110) hx hb dX5_set_105 (by decide) kt kf) ?_
  refine xm_Oks.step (sn_push hG (fun _ => trivial) fun ad H locs cells slots ls rest k => lv_iconst hx hb dX5_set_108 (by decide) k) ?_
  refine xm_Oks.stop ?_
  refine xm_Oks.step (sn_ldR hG fun H locs cells slots ls rest x h k => lv_aload_n hx hb dX5_set_110 rfl h k) ?_
  refine xm_Oks.step (sn_getR hG rfl rfl (by decide) fun H locs cells slots ls rest q0 ws a fs v hP hw hv k => va_get (D := D) (C := RX5) (T := TX5) (N := 22) hx hb ht xu_5 hown hK hP q0 hw rfl 1 (by decide) (ht _ xw_322) (fun _ h9 => h9) hv dX5_set_111 k) ?_
  refine xm_Oks.step (sn_ldI hG fun H locs cells slots ls rest x h k => lv_iload_n hx hb dX5_set_114 rfl h k) ?_
  refine xm_Oks.step (sn_iald hG fun H locs cells slots ls rest q0 ws a N f x hP hw hin k => va_iald hx hb hK hP q0 1 hw rfl hin dX5_set_115 k) ?_
  refine xm_Oks.step (sn_stI hG fun H locs cells slots ls rest x lv lv9 h he k => lv_istore hx hb dX5_set_116 h (by decide) he k) ?_
  refine xm_Oks.step (sn_ldR hG fun H locs cells slots ls rest x h k => lv_aload_n hx hb dX5_set_118 rfl h k) ?_
  refine xm_Oks.step (sn_getR hG rfl rfl (by decide) fun H locs cells slots ls rest q0 ws a fs v hP hw hv k => va_get (D := D) (C := RX5) (T := TX5) (N := 22) hx hb ht xu_5 hown hK hP q0 hw rfl 1 (by decide) (ht _ xw_322) (fun _ h9 => h9) hv dX5_set_119 k) ?_
  refine xm_Oks.step (sn_ldI hG fun H locs cells slots ls rest x h k => lv_iload_n hx hb dX5_set_122 rfl h k) ?_
  refine xm_Oks.step (sn_ldI hG fun H locs cells slots ls rest x h k => lv_iload_n hx hb dX5_set_123 rfl h k) ?_
  refine xm_Oks.step (sn_iast hG fun H locs cells slots ls rest q0 ws a N f x v hP hD hS hw hin k => va_iast hx hb hK hP hD hS q0 1 hw rfl hin dX5_set_124 k) ?_
  refine xm_Oks.step (sn_ldI hG fun H locs cells slots ls rest x h k => lv_iload hx hb dX5_set_125 h k) ?_
  refine xm_Oks.stop ?_
  exact trivial
set_option maxHeartbeats 4000000 in
set_option maxRecDepth 100000 in
theorem xk_X5_isNumber : xm_MOk xp_pg xp_pm 74 := by
  refine ⟨by decide +kernel, rfl, ?_, ?_⟩
  · show xm_Oks _ xt_X5_isNumber
    exact ⟨trivial, trivial, trivial, trivial, trivial, trivial, trivial, trivial, ⟨dX5_isNumber_15, rfl⟩, trivial⟩
  intro d mc ms p l e s m args below meth c Q cA D A tS ad0 o0 G hG hC hn ih
  have hG : xm_IsG p l e (xm_room (d + 1) mc ms) s m args below meth c Q cA D A tS 1 ad0 o0 G := hG
  have hC : xm_Cx p s m args c cX5_isNumber 1 RX5 (Cond.code yX5_isNumber cX5_isNumber 1 (some .boolean) :: xm_W) cA D A tS := hC
  have hn : meth.name = "isNumber" := hn
  obtain ⟨hx, hb, hml, hown, hts, hK, hA, hSx, hNx⟩ := id hC
  have ht : ∀ w ∈ xm_W, w.before args s = true := fun w h => hts w (List.mem_cons_of_mem _ h)
  show xm_Oks (xm_Ent (xm_room (d + 1) mc ms) G (xm_Do xp_pg d)) xt_X5_isNumber
  unfold xt_X5_isNumber
  refine xm_Oks.step (sn_ldI hG fun H locs cells slots ls rest x h k => lv_iload_n hx hb dX5_isNumber_0 rfl h k) ?_
  refine xm_Oks.step (sn_if hG fun H locs cells slots ls rest x kt kf => lv_if_lt (tgt := 14) hx hb dX5_isNumber_1 (by decide) kt kf) ?_
  refine xm_Oks.step (sn_ldI hG fun H locs cells slots ls rest x h k => lv_iload_n hx hb dX5_isNumber_4 rfl h k) ?_
  refine xm_Oks.step (sn_push hG (fun _ => trivial) fun ad H locs cells slots ls rest k => lv_bipush hx hb dX5_isNumber_5 (by decide) k) ?_
  refine xm_Oks.step (sn_icmp hG fun H locs cells slots ls rest x y kt kf => lv_icmp_ge (tgt := 14) hx hb dX5_isNumber_7 (by decide) kt kf) ?_
  refine xm_Oks.step (sn_push hG (fun _ => trivial) fun ad H locs cells slots ls rest k => lv_iconst hx hb dX5_isNumber_10 (by decide) k) ?_
  refine xm_Oks.step (sn_goto hG fun H locs cells slots ls rest k => lv_goto (tgt := 15) hx hb dX5_isNumber_11 (by decide) k) ?_
  refine xm_Oks.step (sn_push hG (fun _ => trivial) fun ad H locs cells slots ls rest k => lv_iconst hx hb dX5_isNumber_14 (by decide) k) ?_
  refine xm_Oks.stop ?_
  exact trivial
set_option maxHeartbeats 4000000 in
set_option maxRecDepth 100000 in
theorem xk_X5_isThere : xm_MOk xp_pg xp_pm 75 := by
  refine ⟨by decide +kernel, rfl, ?_, ?_⟩
  · show xm_Oks _ xt_X5_isThere
    exact ⟨trivial, trivial, trivial, trivial, trivial, trivial, trivial, trivial, trivial, trivial, trivial, ⟨dX5_isThere_21, rfl⟩, trivial⟩
  intro d mc ms p l e s m args below meth c Q cA D A tS ad0 o0 G hG hC hn ih
  have hG : xm_IsG p l e (xm_room (d + 1) mc ms) s m args below meth c Q cA D A tS 2 ad0 o0 G := hG
  have hC : xm_Cx p s m args c cX5_isThere 2 RX5 (Cond.code yX5_isThere cX5_isThere 2 (some .boolean) :: xm_W) cA D A tS := hC
  have hn : meth.name = "isThere" := hn
  obtain ⟨hx, hb, hml, hown, hts, hK, hA, hSx, hNx⟩ := id hC
  have ht : ∀ w ∈ xm_W, w.before args s = true := fun w h => hts w (List.mem_cons_of_mem _ h)
  show xm_Oks (xm_Ent (xm_room (d + 1) mc ms) G (xm_Do xp_pg d)) xt_X5_isThere
  unfold xt_X5_isThere
  refine xm_Oks.step (sn_ldI hG fun H locs cells slots ls rest x h k => lv_iload_n hx hb dX5_isThere_0 rfl h k) ?_
  refine xm_Oks.call (xm_sndC hG hC (xm_callS ⟨hx, hb, hml, hown, hts⟩ xw_336 xw_337 xw_338 xw_339 (by decide +kernel) dX5_isThere_1) (Nat.le_refl _) (by show 8 + (1 + 11) + 40 * d ≤ 40 * (d + 1); omega) (fun C0 h9 => by cases h9) (fun as M v M1 mc ms h9 ad sz g1 g2 => ih 74 as M v M1 mc ms h9 ad sz g1 g2)) ?_
  refine xm_Oks.step (sn_if hG fun H locs cells slots ls rest x kt kf => lv_if_eq (tgt := 20) hx hb dX5_isThere_4 (by decide) kt kf) ?_
  refine xm_Oks.step (sn_ldR hG fun H locs cells slots ls rest x h k => lv_aload_n hx hb dX5_isThere_7 rfl h k) ?_
  refine xm_Oks.step (sn_getR hG rfl rfl (by decide) fun H locs cells slots ls rest q0 ws a fs v hP hw hv k => va_get (D := D) (C := RX5) (T := TX5) (N := 22) hx hb ht xu_5 hown hK hP q0 hw rfl 2 (by decide) (ht _ xw_324) (fun _ h9 => h9) hv dX5_isThere_8 k) ?_
  refine xm_Oks.step (sn_ldI hG fun H locs cells slots ls rest x h k => lv_iload_n hx hb dX5_isThere_11 rfl h k) ?_
  refine xm_Oks.step (sn_zald hG fun H locs cells slots ls rest q0 ws a N f x hP hw hin k => va_zald hx hb hK hP q0 3 hw rfl hin dX5_isThere_12 k) ?_
  refine xm_Oks.step (sn_if hG fun H locs cells slots ls rest x kt kf => lv_if_eq (tgt := 20) hx hb dX5_isThere_13 (by decide) kt kf) ?_
  refine xm_Oks.step (sn_push hG (fun _ => trivial) fun ad H locs cells slots ls rest k => lv_iconst hx hb dX5_isThere_16 (by decide) k) ?_
  refine xm_Oks.step (sn_goto hG fun H locs cells slots ls rest k => lv_goto (tgt := 21) hx hb dX5_isThere_17 (by decide) k) ?_
  refine xm_Oks.step (sn_push hG (fun _ => trivial) fun ad H locs cells slots ls rest k => lv_iconst hx hb dX5_isThere_20 (by decide) k) ?_
  refine xm_Oks.stop ?_
  exact trivial
set_option maxHeartbeats 4000000 in
set_option maxRecDepth 100000 in
theorem xk_X5_within : xm_MOk xp_pg xp_pm 76 := by
  refine ⟨by decide +kernel, rfl, ?_, ?_⟩
  · show xm_Oks _ xt_X5_within
    exact ⟨trivial, trivial, trivial, trivial, trivial, trivial, trivial, trivial, trivial, trivial, ⟨dX5_within_16, rfl⟩, trivial⟩
  intro d mc ms p l e s m args below meth c Q cA D A tS ad0 o0 G hG hC hn ih
  have hG : xm_IsG p l e (xm_room (d + 1) mc ms) s m args below meth c Q cA D A tS 2 ad0 o0 G := hG
  have hC : xm_Cx p s m args c cX5_within 2 RX5 (Cond.code yX5_within cX5_within 2 (some .boolean) :: xm_W) cA D A tS := hC
  have hn : meth.name = "within" := hn
  obtain ⟨hx, hb, hml, hown, hts, hK, hA, hSx, hNx⟩ := id hC
  have ht : ∀ w ∈ xm_W, w.before args s = true := fun w h => hts w (List.mem_cons_of_mem _ h)
  show xm_Oks (xm_Ent (xm_room (d + 1) mc ms) G (xm_Do xp_pg d)) xt_X5_within
  unfold xt_X5_within
  refine xm_Oks.step (sn_ldI hG fun H locs cells slots ls rest x h k => lv_iload_n hx hb dX5_within_0 rfl h k) ?_
  refine xm_Oks.step (sn_ldI hG fun H locs cells slots ls rest x h k => lv_iload_n hx hb dX5_within_1 rfl h k) ?_
  refine xm_Oks.step (sn_one hG xg_un_inv (fun _ _ => trivial) fun ad H locs cells slots ls rest x k => lv_ineg hx hb dX5_within_2 k) ?_
  refine xm_Oks.step (sn_icmp hG fun H locs cells slots ls rest x y kt kf => lv_icmp_lt (tgt := 15) hx hb dX5_within_3 (by decide) kt kf) ?_
  refine xm_Oks.step (sn_ldI hG fun H locs cells slots ls rest x h k => lv_iload_n hx hb dX5_within_6 rfl h k) ?_
  refine xm_Oks.step (sn_ldI hG fun H locs cells slots ls rest x h k => lv_iload_n hx hb dX5_within_7 rfl h k) ?_
  refine xm_Oks.step (sn_icmp hG fun H locs cells slots ls rest x y kt kf => lv_icmp_gt (tgt := 15) hx hb dX5_within_8 (by decide) kt kf) ?_
  refine xm_Oks.step (sn_push hG (fun _ => trivial) fun ad H locs cells slots ls rest k => lv_iconst hx hb dX5_within_11 (by decide) k) ?_
  refine xm_Oks.step (sn_goto hG fun H locs cells slots ls rest k => lv_goto (tgt := 16) hx hb dX5_within_12 (by decide) k) ?_
  refine xm_Oks.step (sn_push hG (fun _ => trivial) fun ad H locs cells slots ls rest k => lv_iconst hx hb dX5_within_15 (by decide) k) ?_
  refine xm_Oks.stop ?_
  exact trivial
set_option maxHeartbeats 4000000 in
set_option maxRecDepth 100000 in
theorem xk_X5_pairOf : xm_MOk xp_pg xp_pm 77 := by
  refine ⟨by decide +kernel, rfl, ?_, ?_⟩
  · show xm_Oks _ xt_X5_pairOf
    exact ⟨trivial, trivial, trivial, trivial, trivial, trivial, trivial, trivial, trivial, trivial, trivial, trivial, trivial, trivial, ⟨dX5_pairOf_20, rfl⟩, trivial⟩
  intro d mc ms p l e s m args below meth c Q cA D A tS ad0 o0 G hG hC hn ih
  have hG : xm_IsG p l e (xm_room (d + 1) mc ms) s m args below meth c Q cA D A tS 2 ad0 o0 G := hG
  have hC : xm_Cx p s m args c cX5_pairOf 2 RX5 (Cond.code yX5_pairOf cX5_pairOf 2 (some .int) :: xm_W) cA D A tS := hC
  have hn : meth.name = "pairOf" := hn
  obtain ⟨hx, hb, hml, hown, hts, hK, hA, hSx, hNx⟩ := id hC
  have ht : ∀ w ∈ xm_W, w.before args s = true := fun w h => hts w (List.mem_cons_of_mem _ h)
  show xm_Oks (xm_Ent (xm_room (d + 1) mc ms) G (xm_Do xp_pg d)) xt_X5_pairOf
  unfold xt_X5_pairOf
  refine xm_Oks.step (sn_ldI hG fun H locs cells slots ls rest x h k => lv_iload_n hx hb dX5_pairOf_0 rfl h k) ?_
  refine xm_Oks.step (sn_ldI hG fun H locs cells slots ls rest x h k => lv_iload_n hx hb dX5_pairOf_1 rfl h k) ?_
  refine xm_Oks.step (sn_icmp hG fun H locs cells slots ls rest x y kt kf => lv_icmp_ge (tgt := 14) hx hb dX5_pairOf_2 (by decide) kt kf) ?_
  refine xm_Oks.step (sn_push hG (fun _ => trivial) fun ad H locs cells slots ls rest k => lv_bipush hx hb dX5_pairOf_5 (by decide) k) ?_
  refine xm_Oks.step (sn_ldI hG fun H locs cells slots ls rest x h k => lv_iload_n hx hb dX5_pairOf_7 rfl h k) ?_
  refine xm_Oks.step (sn_bin hG fun H locs cells slots ls rest x y k => lv_imul hx hb dX5_pairOf_8 k) ?_
  refine xm_Oks.step (sn_ldI hG fun H locs cells slots ls rest x h k => lv_iload_n hx hb dX5_pairOf_9 rfl h k) ?_
  refine xm_Oks.step (sn_bin hG fun H locs cells slots ls rest x y k => lv_iadd hx hb dX5_pairOf_10 k) ?_
  refine xm_Oks.step (sn_goto hG fun H locs cells slots ls rest k => lv_goto (tgt := 20) hx hb dX5_pairOf_11 (by decide) k) ?_
  refine xm_Oks.step (sn_push hG (fun _ => trivial) fun ad H locs cells slots ls rest k => lv_bipush hx hb dX5_pairOf_14 (by decide) k) ?_
  refine xm_Oks.step (sn_ldI hG fun H locs cells slots ls rest x h k => lv_iload_n hx hb dX5_pairOf_16 rfl h k) ?_
  refine xm_Oks.step (sn_bin hG fun H locs cells slots ls rest x y k => lv_imul hx hb dX5_pairOf_17 k) ?_
  refine xm_Oks.step (sn_ldI hG fun H locs cells slots ls rest x h k => lv_iload_n hx hb dX5_pairOf_18 rfl h k) ?_
  refine xm_Oks.step (sn_bin hG fun H locs cells slots ls rest x y k => lv_iadd hx hb dX5_pairOf_19 k) ?_
  refine xm_Oks.stop ?_
  exact trivial
set_option maxHeartbeats 4000000 in
set_option maxRecDepth 100000 in
theorem xk_X5_endAll : xm_MOk xp_pg xp_pm 78 := by
  refine ⟨by decide +kernel, rfl, ?_, ?_⟩
  · show xm_Oks _ xt_X5_endAll
    exact ⟨trivial, trivial, trivial, trivial, trivial, trivial, trivial, trivial, trivial, trivial, trivial, trivial, trivial, trivial, trivial, trivial, trivial, trivial, trivial, trivial, trivial, trivial, trivial, trivial, trivial, trivial, trivial, trivial, trivial, trivial, trivial, trivial, trivial, trivial, ⟨dX5_endAll_53, rfl⟩, trivial⟩
  intro d mc ms p l e s m args below meth c Q cA D A tS ad0 o0 G hG hC hn ih
  have hG : xm_IsG p l e (xm_room (d + 1) mc ms) s m args below meth c Q cA D A tS 4 ad0 o0 G := hG
  have hC : xm_Cx p s m args c cX5_endAll 4 RX5 (Cond.code yX5_endAll cX5_endAll 4 none :: xm_W) cA D A tS := hC
  have hn : meth.name = "endAll" := hn
  obtain ⟨hx, hb, hml, hown, hts, hK, hA, hSx, hNx⟩ := id hC
  have ht : ∀ w ∈ xm_W, w.before args s = true := fun w h => hts w (List.mem_cons_of_mem _ h)
  show xm_Oks (xm_Ent (xm_room (d + 1) mc ms) G (xm_Do xp_pg d)) xt_X5_endAll
  unfold xt_X5_endAll
  refine xm_Oks.step (sn_push hG (fun _ => trivial) fun ad H locs cells slots ls rest k => lv_iconst hx hb dX5_endAll_0 (by decide) k) ?_
  refine xm_Oks.step (sn_stI hG fun H locs cells slots ls rest x lv lv9 h he k => lv_istore_n hx hb dX5_endAll_1 rfl h (by decide) he k) ?_
  refine xm_Oks.step (sn_ldI hG fun H locs cells slots ls rest x h k => lv_iload_n hx hb dX5_endAll_2 rfl h k) ?_
  refine xm_Oks.step (sn_push hG (fun _ => trivial) fun ad H locs cells slots ls rest k => lv_bipush hx hb dX5_endAll_3 (by decide) k) ?_
  refine xm_Oks.step (sn_icmp hG fun H locs cells slots ls rest x y kt kf => lv_icmp_ge (tgt := 53) hx hb dX5_endAll_5 (by decide) kt kf) ?_
  refine xm_Oks.step (sn_ldI hG fun H locs cells slots ls rest x h k => lv_iload_n hx hb dX5_endAll_8 rfl h k) ?_
  refine xm_Oks.step (sn_ldI hG fun H locs cells slots ls rest x h k => lv_iload_n hx hb dX5_endAll_9 rfl h k) ?_
  refine xm_Oks.step (sn_icmp hG fun H locs cells slots ls rest x y kt kf => lv_icmp_eq (tgt := 47) hx hb dX5_endAll_10 (by decide) kt kf) ?_
  refine xm_Oks.step (sn_ldI hG fun H locs cells slots ls rest x h k => lv_iload_n hx hb dX5_endAll_13 rfl h k) ?_
  refine xm_Oks.step (sn_ldI hG fun H locs cells slots ls rest x h k => lv_iload_n hx hb dX5_endAll_14 rfl h k) ?_
  refine xm_Oks.call (xm_sndC hG hC (xm_callS ⟨hx, hb, hml, hown, hts⟩ xw_340 xw_341 xw_338 xw_342 (by decide +kernel) dX5_endAll_15) (Nat.le_refl _) (by show 8 + (2 + 11) + 40 * d ≤ 40 * (d + 1); omega) (fun C0 h9 => by cases h9) (fun as M v M1 mc ms h9 ad sz g1 g2 => ih 77 as M v M1 mc ms h9 ad sz g1 g2)) ?_
  refine xm_Oks.step (sn_stI hG fun H locs cells slots ls rest x lv lv9 h he k => lv_istore_n hx hb dX5_endAll_18 rfl h (by decide) he k) ?_
  refine xm_Oks.step (sn_ldR hG fun H locs cells slots ls rest x h k => lv_aload_n hx hb dX5_endAll_19 rfl h k) ?_
  refine xm_Oks.step (sn_getR hG rfl rfl (by decide) fun H locs cells slots ls rest q0 ws a fs v hP hw hv k => va_get (D := D) (C := RX5) (T := TX5) (N := 22) hx hb ht xu_5 hown hK hP q0 hw rfl 5 (by decide) (ht _ xw_327) (fun _ h9 => h9) hv dX5_endAll_20 k) ?_
  refine xm_Oks.step (sn_ldI hG fun H locs cells slots ls rest x h k => lv_iload_n hx hb dX5_endAll_23 rfl h k) ?_
  refine xm_Oks.step (sn_push hG (fun _ => trivial) fun ad H locs cells slots ls rest k => lv_iconst hx hb dX5_endAll_24 (by decide) k) ?_
  refine xm_Oks.step (sn_iast hG fun H locs cells slots ls rest q0 ws a N f x v hP hD hS hw hin k => va_iast hx hb hK hP hD hS q0 1 hw rfl hin dX5_endAll_25 k) ?_
  refine xm_Oks.step (sn_ldR hG fun H locs cells slots ls rest x h k => lv_aload_n hx hb dX5_endAll_26 rfl h k) ?_
  refine xm_Oks.step (sn_getR hG rfl rfl (by decide) fun H locs cells slots ls rest q0 ws a fs v hP hw hv k => va_get (D := D) (C := RX5) (T := TX5) (N := 22) hx hb ht xu_5 hown hK hP q0 hw rfl 6 (by decide) (ht _ xw_328) (fun _ h9 => h9) hv dX5_endAll_27 k) ?_
  refine xm_Oks.step (sn_ldI hG fun H locs cells slots ls rest x h k => lv_iload_n hx hb dX5_endAll_30 rfl h k) ?_
  refine xm_Oks.step (sn_push hG (fun _ => trivial) fun ad H locs cells slots ls rest k => lv_iconst hx hb dX5_endAll_31 (by decide) k) ?_
  refine xm_Oks.step (sn_iast hG fun H locs cells slots ls rest q0 ws a N f x v hP hD hS hw hin k => va_iast hx hb hK hP hD hS q0 1 hw rfl hin dX5_endAll_32 k) ?_
  refine xm_Oks.step (sn_ldR hG fun H locs cells slots ls rest x h k => lv_aload_n hx hb dX5_endAll_33 rfl h k) ?_
  refine xm_Oks.step (sn_getR hG rfl rfl (by decide) fun H locs cells slots ls rest q0 ws a fs v hP hw hv k => va_get (D := D) (C := RX5) (T := TX5) (N := 22) hx hb ht xu_5 hown hK hP q0 hw rfl 7 (by decide) (ht _ xw_329) (fun _ h9 => h9) hv dX5_endAll_34 k) ?_
  refine xm_Oks.step (sn_ldI hG fun H locs cells slots ls rest x h k => lv_iload_n hx hb dX5_endAll_37 rfl h k) ?_
  refine xm_Oks.step (sn_push hG (fun _ => trivial) fun ad H locs cells slots ls rest k => lv_iconst hx hb dX5_endAll_38 (by decide) k) ?_
  refine xm_Oks.step (sn_iast hG fun H locs cells slots ls rest q0 ws a N f x v hP hD hS hw hin k => va_iast hx hb hK hP hD hS q0 1 hw rfl hin dX5_endAll_39 k) ?_
  refine xm_Oks.step (sn_ldR hG fun H locs cells slots ls rest x h k => lv_aload_n hx hb dX5_endAll_40 rfl h k) ?_
  refine xm_Oks.step (sn_getR hG rfl rfl (by decide) fun H locs cells slots ls rest q0 ws a fs v hP hw hv k => va_get (D := D) (C := RX5) (T := TX5) (N := 22) hx hb ht xu_5 hown hK hP q0 hw rfl 8 (by decide) (ht _ xw_330) (fun _ h9 => h9) hv dX5_endAll_41 k) ?_
  refine xm_Oks.step (sn_ldI hG fun H locs cells slots ls rest x h k => lv_iload_n hx hb dX5_endAll_44 rfl h k) ?_
  refine xm_Oks.step (sn_push hG (fun _ => trivial) fun ad H locs cells slots ls rest k => lv_iconst hx hb dX5_endAll_45 (by decide) k) ?_
  refine xm_Oks.step (sn_zast hG fun H locs cells slots ls rest q0 ws a N f x v hP hD hS hw hin k => va_zast hx hb hK hP hD hS q0 3 hw rfl hin dX5_endAll_46 k) ?_
  refine xm_Oks.step (sn_inc hG fun H locs cells slots ls rest x lv lv9 j h hj he k => lv_iinc hx hb dX5_endAll_47 h hj rfl (by decide) he k) ?_
  refine xm_Oks.step (sn_goto hG fun H locs cells slots ls rest k => lv_goto (tgt := 2) hx hb dX5_endAll_50 (by decide) k) ?_
  refine xm_Oks.stop ?_
  exact trivial
set_option maxHeartbeats 4000000 in
set_option maxRecDepth 100000 in
theorem xk_X5_measure : xm_MOk xp_pg xp_pm 79 := by
  refine ⟨by decide +kernel, rfl, ?_, ?_⟩
  · show xm_Oks _ xt_X5_measure
    exact ⟨trivial, trivial, trivial, trivial, trivial, trivial, trivial, trivial, trivial, trivial, trivial, trivial, trivial, trivial, trivial, trivial, trivial, trivial, trivial, trivial, trivial, trivial, trivial, trivial, trivial, trivial, trivial, trivial, trivial, trivial, trivial, trivial, trivial, trivial, trivial, trivial, trivial, trivial, trivial, trivial, trivial, trivial, trivial, trivial, trivial, trivial, trivial, trivial, trivial, trivial, trivial, trivial, trivial, trivial, trivial, trivial, trivial, trivial, trivial, trivial, trivial, trivial, trivial, trivial, trivial, trivial, trivial, trivial, trivial, trivial, trivial, trivial, trivial, trivial, trivial, trivial, trivial, trivial, trivial, trivial, trivial, trivial, trivial, trivial, trivial, trivial, trivial, trivial, trivial, trivial, trivial, trivial, trivial, trivial, trivial, trivial, trivial, trivial, trivial, trivial, trivial, trivial, trivial, trivial, ⟨dX5_measure_164, rfl⟩, trivial⟩
  intro d mc ms p l e s m args below meth c Q cA D A tS ad0 o0 G hG hC hn ih
  have hG : xm_IsG p l e (xm_room (d + 1) mc ms) s m args below meth c Q cA D A tS 12 ad0 o0 G := hG
  have hC : xm_Cx p s m args c cX5_measure 12 RX5 (Cond.code yX5_measure cX5_measure 12 none :: xm_W) cA D A tS := hC
  have hn : meth.name = "measure" := hn
  obtain ⟨hx, hb, hml, hown, hts, hK, hA, hSx, hNx⟩ := id hC
  have ht : ∀ w ∈ xm_W, w.before args s = true := fun w h => hts w (List.mem_cons_of_mem _ h)
  show xm_Oks (xm_Ent (xm_room (d + 1) mc ms) G (xm_Do xp_pg d)) xt_X5_measure
  unfold xt_X5_measure
  refine xm_Oks.step (sn_ldI hG fun H locs cells slots ls rest x h k => lv_iload_n hx hb dX5_measure_0 rfl h k) ?_
  refine xm_Oks.step (sn_ldI hG fun H locs cells slots ls rest x h k => lv_iload_n hx hb dX5_measure_1 rfl h k) ?_
  refine xm_Oks.call (xm_sndC hG hC (xm_callS ⟨hx, hb, hml, hown, hts⟩ xw_340 xw_341 xw_338 xw_342 (by decide +kernel) dX5_measure_2) (Nat.le_refl _) (by show 8 + (2 + 11) + 40 * d ≤ 40 * (d + 1); omega) (fun C0 h9 => by cases h9) (fun as M v M1 mc ms h9 ad sz g1 g2 => ih 77 as M v M1 mc ms h9 ad sz g1 g2)) ?_
  refine xm_Oks.step (sn_stI hG fun H locs cells slots ls rest x lv lv9 h he k => lv_istore_n hx hb dX5_measure_5 rfl h (by decide) he k) ?_
  refine xm_Oks.step (sn_ldR hG fun H locs cells slots ls rest x h k => lv_aload_n hx hb dX5_measure_6 rfl h k) ?_
  refine xm_Oks.step (sn_getR hG rfl rfl (by decide) fun H locs cells slots ls rest q0 ws a fs v hP hw hv k => va_get (D := D) (C := RX5) (T := TX5) (N := 22) hx hb ht xu_5 hown hK hP q0 hw rfl 4 (by decide) (ht _ xw_326) (fun _ h9 => h9) hv dX5_measure_7 k) ?_
  refine xm_Oks.step (sn_push hG (fun _ => trivial) fun ad H locs cells slots ls rest k => lv_bipush hx hb dX5_measure_10 (by decide) k) ?_
  refine xm_Oks.step (sn_ldI hG fun H locs cells slots ls rest x h k => lv_iload_n hx hb dX5_measure_12 rfl h k) ?_
  refine xm_Oks.step (sn_bin hG fun H locs cells slots ls rest x y k => lv_imul hx hb dX5_measure_13 k) ?_
  refine xm_Oks.step (sn_iald hG fun H locs cells slots ls rest q0 ws a N f x hP hw hin k => va_iald hx hb hK hP q0 1 hw rfl hin dX5_measure_14 k) ?_
  refine xm_Oks.step (sn_ldR hG fun H locs cells slots ls rest x h k => lv_aload_n hx hb dX5_measure_15 rfl h k) ?_
  refine xm_Oks.step (sn_getR hG rfl rfl (by decide) fun H locs cells slots ls rest q0 ws a fs v hP hw hv k => va_get (D := D) (C := RX5) (T := TX5) (N := 22) hx hb ht xu_5 hown hK hP q0 hw rfl 4 (by decide) (ht _ xw_326) (fun _ h9 => h9) hv dX5_measure_16 k) ?_
  refine xm_Oks.step (sn_push hG (fun _ => trivial) fun ad H locs cells slots ls rest k => lv_bipush hx hb dX5_measure_19 (by decide) k) ?_
  refine xm_Oks.step (sn_ldI hG fun H locs cells slots ls rest x h k => lv_iload_n hx hb dX5_measure_21 rfl h k) ?_
  refine xm_Oks.step (sn_bin hG fun H locs cells slots ls rest x y k => lv_imul hx hb dX5_measure_22 k) ?_
  refine xm_Oks.step (sn_iald hG fun H locs cells slots ls rest q0 ws a N f x hP hw hin k => va_iald hx hb hK hP q0 1 hw rfl hin dX5_measure_23 k) ?_
  refine xm_Oks.step (sn_bin hG fun H locs cells slots ls rest x y k => lv_isub hx hb dX5_measure_24 k) ?_
  refine xm_Oks.step (sn_one hG xg_i2l_inv (fun _ _ => trivial) fun ad H locs cells slots ls rest x k => lv_i2l hx hb dX5_measure_25 rfl k) ?_
  refine xm_Oks.step (sn_stL hG fun H locs cells slots ls rest x lv lv9 h he k => lv_lstore hx hb dX5_measure_26 h (by decide) he k) ?_
  refine xm_Oks.step (sn_ldR hG fun H locs cells slots ls rest x h k => lv_aload_n hx hb dX5_measure_28 rfl h k) ?_
  refine xm_Oks.step (sn_getR hG rfl rfl (by decide) fun H locs cells slots ls rest q0 ws a fs v hP hw hv k => va_get (D := D) (C := RX5) (T := TX5) (N := 22) hx hb ht xu_5 hown hK hP q0 hw rfl 4 (by decide) (ht _ xw_326) (fun _ h9 => h9) hv dX5_measure_29 k) ?_
  refine xm_Oks.step (sn_push hG (fun _ => trivial) fun ad H locs cells slots ls rest k => lv_bipush hx hb dX5_measure_32 (by decide) k) ?_
  refine xm_Oks.step (sn_ldI hG fun H locs cells slots ls rest x h k => lv_iload_n hx hb dX5_measure_34 rfl h k) ?_
  refine xm_Oks.step (sn_bin hG fun H locs cells slots ls rest x y k => lv_imul hx hb dX5_measure_35 k) ?_
  refine xm_Oks.step (sn_push hG (fun _ => trivial) fun ad H locs cells slots ls rest k => lv_iconst hx hb dX5_measure_36 (by decide) k) ?_
  refine xm_Oks.step (sn_bin hG fun H locs cells slots ls rest x y k => lv_iadd hx hb dX5_measure_37 k) ?_
  refine xm_Oks.step (sn_iald hG fun H locs cells slots ls rest q0 ws a N f x hP hw hin k => va_iald hx hb hK hP q0 1 hw rfl hin dX5_measure_38 k) ?_
  refine xm_Oks.step (sn_ldR hG fun H locs cells slots ls rest x h k => lv_aload_n hx hb dX5_measure_39 rfl h k) ?_
  refine xm_Oks.step (sn_getR hG rfl rfl (by decide) fun H locs cells slots ls rest q0 ws a fs v hP hw hv k => va_get (D := D) (C := RX5) (T := TX5) (N := 22) hx hb ht xu_5 hown hK hP q0 hw rfl 4 (by decide) (ht _ xw_326) (fun _ h9 => h9) hv dX5_measure_40 k) ?_
  refine xm_Oks.step (sn_push hG (fun _ => trivial) fun ad H locs cells slots ls rest k => lv_bipush hx hb dX5_measure_43 (by decide) k) ?_
  refine xm_Oks.step (sn_ldI hG fun H locs cells slots ls rest x h k => lv_iload_n hx hb dX5_measure_45 rfl h k) ?_
  refine xm_Oks.step (sn_bin hG fun H locs cells slots ls rest x y k => lv_imul hx hb dX5_measure_46 k) ?_
  refine xm_Oks.step (sn_push hG (fun _ => trivial) fun ad H locs cells slots ls rest k => lv_iconst hx hb dX5_measure_47 (by decide) k) ?_
  refine xm_Oks.step (sn_bin hG fun H locs cells slots ls rest x y k => lv_iadd hx hb dX5_measure_48 k) ?_
  refine xm_Oks.step (sn_iald hG fun H locs cells slots ls rest q0 ws a N f x hP hw hin k => va_iald hx hb hK hP q0 1 hw rfl hin dX5_measure_49 k) ?_
  refine xm_Oks.step (sn_bin hG fun H locs cells slots ls rest x y k => lv_isub hx hb dX5_measure_50 k) ?_
  refine xm_Oks.step (sn_one hG xg_i2l_inv (fun _ _ => trivial) fun ad H locs cells slots ls rest x k => lv_i2l hx hb dX5_measure_51 rfl k) ?_
  refine xm_Oks.step (sn_stL hG fun H locs cells slots ls rest x lv lv9 h he k => lv_lstore hx hb dX5_measure_52 h (by decide) he k) ?_
  refine xm_Oks.step (sn_ldR hG fun H locs cells slots ls rest x h k => lv_aload_n hx hb dX5_measure_54 rfl h k) ?_
  refine xm_Oks.step (sn_getR hG rfl rfl (by decide) fun H locs cells slots ls rest q0 ws a fs v hP hw hv k => va_get (D := D) (C := RX5) (T := TX5) (N := 22) hx hb ht xu_5 hown hK hP q0 hw rfl 4 (by decide) (ht _ xw_326) (fun _ h9 => h9) hv dX5_measure_55 k) ?_
  refine xm_Oks.step (sn_push hG (fun _ => trivial) fun ad H locs cells slots ls rest k => lv_bipush hx hb dX5_measure_58 (by decide) k) ?_
  refine xm_Oks.step (sn_ldI hG fun H locs cells slots ls rest x h k => lv_iload_n hx hb dX5_measure_60 rfl h k) ?_
  refine xm_Oks.step (sn_bin hG fun H locs cells slots ls rest x y k => lv_imul hx hb dX5_measure_61 k) ?_
  refine xm_Oks.step (sn_push hG (fun _ => trivial) fun ad H locs cells slots ls rest k => lv_iconst hx hb dX5_measure_62 (by decide) k) ?_
  refine xm_Oks.step (sn_bin hG fun H locs cells slots ls rest x y k => lv_iadd hx hb dX5_measure_63 k) ?_
  refine xm_Oks.step (sn_iald hG fun H locs cells slots ls rest q0 ws a N f x hP hw hin k => va_iald hx hb hK hP q0 1 hw rfl hin dX5_measure_64 k) ?_
  refine xm_Oks.step (sn_ldR hG fun H locs cells slots ls rest x h k => lv_aload_n hx hb dX5_measure_65 rfl h k) ?_
  refine xm_Oks.step (sn_getR hG rfl rfl (by decide) fun H locs cells slots ls rest q0 ws a fs v hP hw hv k => va_get (D := D) (C := RX5) (T := TX5) (N := 22) hx hb ht xu_5 hown hK hP q0 hw rfl 4 (by decide) (ht _ xw_326) (fun _ h9 => h9) hv dX5_measure_66 k) ?_
  refine xm_Oks.step (sn_push hG (fun _ => trivial) fun ad H locs cells slots ls rest k => lv_bipush hx hb dX5_measure_69 (by decide) k) ?_
  refine xm_Oks.step (sn_ldI hG fun H locs cells slots ls rest x h k => lv_iload_n hx hb dX5_measure_71 rfl h k) ?_
  refine xm_Oks.step (sn_bin hG fun H locs cells slots ls rest x y k => lv_imul hx hb dX5_measure_72 k) ?_
  refine xm_Oks.step (sn_push hG (fun _ => trivial) fun ad H locs cells slots ls rest k => lv_iconst hx hb dX5_measure_73 (by decide) k) ?_
  refine xm_Oks.step (sn_bin hG fun H locs cells slots ls rest x y k => lv_iadd hx hb dX5_measure_74 k) ?_
  refine xm_Oks.step (sn_iald hG fun H locs cells slots ls rest q0 ws a N f x hP hw hin k => va_iald hx hb hK hP q0 1 hw rfl hin dX5_measure_75 k) ?_
  refine xm_Oks.step (sn_bin hG fun H locs cells slots ls rest x y k => lv_isub hx hb dX5_measure_76 k) ?_
  refine xm_Oks.step (sn_stI hG fun H locs cells slots ls rest x lv lv9 h he k => lv_istore hx hb dX5_measure_77 h (by decide) he k) ?_
  refine xm_Oks.step (sn_ldI hG fun H locs cells slots ls rest x h k => lv_iload hx hb dX5_measure_79 h k) ?_
  refine xm_Oks.step (sn_if hG fun H locs cells slots ls rest x kt kf => lv_if_ge (tgt := 90) hx hb dX5_measure_81 (by decide) kt kf) ?_
  refine xm_Oks.step (sn_ldI hG fun H locs cells slots ls rest x h k => lv_iload hx hb dX5_measure_84 h k) ?_
  refine xm_Oks.step (sn_one hG xg_un_inv (fun _ _ => trivial) fun ad H locs cells slots ls rest x k => lv_ineg hx hb dX5_measure_86 k) ?_
  refine xm_Oks.step (sn_goto hG fun H locs cells slots ls rest k => lv_goto (tgt := 92) hx hb dX5_measure_87 (by decide) k) ?_
  refine xm_Oks.step (sn_ldI hG fun H locs cells slots ls rest x h k => lv_iload hx hb dX5_measure_90 h k) ?_
  refine xm_Oks.step (sn_stI hG fun H locs cells slots ls rest x lv lv9 h he k => lv_istore hx hb dX5_measure_92 h (by decide) he k) ?_
  refine xm_Oks.step (sn_ldL hG fun H locs cells slots ls rest x h k => lv_lload hx hb dX5_measure_94 h k) ?_
  refine xm_Oks.step (sn_ldL hG fun H locs cells slots ls rest x h k => lv_lload hx hb dX5_measure_96 h k) ?_
  refine xm_Oks.step (sn_binL hG fun H locs cells slots ls rest x y k => lv_lmul hx hb dX5_measure_98 k) ?_
  refine xm_Oks.step (sn_ldL hG fun H locs cells slots ls rest x h k => lv_lload hx hb dX5_measure_99 h k) ?_
  refine xm_Oks.step (sn_ldL hG fun H locs cells slots ls rest x h k => lv_lload hx hb dX5_measure_101 h k) ?_
  refine xm_Oks.step (sn_binL hG fun H locs cells slots ls rest x y k => lv_lmul hx hb dX5_measure_103 k) ?_
  refine xm_Oks.step (sn_binL hG fun H locs cells slots ls rest x y k => lv_ladd hx hb dX5_measure_104 k) ?_
  refine xm_Oks.step (sn_stL hG fun H locs cells slots ls rest x lv lv9 h he k => lv_lstore hx hb dX5_measure_105 h (by decide) he k) ?_
  refine xm_Oks.step (sn_ldR hG fun H locs cells slots ls rest x h k => lv_aload_n hx hb dX5_measure_107 rfl h k) ?_
  refine xm_Oks.step (sn_getR hG rfl rfl (by decide) fun H locs cells slots ls rest q0 ws a fs v hP hw hv k => va_get (D := D) (C := RX5) (T := TX5) (N := 22) hx hb ht xu_5 hown hK hP q0 hw rfl 9 (by decide) (ht _ xw_332) (fun _ h9 => h9) hv dX5_measure_108 k) ?_
  refine xm_Oks.step (sn_ldI hG fun H locs cells slots ls rest x h k => lv_iload_n hx hb dX5_measure_111 rfl h k) ?_
  refine xm_Oks.step (sn_ldL hG fun H locs cells slots ls rest x h k => lv_lload hx hb dX5_measure_112 h k) ?_
  refine xm_Oks.step (sn_ldR hG fun H locs cells slots ls rest x h k => lv_aload_n hx hb dX5_measure_114 rfl h k) ?_
  refine xm_Oks.step (sn_getR hG rfl rfl (by decide) fun H locs cells slots ls rest q0 ws a fs v hP hw hv k => va_get (D := D) (C := RX5) (T := TX5) (N := 22) hx hb ht xu_5 hown hK hP q0 hw rfl 9 (by decide) (ht _ xw_332) (fun _ h9 => h9) hv dX5_measure_115 k) ?_
  refine xm_Oks.step (sn_ldI hG fun H locs cells slots ls rest x h k => lv_iload_n hx hb dX5_measure_118 rfl h k) ?_
  refine xm_Oks.step (sn_lald hG fun H locs cells slots ls rest q0 ws a N f x hP hw hin k => va_lald hx hb hK hP q0 2 hw rfl hin dX5_measure_119 k) ?_
  refine xm_Oks.step (sn_lcmp hG fun H locs cells slots ls rest x y k => W.lcmp hx hb dX5_measure_120 k) ?_
  refine xm_Oks.step (sn_if hG fun H locs cells slots ls rest x kt kf => lv_if_ge (tgt := 129) hx hb dX5_measure_121 (by decide) kt kf) ?_
  refine xm_Oks.step (sn_ldL hG fun H locs cells slots ls rest x h k => lv_lload hx hb dX5_measure_124 h k) ?_
  refine xm_Oks.step (sn_goto hG fun H locs cells slots ls rest k => lv_goto (tgt := 135) hx hb dX5_measure_126 (by decide) k) ?_
  refine xm_Oks.step (sn_ldR hG fun H locs cells slots ls rest x h k => lv_aload_n hx hb dX5_measure_129 rfl h k) ?_
  refine xm_Oks.step (sn_getR hG rfl rfl (by decide) fun H locs cells slots ls rest q0 ws a fs v hP hw hv k => va_get (D := D) (C := RX5) (T := TX5) (N := 22) hx hb ht xu_5 hown hK hP q0 hw rfl 9 (by decide) (ht _ xw_332) (fun _ h9 => h9) hv dX5_measure_130 k) ?_
  refine xm_Oks.step (sn_ldI hG fun H locs cells slots ls rest x h k => lv_iload_n hx hb dX5_measure_133 rfl h k) ?_
  refine xm_Oks.step (sn_lald hG fun H locs cells slots ls rest q0 ws a N f x hP hw hin k => va_lald hx hb hK hP q0 2 hw rfl hin dX5_measure_134 k) ?_
  refine xm_Oks.step (sn_last hG fun H locs cells slots ls rest q0 ws a N f x v hP hD hS hw hin k => va_last hx hb hK hP hD hS q0 2 hw rfl hin dX5_measure_135 k) ?_
  refine xm_Oks.step (sn_ldR hG fun H locs cells slots ls rest x h k => lv_aload_n hx hb dX5_measure_136 rfl h k) ?_
  refine xm_Oks.step (sn_getR hG rfl rfl (by decide) fun H locs cells slots ls rest q0 ws a fs v hP hw hv k => va_get (D := D) (C := RX5) (T := TX5) (N := 22) hx hb ht xu_5 hown hK hP q0 hw rfl 10 (by decide) (ht _ xw_333) (fun _ h9 => h9) hv dX5_measure_137 k) ?_
  refine xm_Oks.step (sn_ldI hG fun H locs cells slots ls rest x h k => lv_iload_n hx hb dX5_measure_140 rfl h k) ?_
  refine xm_Oks.step (sn_ldI hG fun H locs cells slots ls rest x h k => lv_iload hx hb dX5_measure_141 h k) ?_
  refine xm_Oks.step (sn_ldR hG fun H locs cells slots ls rest x h k => lv_aload_n hx hb dX5_measure_143 rfl h k) ?_
  refine xm_Oks.step (sn_getR hG rfl rfl (by decide) fun H locs cells slots ls rest q0 ws a fs v hP hw hv k => va_get (D := D) (C := RX5) (T := TX5) (N := 22) hx hb ht xu_5 hown hK hP q0 hw rfl 10 (by decide) (ht _ xw_333) (fun _ h9 => h9) hv dX5_measure_144 k) ?_
  refine xm_Oks.step (sn_ldI hG fun H locs cells slots ls rest x h k => lv_iload_n hx hb dX5_measure_147 rfl h k) ?_
  refine xm_Oks.step (sn_iald hG fun H locs cells slots ls rest q0 ws a N f x hP hw hin k => va_iald hx hb hK hP q0 1 hw rfl hin dX5_measure_148 k) ?_
  refine xm_Oks.step (sn_icmp hG fun H locs cells slots ls rest x y kt kf => lv_icmp_ge (tgt := 157) hx hb dX5_measure_149 (by decide) kt kf) ?_
  refine xm_Oks.step (sn_ldI hG fun H locs cells slots ls rest x h k => lv_iload hx hb dX5_measure_152 h k) ?_
  refine xm_Oks.step (sn_goto hG fun H locs cells slots ls rest k => lv_goto (tgt := 163) hx hb dX5_measure_154 (by decide) k) ?_
  refine xm_Oks.step (sn_ldR hG fun H locs cells slots ls rest x h k => lv_aload_n hx hb dX5_measure_157 rfl h k) ?_
  refine xm_Oks.step (sn_getR hG rfl rfl (by decide) fun H locs cells slots ls rest q0 ws a fs v hP hw hv k => va_get (D := D) (C := RX5) (T := TX5) (N := 22) hx hb ht xu_5 hown hK hP q0 hw rfl 10 (by decide) (ht _ xw_333) (fun _ h9 => h9) hv dX5_measure_158 k) ?_
  refine xm_Oks.step (sn_ldI hG fun H locs cells slots ls rest x h k => lv_iload_n hx hb dX5_measure_161 rfl h k) ?_
  refine xm_Oks.step (sn_iald hG fun H locs cells slots ls rest q0 ws a N f x hP hw hin k => va_iald hx hb hK hP q0 1 hw rfl hin dX5_measure_162 k) ?_
  refine xm_Oks.step (sn_iast hG fun H locs cells slots ls rest q0 ws a N f x v hP hD hS hw hin k => va_iast hx hb hK hP hD hS q0 1 hw rfl hin dX5_measure_163 k) ?_
  refine xm_Oks.stop ?_
  exact trivial
set_option maxHeartbeats 4000000 in
set_option maxRecDepth 100000 in
theorem xk_X5_place : xm_MOk xp_pg xp_pm 80 := by
  refine ⟨by decide +kernel, rfl, ?_, ?_⟩
  · show xm_Oks _ xt_X5_place
    exact ⟨trivial, trivial, trivial, trivial, trivial, trivial, trivial, trivial, trivial, trivial, trivial, trivial, trivial, trivial, trivial, trivial, trivial, trivial, trivial, trivial, trivial, trivial, trivial, ⟨dX5_place_52, rfl⟩, trivial, trivial, trivial, trivial, trivial, trivial, trivial, trivial, trivial, trivial, trivial, trivial, trivial, trivial, trivial, trivial, trivial, trivial, trivial, trivial, trivial, trivial, trivial, trivial, trivial, trivial, trivial, trivial, trivial, trivial, trivial, trivial, trivial, trivial, trivial, trivial, trivial, trivial, trivial, trivial, trivial, trivial, trivial, trivial, trivial, trivial, trivial, trivial, trivial, trivial, trivial, trivial, trivial, trivial, trivial, trivial, trivial, trivial, trivial, trivial, trivial, trivial, trivial, trivial, trivial, trivial, trivial, trivial, trivial, trivial, trivial, trivial, trivial, trivial, trivial, trivial, trivial, trivial, trivial, trivial, trivial, trivial, trivial, trivial, trivial, trivial, trivial, trivial, trivial, trivial, trivial, trivial, trivial, trivial, trivial, trivial, trivial, trivial, trivial, trivial, trivial, trivial, trivial, ⟨dX5_place_218, rfl⟩, trivial⟩
  intro d mc ms p l e s m args below meth c Q cA D A tS ad0 o0 G hG hC hn ih
  have hG : xm_IsG p l e (xm_room (d + 1) mc ms) s m args below meth c Q cA D A tS 6 ad0 o0 G := hG
  have hC : xm_Cx p s m args c cX5_place 6 RX5 (Cond.code yX5_place cX5_place 6 none :: xm_W) cA D A tS := hC
  have hn : meth.name = "place" := hn
  obtain ⟨hx, hb, hml, hown, hts, hK, hA, hSx, hNx⟩ := id hC
  have ht : ∀ w ∈ xm_W, w.before args s = true := fun w h => hts w (List.mem_cons_of_mem _ h)
  show xm_Oks (xm_Ent (xm_room (d + 1) mc ms) G (xm_Do xp_pg d)) xt_X5_place
  unfold xt_X5_place
  refine xm_Oks.step (sn_ldR hG fun H locs cells slots ls rest x h k => lv_aload_n hx hb dX5_place_0 rfl h k) ?_
  refine xm_Oks.step (sn_ldI hG fun H locs cells slots ls rest x h k => lv_iload_n hx hb dX5_place_1 rfl h k) ?_
  refine xm_Oks.call (xm_sndC hG hC (xm_callS ⟨hx, hb, hml, hown, hts⟩ xw_336 xw_337 xw_338 xw_339 (by decide +kernel) dX5_place_2) (Nat.le_refl _) (by show 8 + (1 + 11) + 40 * d ≤ 40 * (d + 1); omega) (fun C0 h9 => by cases h9) (fun as M v M1 mc ms h9 ad sz g1 g2 => ih 74 as M v M1 mc ms h9 ad sz g1 g2)) ?_
  refine xm_Oks.step (sn_if hG fun H locs cells slots ls rest x kt kf => lv_if_eq (tgt := 37) hx hb dX5_place_5 (by decide) kt kf) ?_
  refine xm_Oks.step (sn_ldI hG fun H locs cells slots ls rest x h k => lv_iload_n hx hb dX5_place_8 rfl h k) ?_
  refine xm_Oks.step (sn_push hG (fun _ => trivial) fun ad H locs cells slots ls rest k => lv_ldc hx hb hown (ht _ xw_343) dX5_place_9 k) ?_
  refine xm_Oks.call (xm_sndC hG hC (xm_callS ⟨hx, hb, hml, hown, hts⟩ xw_344 xw_345 xw_338 xw_346 (by decide +kernel) dX5_place_11) (Nat.le_refl _) (by show 8 + (2 + 11) + 40 * d ≤ 40 * (d + 1); omega) (fun C0 h9 => by cases h9) (fun as M v M1 mc ms h9 ad sz g1 g2 => ih 76 as M v M1 mc ms h9 ad sz g1 g2)) ?_
  refine xm_Oks.step (sn_if hG fun H locs cells slots ls rest x kt kf => lv_if_eq (tgt := 37) hx hb dX5_place_14 (by decide) kt kf) ?_
  refine xm_Oks.step (sn_ldI hG fun H locs cells slots ls rest x h k => lv_iload_n hx hb dX5_place_17 rfl h k) ?_
  refine xm_Oks.step (sn_push hG (fun _ => trivial) fun ad H locs cells slots ls rest k => lv_ldc hx hb hown (ht _ xw_343) dX5_place_18 k) ?_
  refine xm_Oks.call (xm_sndC hG hC (xm_callS ⟨hx, hb, hml, hown, hts⟩ xw_344 xw_345 xw_338 xw_346 (by decide +kernel) dX5_place_20) (Nat.le_refl _) (by show 8 + (2 + 11) + 40 * d ≤ 40 * (d + 1); omega) (fun C0 h9 => by cases h9) (fun as M v M1 mc ms h9 ad sz g1 g2 => ih 76 as M v M1 mc ms h9 ad sz g1 g2)) ?_
  refine xm_Oks.step (sn_if hG fun H locs cells slots ls rest x kt kf => lv_if_eq (tgt := 37) hx hb dX5_place_23 (by decide) kt kf) ?_
  refine xm_Oks.step (sn_ldI hG fun H locs cells slots ls rest x h k => lv_iload hx hb dX5_place_26 h k) ?_
  refine xm_Oks.step (sn_push hG (fun _ => trivial) fun ad H locs cells slots ls rest k => lv_sipush hx hb dX5_place_28 (by decide) k) ?_
  refine xm_Oks.call (xm_sndC hG hC (xm_callS ⟨hx, hb, hml, hown, hts⟩ xw_344 xw_345 xw_338 xw_346 (by decide +kernel) dX5_place_31) (Nat.le_refl _) (by show 8 + (2 + 11) + 40 * d ≤ 40 * (d + 1); omega) (fun C0 h9 => by cases h9) (fun as M v M1 mc ms h9 ad sz g1 g2 => ih 76 as M v M1 mc ms h9 ad sz g1 g2)) ?_
  refine xm_Oks.step (sn_if hG fun H locs cells slots ls rest x kt kf => lv_if_ne (tgt := 41) hx hb dX5_place_34 (by decide) kt (fun h9 => kf (fun h8 => h8 h9))) ?_
  refine xm_Oks.step (sn_push hG (fun _ => trivial) fun ad H locs cells slots ls rest k => lv_iconst hx hb dX5_place_37 (by decide) k) ?_
  refine xm_Oks.step (sn_goto hG fun H locs cells slots ls rest k => lv_goto (tgt := 42) hx hb dX5_place_38 (by decide) k) ?_
  refine xm_Oks.step (sn_push hG (fun _ => trivial) fun ad H locs cells slots ls rest k => lv_iconst hx hb dX5_place_41 (by decide) k) ?_
  refine xm_Oks.step (sn_putI hG rfl rfl (by decide) (by decide) fun H locs cells slots ls rest q0 ws a fs v hP hD hS hw ⟨x, hv⟩ hl k => by subst hv; exact va_put (D := D) (ty := .int) (C := RX5) (T := TX5) (N := 22) hx hb ht xu_5 tyX5 tyX5_ok nmX5 hown hK hP hD hS q0 hw rfl 0 (by decide) (ht _ xw_335) (fun _ h9 => h9) rfl (by decide +kernel) rfl rfl hl dX5_place_42 k) ?_
  refine xm_Oks.step (sn_ldR hG fun H locs cells slots ls rest x h k => lv_aload_n hx hb dX5_place_45 rfl h k) ?_
  refine xm_Oks.step (sn_getI hG rfl rfl (by decide) (by decide) fun H locs cells slots ls rest q0 ws a fs v hP hw hv k => va_get (D := D) (C := RX5) (T := TX5) (N := 22) hx hb ht xu_5 hown hK hP q0 hw rfl 0 (by decide) (ht _ xw_335) (fun _ h9 => h9) hv dX5_place_46 k) ?_
  refine xm_Oks.step (sn_if hG fun H locs cells slots ls rest x kt kf => lv_if_le (tgt := 53) hx hb dX5_place_49 (by decide) kt kf) ?_
  refine xm_Oks.stop ?_
  refine xm_Oks.step (sn_ldR hG fun H locs cells slots ls rest x h k => lv_aload_n hx hb dX5_place_53 rfl h k) ?_
  refine xm_Oks.step (sn_getR hG rfl rfl (by decide) fun H locs cells slots ls rest q0 ws a fs v hP hw hv k => va_get (D := D) (C := RX5) (T := TX5) (N := 22) hx hb ht xu_5 hown hK hP q0 hw rfl 2 (by decide) (ht _ xw_324) (fun _ h9 => h9) hv dX5_place_54 k) ?_
  refine xm_Oks.step (sn_ldI hG fun H locs cells slots ls rest x h k => lv_iload_n hx hb dX5_place_57 rfl h k) ?_
  refine xm_Oks.step (sn_zald hG fun H locs cells slots ls rest q0 ws a N f x hP hw hin k => va_zald hx hb hK hP q0 3 hw rfl hin dX5_place_58 k) ?_
  refine xm_Oks.step (sn_if hG fun H locs cells slots ls rest x kt kf => lv_if_ne (tgt := 112) hx hb dX5_place_59 (by decide) kt (fun h9 => kf (fun h8 => h8 h9))) ?_
  refine xm_Oks.step (sn_ldR hG fun H locs cells slots ls rest x h k => lv_aload_n hx hb dX5_place_62 rfl h k) ?_
  refine xm_Oks.step (sn_getR hG rfl rfl (by decide) fun H locs cells slots ls rest q0 ws a fs v hP hw hv k => va_get (D := D) (C := RX5) (T := TX5) (N := 22) hx hb ht xu_5 hown hK hP q0 hw rfl 2 (by decide) (ht _ xw_324) (fun _ h9 => h9) hv dX5_place_63 k) ?_
  refine xm_Oks.step (sn_ldI hG fun H locs cells slots ls rest x h k => lv_iload_n hx hb dX5_place_66 rfl h k) ?_
  refine xm_Oks.step (sn_push hG (fun _ => trivial) fun ad H locs cells slots ls rest k => lv_iconst hx hb dX5_place_67 (by decide) k) ?_
  refine xm_Oks.step (sn_zast hG fun H locs cells slots ls rest q0 ws a N f x v hP hD hS hw hin k => va_zast hx hb hK hP hD hS q0 3 hw rfl hin dX5_place_68 k) ?_
  refine xm_Oks.step (sn_ldR hG fun H locs cells slots ls rest x h k => lv_aload_n hx hb dX5_place_69 rfl h k) ?_
  refine xm_Oks.step (sn_getR hG rfl rfl (by decide) fun H locs cells slots ls rest q0 ws a fs v hP hw hv k => va_get (D := D) (C := RX5) (T := TX5) (N := 22) hx hb ht xu_5 hown hK hP q0 hw rfl 3 (by decide) (ht _ xw_325) (fun _ h9 => h9) hv dX5_place_70 k) ?_
  refine xm_Oks.step (sn_ldI hG fun H locs cells slots ls rest x h k => lv_iload_n hx hb dX5_place_73 rfl h k) ?_
  refine xm_Oks.step (sn_push hG (fun _ => trivial) fun ad H locs cells slots ls rest k => lv_iconst hx hb dX5_place_74 (by decide) k) ?_
  refine xm_Oks.step (sn_zast hG fun H locs cells slots ls rest q0 ws a N f x v hP hD hS hw hin k => va_zast hx hb hK hP hD hS q0 3 hw rfl hin dX5_place_75 k) ?_
  refine xm_Oks.step (sn_ldR hG fun H locs cells slots ls rest x h k => lv_aload_n hx hb dX5_place_76 rfl h k) ?_
  refine xm_Oks.step (sn_getR hG rfl rfl (by decide) fun H locs cells slots ls rest q0 ws a fs v hP hw hv k => va_get (D := D) (C := RX5) (T := TX5) (N := 22) hx hb ht xu_5 hown hK hP q0 hw rfl 4 (by decide) (ht _ xw_326) (fun _ h9 => h9) hv dX5_place_77 k) ?_
  refine xm_Oks.step (sn_push hG (fun _ => trivial) fun ad H locs cells slots ls rest k => lv_bipush hx hb dX5_place_80 (by decide) k) ?_
  refine xm_Oks.step (sn_ldI hG fun H locs cells slots ls rest x h k => lv_iload_n hx hb dX5_place_82 rfl h k) ?_
  refine xm_Oks.step (sn_bin hG fun H locs cells slots ls rest x y k => lv_imul hx hb dX5_place_83 k) ?_
  refine xm_Oks.step (sn_push hG (fun _ => trivial) fun ad H locs cells slots ls rest k => lv_iconst hx hb dX5_place_84 (by decide) k) ?_
  refine xm_Oks.step (sn_bin hG fun H locs cells slots ls rest x y k => lv_iadd hx hb dX5_place_85 k) ?_
  refine xm_Oks.step (sn_push hG (fun _ => trivial) fun ad H locs cells slots ls rest k => lv_iconst hx hb dX5_place_86 (by decide) k) ?_
  refine xm_Oks.step (sn_iast hG fun H locs cells slots ls rest q0 ws a N f x v hP hD hS hw hin k => va_iast hx hb hK hP hD hS q0 1 hw rfl hin dX5_place_87 k) ?_
  refine xm_Oks.step (sn_ldR hG fun H locs cells slots ls rest x h k => lv_aload_n hx hb dX5_place_88 rfl h k) ?_
  refine xm_Oks.step (sn_getR hG rfl rfl (by decide) fun H locs cells slots ls rest q0 ws a fs v hP hw hv k => va_get (D := D) (C := RX5) (T := TX5) (N := 22) hx hb ht xu_5 hown hK hP q0 hw rfl 4 (by decide) (ht _ xw_326) (fun _ h9 => h9) hv dX5_place_89 k) ?_
  refine xm_Oks.step (sn_push hG (fun _ => trivial) fun ad H locs cells slots ls rest k => lv_bipush hx hb dX5_place_92 (by decide) k) ?_
  refine xm_Oks.step (sn_ldI hG fun H locs cells slots ls rest x h k => lv_iload_n hx hb dX5_place_94 rfl h k) ?_
  refine xm_Oks.step (sn_bin hG fun H locs cells slots ls rest x y k => lv_imul hx hb dX5_place_95 k) ?_
  refine xm_Oks.step (sn_push hG (fun _ => trivial) fun ad H locs cells slots ls rest k => lv_iconst hx hb dX5_place_96 (by decide) k) ?_
  refine xm_Oks.step (sn_bin hG fun H locs cells slots ls rest x y k => lv_iadd hx hb dX5_place_97 k) ?_
  refine xm_Oks.step (sn_push hG (fun _ => trivial) fun ad H locs cells slots ls rest k => lv_iconst hx hb dX5_place_98 (by decide) k) ?_
  refine xm_Oks.step (sn_iast hG fun H locs cells slots ls rest q0 ws a N f x v hP hD hS hw hin k => va_iast hx hb hK hP hD hS q0 1 hw rfl hin dX5_place_99 k) ?_
  refine xm_Oks.step (sn_ldR hG fun H locs cells slots ls rest x h k => lv_aload_n hx hb dX5_place_100 rfl h k) ?_
  refine xm_Oks.step (sn_getR hG rfl rfl (by decide) fun H locs cells slots ls rest q0 ws a fs v hP hw hv k => va_get (D := D) (C := RX5) (T := TX5) (N := 22) hx hb ht xu_5 hown hK hP q0 hw rfl 4 (by decide) (ht _ xw_326) (fun _ h9 => h9) hv dX5_place_101 k) ?_
  refine xm_Oks.step (sn_push hG (fun _ => trivial) fun ad H locs cells slots ls rest k => lv_bipush hx hb dX5_place_104 (by decide) k) ?_
  refine xm_Oks.step (sn_ldI hG fun H locs cells slots ls rest x h k => lv_iload_n hx hb dX5_place_106 rfl h k) ?_
  refine xm_Oks.step (sn_bin hG fun H locs cells slots ls rest x y k => lv_imul hx hb dX5_place_107 k) ?_
  refine xm_Oks.step (sn_push hG (fun _ => trivial) fun ad H locs cells slots ls rest k => lv_iconst hx hb dX5_place_108 (by decide) k) ?_
  refine xm_Oks.step (sn_bin hG fun H locs cells slots ls rest x y k => lv_iadd hx hb dX5_place_109 k) ?_
  refine xm_Oks.step (sn_push hG (fun _ => trivial) fun ad H locs cells slots ls rest k => lv_iconst hx hb dX5_place_110 (by decide) k) ?_
  refine xm_Oks.step (sn_iast hG fun H locs cells slots ls rest q0 ws a N f x v hP hD hS hw hin k => va_iast hx hb hK hP hD hS q0 1 hw rfl hin dX5_place_111 k) ?_
  refine xm_Oks.step (sn_ldR hG fun H locs cells slots ls rest x h k => lv_aload_n hx hb dX5_place_112 rfl h k) ?_
  refine xm_Oks.step (sn_getR hG rfl rfl (by decide) fun H locs cells slots ls rest q0 ws a fs v hP hw hv k => va_get (D := D) (C := RX5) (T := TX5) (N := 22) hx hb ht xu_5 hown hK hP q0 hw rfl 4 (by decide) (ht _ xw_326) (fun _ h9 => h9) hv dX5_place_113 k) ?_
  refine xm_Oks.step (sn_push hG (fun _ => trivial) fun ad H locs cells slots ls rest k => lv_bipush hx hb dX5_place_116 (by decide) k) ?_
  refine xm_Oks.step (sn_ldI hG fun H locs cells slots ls rest x h k => lv_iload_n hx hb dX5_place_118 rfl h k) ?_
  refine xm_Oks.step (sn_bin hG fun H locs cells slots ls rest x y k => lv_imul hx hb dX5_place_119 k) ?_
  refine xm_Oks.step (sn_ldI hG fun H locs cells slots ls rest x h k => lv_iload_n hx hb dX5_place_120 rfl h k) ?_
  refine xm_Oks.step (sn_iast hG fun H locs cells slots ls rest q0 ws a N f x v hP hD hS hw hin k => va_iast hx hb hK hP hD hS q0 1 hw rfl hin dX5_place_121 k) ?_
  refine xm_Oks.step (sn_ldR hG fun H locs cells slots ls rest x h k => lv_aload_n hx hb dX5_place_122 rfl h k) ?_
  refine xm_Oks.step (sn_getR hG rfl rfl (by decide) fun H locs cells slots ls rest q0 ws a fs v hP hw hv k => va_get (D := D) (C := RX5) (T := TX5) (N := 22) hx hb ht xu_5 hown hK hP q0 hw rfl 4 (by decide) (ht _ xw_326) (fun _ h9 => h9) hv dX5_place_123 k) ?_
  refine xm_Oks.step (sn_push hG (fun _ => trivial) fun ad H locs cells slots ls rest k => lv_bipush hx hb dX5_place_126 (by decide) k) ?_
  refine xm_Oks.step (sn_ldI hG fun H locs cells slots ls rest x h k => lv_iload_n hx hb dX5_place_128 rfl h k) ?_
  refine xm_Oks.step (sn_bin hG fun H locs cells slots ls rest x y k => lv_imul hx hb dX5_place_129 k) ?_
  refine xm_Oks.step (sn_push hG (fun _ => trivial) fun ad H locs cells slots ls rest k => lv_iconst hx hb dX5_place_130 (by decide) k) ?_
  refine xm_Oks.step (sn_bin hG fun H locs cells slots ls rest x y k => lv_iadd hx hb dX5_place_131 k) ?_
  refine xm_Oks.step (sn_ldI hG fun H locs cells slots ls rest x h k => lv_iload_n hx hb dX5_place_132 rfl h k) ?_
  refine xm_Oks.step (sn_iast hG fun H locs cells slots ls rest q0 ws a N f x v hP hD hS hw hin k => va_iast hx hb hK hP hD hS q0 1 hw rfl hin dX5_place_133 k) ?_
  refine xm_Oks.step (sn_ldR hG fun H locs cells slots ls rest x h k => lv_aload_n hx hb dX5_place_134 rfl h k) ?_
  refine xm_Oks.step (sn_getR hG rfl rfl (by decide) fun H locs cells slots ls rest q0 ws a fs v hP hw hv k => va_get (D := D) (C := RX5) (T := TX5) (N := 22) hx hb ht xu_5 hown hK hP q0 hw rfl 4 (by decide) (ht _ xw_326) (fun _ h9 => h9) hv dX5_place_135 k) ?_
  refine xm_Oks.step (sn_push hG (fun _ => trivial) fun ad H locs cells slots ls rest k => lv_bipush hx hb dX5_place_138 (by decide) k) ?_
  refine xm_Oks.step (sn_ldI hG fun H locs cells slots ls rest x h k => lv_iload_n hx hb dX5_place_140 rfl h k) ?_
  refine xm_Oks.step (sn_bin hG fun H locs cells slots ls rest x y k => lv_imul hx hb dX5_place_141 k) ?_
  refine xm_Oks.step (sn_push hG (fun _ => trivial) fun ad H locs cells slots ls rest k => lv_iconst hx hb dX5_place_142 (by decide) k) ?_
  refine xm_Oks.step (sn_bin hG fun H locs cells slots ls rest x y k => lv_iadd hx hb dX5_place_143 k) ?_
  refine xm_Oks.step (sn_ldI hG fun H locs cells slots ls rest x h k => lv_iload hx hb dX5_place_144 h k) ?_
  refine xm_Oks.step (sn_iast hG fun H locs cells slots ls rest q0 ws a N f x v hP hD hS hw hin k => va_iast hx hb hK hP hD hS q0 1 hw rfl hin dX5_place_146 k) ?_
  refine xm_Oks.step (sn_ldR hG fun H locs cells slots ls rest x h k => lv_aload_n hx hb dX5_place_147 rfl h k) ?_
  refine xm_Oks.step (sn_ldI hG fun H locs cells slots ls rest x h k => lv_iload_n hx hb dX5_place_148 rfl h k) ?_
  refine xm_Oks.call (xm_sndC hG hC (xm_callV ⟨hx, hb, hml, hown, hts⟩ xw_347 xw_348 xw_349 xw_338 xw_350 (by decide +kernel) dX5_place_149) (Nat.le_refl _) (by show 8 + (4 + 11) + 40 * d ≤ 40 * (d + 1); omega) (fun C0 h9 => by cases h9; exact ⟨5, _, _, by decide, by decide, rfl, rfl, rfl⟩) (fun as M v M1 mc ms h9 ad sz g1 g2 => ih 78 as M v M1 mc ms h9 ad sz g1 g2)) ?_
  refine xm_Oks.step (sn_push hG (fun _ => trivial) fun ad H locs cells slots ls rest k => lv_iconst hx hb dX5_place_152 (by decide) k) ?_
  refine xm_Oks.step (sn_stI hG fun H locs cells slots ls rest x lv lv9 h he k => lv_istore hx hb dX5_place_153 h (by decide) he k) ?_
  refine xm_Oks.step (sn_ldI hG fun H locs cells slots ls rest x h k => lv_iload hx hb dX5_place_155 h k) ?_
  refine xm_Oks.step (sn_push hG (fun _ => trivial) fun ad H locs cells slots ls rest k => lv_bipush hx hb dX5_place_157 (by decide) k) ?_
  refine xm_Oks.step (sn_icmp hG fun H locs cells slots ls rest x y kt kf => lv_icmp_ge (tgt := 218) hx hb dX5_place_159 (by decide) kt kf) ?_
  refine xm_Oks.step (sn_ldI hG fun H locs cells slots ls rest x h k => lv_iload hx hb dX5_place_162 h k) ?_
  refine xm_Oks.step (sn_ldI hG fun H locs cells slots ls rest x h k => lv_iload_n hx hb dX5_place_164 rfl h k) ?_
  refine xm_Oks.step (sn_icmp hG fun H locs cells slots ls rest x y kt kf => lv_icmp_eq (tgt := 212) hx hb dX5_place_165 (by decide) kt kf) ?_
  refine xm_Oks.step (sn_ldR hG fun H locs cells slots ls rest x h k => lv_aload_n hx hb dX5_place_168 rfl h k) ?_
  refine xm_Oks.step (sn_getR hG rfl rfl (by decide) fun H locs cells slots ls rest q0 ws a fs v hP hw hv k => va_get (D := D) (C := RX5) (T := TX5) (N := 22) hx hb ht xu_5 hown hK hP q0 hw rfl 2 (by decide) (ht _ xw_324) (fun _ h9 => h9) hv dX5_place_169 k) ?_
  refine xm_Oks.step (sn_ldI hG fun H locs cells slots ls rest x h k => lv_iload hx hb dX5_place_172 h k) ?_
  refine xm_Oks.step (sn_zald hG fun H locs cells slots ls rest q0 ws a N f x hP hw hin k => va_zald hx hb hK hP q0 3 hw rfl hin dX5_place_174 k) ?_
  refine xm_Oks.step (sn_if hG fun H locs cells slots ls rest x kt kf => lv_if_eq (tgt := 212) hx hb dX5_place_175 (by decide) kt kf) ?_
  refine xm_Oks.step (sn_ldR hG fun H locs cells slots ls rest x h k => lv_aload_n hx hb dX5_place_178 rfl h k) ?_
  refine xm_Oks.step (sn_getR hG rfl rfl (by decide) fun H locs cells slots ls rest q0 ws a fs v hP hw hv k => va_get (D := D) (C := RX5) (T := TX5) (N := 22) hx hb ht xu_5 hown hK hP q0 hw rfl 9 (by decide) (ht _ xw_332) (fun _ h9 => h9) hv dX5_place_179 k) ?_
  refine xm_Oks.step (sn_ldI hG fun H locs cells slots ls rest x h k => lv_iload_n hx hb dX5_place_182 rfl h k) ?_
  refine xm_Oks.step (sn_ldI hG fun H locs cells slots ls rest x h k => lv_iload hx hb dX5_place_183 h k) ?_
  refine xm_Oks.call (xm_sndC hG hC (xm_callS ⟨hx, hb, hml, hown, hts⟩ xw_340 xw_341 xw_338 xw_342 (by decide +kernel) dX5_place_185) (Nat.le_refl _) (by show 8 + (2 + 11) + 40 * d ≤ 40 * (d + 1); omega) (fun C0 h9 => by cases h9) (fun as M v M1 mc ms h9 ad sz g1 g2 => ih 77 as M v M1 mc ms h9 ad sz g1 g2)) ?_
  refine xm_Oks.step (sn_push hG (fun _ => trivial) fun ad H locs cells slots ls rest k => lv_ldc2 hx hb hown (ht _ xw_351) dX5_place_188 k) ?_
  refine xm_Oks.step (sn_last hG fun H locs cells slots ls rest q0 ws a N f x v hP hD hS hw hin k => va_last hx hb hK hP hD hS q0 2 hw rfl hin dX5_place_191 k) ?_
  refine xm_Oks.step (sn_ldR hG fun H locs cells slots ls rest x h k => lv_aload_n hx hb dX5_place_192 rfl h k) ?_
  refine xm_Oks.step (sn_getR hG rfl rfl (by decide) fun H locs cells slots ls rest q0 ws a fs v hP hw hv k => va_get (D := D) (C := RX5) (T := TX5) (N := 22) hx hb ht xu_5 hown hK hP q0 hw rfl 10 (by decide) (ht _ xw_333) (fun _ h9 => h9) hv dX5_place_193 k) ?_
  refine xm_Oks.step (sn_ldI hG fun H locs cells slots ls rest x h k => lv_iload_n hx hb dX5_place_196 rfl h k) ?_
  refine xm_Oks.step (sn_ldI hG fun H locs cells slots ls rest x h k => lv_iload hx hb dX5_place_197 h k) ?_
  refine xm_Oks.call (xm_sndC hG hC (xm_callS ⟨hx, hb, hml, hown, hts⟩ xw_340 xw_341 xw_338 xw_342 (by decide +kernel) dX5_place_199) (Nat.le_refl _) (by show 8 + (2 + 11) + 40 * d ≤ 40 * (d + 1); omega) (fun C0 h9 => by cases h9) (fun as M v M1 mc ms h9 ad sz g1 g2 => ih 77 as M v M1 mc ms h9 ad sz g1 g2)) ?_
  refine xm_Oks.step (sn_push hG (fun _ => trivial) fun ad H locs cells slots ls rest k => lv_ldc hx hb hown (ht _ xw_352) dX5_place_202 k) ?_
  refine xm_Oks.step (sn_iast hG fun H locs cells slots ls rest q0 ws a N f x v hP hD hS hw hin k => va_iast hx hb hK hP hD hS q0 1 hw rfl hin dX5_place_204 k) ?_
  refine xm_Oks.step (sn_ldR hG fun H locs cells slots ls rest x h k => lv_aload_n hx hb dX5_place_205 rfl h k) ?_
  refine xm_Oks.step (sn_ldI hG fun H locs cells slots ls rest x h k => lv_iload_n hx hb dX5_place_206 rfl h k) ?_
  refine xm_Oks.step (sn_ldI hG fun H locs cells slots ls rest x h k => lv_iload hx hb dX5_place_207 h k) ?_
  refine xm_Oks.call (xm_sndC hG hC (xm_callV ⟨hx, hb, hml, hown, hts⟩ xw_353 xw_354 xw_355 xw_338 xw_356 (by decide +kernel) dX5_place_209) (Nat.le_refl _) (by show 8 + (12 + 11) + 40 * d ≤ 40 * (d + 1); omega) (fun C0 h9 => by cases h9; exact ⟨5, _, _, by decide, by decide, rfl, rfl, rfl⟩) (fun as M v M1 mc ms h9 ad sz g1 g2 => ih 79 as M v M1 mc ms h9 ad sz g1 g2)) ?_
  refine xm_Oks.step (sn_inc hG fun H locs cells slots ls rest x lv lv9 j h hj he k => lv_iinc hx hb dX5_place_212 h hj rfl (by decide) he k) ?_
  refine xm_Oks.step (sn_goto hG fun H locs cells slots ls rest k => lv_goto (tgt := 155) hx hb dX5_place_215 (by decide) k) ?_
  refine xm_Oks.stop ?_
  exact trivial
set_option maxHeartbeats 4000000 in
set_option maxRecDepth 100000 in
theorem xk_X5_speed : xm_MOk xp_pg xp_pm 81 := by
  refine ⟨by decide +kernel, rfl, ?_, ?_⟩
  · show xm_Oks _ xt_X5_speed
    exact ⟨trivial, trivial, trivial, trivial, trivial, trivial, trivial, trivial, trivial, trivial, trivial, trivial, trivial, trivial, trivial, trivial, trivial, trivial, trivial, trivial, trivial, trivial, trivial, trivial, trivial, trivial, trivial, trivial, trivial, trivial, trivial, trivial, trivial, trivial, trivial, trivial, trivial, trivial, trivial, trivial, trivial, trivial, trivial, trivial, trivial, trivial, trivial, trivial, trivial, trivial, trivial, trivial, trivial, trivial, ⟨dX5_speed_96, rfl⟩, trivial⟩
  intro d mc ms p l e s m args below meth c Q cA D A tS ad0 o0 G hG hC hn ih
  have hG : xm_IsG p l e (xm_room (d + 1) mc ms) s m args below meth c Q cA D A tS 5 ad0 o0 G := hG
  have hC : xm_Cx p s m args c cX5_speed 5 RX5 (Cond.code yX5_speed cX5_speed 5 none :: xm_W) cA D A tS := hC
  have hn : meth.name = "speed" := hn
  obtain ⟨hx, hb, hml, hown, hts, hK, hA, hSx, hNx⟩ := id hC
  have ht : ∀ w ∈ xm_W, w.before args s = true := fun w h => hts w (List.mem_cons_of_mem _ h)
  show xm_Oks (xm_Ent (xm_room (d + 1) mc ms) G (xm_Do xp_pg d)) xt_X5_speed
  unfold xt_X5_speed
  refine xm_Oks.step (sn_ldR hG fun H locs cells slots ls rest x h k => lv_aload_n hx hb dX5_speed_0 rfl h k) ?_
  refine xm_Oks.step (sn_ldR hG fun H locs cells slots ls rest x h k => lv_aload_n hx hb dX5_speed_1 rfl h k) ?_
  refine xm_Oks.step (sn_ldI hG fun H locs cells slots ls rest x h k => lv_iload_n hx hb dX5_speed_2 rfl h k) ?_
  refine xm_Oks.call (xm_sndC hG hC (xm_callV ⟨hx, hb, hml, hown, hts⟩ xw_357 xw_358 xw_359 xw_338 xw_360 (by decide +kernel) dX5_speed_3) (Nat.le_refl _) (by show 8 + (2 + 11) + 40 * d ≤ 40 * (d + 1); omega) (fun C0 h9 => by cases h9; exact ⟨5, _, _, by decide, by decide, rfl, rfl, rfl⟩) (fun as M v M1 mc ms h9 ad sz g1 g2 => ih 75 as M v M1 mc ms h9 ad sz g1 g2)) ?_
  refine xm_Oks.step (sn_if hG fun H locs cells slots ls rest x kt kf => lv_if_eq (tgt := 39) hx hb dX5_speed_6 (by decide) kt kf) ?_
  refine xm_Oks.step (sn_ldI hG fun H locs cells slots ls rest x h k => lv_iload_n hx hb dX5_speed_9 rfl h k) ?_
  refine xm_Oks.step (sn_push hG (fun _ => trivial) fun ad H locs cells slots ls rest k => lv_sipush hx hb dX5_speed_10 (by decide) k) ?_
  refine xm_Oks.call (xm_sndC hG hC (xm_callS ⟨hx, hb, hml, hown, hts⟩ xw_344 xw_345 xw_338 xw_346 (by decide +kernel) dX5_speed_13) (Nat.le_refl _) (by show 8 + (2 + 11) + 40 * d ≤ 40 * (d + 1); omega) (fun C0 h9 => by cases h9) (fun as M v M1 mc ms h9 ad sz g1 g2 => ih 76 as M v M1 mc ms h9 ad sz g1 g2)) ?_
  refine xm_Oks.step (sn_if hG fun H locs cells slots ls rest x kt kf => lv_if_eq (tgt := 39) hx hb dX5_speed_16 (by decide) kt kf) ?_
  refine xm_Oks.step (sn_ldI hG fun H locs cells slots ls rest x h k => lv_iload_n hx hb dX5_speed_19 rfl h k) ?_
  refine xm_Oks.step (sn_push hG (fun _ => trivial) fun ad H locs cells slots ls rest k => lv_sipush hx hb dX5_speed_20 (by decide) k) ?_
  refine xm_Oks.call (xm_sndC hG hC (xm_callS ⟨hx, hb, hml, hown, hts⟩ xw_344 xw_345 xw_338 xw_346 (by decide +kernel) dX5_speed_23) (Nat.le_refl _) (by show 8 + (2 + 11) + 40 * d ≤ 40 * (d + 1); omega) (fun C0 h9 => by cases h9) (fun as M v M1 mc ms h9 ad sz g1 g2 => ih 76 as M v M1 mc ms h9 ad sz g1 g2)) ?_
  refine xm_Oks.step (sn_if hG fun H locs cells slots ls rest x kt kf => lv_if_eq (tgt := 39) hx hb dX5_speed_26 (by decide) kt kf) ?_
  refine xm_Oks.step (sn_ldI hG fun H locs cells slots ls rest x h k => lv_iload hx hb dX5_speed_29 h k) ?_
  refine xm_Oks.step (sn_push hG (fun _ => trivial) fun ad H locs cells slots ls rest k => lv_bipush hx hb dX5_speed_31 (by decide) k) ?_
  refine xm_Oks.call (xm_sndC hG hC (xm_callS ⟨hx, hb, hml, hown, hts⟩ xw_344 xw_345 xw_338 xw_346 (by decide +kernel) dX5_speed_33) (Nat.le_refl _) (by show 8 + (2 + 11) + 40 * d ≤ 40 * (d + 1); omega) (fun C0 h9 => by cases h9) (fun as M v M1 mc ms h9 ad sz g1 g2 => ih 76 as M v M1 mc ms h9 ad sz g1 g2)) ?_
  refine xm_Oks.step (sn_if hG fun H locs cells slots ls rest x kt kf => lv_if_ne (tgt := 43) hx hb dX5_speed_36 (by decide) kt (fun h9 => kf (fun h8 => h8 h9))) ?_
  refine xm_Oks.step (sn_push hG (fun _ => trivial) fun ad H locs cells slots ls rest k => lv_iconst hx hb dX5_speed_39 (by decide) k) ?_
  refine xm_Oks.step (sn_goto hG fun H locs cells slots ls rest k => lv_goto (tgt := 44) hx hb dX5_speed_40 (by decide) k) ?_
  refine xm_Oks.step (sn_push hG (fun _ => trivial) fun ad H locs cells slots ls rest k => lv_iconst hx hb dX5_speed_43 (by decide) k) ?_
  refine xm_Oks.step (sn_putI hG rfl rfl (by decide) (by decide) fun H locs cells slots ls rest q0 ws a fs v hP hD hS hw ⟨x, hv⟩ hl k => by subst hv; exact va_put (D := D) (ty := .int) (C := RX5) (T := TX5) (N := 22) hx hb ht xu_5 tyX5 tyX5_ok nmX5 hown hK hP hD hS q0 hw rfl 0 (by decide) (ht _ xw_335) (fun _ h9 => h9) rfl (by decide +kernel) rfl rfl hl dX5_speed_44 k) ?_
  refine xm_Oks.step (sn_ldR hG fun H locs cells slots ls rest x h k => lv_aload_n hx hb dX5_speed_47 rfl h k) ?_
  refine xm_Oks.step (sn_getI hG rfl rfl (by decide) (by decide) fun H locs cells slots ls rest q0 ws a fs v hP hw hv k => va_get (D := D) (C := RX5) (T := TX5) (N := 22) hx hb ht xu_5 hown hK hP q0 hw rfl 0 (by decide) (ht _ xw_335) (fun _ h9 => h9) hv dX5_speed_48 k) ?_
  refine xm_Oks.step (sn_if hG fun H locs cells slots ls rest x kt kf => lv_if_ne (tgt := 96) hx hb dX5_speed_51 (by decide) kt (fun h9 => kf (fun h8 => h8 h9))) ?_
  refine xm_Oks.step (sn_ldR hG fun H locs cells slots ls rest x h k => lv_aload_n hx hb dX5_speed_54 rfl h k) ?_
  refine xm_Oks.step (sn_getR hG rfl rfl (by decide) fun H locs cells slots ls rest q0 ws a fs v hP hw hv k => va_get (D := D) (C := RX5) (T := TX5) (N := 22) hx hb ht xu_5 hown hK hP q0 hw rfl 4 (by decide) (ht _ xw_326) (fun _ h9 => h9) hv dX5_speed_55 k) ?_
  refine xm_Oks.step (sn_push hG (fun _ => trivial) fun ad H locs cells slots ls rest k => lv_bipush hx hb dX5_speed_58 (by decide) k) ?_
  refine xm_Oks.step (sn_ldI hG fun H locs cells slots ls rest x h k => lv_iload_n hx hb dX5_speed_60 rfl h k) ?_
  refine xm_Oks.step (sn_bin hG fun H locs cells slots ls rest x y k => lv_imul hx hb dX5_speed_61 k) ?_
  refine xm_Oks.step (sn_push hG (fun _ => trivial) fun ad H locs cells slots ls rest k => lv_iconst hx hb dX5_speed_62 (by decide) k) ?_
  refine xm_Oks.step (sn_bin hG fun H locs cells slots ls rest x y k => lv_iadd hx hb dX5_speed_63 k) ?_
  refine xm_Oks.step (sn_ldI hG fun H locs cells slots ls rest x h k => lv_iload_n hx hb dX5_speed_64 rfl h k) ?_
  refine xm_Oks.step (sn_iast hG fun H locs cells slots ls rest q0 ws a N f x v hP hD hS hw hin k => va_iast hx hb hK hP hD hS q0 1 hw rfl hin dX5_speed_65 k) ?_
  refine xm_Oks.step (sn_ldR hG fun H locs cells slots ls rest x h k => lv_aload_n hx hb dX5_speed_66 rfl h k) ?_
  refine xm_Oks.step (sn_getR hG rfl rfl (by decide) fun H locs cells slots ls rest q0 ws a fs v hP hw hv k => va_get (D := D) (C := RX5) (T := TX5) (N := 22) hx hb ht xu_5 hown hK hP q0 hw rfl 4 (by decide) (ht _ xw_326) (fun _ h9 => h9) hv dX5_speed_67 k) ?_
  refine xm_Oks.step (sn_push hG (fun _ => trivial) fun ad H locs cells slots ls rest k => lv_bipush hx hb dX5_speed_70 (by decide) k) ?_
  refine xm_Oks.step (sn_ldI hG fun H locs cells slots ls rest x h k => lv_iload_n hx hb dX5_speed_72 rfl h k) ?_
  refine xm_Oks.step (sn_bin hG fun H locs cells slots ls rest x y k => lv_imul hx hb dX5_speed_73 k) ?_
  refine xm_Oks.step (sn_push hG (fun _ => trivial) fun ad H locs cells slots ls rest k => lv_iconst hx hb dX5_speed_74 (by decide) k) ?_
  refine xm_Oks.step (sn_bin hG fun H locs cells slots ls rest x y k => lv_iadd hx hb dX5_speed_75 k) ?_
  refine xm_Oks.step (sn_ldI hG fun H locs cells slots ls rest x h k => lv_iload_n hx hb dX5_speed_76 rfl h k) ?_
  refine xm_Oks.step (sn_iast hG fun H locs cells slots ls rest q0 ws a N f x v hP hD hS hw hin k => va_iast hx hb hK hP hD hS q0 1 hw rfl hin dX5_speed_77 k) ?_
  refine xm_Oks.step (sn_ldR hG fun H locs cells slots ls rest x h k => lv_aload_n hx hb dX5_speed_78 rfl h k) ?_
  refine xm_Oks.step (sn_getR hG rfl rfl (by decide) fun H locs cells slots ls rest q0 ws a fs v hP hw hv k => va_get (D := D) (C := RX5) (T := TX5) (N := 22) hx hb ht xu_5 hown hK hP q0 hw rfl 4 (by decide) (ht _ xw_326) (fun _ h9 => h9) hv dX5_speed_79 k) ?_
  refine xm_Oks.step (sn_push hG (fun _ => trivial) fun ad H locs cells slots ls rest k => lv_bipush hx hb dX5_speed_82 (by decide) k) ?_
  refine xm_Oks.step (sn_ldI hG fun H locs cells slots ls rest x h k => lv_iload_n hx hb dX5_speed_84 rfl h k) ?_
  refine xm_Oks.step (sn_bin hG fun H locs cells slots ls rest x y k => lv_imul hx hb dX5_speed_85 k) ?_
  refine xm_Oks.step (sn_push hG (fun _ => trivial) fun ad H locs cells slots ls rest k => lv_iconst hx hb dX5_speed_86 (by decide) k) ?_
  refine xm_Oks.step (sn_bin hG fun H locs cells slots ls rest x y k => lv_iadd hx hb dX5_speed_87 k) ?_
  refine xm_Oks.step (sn_ldI hG fun H locs cells slots ls rest x h k => lv_iload hx hb dX5_speed_88 h k) ?_
  refine xm_Oks.step (sn_iast hG fun H locs cells slots ls rest q0 ws a N f x v hP hD hS hw hin k => va_iast hx hb hK hP hD hS q0 1 hw rfl hin dX5_speed_90 k) ?_
  refine xm_Oks.step (sn_ldR hG fun H locs cells slots ls rest x h k => lv_aload_n hx hb dX5_speed_91 rfl h k) ?_
  refine xm_Oks.step (sn_ldI hG fun H locs cells slots ls rest x h k => lv_iload_n hx hb dX5_speed_92 rfl h k) ?_
  refine xm_Oks.call (xm_sndC hG hC (xm_callV ⟨hx, hb, hml, hown, hts⟩ xw_347 xw_348 xw_349 xw_338 xw_350 (by decide +kernel) dX5_speed_93) (Nat.le_refl _) (by show 8 + (4 + 11) + 40 * d ≤ 40 * (d + 1); omega) (fun C0 h9 => by cases h9; exact ⟨5, _, _, by decide, by decide, rfl, rfl, rfl⟩) (fun as M v M1 mc ms h9 ad sz g1 g2 => ih 78 as M v M1 mc ms h9 ad sz g1 g2)) ?_
  refine xm_Oks.stop ?_
  exact trivial
set_option maxHeartbeats 4000000 in
set_option maxRecDepth 100000 in
theorem xk_X5_follow : xm_MOk xp_pg xp_pm 82 := by
  refine ⟨by decide +kernel, rfl, ?_, ?_⟩
  · show xm_Oks _ xt_X5_follow
    exact ⟨trivial, trivial, trivial, trivial, trivial, trivial, trivial, trivial, trivial, trivial, trivial, trivial, trivial, trivial, trivial, trivial, trivial, ⟨dX5_follow_31, rfl⟩, trivial⟩
  intro d mc ms p l e s m args below meth c Q cA D A tS ad0 o0 G hG hC hn ih
  have hG : xm_IsG p l e (xm_room (d + 1) mc ms) s m args below meth c Q cA D A tS 3 ad0 o0 G := hG
  have hC : xm_Cx p s m args c cX5_follow 3 RX5 (Cond.code yX5_follow cX5_follow 3 none :: xm_W) cA D A tS := hC
  have hn : meth.name = "follow" := hn
  obtain ⟨hx, hb, hml, hown, hts, hK, hA, hSx, hNx⟩ := id hC
  have ht : ∀ w ∈ xm_W, w.before args s = true := fun w h => hts w (List.mem_cons_of_mem _ h)
  show xm_Oks (xm_Ent (xm_room (d + 1) mc ms) G (xm_Do xp_pg d)) xt_X5_follow
  unfold xt_X5_follow
  refine xm_Oks.step (sn_ldR hG fun H locs cells slots ls rest x h k => lv_aload_n hx hb dX5_follow_0 rfl h k) ?_
  refine xm_Oks.step (sn_ldR hG fun H locs cells slots ls rest x h k => lv_aload_n hx hb dX5_follow_1 rfl h k) ?_
  refine xm_Oks.step (sn_ldI hG fun H locs cells slots ls rest x h k => lv_iload_n hx hb dX5_follow_2 rfl h k) ?_
  refine xm_Oks.call (xm_sndC hG hC (xm_callV ⟨hx, hb, hml, hown, hts⟩ xw_357 xw_358 xw_359 xw_338 xw_360 (by decide +kernel) dX5_follow_3) (Nat.le_refl _) (by show 8 + (2 + 11) + 40 * d ≤ 40 * (d + 1); omega) (fun C0 h9 => by cases h9; exact ⟨5, _, _, by decide, by decide, rfl, rfl, rfl⟩) (fun as M v M1 mc ms h9 ad sz g1 g2 => ih 75 as M v M1 mc ms h9 ad sz g1 g2)) ?_
  refine xm_Oks.step (sn_if hG fun H locs cells slots ls rest x kt kf => lv_if_eq (tgt := 13) hx hb dX5_follow_6 (by decide) kt kf) ?_
  refine xm_Oks.step (sn_push hG (fun _ => trivial) fun ad H locs cells slots ls rest k => lv_iconst hx hb dX5_follow_9 (by decide) k) ?_
  refine xm_Oks.step (sn_goto hG fun H locs cells slots ls rest k => lv_goto (tgt := 14) hx hb dX5_follow_10 (by decide) k) ?_
  refine xm_Oks.step (sn_push hG (fun _ => trivial) fun ad H locs cells slots ls rest k => lv_iconst hx hb dX5_follow_13 (by decide) k) ?_
  refine xm_Oks.step (sn_putI hG rfl rfl (by decide) (by decide) fun H locs cells slots ls rest q0 ws a fs v hP hD hS hw ⟨x, hv⟩ hl k => by subst hv; exact va_put (D := D) (ty := .int) (C := RX5) (T := TX5) (N := 22) hx hb ht xu_5 tyX5 tyX5_ok nmX5 hown hK hP hD hS q0 hw rfl 0 (by decide) (ht _ xw_335) (fun _ h9 => h9) rfl (by decide +kernel) rfl rfl hl dX5_follow_14 k) ?_
  refine xm_Oks.step (sn_ldR hG fun H locs cells slots ls rest x h k => lv_aload_n hx hb dX5_follow_17 rfl h k) ?_
  refine xm_Oks.step (sn_getI hG rfl rfl (by decide) (by decide) fun H locs cells slots ls rest q0 ws a fs v hP hw hv k => va_get (D := D) (C := RX5) (T := TX5) (N := 22) hx hb ht xu_5 hown hK hP q0 hw rfl 0 (by decide) (ht _ xw_335) (fun _ h9 => h9) hv dX5_follow_18 k) ?_
  refine xm_Oks.step (sn_if hG fun H locs cells slots ls rest x kt kf => lv_if_ne (tgt := 31) hx hb dX5_follow_21 (by decide) kt (fun h9 => kf (fun h8 => h8 h9))) ?_
  refine xm_Oks.step (sn_ldR hG fun H locs cells slots ls rest x h k => lv_aload_n hx hb dX5_follow_24 rfl h k) ?_
  refine xm_Oks.step (sn_getR hG rfl rfl (by decide) fun H locs cells slots ls rest q0 ws a fs v hP hw hv k => va_get (D := D) (C := RX5) (T := TX5) (N := 22) hx hb ht xu_5 hown hK hP q0 hw rfl 3 (by decide) (ht _ xw_325) (fun _ h9 => h9) hv dX5_follow_25 k) ?_
  refine xm_Oks.step (sn_ldI hG fun H locs cells slots ls rest x h k => lv_iload_n hx hb dX5_follow_28 rfl h k) ?_
  refine xm_Oks.step (sn_ldI hG fun H locs cells slots ls rest x h k => lv_iload_n hx hb dX5_follow_29 rfl h k) ?_
  refine xm_Oks.step (sn_zast hG fun H locs cells slots ls rest q0 ws a N f x v hP hD hS hw hin k => va_zast hx hb hK hP hD hS q0 3 hw rfl hin dX5_follow_30 k) ?_
  refine xm_Oks.stop ?_
  exact trivial
set_option maxHeartbeats 4000000 in
set_option maxRecDepth 100000 in
theorem xk_X5_leave : xm_MOk xp_pg xp_pm 83 := by
  refine ⟨by decide +kernel, rfl, ?_, ?_⟩
  · show xm_Oks _ xt_X5_leave
    exact ⟨trivial, trivial, trivial, trivial, trivial, trivial, trivial, trivial, trivial, trivial, trivial, trivial, trivial, trivial, trivial, trivial, trivial, trivial, trivial, trivial, ⟨dX5_leave_36, rfl⟩, trivial⟩
  intro d mc ms p l e s m args below meth c Q cA D A tS ad0 o0 G hG hC hn ih
  have hG : xm_IsG p l e (xm_room (d + 1) mc ms) s m args below meth c Q cA D A tS 2 ad0 o0 G := hG
  have hC : xm_Cx p s m args c cX5_leave 2 RX5 (Cond.code yX5_leave cX5_leave 2 none :: xm_W) cA D A tS := hC
  have hn : meth.name = "leave" := hn
  obtain ⟨hx, hb, hml, hown, hts, hK, hA, hSx, hNx⟩ := id hC
  have ht : ∀ w ∈ xm_W, w.before args s = true := fun w h => hts w (List.mem_cons_of_mem _ h)
  show xm_Oks (xm_Ent (xm_room (d + 1) mc ms) G (xm_Do xp_pg d)) xt_X5_leave
  unfold xt_X5_leave
  refine xm_Oks.step (sn_ldR hG fun H locs cells slots ls rest x h k => lv_aload_n hx hb dX5_leave_0 rfl h k) ?_
  refine xm_Oks.step (sn_ldR hG fun H locs cells slots ls rest x h k => lv_aload_n hx hb dX5_leave_1 rfl h k) ?_
  refine xm_Oks.step (sn_ldI hG fun H locs cells slots ls rest x h k => lv_iload_n hx hb dX5_leave_2 rfl h k) ?_
  refine xm_Oks.call (xm_sndC hG hC (xm_callV ⟨hx, hb, hml, hown, hts⟩ xw_357 xw_358 xw_359 xw_338 xw_360 (by decide +kernel) dX5_leave_3) (Nat.le_refl _) (by show 8 + (2 + 11) + 40 * d ≤ 40 * (d + 1); omega) (fun C0 h9 => by cases h9; exact ⟨5, _, _, by decide, by decide, rfl, rfl, rfl⟩) (fun as M v M1 mc ms h9 ad sz g1 g2 => ih 75 as M v M1 mc ms h9 ad sz g1 g2)) ?_
  refine xm_Oks.step (sn_if hG fun H locs cells slots ls rest x kt kf => lv_if_eq (tgt := 13) hx hb dX5_leave_6 (by decide) kt kf) ?_
  refine xm_Oks.step (sn_push hG (fun _ => trivial) fun ad H locs cells slots ls rest k => lv_iconst hx hb dX5_leave_9 (by decide) k) ?_
  refine xm_Oks.step (sn_goto hG fun H locs cells slots ls rest k => lv_goto (tgt := 14) hx hb dX5_leave_10 (by decide) k) ?_
  refine xm_Oks.step (sn_push hG (fun _ => trivial) fun ad H locs cells slots ls rest k => lv_iconst hx hb dX5_leave_13 (by decide) k) ?_
  refine xm_Oks.step (sn_putI hG rfl rfl (by decide) (by decide) fun H locs cells slots ls rest q0 ws a fs v hP hD hS hw ⟨x, hv⟩ hl k => by subst hv; exact va_put (D := D) (ty := .int) (C := RX5) (T := TX5) (N := 22) hx hb ht xu_5 tyX5 tyX5_ok nmX5 hown hK hP hD hS q0 hw rfl 0 (by decide) (ht _ xw_335) (fun _ h9 => h9) rfl (by decide +kernel) rfl rfl hl dX5_leave_14 k) ?_
  refine xm_Oks.step (sn_ldR hG fun H locs cells slots ls rest x h k => lv_aload_n hx hb dX5_leave_17 rfl h k) ?_
  refine xm_Oks.step (sn_getI hG rfl rfl (by decide) (by decide) fun H locs cells slots ls rest q0 ws a fs v hP hw hv k => va_get (D := D) (C := RX5) (T := TX5) (N := 22) hx hb ht xu_5 hown hK hP q0 hw rfl 0 (by decide) (ht _ xw_335) (fun _ h9 => h9) hv dX5_leave_18 k) ?_
  refine xm_Oks.step (sn_if hG fun H locs cells slots ls rest x kt kf => lv_if_ne (tgt := 36) hx hb dX5_leave_21 (by decide) kt (fun h9 => kf (fun h8 => h8 h9))) ?_
  refine xm_Oks.step (sn_ldR hG fun H locs cells slots ls rest x h k => lv_aload_n hx hb dX5_leave_24 rfl h k) ?_
  refine xm_Oks.step (sn_getR hG rfl rfl (by decide) fun H locs cells slots ls rest q0 ws a fs v hP hw hv k => va_get (D := D) (C := RX5) (T := TX5) (N := 22) hx hb ht xu_5 hown hK hP q0 hw rfl 2 (by decide) (ht _ xw_324) (fun _ h9 => h9) hv dX5_leave_25 k) ?_
  refine xm_Oks.step (sn_ldI hG fun H locs cells slots ls rest x h k => lv_iload_n hx hb dX5_leave_28 rfl h k) ?_
  refine xm_Oks.step (sn_push hG (fun _ => trivial) fun ad H locs cells slots ls rest k => lv_iconst hx hb dX5_leave_29 (by decide) k) ?_
  refine xm_Oks.step (sn_zast hG fun H locs cells slots ls rest q0 ws a N f x v hP hD hS hw hin k => va_zast hx hb hK hP hD hS q0 3 hw rfl hin dX5_leave_30 k) ?_
  refine xm_Oks.step (sn_ldR hG fun H locs cells slots ls rest x h k => lv_aload_n hx hb dX5_leave_31 rfl h k) ?_
  refine xm_Oks.step (sn_ldI hG fun H locs cells slots ls rest x h k => lv_iload_n hx hb dX5_leave_32 rfl h k) ?_
  refine xm_Oks.call (xm_sndC hG hC (xm_callV ⟨hx, hb, hml, hown, hts⟩ xw_347 xw_348 xw_349 xw_338 xw_350 (by decide +kernel) dX5_leave_33) (Nat.le_refl _) (by show 8 + (4 + 11) + 40 * d ≤ 40 * (d + 1); omega) (fun C0 h9 => by cases h9; exact ⟨5, _, _, by decide, by decide, rfl, rfl, rfl⟩) (fun as M v M1 mc ms h9 ad sz g1 g2 => ih 78 as M v M1 mc ms h9 ad sz g1 g2)) ?_
  refine xm_Oks.stop ?_
  exact trivial
set_option maxHeartbeats 4000000 in
set_option maxRecDepth 100000 in
theorem xk_X5_look : xm_MOk xp_pg xp_pm 84 := by
  refine ⟨by decide +kernel, rfl, ?_, ?_⟩
  · show xm_Oks _ xt_X5_look
    exact ⟨trivial, trivial, trivial, trivial, trivial, trivial, trivial, trivial, trivial, trivial, trivial, trivial, trivial, trivial, trivial, trivial, trivial, trivial, trivial, trivial, trivial, trivial, trivial, trivial, trivial, trivial, trivial, trivial, trivial, trivial, trivial, trivial, trivial, trivial, trivial, trivial, trivial, trivial, trivial, trivial, trivial, trivial, trivial, trivial, trivial, trivial, trivial, trivial, trivial, trivial, trivial, trivial, trivial, trivial, trivial, trivial, trivial, trivial, trivial, trivial, trivial, trivial, trivial, trivial, trivial, trivial, trivial, trivial, trivial, trivial, trivial, trivial, trivial, trivial, trivial, trivial, trivial, trivial, trivial, trivial, trivial, trivial, trivial, trivial, trivial, trivial, trivial, trivial, trivial, trivial, trivial, trivial, trivial, trivial, trivial, trivial, trivial, trivial, trivial, trivial, trivial, trivial, trivial, trivial, trivial, trivial, trivial, trivial, trivial, trivial, trivial, trivial, trivial, trivial, trivial, trivial, trivial, trivial, trivial, trivial, trivial, trivial, trivial, trivial, trivial, trivial, trivial, trivial, trivial, trivial, trivial, trivial, trivial, trivial, trivial, trivial, trivial, trivial, trivial, trivial, trivial, trivial, trivial, trivial, trivial, trivial, trivial, trivial, trivial, trivial, trivial, trivial, trivial, trivial, trivial, trivial, trivial, trivial, trivial, trivial, trivial, trivial, trivial, trivial, trivial, trivial, trivial, trivial, trivial, trivial, trivial, trivial, trivial, trivial, ⟨dX5_look_277, rfl⟩, trivial⟩
  intro d mc ms p l e s m args below meth c Q cA D A tS ad0 o0 G hG hC hn ih
  have hG : xm_IsG p l e (xm_room (d + 1) mc ms) s m args below meth c Q cA D A tS 5 ad0 o0 G := hG
  have hC : xm_Cx p s m args c cX5_look 5 RX5 (Cond.code yX5_look cX5_look 5 none :: xm_W) cA D A tS := hC
  have hn : meth.name = "look" := hn
  obtain ⟨hx, hb, hml, hown, hts, hK, hA, hSx, hNx⟩ := id hC
  have ht : ∀ w ∈ xm_W, w.before args s = true := fun w h => hts w (List.mem_cons_of_mem _ h)
  show xm_Oks (xm_Ent (xm_room (d + 1) mc ms) G (xm_Do xp_pg d)) xt_X5_look
  unfold xt_X5_look
  refine xm_Oks.step (sn_ldR hG fun H locs cells slots ls rest x h k => lv_aload_n hx hb dX5_look_0 rfl h k) ?_
  refine xm_Oks.step (sn_ldI hG fun H locs cells slots ls rest x h k => lv_iload_n hx hb dX5_look_1 rfl h k) ?_
  refine xm_Oks.step (sn_ldI hG fun H locs cells slots ls rest x h k => lv_iload_n hx hb dX5_look_2 rfl h k) ?_
  refine xm_Oks.step (sn_icmp hG fun H locs cells slots ls rest x y kt kf => lv_icmp_ge (tgt := 10) hx hb dX5_look_3 (by decide) kt kf) ?_
  refine xm_Oks.step (sn_ldI hG fun H locs cells slots ls rest x h k => lv_iload_n hx hb dX5_look_6 rfl h k) ?_
  refine xm_Oks.step (sn_goto hG fun H locs cells slots ls rest k => lv_goto (tgt := 11) hx hb dX5_look_7 (by decide) k) ?_
  refine xm_Oks.step (sn_ldI hG fun H locs cells slots ls rest x h k => lv_iload_n hx hb dX5_look_10 rfl h k) ?_
  refine xm_Oks.step (sn_putI hG rfl rfl (by decide) (by decide) fun H locs cells slots ls rest q0 ws a fs v hP hD hS hw ⟨x, hv⟩ hl k => by subst hv; exact va_put (D := D) (ty := .int) (C := RX5) (T := TX5) (N := 22) hx hb ht xu_5 tyX5 tyX5_ok nmX5 hown hK hP hD hS q0 hw rfl 12 (by decide) (ht _ xw_361) (fun _ h9 => h9) rfl (by decide +kernel) rfl rfl hl dX5_look_11 k) ?_
  refine xm_Oks.step (sn_ldR hG fun H locs cells slots ls rest x h k => lv_aload_n hx hb dX5_look_14 rfl h k) ?_
  refine xm_Oks.step (sn_ldI hG fun H locs cells slots ls rest x h k => lv_iload_n hx hb dX5_look_15 rfl h k) ?_
  refine xm_Oks.step (sn_ldI hG fun H locs cells slots ls rest x h k => lv_iload_n hx hb dX5_look_16 rfl h k) ?_
  refine xm_Oks.step (sn_icmp hG fun H locs cells slots ls rest x y kt kf => lv_icmp_ge (tgt := 24) hx hb dX5_look_17 (by decide) kt kf) ?_
  refine xm_Oks.step (sn_ldI hG fun H locs cells slots ls rest x h k => lv_iload_n hx hb dX5_look_20 rfl h k) ?_
  refine xm_Oks.step (sn_goto hG fun H locs cells slots ls rest k => lv_goto (tgt := 25) hx hb dX5_look_21 (by decide) k) ?_
  refine xm_Oks.step (sn_ldI hG fun H locs cells slots ls rest x h k => lv_iload_n hx hb dX5_look_24 rfl h k) ?_
  refine xm_Oks.step (sn_putI hG rfl rfl (by decide) (by decide) fun H locs cells slots ls rest q0 ws a fs v hP hD hS hw ⟨x, hv⟩ hl k => by subst hv; exact va_put (D := D) (ty := .int) (C := RX5) (T := TX5) (N := 22) hx hb ht xu_5 tyX5 tyX5_ok nmX5 hown hK hP hD hS q0 hw rfl 13 (by decide) (ht _ xw_362) (fun _ h9 => h9) rfl (by decide +kernel) rfl rfl hl dX5_look_25 k) ?_
  refine xm_Oks.step (sn_push hG (fun _ => trivial) fun ad H locs cells slots ls rest k => lv_bipush hx hb dX5_look_28 (by decide) k) ?_
  refine xm_Oks.step (sn_ldR hG fun H locs cells slots ls rest x h k => lv_aload_n hx hb dX5_look_30 rfl h k) ?_
  refine xm_Oks.step (sn_getI hG rfl rfl (by decide) (by decide) fun H locs cells slots ls rest q0 ws a fs v hP hw hv k => va_get (D := D) (C := RX5) (T := TX5) (N := 22) hx hb ht xu_5 hown hK hP q0 hw rfl 12 (by decide) (ht _ xw_361) (fun _ h9 => h9) hv dX5_look_31 k) ?_
  refine xm_Oks.step (sn_bin hG fun H locs cells slots ls rest x y k => lv_imul hx hb dX5_look_34 k) ?_
  refine xm_Oks.step (sn_stI hG fun H locs cells slots ls rest x lv lv9 h he k => lv_istore_n hx hb dX5_look_35 rfl h (by decide) he k) ?_
  refine xm_Oks.step (sn_push hG (fun _ => trivial) fun ad H locs cells slots ls rest k => lv_bipush hx hb dX5_look_36 (by decide) k) ?_
  refine xm_Oks.step (sn_ldR hG fun H locs cells slots ls rest x h k => lv_aload_n hx hb dX5_look_38 rfl h k) ?_
  refine xm_Oks.step (sn_getI hG rfl rfl (by decide) (by decide) fun H locs cells slots ls rest q0 ws a fs v hP hw hv k => va_get (D := D) (C := RX5) (T := TX5) (N := 22) hx hb ht xu_5 hown hK hP q0 hw rfl 13 (by decide) (ht _ xw_362) (fun _ h9 => h9) hv dX5_look_39 k) ?_
  refine xm_Oks.step (sn_bin hG fun H locs cells slots ls rest x y k => lv_imul hx hb dX5_look_42 k) ?_
  refine xm_Oks.step (sn_stI hG fun H locs cells slots ls rest x lv lv9 h he k => lv_istore hx hb dX5_look_43 h (by decide) he k) ?_
  refine xm_Oks.step (sn_ldR hG fun H locs cells slots ls rest x h k => lv_aload_n hx hb dX5_look_45 rfl h k) ?_
  refine xm_Oks.step (sn_ldR hG fun H locs cells slots ls rest x h k => lv_aload_n hx hb dX5_look_46 rfl h k) ?_
  refine xm_Oks.step (sn_getR hG rfl rfl (by decide) fun H locs cells slots ls rest q0 ws a fs v hP hw hv k => va_get (D := D) (C := RX5) (T := TX5) (N := 22) hx hb ht xu_5 hown hK hP q0 hw rfl 4 (by decide) (ht _ xw_326) (fun _ h9 => h9) hv dX5_look_47 k) ?_
  refine xm_Oks.step (sn_ldI hG fun H locs cells slots ls rest x h k => lv_iload hx hb dX5_look_50 h k) ?_
  refine xm_Oks.step (sn_iald hG fun H locs cells slots ls rest q0 ws a N f x hP hw hin k => va_iald hx hb hK hP q0 1 hw rfl hin dX5_look_52 k) ?_
  refine xm_Oks.step (sn_ldR hG fun H locs cells slots ls rest x h k => lv_aload_n hx hb dX5_look_53 rfl h k) ?_
  refine xm_Oks.step (sn_getR hG rfl rfl (by decide) fun H locs cells slots ls rest q0 ws a fs v hP hw hv k => va_get (D := D) (C := RX5) (T := TX5) (N := 22) hx hb ht xu_5 hown hK hP q0 hw rfl 4 (by decide) (ht _ xw_326) (fun _ h9 => h9) hv dX5_look_54 k) ?_
  refine xm_Oks.step (sn_ldI hG fun H locs cells slots ls rest x h k => lv_iload_n hx hb dX5_look_57 rfl h k) ?_
  refine xm_Oks.step (sn_iald hG fun H locs cells slots ls rest q0 ws a N f x hP hw hin k => va_iald hx hb hK hP q0 1 hw rfl hin dX5_look_58 k) ?_
  refine xm_Oks.step (sn_bin hG fun H locs cells slots ls rest x y k => lv_isub hx hb dX5_look_59 k) ?_
  refine xm_Oks.step (sn_one hG xg_i2l_inv (fun _ _ => trivial) fun ad H locs cells slots ls rest x k => lv_i2l hx hb dX5_look_60 rfl k) ?_
  refine xm_Oks.step (sn_putL hG rfl rfl (by decide) fun H locs cells slots ls rest q0 ws a fs v hP hD hS hw ⟨x, hv⟩ hl k => by subst hv; exact va_put (D := D) (ty := .long) (C := RX5) (T := TX5) (N := 22) hx hb ht xu_5 tyX5 tyX5_ok nmX5 hown hK hP hD hS q0 hw rfl 14 (by decide) (ht _ xw_363) (fun _ h9 => h9) rfl (by decide +kernel) rfl rfl hl dX5_look_61 k) ?_
  refine xm_Oks.step (sn_ldR hG fun H locs cells slots ls rest x h k => lv_aload_n hx hb dX5_look_64 rfl h k) ?_
  refine xm_Oks.step (sn_ldR hG fun H locs cells slots ls rest x h k => lv_aload_n hx hb dX5_look_65 rfl h k) ?_
  refine xm_Oks.step (sn_getR hG rfl rfl (by decide) fun H locs cells slots ls rest q0 ws a fs v hP hw hv k => va_get (D := D) (C := RX5) (T := TX5) (N := 22) hx hb ht xu_5 hown hK hP q0 hw rfl 4 (by decide) (ht _ xw_326) (fun _ h9 => h9) hv dX5_look_66 k) ?_
  refine xm_Oks.step (sn_ldI hG fun H locs cells slots ls rest x h k => lv_iload hx hb dX5_look_69 h k) ?_
  refine xm_Oks.step (sn_push hG (fun _ => trivial) fun ad H locs cells slots ls rest k => lv_iconst hx hb dX5_look_71 (by decide) k) ?_
  refine xm_Oks.step (sn_bin hG fun H locs cells slots ls rest x y k => lv_iadd hx hb dX5_look_72 k) ?_
  refine xm_Oks.step (sn_iald hG fun H locs cells slots ls rest q0 ws a N f x hP hw hin k => va_iald hx hb hK hP q0 1 hw rfl hin dX5_look_73 k) ?_
  refine xm_Oks.step (sn_ldR hG fun H locs cells slots ls rest x h k => lv_aload_n hx hb dX5_look_74 rfl h k) ?_
  refine xm_Oks.step (sn_getR hG rfl rfl (by decide) fun H locs cells slots ls rest q0 ws a fs v hP hw hv k => va_get (D := D) (C := RX5) (T := TX5) (N := 22) hx hb ht xu_5 hown hK hP q0 hw rfl 4 (by decide) (ht _ xw_326) (fun _ h9 => h9) hv dX5_look_75 k) ?_
  refine xm_Oks.step (sn_ldI hG fun H locs cells slots ls rest x h k => lv_iload_n hx hb dX5_look_78 rfl h k) ?_
  refine xm_Oks.step (sn_push hG (fun _ => trivial) fun ad H locs cells slots ls rest k => lv_iconst hx hb dX5_look_79 (by decide) k) ?_
  refine xm_Oks.step (sn_bin hG fun H locs cells slots ls rest x y k => lv_iadd hx hb dX5_look_80 k) ?_
  refine xm_Oks.step (sn_iald hG fun H locs cells slots ls rest q0 ws a N f x hP hw hin k => va_iald hx hb hK hP q0 1 hw rfl hin dX5_look_81 k) ?_
  refine xm_Oks.step (sn_bin hG fun H locs cells slots ls rest x y k => lv_isub hx hb dX5_look_82 k) ?_
  refine xm_Oks.step (sn_one hG xg_i2l_inv (fun _ _ => trivial) fun ad H locs cells slots ls rest x k => lv_i2l hx hb dX5_look_83 rfl k) ?_
  refine xm_Oks.step (sn_putL hG rfl rfl (by decide) fun H locs cells slots ls rest q0 ws a fs v hP hD hS hw ⟨x, hv⟩ hl k => by subst hv; exact va_put (D := D) (ty := .long) (C := RX5) (T := TX5) (N := 22) hx hb ht xu_5 tyX5 tyX5_ok nmX5 hown hK hP hD hS q0 hw rfl 15 (by decide) (ht _ xw_364) (fun _ h9 => h9) rfl (by decide +kernel) rfl rfl hl dX5_look_84 k) ?_
  refine xm_Oks.step (sn_ldR hG fun H locs cells slots ls rest x h k => lv_aload_n hx hb dX5_look_87 rfl h k) ?_
  refine xm_Oks.step (sn_ldR hG fun H locs cells slots ls rest x h k => lv_aload_n hx hb dX5_look_88 rfl h k) ?_
  refine xm_Oks.step (sn_getR hG rfl rfl (by decide) fun H locs cells slots ls rest q0 ws a fs v hP hw hv k => va_get (D := D) (C := RX5) (T := TX5) (N := 22) hx hb ht xu_5 hown hK hP q0 hw rfl 4 (by decide) (ht _ xw_326) (fun _ h9 => h9) hv dX5_look_89 k) ?_
  refine xm_Oks.step (sn_ldI hG fun H locs cells slots ls rest x h k => lv_iload hx hb dX5_look_92 h k) ?_
  refine xm_Oks.step (sn_push hG (fun _ => trivial) fun ad H locs cells slots ls rest k => lv_iconst hx hb dX5_look_94 (by decide) k) ?_
  refine xm_Oks.step (sn_bin hG fun H locs cells slots ls rest x y k => lv_iadd hx hb dX5_look_95 k) ?_
  refine xm_Oks.step (sn_iald hG fun H locs cells slots ls rest q0 ws a N f x hP hw hin k => va_iald hx hb hK hP q0 1 hw rfl hin dX5_look_96 k) ?_
  refine xm_Oks.step (sn_ldR hG fun H locs cells slots ls rest x h k => lv_aload_n hx hb dX5_look_97 rfl h k) ?_
  refine xm_Oks.step (sn_getR hG rfl rfl (by decide) fun H locs cells slots ls rest q0 ws a fs v hP hw hv k => va_get (D := D) (C := RX5) (T := TX5) (N := 22) hx hb ht xu_5 hown hK hP q0 hw rfl 4 (by decide) (ht _ xw_326) (fun _ h9 => h9) hv dX5_look_98 k) ?_
  refine xm_Oks.step (sn_ldI hG fun H locs cells slots ls rest x h k => lv_iload_n hx hb dX5_look_101 rfl h k) ?_
  refine xm_Oks.step (sn_push hG (fun _ => trivial) fun ad H locs cells slots ls rest k => lv_iconst hx hb dX5_look_102 (by decide) k) ?_
  refine xm_Oks.step (sn_bin hG fun H locs cells slots ls rest x y k => lv_iadd hx hb dX5_look_103 k) ?_
  refine xm_Oks.step (sn_iald hG fun H locs cells slots ls rest q0 ws a N f x hP hw hin k => va_iald hx hb hK hP q0 1 hw rfl hin dX5_look_104 k) ?_
  refine xm_Oks.step (sn_bin hG fun H locs cells slots ls rest x y k => lv_isub hx hb dX5_look_105 k) ?_
  refine xm_Oks.step (sn_one hG xg_i2l_inv (fun _ _ => trivial) fun ad H locs cells slots ls rest x k => lv_i2l hx hb dX5_look_106 rfl k) ?_
  refine xm_Oks.step (sn_putL hG rfl rfl (by decide) fun H locs cells slots ls rest q0 ws a fs v hP hD hS hw ⟨x, hv⟩ hl k => by subst hv; exact va_put (D := D) (ty := .long) (C := RX5) (T := TX5) (N := 22) hx hb ht xu_5 tyX5 tyX5_ok nmX5 hown hK hP hD hS q0 hw rfl 16 (by decide) (ht _ xw_365) (fun _ h9 => h9) rfl (by decide +kernel) rfl rfl hl dX5_look_107 k) ?_
  refine xm_Oks.step (sn_ldR hG fun H locs cells slots ls rest x h k => lv_aload_n hx hb dX5_look_110 rfl h k) ?_
  refine xm_Oks.step (sn_ldR hG fun H locs cells slots ls rest x h k => lv_aload_n hx hb dX5_look_111 rfl h k) ?_
  refine xm_Oks.step (sn_getR hG rfl rfl (by decide) fun H locs cells slots ls rest q0 ws a fs v hP hw hv k => va_get (D := D) (C := RX5) (T := TX5) (N := 22) hx hb ht xu_5 hown hK hP q0 hw rfl 4 (by decide) (ht _ xw_326) (fun _ h9 => h9) hv dX5_look_112 k) ?_
  refine xm_Oks.step (sn_ldI hG fun H locs cells slots ls rest x h k => lv_iload hx hb dX5_look_115 h k) ?_
  refine xm_Oks.step (sn_push hG (fun _ => trivial) fun ad H locs cells slots ls rest k => lv_iconst hx hb dX5_look_117 (by decide) k) ?_
  refine xm_Oks.step (sn_bin hG fun H locs cells slots ls rest x y k => lv_iadd hx hb dX5_look_118 k) ?_
  refine xm_Oks.step (sn_iald hG fun H locs cells slots ls rest q0 ws a N f x hP hw hin k => va_iald hx hb hK hP q0 1 hw rfl hin dX5_look_119 k) ?_
  refine xm_Oks.step (sn_ldR hG fun H locs cells slots ls rest x h k => lv_aload_n hx hb dX5_look_120 rfl h k) ?_
  refine xm_Oks.step (sn_getR hG rfl rfl (by decide) fun H locs cells slots ls rest q0 ws a fs v hP hw hv k => va_get (D := D) (C := RX5) (T := TX5) (N := 22) hx hb ht xu_5 hown hK hP q0 hw rfl 4 (by decide) (ht _ xw_326) (fun _ h9 => h9) hv dX5_look_121 k) ?_
  refine xm_Oks.step (sn_ldI hG fun H locs cells slots ls rest x h k => lv_iload_n hx hb dX5_look_124 rfl h k) ?_
  refine xm_Oks.step (sn_push hG (fun _ => trivial) fun ad H locs cells slots ls rest k => lv_iconst hx hb dX5_look_125 (by decide) k) ?_
  refine xm_Oks.step (sn_bin hG fun H locs cells slots ls rest x y k => lv_iadd hx hb dX5_look_126 k) ?_
  refine xm_Oks.step (sn_iald hG fun H locs cells slots ls rest q0 ws a N f x hP hw hin k => va_iald hx hb hK hP q0 1 hw rfl hin dX5_look_127 k) ?_
  refine xm_Oks.step (sn_bin hG fun H locs cells slots ls rest x y k => lv_isub hx hb dX5_look_128 k) ?_
  refine xm_Oks.step (sn_one hG xg_i2l_inv (fun _ _ => trivial) fun ad H locs cells slots ls rest x k => lv_i2l hx hb dX5_look_129 rfl k) ?_
  refine xm_Oks.step (sn_putL hG rfl rfl (by decide) fun H locs cells slots ls rest q0 ws a fs v hP hD hS hw ⟨x, hv⟩ hl k => by subst hv; exact va_put (D := D) (ty := .long) (C := RX5) (T := TX5) (N := 22) hx hb ht xu_5 tyX5 tyX5_ok nmX5 hown hK hP hD hS q0 hw rfl 17 (by decide) (ht _ xw_366) (fun _ h9 => h9) rfl (by decide +kernel) rfl rfl hl dX5_look_130 k) ?_
  refine xm_Oks.step (sn_ldR hG fun H locs cells slots ls rest x h k => lv_aload_n hx hb dX5_look_133 rfl h k) ?_
  refine xm_Oks.step (sn_ldR hG fun H locs cells slots ls rest x h k => lv_aload_n hx hb dX5_look_134 rfl h k) ?_
  refine xm_Oks.step (sn_getR hG rfl rfl (by decide) fun H locs cells slots ls rest q0 ws a fs v hP hw hv k => va_get (D := D) (C := RX5) (T := TX5) (N := 22) hx hb ht xu_5 hown hK hP q0 hw rfl 4 (by decide) (ht _ xw_326) (fun _ h9 => h9) hv dX5_look_135 k) ?_
  refine xm_Oks.step (sn_ldI hG fun H locs cells slots ls rest x h k => lv_iload hx hb dX5_look_138 h k) ?_
  refine xm_Oks.step (sn_push hG (fun _ => trivial) fun ad H locs cells slots ls rest k => lv_iconst hx hb dX5_look_140 (by decide) k) ?_
  refine xm_Oks.step (sn_bin hG fun H locs cells slots ls rest x y k => lv_iadd hx hb dX5_look_141 k) ?_
  refine xm_Oks.step (sn_iald hG fun H locs cells slots ls rest q0 ws a N f x hP hw hin k => va_iald hx hb hK hP q0 1 hw rfl hin dX5_look_142 k) ?_
  refine xm_Oks.step (sn_ldR hG fun H locs cells slots ls rest x h k => lv_aload_n hx hb dX5_look_143 rfl h k) ?_
  refine xm_Oks.step (sn_getR hG rfl rfl (by decide) fun H locs cells slots ls rest q0 ws a fs v hP hw hv k => va_get (D := D) (C := RX5) (T := TX5) (N := 22) hx hb ht xu_5 hown hK hP q0 hw rfl 4 (by decide) (ht _ xw_326) (fun _ h9 => h9) hv dX5_look_144 k) ?_
  refine xm_Oks.step (sn_ldI hG fun H locs cells slots ls rest x h k => lv_iload_n hx hb dX5_look_147 rfl h k) ?_
  refine xm_Oks.step (sn_push hG (fun _ => trivial) fun ad H locs cells slots ls rest k => lv_iconst hx hb dX5_look_148 (by decide) k) ?_
  refine xm_Oks.step (sn_bin hG fun H locs cells slots ls rest x y k => lv_iadd hx hb dX5_look_149 k) ?_
  refine xm_Oks.step (sn_iald hG fun H locs cells slots ls rest q0 ws a N f x hP hw hin k => va_iald hx hb hK hP q0 1 hw rfl hin dX5_look_150 k) ?_
  refine xm_Oks.step (sn_bin hG fun H locs cells slots ls rest x y k => lv_isub hx hb dX5_look_151 k) ?_
  refine xm_Oks.step (sn_one hG xg_i2l_inv (fun _ _ => trivial) fun ad H locs cells slots ls rest x k => lv_i2l hx hb dX5_look_152 rfl k) ?_
  refine xm_Oks.step (sn_putL hG rfl rfl (by decide) fun H locs cells slots ls rest q0 ws a fs v hP hD hS hw ⟨x, hv⟩ hl k => by subst hv; exact va_put (D := D) (ty := .long) (C := RX5) (T := TX5) (N := 22) hx hb ht xu_5 tyX5 tyX5_ok nmX5 hown hK hP hD hS q0 hw rfl 18 (by decide) (ht _ xw_367) (fun _ h9 => h9) rfl (by decide +kernel) rfl rfl hl dX5_look_153 k) ?_
  refine xm_Oks.step (sn_ldR hG fun H locs cells slots ls rest x h k => lv_aload_n hx hb dX5_look_156 rfl h k) ?_
  refine xm_Oks.step (sn_ldR hG fun H locs cells slots ls rest x h k => lv_aload_n hx hb dX5_look_157 rfl h k) ?_
  refine xm_Oks.step (sn_getR hG rfl rfl (by decide) fun H locs cells slots ls rest q0 ws a fs v hP hw hv k => va_get (D := D) (C := RX5) (T := TX5) (N := 22) hx hb ht xu_5 hown hK hP q0 hw rfl 4 (by decide) (ht _ xw_326) (fun _ h9 => h9) hv dX5_look_158 k) ?_
  refine xm_Oks.step (sn_ldI hG fun H locs cells slots ls rest x h k => lv_iload hx hb dX5_look_161 h k) ?_
  refine xm_Oks.step (sn_push hG (fun _ => trivial) fun ad H locs cells slots ls rest k => lv_iconst hx hb dX5_look_163 (by decide) k) ?_
  refine xm_Oks.step (sn_bin hG fun H locs cells slots ls rest x y k => lv_iadd hx hb dX5_look_164 k) ?_
  refine xm_Oks.step (sn_iald hG fun H locs cells slots ls rest q0 ws a N f x hP hw hin k => va_iald hx hb hK hP q0 1 hw rfl hin dX5_look_165 k) ?_
  refine xm_Oks.step (sn_ldR hG fun H locs cells slots ls rest x h k => lv_aload_n hx hb dX5_look_166 rfl h k) ?_
  refine xm_Oks.step (sn_getR hG rfl rfl (by decide) fun H locs cells slots ls rest q0 ws a fs v hP hw hv k => va_get (D := D) (C := RX5) (T := TX5) (N := 22) hx hb ht xu_5 hown hK hP q0 hw rfl 4 (by decide) (ht _ xw_326) (fun _ h9 => h9) hv dX5_look_167 k) ?_
  refine xm_Oks.step (sn_ldI hG fun H locs cells slots ls rest x h k => lv_iload_n hx hb dX5_look_170 rfl h k) ?_
  refine xm_Oks.step (sn_push hG (fun _ => trivial) fun ad H locs cells slots ls rest k => lv_iconst hx hb dX5_look_171 (by decide) k) ?_
  refine xm_Oks.step (sn_bin hG fun H locs cells slots ls rest x y k => lv_iadd hx hb dX5_look_172 k) ?_
  refine xm_Oks.step (sn_iald hG fun H locs cells slots ls rest q0 ws a N f x hP hw hin k => va_iald hx hb hK hP q0 1 hw rfl hin dX5_look_173 k) ?_
  refine xm_Oks.step (sn_bin hG fun H locs cells slots ls rest x y k => lv_isub hx hb dX5_look_174 k) ?_
  refine xm_Oks.step (sn_one hG xg_i2l_inv (fun _ _ => trivial) fun ad H locs cells slots ls rest x k => lv_i2l hx hb dX5_look_175 rfl k) ?_
  refine xm_Oks.step (sn_putL hG rfl rfl (by decide) fun H locs cells slots ls rest q0 ws a fs v hP hD hS hw ⟨x, hv⟩ hl k => by subst hv; exact va_put (D := D) (ty := .long) (C := RX5) (T := TX5) (N := 22) hx hb ht xu_5 tyX5 tyX5_ok nmX5 hown hK hP hD hS q0 hw rfl 19 (by decide) (ht _ xw_368) (fun _ h9 => h9) rfl (by decide +kernel) rfl rfl hl dX5_look_176 k) ?_
  refine xm_Oks.step (sn_ldR hG fun H locs cells slots ls rest x h k => lv_aload_n hx hb dX5_look_179 rfl h k) ?_
  refine xm_Oks.step (sn_ldR hG fun H locs cells slots ls rest x h k => lv_aload_n hx hb dX5_look_180 rfl h k) ?_
  refine xm_Oks.step (sn_getL hG rfl rfl (by decide) fun H locs cells slots ls rest q0 ws a fs v hP hw hv k => va_get (D := D) (C := RX5) (T := TX5) (N := 22) hx hb ht xu_5 hown hK hP q0 hw rfl 14 (by decide) (ht _ xw_363) (fun _ h9 => h9) hv dX5_look_181 k) ?_
  refine xm_Oks.step (sn_ldR hG fun H locs cells slots ls rest x h k => lv_aload_n hx hb dX5_look_184 rfl h k) ?_
  refine xm_Oks.step (sn_getL hG rfl rfl (by decide) fun H locs cells slots ls rest q0 ws a fs v hP hw hv k => va_get (D := D) (C := RX5) (T := TX5) (N := 22) hx hb ht xu_5 hown hK hP q0 hw rfl 17 (by decide) (ht _ xw_366) (fun _ h9 => h9) hv dX5_look_185 k) ?_
  refine xm_Oks.step (sn_binL hG fun H locs cells slots ls rest x y k => lv_lmul hx hb dX5_look_188 k) ?_
  refine xm_Oks.step (sn_ldR hG fun H locs cells slots ls rest x h k => lv_aload_n hx hb dX5_look_189 rfl h k) ?_
  refine xm_Oks.step (sn_getL hG rfl rfl (by decide) fun H locs cells slots ls rest q0 ws a fs v hP hw hv k => va_get (D := D) (C := RX5) (T := TX5) (N := 22) hx hb ht xu_5 hown hK hP q0 hw rfl 15 (by decide) (ht _ xw_364) (fun _ h9 => h9) hv dX5_look_190 k) ?_
  refine xm_Oks.step (sn_ldR hG fun H locs cells slots ls rest x h k => lv_aload_n hx hb dX5_look_193 rfl h k) ?_
  refine xm_Oks.step (sn_getL hG rfl rfl (by decide) fun H locs cells slots ls rest q0 ws a fs v hP hw hv k => va_get (D := D) (C := RX5) (T := TX5) (N := 22) hx hb ht xu_5 hown hK hP q0 hw rfl 18 (by decide) (ht _ xw_367) (fun _ h9 => h9) hv dX5_look_194 k) ?_
  refine xm_Oks.step (sn_binL hG fun H locs cells slots ls rest x y k => lv_lmul hx hb dX5_look_197 k) ?_
  refine xm_Oks.step (sn_binL hG fun H locs cells slots ls rest x y k => lv_ladd hx hb dX5_look_198 k) ?_
  refine xm_Oks.step (sn_putL hG rfl rfl (by decide) fun H locs cells slots ls rest q0 ws a fs v hP hD hS hw ⟨x, hv⟩ hl k => by subst hv; exact va_put (D := D) (ty := .long) (C := RX5) (T := TX5) (N := 22) hx hb ht xu_5 tyX5 tyX5_ok nmX5 hown hK hP hD hS q0 hw rfl 20 (by decide) (ht _ xw_369) (fun _ h9 => h9) rfl (by decide +kernel) rfl rfl hl dX5_look_199 k) ?_
  refine xm_Oks.step (sn_ldR hG fun H locs cells slots ls rest x h k => lv_aload_n hx hb dX5_look_202 rfl h k) ?_
  refine xm_Oks.step (sn_ldR hG fun H locs cells slots ls rest x h k => lv_aload_n hx hb dX5_look_203 rfl h k) ?_
  refine xm_Oks.step (sn_getL hG rfl rfl (by decide) fun H locs cells slots ls rest q0 ws a fs v hP hw hv k => va_get (D := D) (C := RX5) (T := TX5) (N := 22) hx hb ht xu_5 hown hK hP q0 hw rfl 20 (by decide) (ht _ xw_369) (fun _ h9 => h9) hv dX5_look_204 k) ?_
  refine xm_Oks.step (sn_push hG (fun _ => trivial) fun ad H locs cells slots ls rest k => lv_lconst hx hb dX5_look_207 (by decide) k) ?_
  refine xm_Oks.step (sn_lcmp hG fun H locs cells slots ls rest x y k => W.lcmp hx hb dX5_look_208 k) ?_
  refine xm_Oks.step (sn_if hG fun H locs cells slots ls rest x kt kf => lv_if_lt (tgt := 216) hx hb dX5_look_209 (by decide) kt kf) ?_
  refine xm_Oks.step (sn_push hG (fun _ => trivial) fun ad H locs cells slots ls rest k => lv_lconst hx hb dX5_look_212 (by decide) k) ?_
  refine xm_Oks.step (sn_goto hG fun H locs cells slots ls rest k => lv_goto (tgt := 241) hx hb dX5_look_213 (by decide) k) ?_
  refine xm_Oks.step (sn_ldR hG fun H locs cells slots ls rest x h k => lv_aload_n hx hb dX5_look_216 rfl h k) ?_
  refine xm_Oks.step (sn_getL hG rfl rfl (by decide) fun H locs cells slots ls rest q0 ws a fs v hP hw hv k => va_get (D := D) (C := RX5) (T := TX5) (N := 22) hx hb ht xu_5 hown hK hP q0 hw rfl 20 (by decide) (ht _ xw_369) (fun _ h9 => h9) hv dX5_look_217 k) ?_
  refine xm_Oks.step (sn_one hG xg_unL_inv (fun _ _ => trivial) fun ad H locs cells slots ls rest x k => lv_lneg hx hb dX5_look_220 k) ?_
  refine xm_Oks.step (sn_ldR hG fun H locs cells slots ls rest x h k => lv_aload_n hx hb dX5_look_221 rfl h k) ?_
  refine xm_Oks.step (sn_getL hG rfl rfl (by decide) fun H locs cells slots ls rest q0 ws a fs v hP hw hv k => va_get (D := D) (C := RX5) (T := TX5) (N := 22) hx hb ht xu_5 hown hK hP q0 hw rfl 17 (by decide) (ht _ xw_366) (fun _ h9 => h9) hv dX5_look_222 k) ?_
  refine xm_Oks.step (sn_ldR hG fun H locs cells slots ls rest x h k => lv_aload_n hx hb dX5_look_225 rfl h k) ?_
  refine xm_Oks.step (sn_getL hG rfl rfl (by decide) fun H locs cells slots ls rest q0 ws a fs v hP hw hv k => va_get (D := D) (C := RX5) (T := TX5) (N := 22) hx hb ht xu_5 hown hK hP q0 hw rfl 17 (by decide) (ht _ xw_366) (fun _ h9 => h9) hv dX5_look_226 k) ?_
  refine xm_Oks.step (sn_binL hG fun H locs cells slots ls rest x y k => lv_lmul hx hb dX5_look_229 k) ?_
  refine xm_Oks.step (sn_ldR hG fun H locs cells slots ls rest x h k => lv_aload_n hx hb dX5_look_230 rfl h k) ?_
  refine xm_Oks.step (sn_getL hG rfl rfl (by decide) fun H locs cells slots ls rest q0 ws a fs v hP hw hv k => va_get (D := D) (C := RX5) (T := TX5) (N := 22) hx hb ht xu_5 hown hK hP q0 hw rfl 18 (by decide) (ht _ xw_367) (fun _ h9 => h9) hv dX5_look_231 k) ?_
  refine xm_Oks.step (sn_ldR hG fun H locs cells slots ls rest x h k => lv_aload_n hx hb dX5_look_234 rfl h k) ?_
  refine xm_Oks.step (sn_getL hG rfl rfl (by decide) fun H locs cells slots ls rest q0 ws a fs v hP hw hv k => va_get (D := D) (C := RX5) (T := TX5) (N := 22) hx hb ht xu_5 hown hK hP q0 hw rfl 18 (by decide) (ht _ xw_367) (fun _ h9 => h9) hv dX5_look_235 k) ?_
  refine xm_Oks.step (sn_binL hG fun H locs cells slots ls rest x y k => lv_lmul hx hb dX5_look_238 k) ?_
  refine xm_Oks.step (sn_binL hG fun H locs cells slots ls rest x y k => lv_ladd hx hb dX5_look_239 k) ?_
  refine xm_Oks.step (sn_divL hG fun H locs cells slots ls rest x y h0 k => lv_ldiv hx hb dX5_look_240 h0 k) ?_
  refine xm_Oks.step (sn_putL hG rfl rfl (by decide) fun H locs cells slots ls rest q0 ws a fs v hP hD hS hw ⟨x, hv⟩ hl k => by subst hv; exact va_put (D := D) (ty := .long) (C := RX5) (T := TX5) (N := 22) hx hb ht xu_5 tyX5 tyX5_ok nmX5 hown hK hP hD hS q0 hw rfl 21 (by decide) (ht _ xw_370) (fun _ h9 => h9) rfl (by decide +kernel) rfl rfl hl dX5_look_241 k) ?_
  refine xm_Oks.step (sn_ldR hG fun H locs cells slots ls rest x h k => lv_aload_n hx hb dX5_look_244 rfl h k) ?_
  refine xm_Oks.step (sn_ldR hG fun H locs cells slots ls rest x h k => lv_aload_n hx hb dX5_look_245 rfl h k) ?_
  refine xm_Oks.step (sn_getL hG rfl rfl (by decide) fun H locs cells slots ls rest q0 ws a fs v hP hw hv k => va_get (D := D) (C := RX5) (T := TX5) (N := 22) hx hb ht xu_5 hown hK hP q0 hw rfl 21 (by decide) (ht _ xw_370) (fun _ h9 => h9) hv dX5_look_246 k) ?_
  refine xm_Oks.step (sn_ldR hG fun H locs cells slots ls rest x h k => lv_aload_n hx hb dX5_look_249 rfl h k) ?_
  refine xm_Oks.step (sn_getR hG rfl rfl (by decide) fun H locs cells slots ls rest q0 ws a fs v hP hw hv k => va_get (D := D) (C := RX5) (T := TX5) (N := 22) hx hb ht xu_5 hown hK hP q0 hw rfl 1 (by decide) (ht _ xw_322) (fun _ h9 => h9) hv dX5_look_250 k) ?_
  refine xm_Oks.step (sn_push hG (fun _ => trivial) fun ad H locs cells slots ls rest k => lv_iconst hx hb dX5_look_253 (by decide) k) ?_
  refine xm_Oks.step (sn_iald hG fun H locs cells slots ls rest q0 ws a N f x hP hw hin k => va_iald hx hb hK hP q0 1 hw rfl hin dX5_look_254 k) ?_
  refine xm_Oks.step (sn_one hG xg_i2l_inv (fun _ _ => trivial) fun ad H locs cells slots ls rest x k => lv_i2l hx hb dX5_look_255 rfl k) ?_
  refine xm_Oks.step (sn_lcmp hG fun H locs cells slots ls rest x y k => W.lcmp hx hb dX5_look_256 k) ?_
  refine xm_Oks.step (sn_if hG fun H locs cells slots ls rest x kt kf => lv_if_le (tgt := 270) hx hb dX5_look_257 (by decide) kt kf) ?_
  refine xm_Oks.step (sn_ldR hG fun H locs cells slots ls rest x h k => lv_aload_n hx hb dX5_look_260 rfl h k) ?_
  refine xm_Oks.step (sn_getR hG rfl rfl (by decide) fun H locs cells slots ls rest q0 ws a fs v hP hw hv k => va_get (D := D) (C := RX5) (T := TX5) (N := 22) hx hb ht xu_5 hown hK hP q0 hw rfl 1 (by decide) (ht _ xw_322) (fun _ h9 => h9) hv dX5_look_261 k) ?_
  refine xm_Oks.step (sn_push hG (fun _ => trivial) fun ad H locs cells slots ls rest k => lv_iconst hx hb dX5_look_264 (by decide) k) ?_
  refine xm_Oks.step (sn_iald hG fun H locs cells slots ls rest q0 ws a N f x hP hw hin k => va_iald hx hb hK hP q0 1 hw rfl hin dX5_look_265 k) ?_
  refine xm_Oks.step (sn_one hG xg_i2l_inv (fun _ _ => trivial) fun ad H locs cells slots ls rest x k => lv_i2l hx hb dX5_look_266 rfl k) ?_
  refine xm_Oks.step (sn_goto hG fun H locs cells slots ls rest k => lv_goto (tgt := 274) hx hb dX5_look_267 (by decide) k) ?_
  refine xm_Oks.step (sn_ldR hG fun H locs cells slots ls rest x h k => lv_aload_n hx hb dX5_look_270 rfl h k) ?_
  refine xm_Oks.step (sn_getL hG rfl rfl (by decide) fun H locs cells slots ls rest q0 ws a fs v hP hw hv k => va_get (D := D) (C := RX5) (T := TX5) (N := 22) hx hb ht xu_5 hown hK hP q0 hw rfl 21 (by decide) (ht _ xw_370) (fun _ h9 => h9) hv dX5_look_271 k) ?_
  refine xm_Oks.step (sn_putL hG rfl rfl (by decide) fun H locs cells slots ls rest q0 ws a fs v hP hD hS hw ⟨x, hv⟩ hl k => by subst hv; exact va_put (D := D) (ty := .long) (C := RX5) (T := TX5) (N := 22) hx hb ht xu_5 tyX5 tyX5_ok nmX5 hown hK hP hD hS q0 hw rfl 21 (by decide) (ht _ xw_370) (fun _ h9 => h9) rfl (by decide +kernel) rfl rfl hl dX5_look_274 k) ?_
  refine xm_Oks.stop ?_
  exact trivial
set_option maxHeartbeats 4000000 in
set_option maxRecDepth 100000 in
theorem xk_X5_plain : xm_MOk xp_pg xp_pm 85 := by
  refine ⟨by decide +kernel, rfl, ?_, ?_⟩
  · show xm_Oks _ xt_X5_plain
    exact ⟨trivial, trivial, trivial, trivial, trivial, trivial, trivial, trivial, ⟨dX5_plain_12, rfl⟩, trivial⟩
  intro d mc ms p l e s m args below meth c Q cA D A tS ad0 o0 G hG hC hn ih
  have hG : xm_IsG p l e (xm_room (d + 1) mc ms) s m args below meth c Q cA D A tS 2 ad0 o0 G := hG
  have hC : xm_Cx p s m args c cX5_plain 2 RX5 (Cond.code yX5_plain cX5_plain 2 (some .long) :: xm_W) cA D A tS := hC
  have hn : meth.name = "plain" := hn
  obtain ⟨hx, hb, hml, hown, hts, hK, hA, hSx, hNx⟩ := id hC
  have ht : ∀ w ∈ xm_W, w.before args s = true := fun w h => hts w (List.mem_cons_of_mem _ h)
  show xm_Oks (xm_Ent (xm_room (d + 1) mc ms) G (xm_Do xp_pg d)) xt_X5_plain
  unfold xt_X5_plain
  refine xm_Oks.step (sn_ldL hG fun H locs cells slots ls rest x h k => lv_lload_n hx hb dX5_plain_0 rfl h k) ?_
  refine xm_Oks.step (sn_push hG (fun _ => trivial) fun ad H locs cells slots ls rest k => lv_lconst hx hb dX5_plain_1 (by decide) k) ?_
  refine xm_Oks.step (sn_lcmp hG fun H locs cells slots ls rest x y k => W.lcmp hx hb dX5_plain_2 k) ?_
  refine xm_Oks.step (sn_if hG fun H locs cells slots ls rest x kt kf => lv_if_ge (tgt := 11) hx hb dX5_plain_3 (by decide) kt kf) ?_
  refine xm_Oks.step (sn_ldL hG fun H locs cells slots ls rest x h k => lv_lload_n hx hb dX5_plain_6 rfl h k) ?_
  refine xm_Oks.step (sn_one hG xg_unL_inv (fun _ _ => trivial) fun ad H locs cells slots ls rest x k => lv_lneg hx hb dX5_plain_7 k) ?_
  refine xm_Oks.step (sn_goto hG fun H locs cells slots ls rest k => lv_goto (tgt := 12) hx hb dX5_plain_8 (by decide) k) ?_
  refine xm_Oks.step (sn_ldL hG fun H locs cells slots ls rest x h k => lv_lload_n hx hb dX5_plain_11 rfl h k) ?_
  refine xm_Oks.stop ?_
  exact trivial
set_option maxHeartbeats 4000000 in
set_option maxRecDepth 100000 in
theorem xk_X5_alerts : xm_MOk xp_pg xp_pm 86 := by
  refine ⟨by decide +kernel, rfl, ?_, ?_⟩
  · show xm_Oks _ xt_X5_alerts
    exact ⟨trivial, trivial, trivial, trivial, trivial, trivial, trivial, trivial, trivial, trivial, trivial, trivial, trivial, trivial, trivial, trivial, trivial, trivial, trivial, trivial, trivial, trivial, trivial, trivial, trivial, trivial, trivial, trivial, trivial, trivial, trivial, trivial, trivial, trivial, trivial, trivial, trivial, trivial, trivial, trivial, trivial, trivial, trivial, trivial, trivial, trivial, trivial, trivial, ⟨dX5_alerts_72, rfl⟩, trivial, trivial, trivial, trivial, trivial, trivial, trivial, trivial, trivial, trivial, trivial, trivial, trivial, trivial, trivial, trivial, trivial, trivial, trivial, trivial, trivial, trivial, trivial, trivial, trivial, trivial, trivial, trivial, trivial, trivial, trivial, trivial, trivial, trivial, trivial, trivial, trivial, trivial, trivial, trivial, trivial, ⟨dX5_alerts_139, rfl⟩, trivial, trivial, trivial, trivial, trivial, trivial, trivial, trivial, trivial, trivial, trivial, trivial, trivial, trivial, trivial, trivial, trivial, trivial, trivial, trivial, trivial, trivial, trivial, trivial, trivial, trivial, trivial, trivial, trivial, trivial, trivial, trivial, trivial, trivial, trivial, trivial, trivial, trivial, trivial, trivial, trivial, trivial, trivial, trivial, trivial, trivial, trivial, trivial, trivial, trivial, trivial, trivial, trivial, ⟨dX5_alerts_237, rfl⟩, trivial⟩
  intro d mc ms p l e s m args below meth c Q cA D A tS ad0 o0 G hG hC hn ih
  have hG : xm_IsG p l e (xm_room (d + 1) mc ms) s m args below meth c Q cA D A tS 7 ad0 o0 G := hG
  have hC : xm_Cx p s m args c cX5_alerts 7 RX5 (Cond.code yX5_alerts cX5_alerts 7 (some .boolean) :: xm_W) cA D A tS := hC
  have hn : meth.name = "alerts" := hn
  obtain ⟨hx, hb, hml, hown, hts, hK, hA, hSx, hNx⟩ := id hC
  have ht : ∀ w ∈ xm_W, w.before args s = true := fun w h => hts w (List.mem_cons_of_mem _ h)
  show xm_Oks (xm_Ent (xm_room (d + 1) mc ms) G (xm_Do xp_pg d)) xt_X5_alerts
  unfold xt_X5_alerts
  refine xm_Oks.step (sn_ldR hG fun H locs cells slots ls rest x h k => lv_aload_n hx hb dX5_alerts_0 rfl h k) ?_
  refine xm_Oks.step (sn_getL hG rfl rfl (by decide) fun H locs cells slots ls rest q0 ws a fs v hP hw hv k => va_get (D := D) (C := RX5) (T := TX5) (N := 22) hx hb ht xu_5 hown hK hP q0 hw rfl 14 (by decide) (ht _ xw_363) (fun _ h9 => h9) hv dX5_alerts_1 k) ?_
  refine xm_Oks.step (sn_ldR hG fun H locs cells slots ls rest x h k => lv_aload_n hx hb dX5_alerts_4 rfl h k) ?_
  refine xm_Oks.step (sn_getL hG rfl rfl (by decide) fun H locs cells slots ls rest q0 ws a fs v hP hw hv k => va_get (D := D) (C := RX5) (T := TX5) (N := 22) hx hb ht xu_5 hown hK hP q0 hw rfl 14 (by decide) (ht _ xw_363) (fun _ h9 => h9) hv dX5_alerts_5 k) ?_
  refine xm_Oks.step (sn_binL hG fun H locs cells slots ls rest x y k => lv_lmul hx hb dX5_alerts_8 k) ?_
  refine xm_Oks.step (sn_ldR hG fun H locs cells slots ls rest x h k => lv_aload_n hx hb dX5_alerts_9 rfl h k) ?_
  refine xm_Oks.step (sn_getL hG rfl rfl (by decide) fun H locs cells slots ls rest q0 ws a fs v hP hw hv k => va_get (D := D) (C := RX5) (T := TX5) (N := 22) hx hb ht xu_5 hown hK hP q0 hw rfl 15 (by decide) (ht _ xw_364) (fun _ h9 => h9) hv dX5_alerts_10 k) ?_
  refine xm_Oks.step (sn_ldR hG fun H locs cells slots ls rest x h k => lv_aload_n hx hb dX5_alerts_13 rfl h k) ?_
  refine xm_Oks.step (sn_getL hG rfl rfl (by decide) fun H locs cells slots ls rest q0 ws a fs v hP hw hv k => va_get (D := D) (C := RX5) (T := TX5) (N := 22) hx hb ht xu_5 hown hK hP q0 hw rfl 15 (by decide) (ht _ xw_364) (fun _ h9 => h9) hv dX5_alerts_14 k) ?_
  refine xm_Oks.step (sn_binL hG fun H locs cells slots ls rest x y k => lv_lmul hx hb dX5_alerts_17 k) ?_
  refine xm_Oks.step (sn_binL hG fun H locs cells slots ls rest x y k => lv_ladd hx hb dX5_alerts_18 k) ?_
  refine xm_Oks.step (sn_stL hG fun H locs cells slots ls rest x lv lv9 h he k => lv_lstore_n hx hb dX5_alerts_19 rfl h (by decide) he k) ?_
  refine xm_Oks.step (sn_ldR hG fun H locs cells slots ls rest x h k => lv_aload_n hx hb dX5_alerts_20 rfl h k) ?_
  refine xm_Oks.step (sn_getR hG rfl rfl (by decide) fun H locs cells slots ls rest q0 ws a fs v hP hw hv k => va_get (D := D) (C := RX5) (T := TX5) (N := 22) hx hb ht xu_5 hown hK hP q0 hw rfl 1 (by decide) (ht _ xw_322) (fun _ h9 => h9) hv dX5_alerts_21 k) ?_
  refine xm_Oks.step (sn_push hG (fun _ => trivial) fun ad H locs cells slots ls rest k => lv_iconst hx hb dX5_alerts_24 (by decide) k) ?_
  refine xm_Oks.step (sn_iald hG fun H locs cells slots ls rest q0 ws a N f x hP hw hin k => va_iald hx hb hK hP q0 1 hw rfl hin dX5_alerts_25 k) ?_
  refine xm_Oks.step (sn_one hG xg_i2l_inv (fun _ _ => trivial) fun ad H locs cells slots ls rest x k => lv_i2l hx hb dX5_alerts_26 rfl k) ?_
  refine xm_Oks.step (sn_ldR hG fun H locs cells slots ls rest x h k => lv_aload_n hx hb dX5_alerts_27 rfl h k) ?_
  refine xm_Oks.step (sn_getR hG rfl rfl (by decide) fun H locs cells slots ls rest q0 ws a fs v hP hw hv k => va_get (D := D) (C := RX5) (T := TX5) (N := 22) hx hb ht xu_5 hown hK hP q0 hw rfl 1 (by decide) (ht _ xw_322) (fun _ h9 => h9) hv dX5_alerts_28 k) ?_
  refine xm_Oks.step (sn_push hG (fun _ => trivial) fun ad H locs cells slots ls rest k => lv_iconst hx hb dX5_alerts_31 (by decide) k) ?_
  refine xm_Oks.step (sn_iald hG fun H locs cells slots ls rest q0 ws a N f x hP hw hin k => va_iald hx hb hK hP q0 1 hw rfl hin dX5_alerts_32 k) ?_
  refine xm_Oks.step (sn_one hG xg_i2l_inv (fun _ _ => trivial) fun ad H locs cells slots ls rest x k => lv_i2l hx hb dX5_alerts_33 rfl k) ?_
  refine xm_Oks.step (sn_binL hG fun H locs cells slots ls rest x y k => lv_lmul hx hb dX5_alerts_34 k) ?_
  refine xm_Oks.step (sn_stL hG fun H locs cells slots ls rest x lv lv9 h he k => lv_lstore_n hx hb dX5_alerts_35 rfl h (by decide) he k) ?_
  refine xm_Oks.step (sn_ldL hG fun H locs cells slots ls rest x h k => lv_lload_n hx hb dX5_alerts_36 rfl h k) ?_
  refine xm_Oks.step (sn_ldL hG fun H locs cells slots ls rest x h k => lv_lload_n hx hb dX5_alerts_37 rfl h k) ?_
  refine xm_Oks.step (sn_lcmp hG fun H locs cells slots ls rest x y k => W.lcmp hx hb dX5_alerts_38 k) ?_
  refine xm_Oks.step (sn_if hG fun H locs cells slots ls rest x kt kf => lv_if_le (tgt := 140) hx hb dX5_alerts_39 (by decide) kt kf) ?_
  refine xm_Oks.step (sn_ldR hG fun H locs cells slots ls rest x h k => lv_aload_n hx hb dX5_alerts_42 rfl h k) ?_
  refine xm_Oks.step (sn_getL hG rfl rfl (by decide) fun H locs cells slots ls rest q0 ws a fs v hP hw hv k => va_get (D := D) (C := RX5) (T := TX5) (N := 22) hx hb ht xu_5 hown hK hP q0 hw rfl 20 (by decide) (ht _ xw_369) (fun _ h9 => h9) hv dX5_alerts_43 k) ?_
  refine xm_Oks.step (sn_push hG (fun _ => trivial) fun ad H locs cells slots ls rest k => lv_lconst hx hb dX5_alerts_46 (by decide) k) ?_
  refine xm_Oks.step (sn_lcmp hG fun H locs cells slots ls rest x y k => W.lcmp hx hb dX5_alerts_47 k) ?_
  refine xm_Oks.step (sn_if hG fun H locs cells slots ls rest x kt kf => lv_if_ge (tgt := 71) hx hb dX5_alerts_48 (by decide) kt kf) ?_
  refine xm_Oks.step (sn_ldL hG fun H locs cells slots ls rest x h k => lv_lload_n hx hb dX5_alerts_51 rfl h k) ?_
  refine xm_Oks.step (sn_ldL hG fun H locs cells slots ls rest x h k => lv_lload_n hx hb dX5_alerts_52 rfl h k) ?_
  refine xm_Oks.step (sn_binL hG fun H locs cells slots ls rest x y k => lv_lsub hx hb dX5_alerts_53 k) ?_
  refine xm_Oks.step (sn_ldR hG fun H locs cells slots ls rest x h k => lv_aload_n hx hb dX5_alerts_54 rfl h k) ?_
  refine xm_Oks.step (sn_getR hG rfl rfl (by decide) fun H locs cells slots ls rest q0 ws a fs v hP hw hv k => va_get (D := D) (C := RX5) (T := TX5) (N := 22) hx hb ht xu_5 hown hK hP q0 hw rfl 1 (by decide) (ht _ xw_322) (fun _ h9 => h9) hv dX5_alerts_55 k) ?_
  refine xm_Oks.step (sn_push hG (fun _ => trivial) fun ad H locs cells slots ls rest k => lv_iconst hx hb dX5_alerts_58 (by decide) k) ?_
  refine xm_Oks.step (sn_iald hG fun H locs cells slots ls rest q0 ws a N f x hP hw hin k => va_iald hx hb hK hP q0 1 hw rfl hin dX5_alerts_59 k) ?_
  refine xm_Oks.step (sn_one hG xg_i2l_inv (fun _ _ => trivial) fun ad H locs cells slots ls rest x k => lv_i2l hx hb dX5_alerts_60 rfl k) ?_
  refine xm_Oks.step (sn_ldR hG fun H locs cells slots ls rest x h k => lv_aload_n hx hb dX5_alerts_61 rfl h k) ?_
  refine xm_Oks.step (sn_getL hG rfl rfl (by decide) fun H locs cells slots ls rest q0 ws a fs v hP hw hv k => va_get (D := D) (C := RX5) (T := TX5) (N := 22) hx hb ht xu_5 hown hK hP q0 hw rfl 20 (by decide) (ht _ xw_369) (fun _ h9 => h9) hv dX5_alerts_62 k) ?_
  refine xm_Oks.step (sn_one hG xg_unL_inv (fun _ _ => trivial) fun ad H locs cells slots ls rest x k => lv_lneg hx hb dX5_alerts_65 k) ?_
  refine xm_Oks.step (sn_binL hG fun H locs cells slots ls rest x y k => lv_lmul hx hb dX5_alerts_66 k) ?_
  refine xm_Oks.step (sn_lcmp hG fun H locs cells slots ls rest x y k => W.lcmp hx hb dX5_alerts_67 k) ?_
  refine xm_Oks.step (sn_if hG fun H locs cells slots ls rest x kt kf => lv_if_le (tgt := 73) hx hb dX5_alerts_68 (by decide) kt kf) ?_
  refine xm_Oks.step (sn_push hG (fun _ => trivial) fun ad H locs cells slots ls rest k => lv_iconst hx hb dX5_alerts_71 (by decide) k) ?_
  refine xm_Oks.stop ?_
  refine xm_Oks.step (sn_ldR hG fun H locs cells slots ls rest x h k => lv_aload_n hx hb dX5_alerts_73 rfl h k) ?_
  refine xm_Oks.step (sn_getL hG rfl rfl (by decide) fun H locs cells slots ls rest q0 ws a fs v hP hw hv k => va_get (D := D) (C := RX5) (T := TX5) (N := 22) hx hb ht xu_5 hown hK hP q0 hw rfl 14 (by decide) (ht _ xw_363) (fun _ h9 => h9) hv dX5_alerts_74 k) ?_
  refine xm_Oks.step (sn_ldR hG fun H locs cells slots ls rest x h k => lv_aload_n hx hb dX5_alerts_77 rfl h k) ?_
  refine xm_Oks.step (sn_getL hG rfl rfl (by decide) fun H locs cells slots ls rest q0 ws a fs v hP hw hv k => va_get (D := D) (C := RX5) (T := TX5) (N := 22) hx hb ht xu_5 hown hK hP q0 hw rfl 18 (by decide) (ht _ xw_367) (fun _ h9 => h9) hv dX5_alerts_78 k) ?_
  refine xm_Oks.step (sn_binL hG fun H locs cells slots ls rest x y k => lv_lmul hx hb dX5_alerts_81 k) ?_
  refine xm_Oks.step (sn_ldR hG fun H locs cells slots ls rest x h k => lv_aload_n hx hb dX5_alerts_82 rfl h k) ?_
  refine xm_Oks.step (sn_getL hG rfl rfl (by decide) fun H locs cells slots ls rest q0 ws a fs v hP hw hv k => va_get (D := D) (C := RX5) (T := TX5) (N := 22) hx hb ht xu_5 hown hK hP q0 hw rfl 15 (by decide) (ht _ xw_364) (fun _ h9 => h9) hv dX5_alerts_83 k) ?_
  refine xm_Oks.step (sn_ldR hG fun H locs cells slots ls rest x h k => lv_aload_n hx hb dX5_alerts_86 rfl h k) ?_
  refine xm_Oks.step (sn_getL hG rfl rfl (by decide) fun H locs cells slots ls rest q0 ws a fs v hP hw hv k => va_get (D := D) (C := RX5) (T := TX5) (N := 22) hx hb ht xu_5 hown hK hP q0 hw rfl 17 (by decide) (ht _ xw_366) (fun _ h9 => h9) hv dX5_alerts_87 k) ?_
  refine xm_Oks.step (sn_binL hG fun H locs cells slots ls rest x y k => lv_lmul hx hb dX5_alerts_90 k) ?_
  refine xm_Oks.step (sn_binL hG fun H locs cells slots ls rest x y k => lv_lsub hx hb dX5_alerts_91 k) ?_
  refine xm_Oks.step (sn_stL hG fun H locs cells slots ls rest x lv lv9 h he k => lv_lstore hx hb dX5_alerts_92 h (by decide) he k) ?_
  refine xm_Oks.step (sn_ldL hG fun H locs cells slots ls rest x h k => lv_lload hx hb dX5_alerts_94 h k) ?_
  refine xm_Oks.step (sn_ldL hG fun H locs cells slots ls rest x h k => lv_lload hx hb dX5_alerts_96 h k) ?_
  refine xm_Oks.step (sn_binL hG fun H locs cells slots ls rest x y k => lv_lmul hx hb dX5_alerts_98 k) ?_
  refine xm_Oks.step (sn_ldR hG fun H locs cells slots ls rest x h k => lv_aload_n hx hb dX5_alerts_99 rfl h k) ?_
  refine xm_Oks.step (sn_getR hG rfl rfl (by decide) fun H locs cells slots ls rest q0 ws a fs v hP hw hv k => va_get (D := D) (C := RX5) (T := TX5) (N := 22) hx hb ht xu_5 hown hK hP q0 hw rfl 1 (by decide) (ht _ xw_322) (fun _ h9 => h9) hv dX5_alerts_100 k) ?_
  refine xm_Oks.step (sn_push hG (fun _ => trivial) fun ad H locs cells slots ls rest k => lv_iconst hx hb dX5_alerts_103 (by decide) k) ?_
  refine xm_Oks.step (sn_iald hG fun H locs cells slots ls rest q0 ws a N f x hP hw hin k => va_iald hx hb hK hP q0 1 hw rfl hin dX5_alerts_104 k) ?_
  refine xm_Oks.step (sn_one hG xg_i2l_inv (fun _ _ => trivial) fun ad H locs cells slots ls rest x k => lv_i2l hx hb dX5_alerts_105 rfl k) ?_
  refine xm_Oks.step (sn_ldR hG fun H locs cells slots ls rest x h k => lv_aload_n hx hb dX5_alerts_106 rfl h k) ?_
  refine xm_Oks.step (sn_getR hG rfl rfl (by decide) fun H locs cells slots ls rest q0 ws a fs v hP hw hv k => va_get (D := D) (C := RX5) (T := TX5) (N := 22) hx hb ht xu_5 hown hK hP q0 hw rfl 1 (by decide) (ht _ xw_322) (fun _ h9 => h9) hv dX5_alerts_107 k) ?_
  refine xm_Oks.step (sn_push hG (fun _ => trivial) fun ad H locs cells slots ls rest k => lv_iconst hx hb dX5_alerts_110 (by decide) k) ?_
  refine xm_Oks.step (sn_iald hG fun H locs cells slots ls rest q0 ws a N f x hP hw hin k => va_iald hx hb hK hP q0 1 hw rfl hin dX5_alerts_111 k) ?_
  refine xm_Oks.step (sn_one hG xg_i2l_inv (fun _ _ => trivial) fun ad H locs cells slots ls rest x k => lv_i2l hx hb dX5_alerts_112 rfl k) ?_
  refine xm_Oks.step (sn_binL hG fun H locs cells slots ls rest x y k => lv_lmul hx hb dX5_alerts_113 k) ?_
  refine xm_Oks.step (sn_ldR hG fun H locs cells slots ls rest x h k => lv_aload_n hx hb dX5_alerts_114 rfl h k) ?_
  refine xm_Oks.step (sn_getL hG rfl rfl (by decide) fun H locs cells slots ls rest q0 ws a fs v hP hw hv k => va_get (D := D) (C := RX5) (T := TX5) (N := 22) hx hb ht xu_5 hown hK hP q0 hw rfl 17 (by decide) (ht _ xw_366) (fun _ h9 => h9) hv dX5_alerts_115 k) ?_
  refine xm_Oks.step (sn_ldR hG fun H locs cells slots ls rest x h k => lv_aload_n hx hb dX5_alerts_118 rfl h k) ?_
  refine xm_Oks.step (sn_getL hG rfl rfl (by decide) fun H locs cells slots ls rest q0 ws a fs v hP hw hv k => va_get (D := D) (C := RX5) (T := TX5) (N := 22) hx hb ht xu_5 hown hK hP q0 hw rfl 17 (by decide) (ht _ xw_366) (fun _ h9 => h9) hv dX5_alerts_119 k) ?_
  refine xm_Oks.step (sn_binL hG fun H locs cells slots ls rest x y k => lv_lmul hx hb dX5_alerts_122 k) ?_
  refine xm_Oks.step (sn_ldR hG fun H locs cells slots ls rest x h k => lv_aload_n hx hb dX5_alerts_123 rfl h k) ?_
  refine xm_Oks.step (sn_getL hG rfl rfl (by decide) fun H locs cells slots ls rest q0 ws a fs v hP hw hv k => va_get (D := D) (C := RX5) (T := TX5) (N := 22) hx hb ht xu_5 hown hK hP q0 hw rfl 18 (by decide) (ht _ xw_367) (fun _ h9 => h9) hv dX5_alerts_124 k) ?_
  refine xm_Oks.step (sn_ldR hG fun H locs cells slots ls rest x h k => lv_aload_n hx hb dX5_alerts_127 rfl h k) ?_
  refine xm_Oks.step (sn_getL hG rfl rfl (by decide) fun H locs cells slots ls rest q0 ws a fs v hP hw hv k => va_get (D := D) (C := RX5) (T := TX5) (N := 22) hx hb ht xu_5 hown hK hP q0 hw rfl 18 (by decide) (ht _ xw_367) (fun _ h9 => h9) hv dX5_alerts_128 k) ?_
  refine xm_Oks.step (sn_binL hG fun H locs cells slots ls rest x y k => lv_lmul hx hb dX5_alerts_131 k) ?_
  refine xm_Oks.step (sn_binL hG fun H locs cells slots ls rest x y k => lv_ladd hx hb dX5_alerts_132 k) ?_
  refine xm_Oks.step (sn_binL hG fun H locs cells slots ls rest x y k => lv_lmul hx hb dX5_alerts_133 k) ?_
  refine xm_Oks.step (sn_lcmp hG fun H locs cells slots ls rest x y k => W.lcmp hx hb dX5_alerts_134 k) ?_
  refine xm_Oks.step (sn_if hG fun H locs cells slots ls rest x kt kf => lv_if_le (tgt := 140) hx hb dX5_alerts_135 (by decide) kt kf) ?_
  refine xm_Oks.step (sn_push hG (fun _ => trivial) fun ad H locs cells slots ls rest k => lv_iconst hx hb dX5_alerts_138 (by decide) k) ?_
  refine xm_Oks.stop ?_
  refine xm_Oks.step (sn_ldR hG fun H locs cells slots ls rest x h k => lv_aload_n hx hb dX5_alerts_140 rfl h k) ?_
  refine xm_Oks.step (sn_getL hG rfl rfl (by decide) fun H locs cells slots ls rest q0 ws a fs v hP hw hv k => va_get (D := D) (C := RX5) (T := TX5) (N := 22) hx hb ht xu_5 hown hK hP q0 hw rfl 16 (by decide) (ht _ xw_365) (fun _ h9 => h9) hv dX5_alerts_141 k) ?_
  refine xm_Oks.step (sn_push hG (fun _ => trivial) fun ad H locs cells slots ls rest k => lv_lconst hx hb dX5_alerts_144 (by decide) k) ?_
  refine xm_Oks.step (sn_lcmp hG fun H locs cells slots ls rest x y k => W.lcmp hx hb dX5_alerts_145 k) ?_
  refine xm_Oks.step (sn_if hG fun H locs cells slots ls rest x kt kf => lv_if_le (tgt := 158) hx hb dX5_alerts_146 (by decide) kt kf) ?_
  refine xm_Oks.step (sn_ldR hG fun H locs cells slots ls rest x h k => lv_aload_n hx hb dX5_alerts_149 rfl h k) ?_
  refine xm_Oks.step (sn_getL hG rfl rfl (by decide) fun H locs cells slots ls rest q0 ws a fs v hP hw hv k => va_get (D := D) (C := RX5) (T := TX5) (N := 22) hx hb ht xu_5 hown hK hP q0 hw rfl 19 (by decide) (ht _ xw_368) (fun _ h9 => h9) hv dX5_alerts_150 k) ?_
  refine xm_Oks.step (sn_push hG (fun _ => trivial) fun ad H locs cells slots ls rest k => lv_lconst hx hb dX5_alerts_153 (by decide) k) ?_
  refine xm_Oks.step (sn_lcmp hG fun H locs cells slots ls rest x y k => W.lcmp hx hb dX5_alerts_154 k) ?_
  refine xm_Oks.step (sn_if hG fun H locs cells slots ls rest x kt kf => lv_if_lt (tgt := 176) hx hb dX5_alerts_155 (by decide) kt kf) ?_
  refine xm_Oks.step (sn_ldR hG fun H locs cells slots ls rest x h k => lv_aload_n hx hb dX5_alerts_158 rfl h k) ?_
  refine xm_Oks.step (sn_getL hG rfl rfl (by decide) fun H locs cells slots ls rest q0 ws a fs v hP hw hv k => va_get (D := D) (C := RX5) (T := TX5) (N := 22) hx hb ht xu_5 hown hK hP q0 hw rfl 16 (by decide) (ht _ xw_365) (fun _ h9 => h9) hv dX5_alerts_159 k) ?_
  refine xm_Oks.step (sn_push hG (fun _ => trivial) fun ad H locs cells slots ls rest k => lv_lconst hx hb dX5_alerts_162 (by decide) k) ?_
  refine xm_Oks.step (sn_lcmp hG fun H locs cells slots ls rest x y k => W.lcmp hx hb dX5_alerts_163 k) ?_
  refine xm_Oks.step (sn_if hG fun H locs cells slots ls rest x kt kf => lv_if_ge (tgt := 180) hx hb dX5_alerts_164 (by decide) kt kf) ?_
  refine xm_Oks.step (sn_ldR hG fun H locs cells slots ls rest x h k => lv_aload_n hx hb dX5_alerts_167 rfl h k) ?_
  refine xm_Oks.step (sn_getL hG rfl rfl (by decide) fun H locs cells slots ls rest q0 ws a fs v hP hw hv k => va_get (D := D) (C := RX5) (T := TX5) (N := 22) hx hb ht xu_5 hown hK hP q0 hw rfl 19 (by decide) (ht _ xw_368) (fun _ h9 => h9) hv dX5_alerts_168 k) ?_
  refine xm_Oks.step (sn_push hG (fun _ => trivial) fun ad H locs cells slots ls rest k => lv_lconst hx hb dX5_alerts_171 (by decide) k) ?_
  refine xm_Oks.step (sn_lcmp hG fun H locs cells slots ls rest x y k => W.lcmp hx hb dX5_alerts_172 k) ?_
  refine xm_Oks.step (sn_if hG fun H locs cells slots ls rest x kt kf => lv_if_le (tgt := 180) hx hb dX5_alerts_173 (by decide) kt kf) ?_
  refine xm_Oks.step (sn_push hG (fun _ => trivial) fun ad H locs cells slots ls rest k => lv_iconst hx hb dX5_alerts_176 (by decide) k) ?_
  refine xm_Oks.step (sn_goto hG fun H locs cells slots ls rest k => lv_goto (tgt := 181) hx hb dX5_alerts_177 (by decide) k) ?_
  refine xm_Oks.step (sn_push hG (fun _ => trivial) fun ad H locs cells slots ls rest k => lv_iconst hx hb dX5_alerts_180 (by decide) k) ?_
  refine xm_Oks.step (sn_stI hG fun H locs cells slots ls rest x lv lv9 h he k => lv_istore hx hb dX5_alerts_181 h (by decide) he k) ?_
  refine xm_Oks.step (sn_ldR hG fun H locs cells slots ls rest x h k => lv_aload_n hx hb dX5_alerts_183 rfl h k) ?_
  refine xm_Oks.step (sn_getL hG rfl rfl (by decide) fun H locs cells slots ls rest q0 ws a fs v hP hw hv k => va_get (D := D) (C := RX5) (T := TX5) (N := 22) hx hb ht xu_5 hown hK hP q0 hw rfl 16 (by decide) (ht _ xw_365) (fun _ h9 => h9) hv dX5_alerts_184 k) ?_
  refine xm_Oks.call (xm_sndC hG hC (xm_callS ⟨hx, hb, hml, hown, hts⟩ xw_371 xw_372 xw_338 xw_373 (by decide +kernel) dX5_alerts_187) (Nat.le_refl _) (by show 8 + (2 + 11) + 40 * d ≤ 40 * (d + 1); omega) (fun C0 h9 => by cases h9) (fun as M v M1 mc ms h9 ad sz g1 g2 => ih 85 as M v M1 mc ms h9 ad sz g1 g2)) ?_
  refine xm_Oks.step (sn_ldR hG fun H locs cells slots ls rest x h k => lv_aload_n hx hb dX5_alerts_190 rfl h k) ?_
  refine xm_Oks.step (sn_getR hG rfl rfl (by decide) fun H locs cells slots ls rest q0 ws a fs v hP hw hv k => va_get (D := D) (C := RX5) (T := TX5) (N := 22) hx hb ht xu_5 hown hK hP q0 hw rfl 1 (by decide) (ht _ xw_322) (fun _ h9 => h9) hv dX5_alerts_191 k) ?_
  refine xm_Oks.step (sn_push hG (fun _ => trivial) fun ad H locs cells slots ls rest k => lv_iconst hx hb dX5_alerts_194 (by decide) k) ?_
  refine xm_Oks.step (sn_iald hG fun H locs cells slots ls rest q0 ws a N f x hP hw hin k => va_iald hx hb hK hP q0 1 hw rfl hin dX5_alerts_195 k) ?_
  refine xm_Oks.step (sn_one hG xg_i2l_inv (fun _ _ => trivial) fun ad H locs cells slots ls rest x k => lv_i2l hx hb dX5_alerts_196 rfl k) ?_
  refine xm_Oks.step (sn_lcmp hG fun H locs cells slots ls rest x y k => W.lcmp hx hb dX5_alerts_197 k) ?_
  refine xm_Oks.step (sn_if hG fun H locs cells slots ls rest x kt kf => lv_if_le (tgt := 232) hx hb dX5_alerts_198 (by decide) kt kf) ?_
  refine xm_Oks.step (sn_ldI hG fun H locs cells slots ls rest x h k => lv_iload hx hb dX5_alerts_201 h k) ?_
  refine xm_Oks.step (sn_if hG fun H locs cells slots ls rest x kt kf => lv_if_eq (tgt := 236) hx hb dX5_alerts_203 (by decide) kt kf) ?_
  refine xm_Oks.step (sn_ldR hG fun H locs cells slots ls rest x h k => lv_aload_n hx hb dX5_alerts_206 rfl h k) ?_
  refine xm_Oks.step (sn_getL hG rfl rfl (by decide) fun H locs cells slots ls rest q0 ws a fs v hP hw hv k => va_get (D := D) (C := RX5) (T := TX5) (N := 22) hx hb ht xu_5 hown hK hP q0 hw rfl 16 (by decide) (ht _ xw_365) (fun _ h9 => h9) hv dX5_alerts_207 k) ?_
  refine xm_Oks.call (xm_sndC hG hC (xm_callS ⟨hx, hb, hml, hown, hts⟩ xw_371 xw_372 xw_338 xw_373 (by decide +kernel) dX5_alerts_210) (Nat.le_refl _) (by show 8 + (2 + 11) + 40 * d ≤ 40 * (d + 1); omega) (fun C0 h9 => by cases h9) (fun as M v M1 mc ms h9 ad sz g1 g2 => ih 85 as M v M1 mc ms h9 ad sz g1 g2)) ?_
  refine xm_Oks.step (sn_ldR hG fun H locs cells slots ls rest x h k => lv_aload_n hx hb dX5_alerts_213 rfl h k) ?_
  refine xm_Oks.step (sn_getR hG rfl rfl (by decide) fun H locs cells slots ls rest q0 ws a fs v hP hw hv k => va_get (D := D) (C := RX5) (T := TX5) (N := 22) hx hb ht xu_5 hown hK hP q0 hw rfl 1 (by decide) (ht _ xw_322) (fun _ h9 => h9) hv dX5_alerts_214 k) ?_
  refine xm_Oks.step (sn_push hG (fun _ => trivial) fun ad H locs cells slots ls rest k => lv_iconst hx hb dX5_alerts_217 (by decide) k) ?_
  refine xm_Oks.step (sn_iald hG fun H locs cells slots ls rest q0 ws a N f x hP hw hin k => va_iald hx hb hK hP q0 1 hw rfl hin dX5_alerts_218 k) ?_
  refine xm_Oks.step (sn_one hG xg_i2l_inv (fun _ _ => trivial) fun ad H locs cells slots ls rest x k => lv_i2l hx hb dX5_alerts_219 rfl k) ?_
  refine xm_Oks.step (sn_ldR hG fun H locs cells slots ls rest x h k => lv_aload_n hx hb dX5_alerts_220 rfl h k) ?_
  refine xm_Oks.step (sn_getL hG rfl rfl (by decide) fun H locs cells slots ls rest q0 ws a fs v hP hw hv k => va_get (D := D) (C := RX5) (T := TX5) (N := 22) hx hb ht xu_5 hown hK hP q0 hw rfl 19 (by decide) (ht _ xw_368) (fun _ h9 => h9) hv dX5_alerts_221 k) ?_
  refine xm_Oks.call (xm_sndC hG hC (xm_callS ⟨hx, hb, hml, hown, hts⟩ xw_371 xw_372 xw_338 xw_373 (by decide +kernel) dX5_alerts_224) (Nat.le_refl _) (by show 8 + (2 + 11) + 40 * d ≤ 40 * (d + 1); omega) (fun C0 h9 => by cases h9) (fun as M v M1 mc ms h9 ad sz g1 g2 => ih 85 as M v M1 mc ms h9 ad sz g1 g2)) ?_
  refine xm_Oks.step (sn_binL hG fun H locs cells slots ls rest x y k => lv_lmul hx hb dX5_alerts_227 k) ?_
  refine xm_Oks.step (sn_lcmp hG fun H locs cells slots ls rest x y k => W.lcmp hx hb dX5_alerts_228 k) ?_
  refine xm_Oks.step (sn_if hG fun H locs cells slots ls rest x kt kf => lv_if_gt (tgt := 236) hx hb dX5_alerts_229 (by decide) kt kf) ?_
  refine xm_Oks.step (sn_push hG (fun _ => trivial) fun ad H locs cells slots ls rest k => lv_iconst hx hb dX5_alerts_232 (by decide) k) ?_
  refine xm_Oks.step (sn_goto hG fun H locs cells slots ls rest k => lv_goto (tgt := 237) hx hb dX5_alerts_233 (by decide) k) ?_
  refine xm_Oks.step (sn_push hG (fun _ => trivial) fun ad H locs cells slots ls rest k => lv_iconst hx hb dX5_alerts_236 (by decide) k) ?_
  refine xm_Oks.stop ?_
  exact trivial
set_option maxHeartbeats 4000000 in
set_option maxRecDepth 100000 in
theorem xk_X5_height : xm_MOk xp_pg xp_pm 87 := by
  refine ⟨by decide +kernel, rfl, ?_, ?_⟩
  · show xm_Oks _ xt_X5_height
    exact ⟨trivial, trivial, trivial, trivial, trivial, trivial, trivial, trivial, trivial, trivial, trivial, trivial, trivial, trivial, trivial, trivial, trivial, trivial, trivial, trivial, trivial, trivial, trivial, trivial, trivial, trivial, trivial, trivial, trivial, trivial, trivial, trivial, trivial, trivial, trivial, trivial, trivial, trivial, trivial, trivial, trivial, trivial, trivial, trivial, trivial, trivial, trivial, trivial, trivial, trivial, trivial, trivial, trivial, trivial, trivial, trivial, trivial, trivial, trivial, trivial, trivial, trivial, trivial, trivial, trivial, trivial, trivial, trivial, trivial, trivial, trivial, trivial, trivial, trivial, trivial, trivial, trivial, trivial, trivial, trivial, trivial, trivial, trivial, trivial, trivial, trivial, trivial, trivial, trivial, ⟨dX5_height_153, rfl⟩, trivial⟩
  intro d mc ms p l e s m args below meth c Q cA D A tS ad0 o0 G hG hC hn ih
  have hG : xm_IsG p l e (xm_room (d + 1) mc ms) s m args below meth c Q cA D A tS 13 ad0 o0 G := hG
  have hC : xm_Cx p s m args c cX5_height 13 RX5 (Cond.code yX5_height cX5_height 13 (some .long) :: xm_W) cA D A tS := hC
  have hn : meth.name = "height" := hn
  obtain ⟨hx, hb, hml, hown, hts, hK, hA, hSx, hNx⟩ := id hC
  have ht : ∀ w ∈ xm_W, w.before args s = true := fun w h => hts w (List.mem_cons_of_mem _ h)
  show xm_Oks (xm_Ent (xm_room (d + 1) mc ms) G (xm_Do xp_pg d)) xt_X5_height
  unfold xt_X5_height
  refine xm_Oks.step (sn_ldR hG fun H locs cells slots ls rest x h k => lv_aload_n hx hb dX5_height_0 rfl h k) ?_
  refine xm_Oks.step (sn_getL hG rfl rfl (by decide) fun H locs cells slots ls rest q0 ws a fs v hP hw hv k => va_get (D := D) (C := RX5) (T := TX5) (N := 22) hx hb ht xu_5 hown hK hP q0 hw rfl 21 (by decide) (ht _ xw_370) (fun _ h9 => h9) hv dX5_height_1 k) ?_
  refine xm_Oks.step (sn_ldR hG fun H locs cells slots ls rest x h k => lv_aload_n hx hb dX5_height_4 rfl h k) ?_
  refine xm_Oks.step (sn_getR hG rfl rfl (by decide) fun H locs cells slots ls rest q0 ws a fs v hP hw hv k => va_get (D := D) (C := RX5) (T := TX5) (N := 22) hx hb ht xu_5 hown hK hP q0 hw rfl 1 (by decide) (ht _ xw_322) (fun _ h9 => h9) hv dX5_height_5 k) ?_
  refine xm_Oks.step (sn_push hG (fun _ => trivial) fun ad H locs cells slots ls rest k => lv_iconst hx hb dX5_height_8 (by decide) k) ?_
  refine xm_Oks.step (sn_iald hG fun H locs cells slots ls rest q0 ws a N f x hP hw hin k => va_iald hx hb hK hP q0 1 hw rfl hin dX5_height_9 k) ?_
  refine xm_Oks.step (sn_one hG xg_i2l_inv (fun _ _ => trivial) fun ad H locs cells slots ls rest x k => lv_i2l hx hb dX5_height_10 rfl k) ?_
  refine xm_Oks.step (sn_lcmp hG fun H locs cells slots ls rest x y k => W.lcmp hx hb dX5_height_11 k) ?_
  refine xm_Oks.step (sn_if hG fun H locs cells slots ls rest x kt kf => lv_if_ge (tgt := 22) hx hb dX5_height_12 (by decide) kt kf) ?_
  refine xm_Oks.step (sn_ldR hG fun H locs cells slots ls rest x h k => lv_aload_n hx hb dX5_height_15 rfl h k) ?_
  refine xm_Oks.step (sn_getL hG rfl rfl (by decide) fun H locs cells slots ls rest q0 ws a fs v hP hw hv k => va_get (D := D) (C := RX5) (T := TX5) (N := 22) hx hb ht xu_5 hown hK hP q0 hw rfl 21 (by decide) (ht _ xw_370) (fun _ h9 => h9) hv dX5_height_16 k) ?_
  refine xm_Oks.step (sn_goto hG fun H locs cells slots ls rest k => lv_goto (tgt := 29) hx hb dX5_height_19 (by decide) k) ?_
  refine xm_Oks.step (sn_ldR hG fun H locs cells slots ls rest x h k => lv_aload_n hx hb dX5_height_22 rfl h k) ?_
  refine xm_Oks.step (sn_getR hG rfl rfl (by decide) fun H locs cells slots ls rest q0 ws a fs v hP hw hv k => va_get (D := D) (C := RX5) (T := TX5) (N := 22) hx hb ht xu_5 hown hK hP q0 hw rfl 1 (by decide) (ht _ xw_322) (fun _ h9 => h9) hv dX5_height_23 k) ?_
  refine xm_Oks.step (sn_push hG (fun _ => trivial) fun ad H locs cells slots ls rest k => lv_iconst hx hb dX5_height_26 (by decide) k) ?_
  refine xm_Oks.step (sn_iald hG fun H locs cells slots ls rest q0 ws a N f x hP hw hin k => va_iald hx hb hK hP q0 1 hw rfl hin dX5_height_27 k) ?_
  refine xm_Oks.step (sn_one hG xg_i2l_inv (fun _ _ => trivial) fun ad H locs cells slots ls rest x k => lv_i2l hx hb dX5_height_28 rfl k) ?_
  refine xm_Oks.step (sn_ldI hG fun H locs cells slots ls rest x h k => lv_iload hx hb dX5_height_29 h k) ?_
  refine xm_Oks.step (sn_one hG xg_i2l_inv (fun _ _ => trivial) fun ad H locs cells slots ls rest x k => lv_i2l hx hb dX5_height_31 rfl k) ?_
  refine xm_Oks.step (sn_binL hG fun H locs cells slots ls rest x y k => lv_lsub hx hb dX5_height_32 k) ?_
  refine xm_Oks.step (sn_stL hG fun H locs cells slots ls rest x lv lv9 h he k => lv_lstore hx hb dX5_height_33 h (by decide) he k) ?_
  refine xm_Oks.step (sn_ldL hG fun H locs cells slots ls rest x h k => lv_lload hx hb dX5_height_35 h k) ?_
  refine xm_Oks.step (sn_push hG (fun _ => trivial) fun ad H locs cells slots ls rest k => lv_lconst hx hb dX5_height_37 (by decide) k) ?_
  refine xm_Oks.step (sn_lcmp hG fun H locs cells slots ls rest x y k => W.lcmp hx hb dX5_height_38 k) ?_
  refine xm_Oks.step (sn_if hG fun H locs cells slots ls rest x kt kf => lv_if_ge (tgt := 46) hx hb dX5_height_39 (by decide) kt kf) ?_
  refine xm_Oks.step (sn_push hG (fun _ => trivial) fun ad H locs cells slots ls rest k => lv_lconst hx hb dX5_height_42 (by decide) k) ?_
  refine xm_Oks.step (sn_goto hG fun H locs cells slots ls rest k => lv_goto (tgt := 48) hx hb dX5_height_43 (by decide) k) ?_
  refine xm_Oks.step (sn_ldL hG fun H locs cells slots ls rest x h k => lv_lload hx hb dX5_height_46 h k) ?_
  refine xm_Oks.step (sn_stL hG fun H locs cells slots ls rest x lv lv9 h he k => lv_lstore hx hb dX5_height_48 h (by decide) he k) ?_
  refine xm_Oks.step (sn_ldR hG fun H locs cells slots ls rest x h k => lv_aload_n hx hb dX5_height_50 rfl h k) ?_
  refine xm_Oks.step (sn_getR hG rfl rfl (by decide) fun H locs cells slots ls rest q0 ws a fs v hP hw hv k => va_get (D := D) (C := RX5) (T := TX5) (N := 22) hx hb ht xu_5 hown hK hP q0 hw rfl 4 (by decide) (ht _ xw_326) (fun _ h9 => h9) hv dX5_height_51 k) ?_
  refine xm_Oks.step (sn_push hG (fun _ => trivial) fun ad H locs cells slots ls rest k => lv_bipush hx hb dX5_height_54 (by decide) k) ?_
  refine xm_Oks.step (sn_ldI hG fun H locs cells slots ls rest x h k => lv_iload_n hx hb dX5_height_56 rfl h k) ?_
  refine xm_Oks.step (sn_bin hG fun H locs cells slots ls rest x y k => lv_imul hx hb dX5_height_57 k) ?_
  refine xm_Oks.step (sn_push hG (fun _ => trivial) fun ad H locs cells slots ls rest k => lv_iconst hx hb dX5_height_58 (by decide) k) ?_
  refine xm_Oks.step (sn_bin hG fun H locs cells slots ls rest x y k => lv_iadd hx hb dX5_height_59 k) ?_
  refine xm_Oks.step (sn_iald hG fun H locs cells slots ls rest q0 ws a N f x hP hw hin k => va_iald hx hb hK hP q0 1 hw rfl hin dX5_height_60 k) ?_
  refine xm_Oks.step (sn_one hG xg_i2l_inv (fun _ _ => trivial) fun ad H locs cells slots ls rest x k => lv_i2l hx hb dX5_height_61 rfl k) ?_
  refine xm_Oks.step (sn_stL hG fun H locs cells slots ls rest x lv lv9 h he k => lv_lstore hx hb dX5_height_62 h (by decide) he k) ?_
  refine xm_Oks.step (sn_ldI hG fun H locs cells slots ls rest x h k => lv_iload_n hx hb dX5_height_64 rfl h k) ?_
  refine xm_Oks.step (sn_if hG fun H locs cells slots ls rest x kt kf => lv_if_eq (tgt := 77) hx hb dX5_height_65 (by decide) kt kf) ?_
  refine xm_Oks.step (sn_push hG (fun _ => trivial) fun ad H locs cells slots ls rest k => lv_ldc2 hx hb hown (ht _ xw_374) dX5_height_68 k) ?_
  refine xm_Oks.step (sn_ldI hG fun H locs cells slots ls rest x h k => lv_iload_n hx hb dX5_height_71 rfl h k) ?_
  refine xm_Oks.step (sn_one hG xg_i2l_inv (fun _ _ => trivial) fun ad H locs cells slots ls rest x k => lv_i2l hx hb dX5_height_72 rfl k) ?_
  refine xm_Oks.step (sn_binL hG fun H locs cells slots ls rest x y k => lv_lmul hx hb dX5_height_73 k) ?_
  refine xm_Oks.step (sn_goto hG fun H locs cells slots ls rest k => lv_goto (tgt := 83) hx hb dX5_height_74 (by decide) k) ?_
  refine xm_Oks.step (sn_push hG (fun _ => trivial) fun ad H locs cells slots ls rest k => lv_ldc2 hx hb hown (ht _ xw_375) dX5_height_77 k) ?_
  refine xm_Oks.step (sn_ldI hG fun H locs cells slots ls rest x h k => lv_iload_n hx hb dX5_height_80 rfl h k) ?_
  refine xm_Oks.step (sn_one hG xg_i2l_inv (fun _ _ => trivial) fun ad H locs cells slots ls rest x k => lv_i2l hx hb dX5_height_81 rfl k) ?_
  refine xm_Oks.step (sn_binL hG fun H locs cells slots ls rest x y k => lv_lmul hx hb dX5_height_82 k) ?_
  refine xm_Oks.step (sn_stL hG fun H locs cells slots ls rest x lv lv9 h he k => lv_lstore hx hb dX5_height_83 h (by decide) he k) ?_
  refine xm_Oks.step (sn_ldI hG fun H locs cells slots ls rest x h k => lv_iload_n hx hb dX5_height_85 rfl h k) ?_
  refine xm_Oks.step (sn_if hG fun H locs cells slots ls rest x kt kf => lv_if_eq (tgt := 107) hx hb dX5_height_86 (by decide) kt kf) ?_
  refine xm_Oks.step (sn_ldL hG fun H locs cells slots ls rest x h k => lv_lload hx hb dX5_height_89 h k) ?_
  refine xm_Oks.step (sn_ldL hG fun H locs cells slots ls rest x h k => lv_lload hx hb dX5_height_91 h k) ?_
  refine xm_Oks.step (sn_lcmp hG fun H locs cells slots ls rest x y k => W.lcmp hx hb dX5_height_93 k) ?_
  refine xm_Oks.step (sn_if hG fun H locs cells slots ls rest x kt kf => lv_if_le (tgt := 102) hx hb dX5_height_94 (by decide) kt kf) ?_
  refine xm_Oks.step (sn_ldL hG fun H locs cells slots ls rest x h k => lv_lload hx hb dX5_height_97 h k) ?_
  refine xm_Oks.step (sn_goto hG fun H locs cells slots ls rest k => lv_goto (tgt := 122) hx hb dX5_height_99 (by decide) k) ?_
  refine xm_Oks.step (sn_ldL hG fun H locs cells slots ls rest x h k => lv_lload hx hb dX5_height_102 h k) ?_
  refine xm_Oks.step (sn_goto hG fun H locs cells slots ls rest k => lv_goto (tgt := 122) hx hb dX5_height_104 (by decide) k) ?_
  refine xm_Oks.step (sn_ldL hG fun H locs cells slots ls rest x h k => lv_lload hx hb dX5_height_107 h k) ?_
  refine xm_Oks.step (sn_ldL hG fun H locs cells slots ls rest x h k => lv_lload hx hb dX5_height_109 h k) ?_
  refine xm_Oks.step (sn_lcmp hG fun H locs cells slots ls rest x y k => W.lcmp hx hb dX5_height_111 k) ?_
  refine xm_Oks.step (sn_if hG fun H locs cells slots ls rest x kt kf => lv_if_ge (tgt := 120) hx hb dX5_height_112 (by decide) kt kf) ?_
  refine xm_Oks.step (sn_ldL hG fun H locs cells slots ls rest x h k => lv_lload hx hb dX5_height_115 h k) ?_
  refine xm_Oks.step (sn_goto hG fun H locs cells slots ls rest k => lv_goto (tgt := 122) hx hb dX5_height_117 (by decide) k) ?_
  refine xm_Oks.step (sn_ldL hG fun H locs cells slots ls rest x h k => lv_lload hx hb dX5_height_120 h k) ?_
  refine xm_Oks.step (sn_stL hG fun H locs cells slots ls rest x lv lv9 h he k => lv_lstore hx hb dX5_height_122 h (by decide) he k) ?_
  refine xm_Oks.step (sn_ldR hG fun H locs cells slots ls rest x h k => lv_aload_n hx hb dX5_height_124 rfl h k) ?_
  refine xm_Oks.step (sn_getR hG rfl rfl (by decide) fun H locs cells slots ls rest q0 ws a fs v hP hw hv k => va_get (D := D) (C := RX5) (T := TX5) (N := 22) hx hb ht xu_5 hown hK hP q0 hw rfl 4 (by decide) (ht _ xw_326) (fun _ h9 => h9) hv dX5_height_125 k) ?_
  refine xm_Oks.step (sn_push hG (fun _ => trivial) fun ad H locs cells slots ls rest k => lv_bipush hx hb dX5_height_128 (by decide) k) ?_
  refine xm_Oks.step (sn_ldI hG fun H locs cells slots ls rest x h k => lv_iload_n hx hb dX5_height_130 rfl h k) ?_
  refine xm_Oks.step (sn_bin hG fun H locs cells slots ls rest x y k => lv_imul hx hb dX5_height_131 k) ?_
  refine xm_Oks.step (sn_push hG (fun _ => trivial) fun ad H locs cells slots ls rest k => lv_iconst hx hb dX5_height_132 (by decide) k) ?_
  refine xm_Oks.step (sn_bin hG fun H locs cells slots ls rest x y k => lv_iadd hx hb dX5_height_133 k) ?_
  refine xm_Oks.step (sn_iald hG fun H locs cells slots ls rest q0 ws a N f x hP hw hin k => va_iald hx hb hK hP q0 1 hw rfl hin dX5_height_134 k) ?_
  refine xm_Oks.step (sn_one hG xg_i2l_inv (fun _ _ => trivial) fun ad H locs cells slots ls rest x k => lv_i2l hx hb dX5_height_135 rfl k) ?_
  refine xm_Oks.step (sn_ldL hG fun H locs cells slots ls rest x h k => lv_lload hx hb dX5_height_136 h k) ?_
  refine xm_Oks.step (sn_ldL hG fun H locs cells slots ls rest x h k => lv_lload hx hb dX5_height_138 h k) ?_
  refine xm_Oks.step (sn_binL hG fun H locs cells slots ls rest x y k => lv_lmul hx hb dX5_height_140 k) ?_
  refine xm_Oks.step (sn_binL hG fun H locs cells slots ls rest x y k => lv_ladd hx hb dX5_height_141 k) ?_
  refine xm_Oks.step (sn_ldL hG fun H locs cells slots ls rest x h k => lv_lload hx hb dX5_height_142 h k) ?_
  refine xm_Oks.step (sn_ldR hG fun H locs cells slots ls rest x h k => lv_aload_n hx hb dX5_height_144 rfl h k) ?_
  refine xm_Oks.step (sn_getL hG rfl rfl (by decide) fun H locs cells slots ls rest q0 ws a fs v hP hw hv k => va_get (D := D) (C := RX5) (T := TX5) (N := 22) hx hb ht xu_5 hown hK hP q0 hw rfl 21 (by decide) (ht _ xw_370) (fun _ h9 => h9) hv dX5_height_145 k) ?_
  refine xm_Oks.step (sn_ldL hG fun H locs cells slots ls rest x h k => lv_lload hx hb dX5_height_148 h k) ?_
  refine xm_Oks.step (sn_binL hG fun H locs cells slots ls rest x y k => lv_lsub hx hb dX5_height_150 k) ?_
  refine xm_Oks.step (sn_binL hG fun H locs cells slots ls rest x y k => lv_lmul hx hb dX5_height_151 k) ?_
  refine xm_Oks.step (sn_binL hG fun H locs cells slots ls rest x y k => lv_ladd hx hb dX5_height_152 k) ?_
  refine xm_Oks.stop ?_
  exact trivial
