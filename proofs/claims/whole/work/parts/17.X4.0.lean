set_option maxHeartbeats 4000000 in
set_option maxRecDepth 100000 in
theorem xk_X4_init : xm_MOk xp_pg xp_pm 53 := by
  refine ⟨by decide +kernel, rfl, ?_, ?_⟩
  · show xm_Oks _ xt_X4_init
    exact ⟨trivial, trivial, trivial, trivial, trivial, trivial, trivial, trivial, trivial, trivial, trivial, trivial, trivial, trivial, trivial, trivial, trivial, trivial, trivial, trivial, trivial, trivial, trivial, trivial, trivial, trivial, trivial, trivial, trivial, trivial, trivial, trivial, trivial, trivial, trivial, trivial, trivial, trivial, trivial, trivial, trivial, trivial, trivial, trivial, trivial, trivial, trivial, trivial, trivial, trivial, trivial, trivial, trivial, trivial, trivial, trivial, trivial, trivial, trivial, trivial, trivial, trivial, trivial, trivial, trivial, trivial, trivial, trivial, trivial, trivial, trivial, trivial, ⟨dX4_init_139, rfl⟩, trivial⟩
  intro d mc ms p l e s m args below meth c Q cA D A tS ad0 o0 G hG hC hn ih
  have hG : xm_IsG p l e (xm_room (d + 1) mc ms) s m args below meth c Q cA D A tS 4 ad0 o0 G := hG
  have hC : xm_Cx p s m args c cX4_init 4 RX4 (Cond.code yX4_init cX4_init 4 none :: xm_W) cA D A tS := hC
  have hn : meth.name = "<init>" := hn
  obtain ⟨hx, hb, hml, hown, hts, hK, hA, hSx, hNx⟩ := id hC
  have ht : ∀ w ∈ xm_W, w.before args s = true := fun w h => hts w (List.mem_cons_of_mem _ h)
  show xm_Oks (xm_Ent (xm_room (d + 1) mc ms) G (xm_Do xp_pg d)) xt_X4_init
  unfold xt_X4_init
  refine xm_Oks.step (sn_ldR hG fun H locs cells slots ls rest x h k => lv_aload_n hx hb dX4_init_0 rfl h k) ?_
  refine xm_Oks.step (sn_obj hG fun H locs cells slots ls rest a h1 h2 k => W.objInit hx hb hown (ht _ xw_187) (ht _ xw_1) (ht _ xw_2) rfl (h1.trans hml.symm) rfl dX4_init_1 (Nat.le_add_left 1 d) (by show 2 * 0 + _ + 12 ≤ 40 * (d + 1); omega) k) ?_
  refine xm_Oks.step (sn_ldR hG fun H locs cells slots ls rest x h k => lv_aload_n hx hb dX4_init_4 rfl h k) ?_
  refine xm_Oks.step (sn_new hG rfl (by decide) fun H locs cells slots ls rest ws hP hD hS h1 h2 k => va_new (D := D) (ci := 2) (C := RX2) (T := TX2) (N := 1) hx hb ht xu_2 tyX2 tyX2_ok hown (ht _ xw_188) (ht _ xw_189) (ht _ xw_45) hK hP hD hS hA rfl (fun j hj => by rcases (show j = 0 by omega) with rfl <;> rfl) h1 h2 dX4_init_5 k) ?_
  refine xm_Oks.step (sn_dup hG fun H locs cells slots ls rest v h k => lv_dup hx hb dX4_init_8 h k) ?_
  refine xm_Oks.call (xm_sndC hG hC (xm_callI (C := RX2) ⟨hx, hb, hml, hown, hts⟩ xw_190 xw_191 xw_45 xw_192 rfl (by decide +kernel) dX4_init_9) (Nat.le_refl _) (by show 8 + (1 + 11) + 40 * d ≤ 40 * (d + 1); omega) (fun C0 h9 => by cases h9; exact ⟨2, _, _, by decide, by decide, rfl, rfl, rfl⟩) (fun as M v M1 mc ms h9 ad sz g1 g2 => ih 41 as M v M1 mc ms h9 ad sz g1 g2)) ?_
  refine xm_Oks.step (sn_putR hG rfl rfl (by decide) fun H locs cells slots ls rest q0 ws a fs v hP hD hS hw ⟨x, hv⟩ hl k => by subst hv; exact va_putF (D := D) (ty := .object "SkyAdvisor$Settings") (C := RX4) (T := TX4) (N := 4) hx hb ht xu_4 tyX4 tyX4_ok nmX4 hown hK hP hD hS q0 hw rfl 0 (by decide) (ht _ xw_193) (fun _ h9 => h9) rfl hn rfl (by decide +kernel) rfl rfl hl dX4_init_12 k) ?_
  refine xm_Oks.step (sn_ldR hG fun H locs cells slots ls rest x h k => lv_aload_n hx hb dX4_init_15 rfl h k) ?_
  refine xm_Oks.step (sn_new hG rfl (by decide) fun H locs cells slots ls rest ws hP hD hS h1 h2 k => va_new (D := D) (ci := 3) (C := RX3) (T := TX3) (N := 5) hx hb ht xu_3 tyX3 tyX3_ok hown (ht _ xw_194) (ht _ xw_195) (ht _ xw_196) hK hP hD hS hA rfl (fun j hj => by rcases (show j = 0 ∨ j = 1 ∨ j = 2 ∨ j = 3 ∨ j = 4 by omega) with rfl | rfl | rfl | rfl | rfl <;> rfl) h1 h2 dX4_init_16 k) ?_
  refine xm_Oks.step (sn_dup hG fun H locs cells slots ls rest v h k => lv_dup hx hb dX4_init_19 h k) ?_
  refine xm_Oks.call (xm_sndC hG hC (xm_callIN (C := RX3) ⟨hx, hb, hml, hown, hts⟩ hC.2.2.2.2.2.2.2.2.2 xw_197 xw_196 xw_198 rfl (by decide +kernel) dX4_init_20) (Nat.le_refl _) (by show 8 + (1 + 11) + 40 * d ≤ 40 * (d + 1); omega) (fun C0 h9 => by cases h9; exact ⟨3, _, _, by decide, by decide, rfl, rfl, rfl⟩) (fun as M v M1 mc ms h9 ad sz g1 g2 => ih 51 as M v M1 mc ms h9 ad sz g1 g2)) ?_
  refine xm_Oks.step (sn_putR hG rfl rfl (by decide) fun H locs cells slots ls rest q0 ws a fs v hP hD hS hw ⟨x, hv⟩ hl k => by subst hv; exact va_putF (D := D) (ty := .object "SkyAdvisor$Tally") (C := RX4) (T := TX4) (N := 4) hx hb ht xu_4 tyX4 tyX4_ok nmX4 hown hK hP hD hS q0 hw rfl 1 (by decide) (ht _ xw_199) (fun _ h9 => h9) rfl hn rfl (by decide +kernel) rfl rfl hl dX4_init_23 k) ?_
  refine xm_Oks.step (sn_ldR hG fun H locs cells slots ls rest x h k => lv_aload_n hx hb dX4_init_26 rfl h k) ?_
  refine xm_Oks.step (sn_push hG (fun _ => trivial) fun ad H locs cells slots ls rest k => lv_bipush hx hb dX4_init_27 (by decide) k) ?_
  refine xm_Oks.step (sn_newa hG rfl (by decide) (fun _ _ _ => xm_nwQ rfl (by decide)) (xr_newQ (t := 4) hx hb hown (ht _ xw_200) hSx.2.1 hK rfl hA dX4_init_29)) ?_
  refine xm_Oks.step (sn_putR hG rfl rfl (by decide) fun H locs cells slots ls rest q0 ws a fs v hP hD hS hw ⟨x, hv⟩ hl k => by subst hv; exact va_putF (D := D) (ty := .array (.object "SkyAdvisor$Aircraft")) (C := RX4) (T := TX4) (N := 4) hx hb ht xu_4 tyX4 tyX4_ok nmX4 hown hK hP hD hS q0 hw rfl 2 (by decide) (ht _ xw_201) (fun _ h9 => h9) rfl hn rfl (by decide +kernel) rfl rfl hl dX4_init_32 k) ?_
  refine xm_Oks.step (sn_push hG (fun _ => trivial) fun ad H locs cells slots ls rest k => lv_iconst hx hb dX4_init_35 (by decide) k) ?_
  refine xm_Oks.step (sn_stI hG fun H locs cells slots ls rest x lv lv9 h he k => lv_istore_n hx hb dX4_init_36 rfl h (by decide) he k) ?_
  refine xm_Oks.step (sn_ldI hG fun H locs cells slots ls rest x h k => lv_iload_n hx hb dX4_init_37 rfl h k) ?_
  refine xm_Oks.step (sn_push hG (fun _ => trivial) fun ad H locs cells slots ls rest k => lv_bipush hx hb dX4_init_38 (by decide) k) ?_
  refine xm_Oks.step (sn_icmp hG fun H locs cells slots ls rest x y kt kf => lv_icmp_ge (tgt := 62) hx hb dX4_init_40 (by decide) kt kf) ?_
  refine xm_Oks.step (sn_ldR hG fun H locs cells slots ls rest x h k => lv_aload_n hx hb dX4_init_43 rfl h k) ?_
  refine xm_Oks.step (sn_getR hG rfl rfl (by decide) fun H locs cells slots ls rest q0 ws a fs v hP hw hv k => va_get (D := D) (C := RX4) (T := TX4) (N := 4) hx hb ht xu_4 hown hK hP q0 hw rfl 2 (by decide) (ht _ xw_201) (fun _ h9 => h9) hv dX4_init_44 k) ?_
  refine xm_Oks.step (sn_ldI hG fun H locs cells slots ls rest x h k => lv_iload_n hx hb dX4_init_47 rfl h k) ?_
  refine xm_Oks.step (sn_new hG rfl (by decide) fun H locs cells slots ls rest ws hP hD hS h1 h2 k => va_new (D := D) (ci := 0) (C := RX0) (T := TX0) (N := 8) hx hb ht xu_0 tyX0 tyX0_ok hown (ht _ xw_200) (ht _ xw_202) (ht _ xw_6) hK hP hD hS hA rfl (fun j hj => by rcases (show j = 0 ∨ j = 1 ∨ j = 2 ∨ j = 3 ∨ j = 4 ∨ j = 5 ∨ j = 6 ∨ j = 7 by omega) with rfl | rfl | rfl | rfl | rfl | rfl | rfl | rfl <;> rfl) h1 h2 dX4_init_48 k) ?_
  refine xm_Oks.step (sn_dup hG fun H locs cells slots ls rest v h k => lv_dup hx hb dX4_init_51 h k) ?_
  refine xm_Oks.call (xm_sndC hG hC (xm_callIN (C := RX0) ⟨hx, hb, hml, hown, hts⟩ hC.2.2.2.2.2.2.2.2.1 xw_203 xw_6 xw_204 rfl (by decide +kernel) dX4_init_52) (Nat.le_refl _) (by show 8 + (1 + 11) + 40 * d ≤ 40 * (d + 1); omega) (fun C0 h9 => by cases h9; exact ⟨0, _, _, by decide, by decide, rfl, rfl, rfl⟩) (fun as M v M1 mc ms h9 ad sz g1 g2 => ih 0 as M v M1 mc ms h9 ad sz g1 g2)) ?_
  refine xm_Oks.step (sn_aast hG (by decide) rfl fun H locs cells slots ls rest q0 qk ws a N v vs f x hP hD hS hw hv hin k => va_astq hx hb hK hP hD hS q0 4 qk 0 hw rfl hv rfl hin dX4_init_55 k) ?_
  refine xm_Oks.step (sn_inc hG fun H locs cells slots ls rest x lv lv9 j h hj he k => lv_iinc hx hb dX4_init_56 h hj rfl (by decide) he k) ?_
  refine xm_Oks.step (sn_goto hG fun H locs cells slots ls rest k => lv_goto (tgt := 37) hx hb dX4_init_59 (by decide) k) ?_
  refine xm_Oks.step (sn_ldR hG fun H locs cells slots ls rest x h k => lv_aload_n hx hb dX4_init_62 rfl h k) ?_
  refine xm_Oks.step (sn_push hG (fun _ => trivial) fun ad H locs cells slots ls rest k => lv_bipush hx hb dX4_init_63 (by decide) k) ?_
  refine xm_Oks.step (sn_newa hG rfl (by decide) (fun _ _ _ => xm_nwQ rfl (by decide)) (xr_newQ (t := 5) hx hb hown (ht _ xw_205) hSx.2.2 hK rfl hA dX4_init_65)) ?_
  refine xm_Oks.step (sn_putR hG rfl rfl (by decide) fun H locs cells slots ls rest q0 ws a fs v hP hD hS hw ⟨x, hv⟩ hl k => by subst hv; exact va_putF (D := D) (ty := .array (.object "SkyAdvisor$Pair")) (C := RX4) (T := TX4) (N := 4) hx hb ht xu_4 tyX4 tyX4_ok nmX4 hown hK hP hD hS q0 hw rfl 3 (by decide) (ht _ xw_206) (fun _ h9 => h9) rfl hn rfl (by decide +kernel) rfl rfl hl dX4_init_68 k) ?_
  refine xm_Oks.step (sn_push hG (fun _ => trivial) fun ad H locs cells slots ls rest k => lv_iconst hx hb dX4_init_71 (by decide) k) ?_
  refine xm_Oks.step (sn_stI hG fun H locs cells slots ls rest x lv lv9 h he k => lv_istore_n hx hb dX4_init_72 rfl h (by decide) he k) ?_
  refine xm_Oks.step (sn_push hG (fun _ => trivial) fun ad H locs cells slots ls rest k => lv_iconst hx hb dX4_init_73 (by decide) k) ?_
  refine xm_Oks.step (sn_stI hG fun H locs cells slots ls rest x lv lv9 h he k => lv_istore_n hx hb dX4_init_74 rfl h (by decide) he k) ?_
  refine xm_Oks.step (sn_ldI hG fun H locs cells slots ls rest x h k => lv_iload_n hx hb dX4_init_75 rfl h k) ?_
  refine xm_Oks.step (sn_push hG (fun _ => trivial) fun ad H locs cells slots ls rest k => lv_bipush hx hb dX4_init_76 (by decide) k) ?_
  refine xm_Oks.step (sn_icmp hG fun H locs cells slots ls rest x y kt kf => lv_icmp_ge (tgt := 139) hx hb dX4_init_78 (by decide) kt kf) ?_
  refine xm_Oks.step (sn_ldI hG fun H locs cells slots ls rest x h k => lv_iload_n hx hb dX4_init_81 rfl h k) ?_
  refine xm_Oks.step (sn_push hG (fun _ => trivial) fun ad H locs cells slots ls rest k => lv_iconst hx hb dX4_init_82 (by decide) k) ?_
  refine xm_Oks.step (sn_bin hG fun H locs cells slots ls rest x y k => lv_iadd hx hb dX4_init_83 k) ?_
  refine xm_Oks.step (sn_stI hG fun H locs cells slots ls rest x lv lv9 h he k => lv_istore_n hx hb dX4_init_84 rfl h (by decide) he k) ?_
  refine xm_Oks.step (sn_ldI hG fun H locs cells slots ls rest x h k => lv_iload_n hx hb dX4_init_85 rfl h k) ?_
  refine xm_Oks.step (sn_push hG (fun _ => trivial) fun ad H locs cells slots ls rest k => lv_bipush hx hb dX4_init_86 (by decide) k) ?_
  refine xm_Oks.step (sn_icmp hG fun H locs cells slots ls rest x y kt kf => lv_icmp_ge (tgt := 133) hx hb dX4_init_88 (by decide) kt kf) ?_
  refine xm_Oks.step (sn_ldR hG fun H locs cells slots ls rest x h k => lv_aload_n hx hb dX4_init_91 rfl h k) ?_
  refine xm_Oks.step (sn_getR hG rfl rfl (by decide) fun H locs cells slots ls rest q0 ws a fs v hP hw hv k => va_get (D := D) (C := RX4) (T := TX4) (N := 4) hx hb ht xu_4 hown hK hP q0 hw rfl 3 (by decide) (ht _ xw_206) (fun _ h9 => h9) hv dX4_init_92 k) ?_
  refine xm_Oks.step (sn_ldI hG fun H locs cells slots ls rest x h k => lv_iload_n hx hb dX4_init_95 rfl h k) ?_
  refine xm_Oks.step (sn_new hG rfl (by decide) fun H locs cells slots ls rest ws hP hD hS h1 h2 k => va_new (D := D) (ci := 1) (C := RX1) (T := TX1) (N := 11) hx hb ht xu_1 tyX1 tyX1_ok hown (ht _ xw_205) (ht _ xw_207) (ht _ xw_53) hK hP hD hS hA rfl (fun j hj => by rcases (show j = 0 ∨ j = 1 ∨ j = 2 ∨ j = 3 ∨ j = 4 ∨ j = 5 ∨ j = 6 ∨ j = 7 ∨ j = 8 ∨ j = 9 ∨ j = 10 by omega) with rfl | rfl | rfl | rfl | rfl | rfl | rfl | rfl | rfl | rfl | rfl <;> rfl) h1 h2 dX4_init_96 k) ?_
  refine xm_Oks.step (sn_dup hG fun H locs cells slots ls rest v h k => lv_dup hx hb dX4_init_99 h k) ?_
  refine xm_Oks.step (sn_ldR hG fun H locs cells slots ls rest x h k => lv_aload_n hx hb dX4_init_100 rfl h k) ?_
  refine xm_Oks.step (sn_getR hG rfl rfl (by decide) fun H locs cells slots ls rest q0 ws a fs v hP hw hv k => va_get (D := D) (C := RX4) (T := TX4) (N := 4) hx hb ht xu_4 hown hK hP q0 hw rfl 2 (by decide) (ht _ xw_201) (fun _ h9 => h9) hv dX4_init_101 k) ?_
  refine xm_Oks.step (sn_ldI hG fun H locs cells slots ls rest x h k => lv_iload_n hx hb dX4_init_104 rfl h k) ?_
  refine xm_Oks.step (sn_aald hG (by decide) fun H locs cells slots ls rest q0 ws a N f x hP hw hin k => va_aldq hx hb hK hP q0 4 hw rfl hin dX4_init_105 k) ?_
  refine xm_Oks.step (sn_ldR hG fun H locs cells slots ls rest x h k => lv_aload_n hx hb dX4_init_106 rfl h k) ?_
  refine xm_Oks.step (sn_getR hG rfl rfl (by decide) fun H locs cells slots ls rest q0 ws a fs v hP hw hv k => va_get (D := D) (C := RX4) (T := TX4) (N := 4) hx hb ht xu_4 hown hK hP q0 hw rfl 2 (by decide) (ht _ xw_201) (fun _ h9 => h9) hv dX4_init_107 k) ?_
  refine xm_Oks.step (sn_ldI hG fun H locs cells slots ls rest x h k => lv_iload_n hx hb dX4_init_110 rfl h k) ?_
  refine xm_Oks.step (sn_aald hG (by decide) fun H locs cells slots ls rest q0 ws a N f x hP hw hin k => va_aldq hx hb hK hP q0 4 hw rfl hin dX4_init_111 k) ?_
  refine xm_Oks.step (sn_ldR hG fun H locs cells slots ls rest x h k => lv_aload_n hx hb dX4_init_112 rfl h k) ?_
  refine xm_Oks.step (sn_getR hG rfl rfl (by decide) fun H locs cells slots ls rest q0 ws a fs v hP hw hv k => va_get (D := D) (C := RX4) (T := TX4) (N := 4) hx hb ht xu_4 hown hK hP q0 hw rfl 0 (by decide) (ht _ xw_193) (fun _ h9 => h9) hv dX4_init_113 k) ?_
  refine xm_Oks.step (sn_ldR hG fun H locs cells slots ls rest x h k => lv_aload_n hx hb dX4_init_116 rfl h k) ?_
  refine xm_Oks.step (sn_getR hG rfl rfl (by decide) fun H locs cells slots ls rest q0 ws a fs v hP hw hv k => va_get (D := D) (C := RX4) (T := TX4) (N := 4) hx hb ht xu_4 hown hK hP q0 hw rfl 1 (by decide) (ht _ xw_199) (fun _ h9 => h9) hv dX4_init_117 k) ?_
  refine xm_Oks.call (xm_sndC hG hC (xm_callI (C := RX1) ⟨hx, hb, hml, hown, hts⟩ xw_208 xw_209 xw_53 xw_210 rfl (by decide +kernel) dX4_init_120) (Nat.le_refl _) (by show 8 + (5 + 11) + 40 * d ≤ 40 * (d + 1); omega) (fun C0 h9 => by cases h9; exact ⟨1, _, _, by decide, by decide, rfl, rfl, rfl⟩) (fun as M v M1 mc ms h9 ad sz g1 g2 => ih 13 as M v M1 mc ms h9 ad sz g1 g2)) ?_
  refine xm_Oks.step (sn_aast hG (by decide) rfl fun H locs cells slots ls rest q0 qk ws a N v vs f x hP hD hS hw hv hin k => va_astq hx hb hK hP hD hS q0 4 qk 0 hw rfl hv rfl hin dX4_init_123 k) ?_
  refine xm_Oks.step (sn_inc hG fun H locs cells slots ls rest x lv lv9 j h hj he k => lv_iinc hx hb dX4_init_124 h hj rfl (by decide) he k) ?_
  refine xm_Oks.step (sn_inc hG fun H locs cells slots ls rest x lv lv9 j h hj he k => lv_iinc hx hb dX4_init_127 h hj rfl (by decide) he k) ?_
  refine xm_Oks.step (sn_goto hG fun H locs cells slots ls rest k => lv_goto (tgt := 85) hx hb dX4_init_130 (by decide) k) ?_
  refine xm_Oks.step (sn_inc hG fun H locs cells slots ls rest x lv lv9 j h hj he k => lv_iinc hx hb dX4_init_133 h hj rfl (by decide) he k) ?_
  refine xm_Oks.step (sn_goto hG fun H locs cells slots ls rest k => lv_goto (tgt := 75) hx hb dX4_init_136 (by decide) k) ?_
  refine xm_Oks.stop ?_
  exact trivial
set_option maxHeartbeats 4000000 in
set_option maxRecDepth 100000 in
theorem xk_X4_set : xm_MOk xp_pg xp_pm 54 := by
  refine ⟨by decide +kernel, rfl, ?_, ?_⟩
  · show xm_Oks _ xt_X4_set
    exact ⟨trivial, trivial, trivial, trivial, trivial, trivial, trivial, trivial, trivial, trivial, ⟨dX4_set_27, rfl⟩, trivial⟩
  intro d mc ms p l e s m args below meth c Q cA D A tS ad0 o0 G hG hC hn ih
  have hG : xm_IsG p l e (xm_room (d + 1) mc ms) s m args below meth c Q cA D A tS 3 ad0 o0 G := hG
  have hC : xm_Cx p s m args c cX4_set 3 RX4 (Cond.code yX4_set cX4_set 3 (some .int) :: xm_W) cA D A tS := hC
  have hn : meth.name = "set" := hn
  obtain ⟨hx, hb, hml, hown, hts, hK, hA, hSx, hNx⟩ := id hC
  have ht : ∀ w ∈ xm_W, w.before args s = true := fun w h => hts w (List.mem_cons_of_mem _ h)
  show xm_Oks (xm_Ent (xm_room (d + 1) mc ms) G (xm_Do xp_pg d)) xt_X4_set
  unfold xt_X4_set
  refine xm_Oks.step (sn_ldI hG fun H locs cells slots ls rest x h k => lv_iload_n hx hb dX4_set_0 rfl h k) ?_
  refine xm_Oks.step (sn_ldI hG fun H locs cells slots ls rest x h k => lv_iload_n hx hb dX4_set_1 rfl h k) ?_
  refine xm_Oks.call (xm_sndC hG hC (xm_callS ⟨hx, hb, hml, hown, hts⟩ xw_211 xw_212 xw_45 xw_213 (by decide +kernel) dX4_set_2) (Nat.le_refl _) (by show 8 + (2 + 11) + 40 * d ≤ 40 * (d + 1); omega) (fun C0 h9 => by cases h9) (fun as M v M1 mc ms h9 ad sz g1 g2 => ih 42 as M v M1 mc ms h9 ad sz g1 g2)) ?_
  refine xm_Oks.step (sn_if hG fun H locs cells slots ls rest x kt kf => lv_if_ne (tgt := 18) hx hb dX4_set_5 (by decide) kt (fun h9 => kf (fun h8 => h8 h9))) ?_
  refine xm_Oks.stop ?_
  refine xm_Oks.step (sn_ldR hG fun H locs cells slots ls rest x h k => lv_aload_n hx hb dX4_set_18 rfl h k) ?_
  refine xm_Oks.step (sn_getR hG rfl rfl (by decide) fun H locs cells slots ls rest q0 ws a fs v hP hw hv k => va_get (D := D) (C := RX4) (T := TX4) (N := 4) hx hb ht xu_4 hown hK hP q0 hw rfl 0 (by decide) (ht _ xw_193) (fun _ h9 => h9) hv dX4_set_19 k) ?_
  refine xm_Oks.step (sn_ldI hG fun H locs cells slots ls rest x h k => lv_iload_n hx hb dX4_set_22 rfl h k) ?_
  refine xm_Oks.step (sn_ldI hG fun H locs cells slots ls rest x h k => lv_iload_n hx hb dX4_set_23 rfl h k) ?_
  refine xm_Oks.call (xm_sndC hG hC (xm_callV ⟨hx, hb, hml, hown, hts⟩ xw_214 xw_215 xw_216 xw_45 xw_217 (by decide +kernel) dX4_set_24) (Nat.le_refl _) (by show 8 + (4 + 11) + 40 * d ≤ 40 * (d + 1); omega) (fun C0 h9 => by cases h9; exact ⟨2, _, _, by decide, by decide, rfl, rfl, rfl⟩) (fun as M v M1 mc ms h9 ad sz g1 g2 => ih 43 as M v M1 mc ms h9 ad sz g1 g2)) ?_
  refine xm_Oks.stop ?_
  exact trivial
set_option maxHeartbeats 4000000 in
set_option maxRecDepth 100000 in
theorem xk_X4_place : xm_MOk xp_pg xp_pm 55 := by
  refine ⟨by decide +kernel, rfl, ?_, ?_⟩
  · show xm_Oks _ xt_X4_place
    exact ⟨trivial, trivial, trivial, trivial, trivial, trivial, trivial, trivial, trivial, trivial, trivial, trivial, trivial, trivial, trivial, trivial, trivial, trivial, trivial, trivial, trivial, trivial, trivial, trivial, trivial, ⟨dX4_place_56, rfl⟩, trivial⟩
  intro d mc ms p l e s m args below meth c Q cA D A tS ad0 o0 G hG hC hn ih
  have hG : xm_IsG p l e (xm_room (d + 1) mc ms) s m args below meth c Q cA D A tS 6 ad0 o0 G := hG
  have hC : xm_Cx p s m args c cX4_place 6 RX4 (Cond.code yX4_place cX4_place 6 none :: xm_W) cA D A tS := hC
  have hn : meth.name = "place" := hn
  obtain ⟨hx, hb, hml, hown, hts, hK, hA, hSx, hNx⟩ := id hC
  have ht : ∀ w ∈ xm_W, w.before args s = true := fun w h => hts w (List.mem_cons_of_mem _ h)
  show xm_Oks (xm_Ent (xm_room (d + 1) mc ms) G (xm_Do xp_pg d)) xt_X4_place
  unfold xt_X4_place
  refine xm_Oks.step (sn_ldI hG fun H locs cells slots ls rest x h k => lv_iload_n hx hb dX4_place_0 rfl h k) ?_
  refine xm_Oks.call (xm_sndC hG hC (xm_callS ⟨hx, hb, hml, hown, hts⟩ xw_218 xw_219 xw_220 xw_221 (by decide +kernel) dX4_place_1) (Nat.le_refl _) (by show 8 + (1 + 11) + 40 * d ≤ 40 * (d + 1); omega) (fun C0 h9 => by cases h9) (fun as M v M1 mc ms h9 ad sz g1 g2 => ih 63 as M v M1 mc ms h9 ad sz g1 g2)) ?_
  refine xm_Oks.step (sn_if hG fun H locs cells slots ls rest x kt kf => lv_if_eq (tgt := 17) hx hb dX4_place_4 (by decide) kt kf) ?_
  refine xm_Oks.step (sn_ldI hG fun H locs cells slots ls rest x h k => lv_iload_n hx hb dX4_place_7 rfl h k) ?_
  refine xm_Oks.step (sn_ldI hG fun H locs cells slots ls rest x h k => lv_iload_n hx hb dX4_place_8 rfl h k) ?_
  refine xm_Oks.step (sn_ldI hG fun H locs cells slots ls rest x h k => lv_iload hx hb dX4_place_9 h k) ?_
  refine xm_Oks.call (xm_sndC hG hC (xm_callS ⟨hx, hb, hml, hown, hts⟩ xw_222 xw_223 xw_6 xw_224 (by decide +kernel) dX4_place_11) (Nat.le_refl _) (by show 8 + (3 + 11) + 40 * d ≤ 40 * (d + 1); omega) (fun C0 h9 => by cases h9) (fun as M v M1 mc ms h9 ad sz g1 g2 => ih 1 as M v M1 mc ms h9 ad sz g1 g2)) ?_
  refine xm_Oks.step (sn_if hG fun H locs cells slots ls rest x kt kf => lv_if_ne (tgt := 27) hx hb dX4_place_14 (by decide) kt (fun h9 => kf (fun h8 => h8 h9))) ?_
  refine xm_Oks.stop ?_
  refine xm_Oks.step (sn_ldR hG fun H locs cells slots ls rest x h k => lv_aload_n hx hb dX4_place_27 rfl h k) ?_
  refine xm_Oks.step (sn_getR hG rfl rfl (by decide) fun H locs cells slots ls rest q0 ws a fs v hP hw hv k => va_get (D := D) (C := RX4) (T := TX4) (N := 4) hx hb ht xu_4 hown hK hP q0 hw rfl 2 (by decide) (ht _ xw_201) (fun _ h9 => h9) hv dX4_place_28 k) ?_
  refine xm_Oks.step (sn_ldI hG fun H locs cells slots ls rest x h k => lv_iload_n hx hb dX4_place_31 rfl h k) ?_
  refine xm_Oks.step (sn_aald hG (by decide) fun H locs cells slots ls rest q0 ws a N f x hP hw hin k => va_aldq hx hb hK hP q0 4 hw rfl hin dX4_place_32 k) ?_
  refine xm_Oks.step (sn_stR hG fun H locs cells slots ls rest x lv lv9 h he k => lv_astore hx hb dX4_place_33 h (by decide) he k) ?_
  refine xm_Oks.step (sn_ldR hG fun H locs cells slots ls rest x h k => lv_aload hx hb dX4_place_35 h k) ?_
  refine xm_Oks.step (sn_ldI hG fun H locs cells slots ls rest x h k => lv_iload_n hx hb dX4_place_37 rfl h k) ?_
  refine xm_Oks.step (sn_ldI hG fun H locs cells slots ls rest x h k => lv_iload_n hx hb dX4_place_38 rfl h k) ?_
  refine xm_Oks.step (sn_ldI hG fun H locs cells slots ls rest x h k => lv_iload hx hb dX4_place_39 h k) ?_
  refine xm_Oks.call (xm_sndC hG hC (xm_callV ⟨hx, hb, hml, hown, hts⟩ xw_225 xw_226 xw_227 xw_6 xw_228 (by decide +kernel) dX4_place_41) (Nat.le_refl _) (by show 8 + (4 + 11) + 40 * d ≤ 40 * (d + 1); omega) (fun C0 h9 => by cases h9; exact ⟨0, _, _, by decide, by decide, rfl, rfl, rfl⟩) (fun as M v M1 mc ms h9 ad sz g1 g2 => ih 5 as M v M1 mc ms h9 ad sz g1 g2)) ?_
  refine xm_Oks.step (sn_ldR hG fun H locs cells slots ls rest x h k => lv_aload_n hx hb dX4_place_44 rfl h k) ?_
  refine xm_Oks.step (sn_ldR hG fun H locs cells slots ls rest x h k => lv_aload hx hb dX4_place_45 h k) ?_
  refine xm_Oks.call (xm_sndC hG hC (xm_callV ⟨hx, hb, hml, hown, hts⟩ xw_229 xw_230 xw_231 xw_220 xw_232 (by decide +kernel) dX4_place_47) (Nat.le_refl _) (by show 8 + (6 + 11) + 40 * d ≤ 40 * (d + 1); omega) (fun C0 h9 => by cases h9; exact ⟨4, _, _, by decide, by decide, rfl, rfl, rfl⟩) (fun as M v M1 mc ms h9 ad sz g1 g2 => ih 66 as M v M1 mc ms h9 ad sz g1 g2)) ?_
  refine xm_Oks.step (sn_ldR hG fun H locs cells slots ls rest x h k => lv_aload_n hx hb dX4_place_50 rfl h k) ?_
  refine xm_Oks.step (sn_ldR hG fun H locs cells slots ls rest x h k => lv_aload hx hb dX4_place_51 h k) ?_
  refine xm_Oks.call (xm_sndC hG hC (xm_callV ⟨hx, hb, hml, hown, hts⟩ xw_233 xw_234 xw_235 xw_220 xw_236 (by decide +kernel) dX4_place_53) (Nat.le_refl _) (by show 8 + (6 + 11) + 40 * d ≤ 40 * (d + 1); omega) (fun C0 h9 => by cases h9; exact ⟨4, _, _, by decide, by decide, rfl, rfl, rfl⟩) (fun as M v M1 mc ms h9 ad sz g1 g2 => ih 67 as M v M1 mc ms h9 ad sz g1 g2)) ?_
  refine xm_Oks.stop ?_
  exact trivial
set_option maxHeartbeats 4000000 in
set_option maxRecDepth 100000 in
theorem xk_X4_speed : xm_MOk xp_pg xp_pm 56 := by
  refine ⟨by decide +kernel, rfl, ?_, ?_⟩
  · show xm_Oks _ xt_X4_speed
    exact ⟨trivial, trivial, trivial, trivial, trivial, trivial, trivial, trivial, trivial, trivial, trivial, trivial, trivial, trivial, trivial, trivial, trivial, trivial, trivial, trivial, trivial, trivial, trivial, ⟨dX4_speed_51, rfl⟩, trivial⟩
  intro d mc ms p l e s m args below meth c Q cA D A tS ad0 o0 G hG hC hn ih
  have hG : xm_IsG p l e (xm_room (d + 1) mc ms) s m args below meth c Q cA D A tS 6 ad0 o0 G := hG
  have hC : xm_Cx p s m args c cX4_speed 6 RX4 (Cond.code yX4_speed cX4_speed 6 none :: xm_W) cA D A tS := hC
  have hn : meth.name = "speed" := hn
  obtain ⟨hx, hb, hml, hown, hts, hK, hA, hSx, hNx⟩ := id hC
  have ht : ∀ w ∈ xm_W, w.before args s = true := fun w h => hts w (List.mem_cons_of_mem _ h)
  show xm_Oks (xm_Ent (xm_room (d + 1) mc ms) G (xm_Do xp_pg d)) xt_X4_speed
  unfold xt_X4_speed
  refine xm_Oks.step (sn_ldR hG fun H locs cells slots ls rest x h k => lv_aload_n hx hb dX4_speed_0 rfl h k) ?_
  refine xm_Oks.step (sn_ldI hG fun H locs cells slots ls rest x h k => lv_iload_n hx hb dX4_speed_1 rfl h k) ?_
  refine xm_Oks.call (xm_sndC hG hC (xm_callV ⟨hx, hb, hml, hown, hts⟩ xw_237 xw_238 xw_239 xw_220 xw_240 (by decide +kernel) dX4_speed_2) (Nat.le_refl _) (by show 8 + (2 + 11) + 40 * d ≤ 40 * (d + 1); omega) (fun C0 h9 => by cases h9; exact ⟨4, _, _, by decide, by decide, rfl, rfl, rfl⟩) (fun as M v M1 mc ms h9 ad sz g1 g2 => ih 64 as M v M1 mc ms h9 ad sz g1 g2)) ?_
  refine xm_Oks.step (sn_if hG fun H locs cells slots ls rest x kt kf => lv_if_eq (tgt := 18) hx hb dX4_speed_5 (by decide) kt kf) ?_
  refine xm_Oks.step (sn_ldI hG fun H locs cells slots ls rest x h k => lv_iload_n hx hb dX4_speed_8 rfl h k) ?_
  refine xm_Oks.step (sn_ldI hG fun H locs cells slots ls rest x h k => lv_iload_n hx hb dX4_speed_9 rfl h k) ?_
  refine xm_Oks.step (sn_ldI hG fun H locs cells slots ls rest x h k => lv_iload hx hb dX4_speed_10 h k) ?_
  refine xm_Oks.call (xm_sndC hG hC (xm_callS ⟨hx, hb, hml, hown, hts⟩ xw_241 xw_242 xw_6 xw_243 (by decide +kernel) dX4_speed_12) (Nat.le_refl _) (by show 8 + (3 + 11) + 40 * d ≤ 40 * (d + 1); omega) (fun C0 h9 => by cases h9) (fun as M v M1 mc ms h9 ad sz g1 g2 => ih 2 as M v M1 mc ms h9 ad sz g1 g2)) ?_
  refine xm_Oks.step (sn_if hG fun H locs cells slots ls rest x kt kf => lv_if_ne (tgt := 28) hx hb dX4_speed_15 (by decide) kt (fun h9 => kf (fun h8 => h8 h9))) ?_
  refine xm_Oks.stop ?_
  refine xm_Oks.step (sn_ldR hG fun H locs cells slots ls rest x h k => lv_aload_n hx hb dX4_speed_28 rfl h k) ?_
  refine xm_Oks.step (sn_getR hG rfl rfl (by decide) fun H locs cells slots ls rest q0 ws a fs v hP hw hv k => va_get (D := D) (C := RX4) (T := TX4) (N := 4) hx hb ht xu_4 hown hK hP q0 hw rfl 2 (by decide) (ht _ xw_201) (fun _ h9 => h9) hv dX4_speed_29 k) ?_
  refine xm_Oks.step (sn_ldI hG fun H locs cells slots ls rest x h k => lv_iload_n hx hb dX4_speed_32 rfl h k) ?_
  refine xm_Oks.step (sn_aald hG (by decide) fun H locs cells slots ls rest q0 ws a N f x hP hw hin k => va_aldq hx hb hK hP q0 4 hw rfl hin dX4_speed_33 k) ?_
  refine xm_Oks.step (sn_stR hG fun H locs cells slots ls rest x lv lv9 h he k => lv_astore hx hb dX4_speed_34 h (by decide) he k) ?_
  refine xm_Oks.step (sn_ldR hG fun H locs cells slots ls rest x h k => lv_aload hx hb dX4_speed_36 h k) ?_
  refine xm_Oks.step (sn_ldI hG fun H locs cells slots ls rest x h k => lv_iload_n hx hb dX4_speed_38 rfl h k) ?_
  refine xm_Oks.step (sn_ldI hG fun H locs cells slots ls rest x h k => lv_iload_n hx hb dX4_speed_39 rfl h k) ?_
  refine xm_Oks.step (sn_ldI hG fun H locs cells slots ls rest x h k => lv_iload hx hb dX4_speed_40 h k) ?_
  refine xm_Oks.call (xm_sndC hG hC (xm_callV ⟨hx, hb, hml, hown, hts⟩ xw_244 xw_18 xw_19 xw_6 xw_20 (by decide +kernel) dX4_speed_42) (Nat.le_refl _) (by show 8 + (4 + 11) + 40 * d ≤ 40 * (d + 1); omega) (fun C0 h9 => by cases h9; exact ⟨0, _, _, by decide, by decide, rfl, rfl, rfl⟩) (fun as M v M1 mc ms h9 ad sz g1 g2 => ih 6 as M v M1 mc ms h9 ad sz g1 g2)) ?_
  refine xm_Oks.step (sn_ldR hG fun H locs cells slots ls rest x h k => lv_aload_n hx hb dX4_speed_45 rfl h k) ?_
  refine xm_Oks.step (sn_ldR hG fun H locs cells slots ls rest x h k => lv_aload hx hb dX4_speed_46 h k) ?_
  refine xm_Oks.call (xm_sndC hG hC (xm_callV ⟨hx, hb, hml, hown, hts⟩ xw_229 xw_230 xw_231 xw_220 xw_232 (by decide +kernel) dX4_speed_48) (Nat.le_refl _) (by show 8 + (6 + 11) + 40 * d ≤ 40 * (d + 1); omega) (fun C0 h9 => by cases h9; exact ⟨4, _, _, by decide, by decide, rfl, rfl, rfl⟩) (fun as M v M1 mc ms h9 ad sz g1 g2 => ih 66 as M v M1 mc ms h9 ad sz g1 g2)) ?_
  refine xm_Oks.stop ?_
  exact trivial
set_option maxHeartbeats 4000000 in
set_option maxRecDepth 100000 in
theorem xk_X4_follow : xm_MOk xp_pg xp_pm 57 := by
  refine ⟨by decide +kernel, rfl, ?_, ?_⟩
  · show xm_Oks _ xt_X4_follow
    exact ⟨trivial, trivial, trivial, trivial, trivial, trivial, trivial, trivial, trivial, trivial, trivial, ⟨dX4_follow_28, rfl⟩, trivial⟩
  intro d mc ms p l e s m args below meth c Q cA D A tS ad0 o0 G hG hC hn ih
  have hG : xm_IsG p l e (xm_room (d + 1) mc ms) s m args below meth c Q cA D A tS 3 ad0 o0 G := hG
  have hC : xm_Cx p s m args c cX4_follow 3 RX4 (Cond.code yX4_follow cX4_follow 3 none :: xm_W) cA D A tS := hC
  have hn : meth.name = "follow" := hn
  obtain ⟨hx, hb, hml, hown, hts, hK, hA, hSx, hNx⟩ := id hC
  have ht : ∀ w ∈ xm_W, w.before args s = true := fun w h => hts w (List.mem_cons_of_mem _ h)
  show xm_Oks (xm_Ent (xm_room (d + 1) mc ms) G (xm_Do xp_pg d)) xt_X4_follow
  unfold xt_X4_follow
  refine xm_Oks.step (sn_ldR hG fun H locs cells slots ls rest x h k => lv_aload_n hx hb dX4_follow_0 rfl h k) ?_
  refine xm_Oks.step (sn_ldI hG fun H locs cells slots ls rest x h k => lv_iload_n hx hb dX4_follow_1 rfl h k) ?_
  refine xm_Oks.call (xm_sndC hG hC (xm_callV ⟨hx, hb, hml, hown, hts⟩ xw_237 xw_238 xw_239 xw_220 xw_240 (by decide +kernel) dX4_follow_2) (Nat.le_refl _) (by show 8 + (2 + 11) + 40 * d ≤ 40 * (d + 1); omega) (fun C0 h9 => by cases h9; exact ⟨4, _, _, by decide, by decide, rfl, rfl, rfl⟩) (fun as M v M1 mc ms h9 ad sz g1 g2 => ih 64 as M v M1 mc ms h9 ad sz g1 g2)) ?_
  refine xm_Oks.step (sn_if hG fun H locs cells slots ls rest x kt kf => lv_if_ne (tgt := 18) hx hb dX4_follow_5 (by decide) kt (fun h9 => kf (fun h8 => h8 h9))) ?_
  refine xm_Oks.stop ?_
  refine xm_Oks.step (sn_ldR hG fun H locs cells slots ls rest x h k => lv_aload_n hx hb dX4_follow_18 rfl h k) ?_
  refine xm_Oks.step (sn_getR hG rfl rfl (by decide) fun H locs cells slots ls rest q0 ws a fs v hP hw hv k => va_get (D := D) (C := RX4) (T := TX4) (N := 4) hx hb ht xu_4 hown hK hP q0 hw rfl 2 (by decide) (ht _ xw_201) (fun _ h9 => h9) hv dX4_follow_19 k) ?_
  refine xm_Oks.step (sn_ldI hG fun H locs cells slots ls rest x h k => lv_iload_n hx hb dX4_follow_22 rfl h k) ?_
  refine xm_Oks.step (sn_aald hG (by decide) fun H locs cells slots ls rest q0 ws a N f x hP hw hin k => va_aldq hx hb hK hP q0 4 hw rfl hin dX4_follow_23 k) ?_
  refine xm_Oks.step (sn_ldI hG fun H locs cells slots ls rest x h k => lv_iload_n hx hb dX4_follow_24 rfl h k) ?_
  refine xm_Oks.step (sn_putZ hG rfl rfl (by decide) (by decide) fun H locs cells slots ls rest q0 ws a fs v hP hD hS hw hv hl k => by rcases hv with rfl | rfl <;> exact va_put (D := D) (ty := .boolean) (C := RX0) (T := TX0) (N := 8) hx hb ht xu_0 tyX0 tyX0_ok nmX0 hown hK hP hD hS q0 hw rfl 1 (by decide) (ht _ xw_245) (fun _ h9 => h9) rfl (by decide +kernel) rfl rfl hl dX4_follow_25 k) ?_
  refine xm_Oks.stop ?_
  exact trivial
set_option maxHeartbeats 4000000 in
set_option maxRecDepth 100000 in
theorem xk_X4_leave : xm_MOk xp_pg xp_pm 58 := by
  refine ⟨by decide +kernel, rfl, ?_, ?_⟩
  · show xm_Oks _ xt_X4_leave
    exact ⟨trivial, trivial, trivial, trivial, trivial, trivial, trivial, trivial, trivial, trivial, trivial, trivial, trivial, trivial, trivial, trivial, ⟨dX4_leave_35, rfl⟩, trivial⟩
  intro d mc ms p l e s m args below meth c Q cA D A tS ad0 o0 G hG hC hn ih
  have hG : xm_IsG p l e (xm_room (d + 1) mc ms) s m args below meth c Q cA D A tS 3 ad0 o0 G := hG
  have hC : xm_Cx p s m args c cX4_leave 3 RX4 (Cond.code yX4_leave cX4_leave 3 none :: xm_W) cA D A tS := hC
  have hn : meth.name = "leave" := hn
  obtain ⟨hx, hb, hml, hown, hts, hK, hA, hSx, hNx⟩ := id hC
  have ht : ∀ w ∈ xm_W, w.before args s = true := fun w h => hts w (List.mem_cons_of_mem _ h)
  show xm_Oks (xm_Ent (xm_room (d + 1) mc ms) G (xm_Do xp_pg d)) xt_X4_leave
  unfold xt_X4_leave
  refine xm_Oks.step (sn_ldR hG fun H locs cells slots ls rest x h k => lv_aload_n hx hb dX4_leave_0 rfl h k) ?_
  refine xm_Oks.step (sn_ldI hG fun H locs cells slots ls rest x h k => lv_iload_n hx hb dX4_leave_1 rfl h k) ?_
  refine xm_Oks.call (xm_sndC hG hC (xm_callV ⟨hx, hb, hml, hown, hts⟩ xw_237 xw_238 xw_239 xw_220 xw_240 (by decide +kernel) dX4_leave_2) (Nat.le_refl _) (by show 8 + (2 + 11) + 40 * d ≤ 40 * (d + 1); omega) (fun C0 h9 => by cases h9; exact ⟨4, _, _, by decide, by decide, rfl, rfl, rfl⟩) (fun as M v M1 mc ms h9 ad sz g1 g2 => ih 64 as M v M1 mc ms h9 ad sz g1 g2)) ?_
  refine xm_Oks.step (sn_if hG fun H locs cells slots ls rest x kt kf => lv_if_ne (tgt := 18) hx hb dX4_leave_5 (by decide) kt (fun h9 => kf (fun h8 => h8 h9))) ?_
  refine xm_Oks.stop ?_
  refine xm_Oks.step (sn_ldR hG fun H locs cells slots ls rest x h k => lv_aload_n hx hb dX4_leave_18 rfl h k) ?_
  refine xm_Oks.step (sn_getR hG rfl rfl (by decide) fun H locs cells slots ls rest q0 ws a fs v hP hw hv k => va_get (D := D) (C := RX4) (T := TX4) (N := 4) hx hb ht xu_4 hown hK hP q0 hw rfl 2 (by decide) (ht _ xw_201) (fun _ h9 => h9) hv dX4_leave_19 k) ?_
  refine xm_Oks.step (sn_ldI hG fun H locs cells slots ls rest x h k => lv_iload_n hx hb dX4_leave_22 rfl h k) ?_
  refine xm_Oks.step (sn_aald hG (by decide) fun H locs cells slots ls rest q0 ws a N f x hP hw hin k => va_aldq hx hb hK hP q0 4 hw rfl hin dX4_leave_23 k) ?_
  refine xm_Oks.step (sn_stR hG fun H locs cells slots ls rest x lv lv9 h he k => lv_astore_n hx hb dX4_leave_24 rfl h (by decide) he k) ?_
  refine xm_Oks.step (sn_ldR hG fun H locs cells slots ls rest x h k => lv_aload_n hx hb dX4_leave_25 rfl h k) ?_
  refine xm_Oks.step (sn_push hG (fun _ => trivial) fun ad H locs cells slots ls rest k => lv_iconst hx hb dX4_leave_26 (by decide) k) ?_
  refine xm_Oks.step (sn_putZ hG rfl rfl (by decide) (by decide) fun H locs cells slots ls rest q0 ws a fs v hP hD hS hw hv hl k => by rcases hv with rfl | rfl <;> exact va_put (D := D) (ty := .boolean) (C := RX0) (T := TX0) (N := 8) hx hb ht xu_0 tyX0 tyX0_ok nmX0 hown hK hP hD hS q0 hw rfl 0 (by decide) (ht _ xw_246) (fun _ h9 => h9) rfl (by decide +kernel) rfl rfl hl dX4_leave_27 k) ?_
  refine xm_Oks.step (sn_ldR hG fun H locs cells slots ls rest x h k => lv_aload_n hx hb dX4_leave_30 rfl h k) ?_
  refine xm_Oks.step (sn_ldR hG fun H locs cells slots ls rest x h k => lv_aload_n hx hb dX4_leave_31 rfl h k) ?_
  refine xm_Oks.call (xm_sndC hG hC (xm_callV ⟨hx, hb, hml, hown, hts⟩ xw_229 xw_230 xw_231 xw_220 xw_232 (by decide +kernel) dX4_leave_32) (Nat.le_refl _) (by show 8 + (6 + 11) + 40 * d ≤ 40 * (d + 1); omega) (fun C0 h9 => by cases h9; exact ⟨4, _, _, by decide, by decide, rfl, rfl, rfl⟩) (fun as M v M1 mc ms h9 ad sz g1 g2 => ih 66 as M v M1 mc ms h9 ad sz g1 g2)) ?_
  refine xm_Oks.stop ?_
  exact trivial
set_option maxHeartbeats 4000000 in
set_option maxRecDepth 100000 in
theorem xk_X4_step : xm_MOk xp_pg xp_pm 59 := by
  refine ⟨by decide +kernel, rfl, ?_, ?_⟩
  · show xm_Oks _ xt_X4_step
    exact ⟨trivial, trivial, trivial, trivial, trivial, trivial, trivial, trivial, trivial, trivial, trivial, trivial, trivial, trivial, trivial, trivial, trivial, ⟨dX4_step_42, rfl⟩, trivial⟩
  intro d mc ms p l e s m args below meth c Q cA D A tS ad0 o0 G hG hC hn ih
  have hG : xm_IsG p l e (xm_room (d + 1) mc ms) s m args below meth c Q cA D A tS 3 ad0 o0 G := hG
  have hC : xm_Cx p s m args c cX4_step 3 RX4 (Cond.code yX4_step cX4_step 3 (some .int) :: xm_W) cA D A tS := hC
  have hn : meth.name = "step" := hn
  obtain ⟨hx, hb, hml, hown, hts, hK, hA, hSx, hNx⟩ := id hC
  have ht : ∀ w ∈ xm_W, w.before args s = true := fun w h => hts w (List.mem_cons_of_mem _ h)
  show xm_Oks (xm_Ent (xm_room (d + 1) mc ms) G (xm_Do xp_pg d)) xt_X4_step
  unfold xt_X4_step
  refine xm_Oks.step (sn_ldI hG fun H locs cells slots ls rest x h k => lv_iload_n hx hb dX4_step_0 rfl h k) ?_
  refine xm_Oks.step (sn_if hG fun H locs cells slots ls rest x kt kf => lv_if_lt (tgt := 11) hx hb dX4_step_1 (by decide) kt kf) ?_
  refine xm_Oks.step (sn_ldI hG fun H locs cells slots ls rest x h k => lv_iload_n hx hb dX4_step_4 rfl h k) ?_
  refine xm_Oks.step (sn_push hG (fun _ => trivial) fun ad H locs cells slots ls rest k => lv_sipush hx hb dX4_step_5 (by decide) k) ?_
  refine xm_Oks.step (sn_icmp hG fun H locs cells slots ls rest x y kt kf => lv_icmp_le (tgt := 21) hx hb dX4_step_8 (by decide) kt kf) ?_
  refine xm_Oks.stop ?_
  refine xm_Oks.step (sn_push hG (fun _ => trivial) fun ad H locs cells slots ls rest k => lv_iconst hx hb dX4_step_21 (by decide) k) ?_
  refine xm_Oks.step (sn_stI hG fun H locs cells slots ls rest x lv lv9 h he k => lv_istore_n hx hb dX4_step_22 rfl h (by decide) he k) ?_
  refine xm_Oks.step (sn_ldI hG fun H locs cells slots ls rest x h k => lv_iload_n hx hb dX4_step_23 rfl h k) ?_
  refine xm_Oks.step (sn_ldI hG fun H locs cells slots ls rest x h k => lv_iload_n hx hb dX4_step_24 rfl h k) ?_
  refine xm_Oks.step (sn_icmp hG fun H locs cells slots ls rest x y kt kf => lv_icmp_ge (tgt := 38) hx hb dX4_step_25 (by decide) kt kf) ?_
  refine xm_Oks.step (sn_ldR hG fun H locs cells slots ls rest x h k => lv_aload_n hx hb dX4_step_28 rfl h k) ?_
  refine xm_Oks.call (xm_sndC hG hC (xm_callV ⟨hx, hb, hml, hown, hts⟩ xw_247 xw_248 xw_249 xw_220 xw_250 (by decide +kernel) dX4_step_29) (Nat.le_refl _) (by show 8 + (5 + 11) + 40 * d ≤ 40 * (d + 1); omega) (fun C0 h9 => by cases h9; exact ⟨4, _, _, by decide, by decide, rfl, rfl, rfl⟩) (fun as M v M1 mc ms h9 ad sz g1 g2 => ih 68 as M v M1 mc ms h9 ad sz g1 g2)) ?_
  refine xm_Oks.step (sn_inc hG fun H locs cells slots ls rest x lv lv9 j h hj he k => lv_iinc hx hb dX4_step_32 h hj rfl (by decide) he k) ?_
  refine xm_Oks.step (sn_goto hG fun H locs cells slots ls rest k => lv_goto (tgt := 23) hx hb dX4_step_35 (by decide) k) ?_
  refine xm_Oks.step (sn_ldR hG fun H locs cells slots ls rest x h k => lv_aload_n hx hb dX4_step_38 rfl h k) ?_
  refine xm_Oks.call (xm_sndC hG hC (xm_callV ⟨hx, hb, hml, hown, hts⟩ xw_251 xw_252 xw_253 xw_220 xw_254 (by decide +kernel) dX4_step_39) (Nat.le_refl _) (by show 8 + (6 + 11) + 40 * d ≤ 40 * (d + 1); omega) (fun C0 h9 => by cases h9; exact ⟨4, _, _, by decide, by decide, rfl, rfl, rfl⟩) (fun as M v M1 mc ms h9 ad sz g1 g2 => ih 70 as M v M1 mc ms h9 ad sz g1 g2)) ?_
  refine xm_Oks.stop ?_
  exact trivial
set_option maxHeartbeats 4000000 in
set_option maxRecDepth 100000 in
theorem xk_X4_told : xm_MOk xp_pg xp_pm 60 := by
  refine ⟨by decide +kernel, rfl, ?_, ?_⟩
  · show xm_Oks _ xt_X4_told
    exact ⟨trivial, trivial, trivial, trivial, trivial, trivial, trivial, trivial, trivial, trivial, trivial, trivial, trivial, trivial, trivial, trivial, ⟨dX4_told_38, rfl⟩, trivial⟩
  intro d mc ms p l e s m args below meth c Q cA D A tS ad0 o0 G hG hC hn ih
  have hG : xm_IsG p l e (xm_room (d + 1) mc ms) s m args below meth c Q cA D A tS 3 ad0 o0 G := hG
  have hC : xm_Cx p s m args c cX4_told 3 RX4 (Cond.code yX4_told cX4_told 3 (some .int) :: xm_W) cA D A tS := hC
  have hn : meth.name = "told" := hn
  obtain ⟨hx, hb, hml, hown, hts, hK, hA, hSx, hNx⟩ := id hC
  have ht : ∀ w ∈ xm_W, w.before args s = true := fun w h => hts w (List.mem_cons_of_mem _ h)
  show xm_Oks (xm_Ent (xm_room (d + 1) mc ms) G (xm_Do xp_pg d)) xt_X4_told
  unfold xt_X4_told
  refine xm_Oks.step (sn_ldR hG fun H locs cells slots ls rest x h k => lv_aload_n hx hb dX4_told_0 rfl h k) ?_
  refine xm_Oks.step (sn_ldI hG fun H locs cells slots ls rest x h k => lv_iload_n hx hb dX4_told_1 rfl h k) ?_
  refine xm_Oks.call (xm_sndC hG hC (xm_callV ⟨hx, hb, hml, hown, hts⟩ xw_237 xw_238 xw_239 xw_220 xw_240 (by decide +kernel) dX4_told_2) (Nat.le_refl _) (by show 8 + (2 + 11) + 40 * d ≤ 40 * (d + 1); omega) (fun C0 h9 => by cases h9; exact ⟨4, _, _, by decide, by decide, rfl, rfl, rfl⟩) (fun as M v M1 mc ms h9 ad sz g1 g2 => ih 64 as M v M1 mc ms h9 ad sz g1 g2)) ?_
  refine xm_Oks.step (sn_if hG fun H locs cells slots ls rest x kt kf => lv_if_eq (tgt := 18) hx hb dX4_told_5 (by decide) kt kf) ?_
  refine xm_Oks.step (sn_ldI hG fun H locs cells slots ls rest x h k => lv_iload_n hx hb dX4_told_8 rfl h k) ?_
  refine xm_Oks.step (sn_if hG fun H locs cells slots ls rest x kt kf => lv_if_lt (tgt := 18) hx hb dX4_told_9 (by decide) kt kf) ?_
  refine xm_Oks.step (sn_ldI hG fun H locs cells slots ls rest x h k => lv_iload_n hx hb dX4_told_12 rfl h k) ?_
  refine xm_Oks.step (sn_push hG (fun _ => trivial) fun ad H locs cells slots ls rest k => lv_bipush hx hb dX4_told_13 (by decide) k) ?_
  refine xm_Oks.step (sn_icmp hG fun H locs cells slots ls rest x y kt kf => lv_icmp_le (tgt := 28) hx hb dX4_told_15 (by decide) kt kf) ?_
  refine xm_Oks.stop ?_
  refine xm_Oks.step (sn_ldR hG fun H locs cells slots ls rest x h k => lv_aload_n hx hb dX4_told_28 rfl h k) ?_
  refine xm_Oks.step (sn_getR hG rfl rfl (by decide) fun H locs cells slots ls rest q0 ws a fs v hP hw hv k => va_get (D := D) (C := RX4) (T := TX4) (N := 4) hx hb ht xu_4 hown hK hP q0 hw rfl 2 (by decide) (ht _ xw_201) (fun _ h9 => h9) hv dX4_told_29 k) ?_
  refine xm_Oks.step (sn_ldI hG fun H locs cells slots ls rest x h k => lv_iload_n hx hb dX4_told_32 rfl h k) ?_
  refine xm_Oks.step (sn_aald hG (by decide) fun H locs cells slots ls rest q0 ws a N f x hP hw hin k => va_aldq hx hb hK hP q0 4 hw rfl hin dX4_told_33 k) ?_
  refine xm_Oks.step (sn_ldI hG fun H locs cells slots ls rest x h k => lv_iload_n hx hb dX4_told_34 rfl h k) ?_
  refine xm_Oks.call (xm_sndC hG hC (xm_callV ⟨hx, hb, hml, hown, hts⟩ xw_255 xw_256 xw_257 xw_6 xw_258 (by decide +kernel) dX4_told_35) (Nat.le_refl _) (by show 8 + (2 + 11) + 40 * d ≤ 40 * (d + 1); omega) (fun C0 h9 => by cases h9; exact ⟨0, _, _, by decide, by decide, rfl, rfl, rfl⟩) (fun as M v M1 mc ms h9 ad sz g1 g2 => ih 12 as M v M1 mc ms h9 ad sz g1 g2)) ?_
  refine xm_Oks.stop ?_
  exact trivial
set_option maxHeartbeats 4000000 in
set_option maxRecDepth 100000 in
theorem xk_X4_pair : xm_MOk xp_pg xp_pm 61 := by
  refine ⟨by decide +kernel, rfl, ?_, ?_⟩
  · show xm_Oks _ xt_X4_pair
    exact ⟨trivial, trivial, trivial, trivial, trivial, trivial, trivial, trivial, trivial, trivial, trivial, trivial, trivial, trivial, trivial, trivial, trivial, trivial, trivial, trivial, trivial, trivial, trivial, trivial, trivial, trivial, trivial, trivial, trivial, trivial, trivial, trivial, trivial, trivial, trivial, ⟨dX4_pair_73, rfl⟩, trivial⟩
  intro d mc ms p l e s m args below meth c Q cA D A tS ad0 o0 G hG hC hn ih
  have hG : xm_IsG p l e (xm_room (d + 1) mc ms) s m args below meth c Q cA D A tS 4 ad0 o0 G := hG
  have hC : xm_Cx p s m args c cX4_pair 4 RX4 (Cond.code yX4_pair cX4_pair 4 (some .int) :: xm_W) cA D A tS := hC
  have hn : meth.name = "pair" := hn
  obtain ⟨hx, hb, hml, hown, hts, hK, hA, hSx, hNx⟩ := id hC
  have ht : ∀ w ∈ xm_W, w.before args s = true := fun w h => hts w (List.mem_cons_of_mem _ h)
  show xm_Oks (xm_Ent (xm_room (d + 1) mc ms) G (xm_Do xp_pg d)) xt_X4_pair
  unfold xt_X4_pair
  refine xm_Oks.step (sn_ldI hG fun H locs cells slots ls rest x h k => lv_iload_n hx hb dX4_pair_0 rfl h k) ?_
  refine xm_Oks.step (sn_ldI hG fun H locs cells slots ls rest x h k => lv_iload_n hx hb dX4_pair_1 rfl h k) ?_
  refine xm_Oks.step (sn_icmp hG fun H locs cells slots ls rest x y kt kf => lv_icmp_eq (tgt := 31) hx hb dX4_pair_2 (by decide) kt kf) ?_
  refine xm_Oks.step (sn_ldR hG fun H locs cells slots ls rest x h k => lv_aload_n hx hb dX4_pair_5 rfl h k) ?_
  refine xm_Oks.step (sn_ldI hG fun H locs cells slots ls rest x h k => lv_iload_n hx hb dX4_pair_6 rfl h k) ?_
  refine xm_Oks.call (xm_sndC hG hC (xm_callV ⟨hx, hb, hml, hown, hts⟩ xw_237 xw_238 xw_239 xw_220 xw_240 (by decide +kernel) dX4_pair_7) (Nat.le_refl _) (by show 8 + (2 + 11) + 40 * d ≤ 40 * (d + 1); omega) (fun C0 h9 => by cases h9; exact ⟨4, _, _, by decide, by decide, rfl, rfl, rfl⟩) (fun as M v M1 mc ms h9 ad sz g1 g2 => ih 64 as M v M1 mc ms h9 ad sz g1 g2)) ?_
  refine xm_Oks.step (sn_if hG fun H locs cells slots ls rest x kt kf => lv_if_eq (tgt := 31) hx hb dX4_pair_10 (by decide) kt kf) ?_
  refine xm_Oks.step (sn_ldR hG fun H locs cells slots ls rest x h k => lv_aload_n hx hb dX4_pair_13 rfl h k) ?_
  refine xm_Oks.step (sn_ldI hG fun H locs cells slots ls rest x h k => lv_iload_n hx hb dX4_pair_14 rfl h k) ?_
  refine xm_Oks.call (xm_sndC hG hC (xm_callV ⟨hx, hb, hml, hown, hts⟩ xw_237 xw_238 xw_239 xw_220 xw_240 (by decide +kernel) dX4_pair_15) (Nat.le_refl _) (by show 8 + (2 + 11) + 40 * d ≤ 40 * (d + 1); omega) (fun C0 h9 => by cases h9; exact ⟨4, _, _, by decide, by decide, rfl, rfl, rfl⟩) (fun as M v M1 mc ms h9 ad sz g1 g2 => ih 64 as M v M1 mc ms h9 ad sz g1 g2)) ?_
  refine xm_Oks.step (sn_if hG fun H locs cells slots ls rest x kt kf => lv_if_eq (tgt := 31) hx hb dX4_pair_18 (by decide) kt kf) ?_
  refine xm_Oks.step (sn_ldI hG fun H locs cells slots ls rest x h k => lv_iload_n hx hb dX4_pair_21 rfl h k) ?_
  refine xm_Oks.step (sn_if hG fun H locs cells slots ls rest x kt kf => lv_if_lt (tgt := 31) hx hb dX4_pair_22 (by decide) kt kf) ?_
  refine xm_Oks.step (sn_ldI hG fun H locs cells slots ls rest x h k => lv_iload_n hx hb dX4_pair_25 rfl h k) ?_
  refine xm_Oks.step (sn_push hG (fun _ => trivial) fun ad H locs cells slots ls rest k => lv_bipush hx hb dX4_pair_26 (by decide) k) ?_
  refine xm_Oks.step (sn_icmp hG fun H locs cells slots ls rest x y kt kf => lv_icmp_le (tgt := 41) hx hb dX4_pair_28 (by decide) kt kf) ?_
  refine xm_Oks.stop ?_
  refine xm_Oks.step (sn_ldR hG fun H locs cells slots ls rest x h k => lv_aload_n hx hb dX4_pair_41 rfl h k) ?_
  refine xm_Oks.step (sn_getR hG rfl rfl (by decide) fun H locs cells slots ls rest q0 ws a fs v hP hw hv k => va_get (D := D) (C := RX4) (T := TX4) (N := 4) hx hb ht xu_4 hown hK hP q0 hw rfl 3 (by decide) (ht _ xw_206) (fun _ h9 => h9) hv dX4_pair_42 k) ?_
  refine xm_Oks.step (sn_ldI hG fun H locs cells slots ls rest x h k => lv_iload_n hx hb dX4_pair_45 rfl h k) ?_
  refine xm_Oks.step (sn_ldI hG fun H locs cells slots ls rest x h k => lv_iload_n hx hb dX4_pair_46 rfl h k) ?_
  refine xm_Oks.step (sn_mbin hG fun H locs cells slots ls rest x y h1 h2 h3 h4 k => va_mmin hx hb (hml.trans h1.symm) hown (ht _ xw_259) (ht _ xw_9) (ht _ xw_10) (ht _ xw_11) (Nat.le_add_left 1 d) (by show _ + 13 ≤ 40 * (d + 1); omega) h2 h3 dX4_pair_47 k) ?_
  refine xm_Oks.step (sn_ldI hG fun H locs cells slots ls rest x h k => lv_iload_n hx hb dX4_pair_50 rfl h k) ?_
  refine xm_Oks.step (sn_ldI hG fun H locs cells slots ls rest x h k => lv_iload_n hx hb dX4_pair_51 rfl h k) ?_
  refine xm_Oks.step (sn_mbin hG fun H locs cells slots ls rest x y h1 h2 h3 h4 k => va_mmax hx hb (hml.trans h1.symm) hown (ht _ xw_260) (ht _ xw_13) (ht _ xw_10) (ht _ xw_14) (Nat.le_add_left 1 d) (by show _ + 13 ≤ 40 * (d + 1); omega) h2 h3 dX4_pair_52 k) ?_
  refine xm_Oks.call (xm_sndC hG hC (xm_callS ⟨hx, hb, hml, hown, hts⟩ xw_261 xw_262 xw_220 xw_263 (by decide +kernel) dX4_pair_55) (Nat.le_refl _) (by show 8 + (2 + 11) + 40 * d ≤ 40 * (d + 1); omega) (fun C0 h9 => by cases h9) (fun as M v M1 mc ms h9 ad sz g1 g2 => ih 65 as M v M1 mc ms h9 ad sz g1 g2)) ?_
  refine xm_Oks.step (sn_aald hG (by decide) fun H locs cells slots ls rest q0 ws a N f x hP hw hin k => va_aldq hx hb hK hP q0 5 hw rfl hin dX4_pair_58 k) ?_
  refine xm_Oks.step (sn_ldI hG fun H locs cells slots ls rest x h k => lv_iload_n hx hb dX4_pair_59 rfl h k) ?_
  refine xm_Oks.step (sn_ldI hG fun H locs cells slots ls rest x h k => lv_iload_n hx hb dX4_pair_60 rfl h k) ?_
  refine xm_Oks.step (sn_ldI hG fun H locs cells slots ls rest x h k => lv_iload_n hx hb dX4_pair_61 rfl h k) ?_
  refine xm_Oks.step (sn_icmp hG fun H locs cells slots ls rest x y kt kf => lv_icmp_ge (tgt := 69) hx hb dX4_pair_62 (by decide) kt kf) ?_
  refine xm_Oks.step (sn_push hG (fun _ => trivial) fun ad H locs cells slots ls rest k => lv_iconst hx hb dX4_pair_65 (by decide) k) ?_
  refine xm_Oks.step (sn_goto hG fun H locs cells slots ls rest k => lv_goto (tgt := 70) hx hb dX4_pair_66 (by decide) k) ?_
  refine xm_Oks.step (sn_push hG (fun _ => trivial) fun ad H locs cells slots ls rest k => lv_iconst hx hb dX4_pair_69 (by decide) k) ?_
  refine xm_Oks.call (xm_sndC hG hC (xm_callV ⟨hx, hb, hml, hown, hts⟩ xw_264 xw_265 xw_266 xw_53 xw_267 (by decide +kernel) dX4_pair_70) (Nat.le_refl _) (by show 8 + (3 + 11) + 40 * d ≤ 40 * (d + 1); omega) (fun C0 h9 => by cases h9; exact ⟨1, _, _, by decide, by decide, rfl, rfl, rfl⟩) (fun as M v M1 mc ms h9 ad sz g1 g2 => ih 25 as M v M1 mc ms h9 ad sz g1 g2)) ?_
  refine xm_Oks.stop ?_
  exact trivial
set_option maxHeartbeats 4000000 in
set_option maxRecDepth 100000 in
theorem xk_X4_all : xm_MOk xp_pg xp_pm 62 := by
  refine ⟨by decide +kernel, rfl, ?_, ?_⟩
  · show xm_Oks _ xt_X4_all
    exact ⟨trivial, trivial, trivial, trivial, trivial, trivial, trivial, trivial, trivial, trivial, ⟨dX4_all_27, rfl⟩, trivial⟩
  intro d mc ms p l e s m args below meth c Q cA D A tS ad0 o0 G hG hC hn ih
  have hG : xm_IsG p l e (xm_room (d + 1) mc ms) s m args below meth c Q cA D A tS 2 ad0 o0 G := hG
  have hC : xm_Cx p s m args c cX4_all 2 RX4 (Cond.code yX4_all cX4_all 2 (some .int) :: xm_W) cA D A tS := hC
  have hn : meth.name = "all" := hn
  obtain ⟨hx, hb, hml, hown, hts, hK, hA, hSx, hNx⟩ := id hC
  have ht : ∀ w ∈ xm_W, w.before args s = true := fun w h => hts w (List.mem_cons_of_mem _ h)
  show xm_Oks (xm_Ent (xm_room (d + 1) mc ms) G (xm_Do xp_pg d)) xt_X4_all
  unfold xt_X4_all
  refine xm_Oks.step (sn_ldI hG fun H locs cells slots ls rest x h k => lv_iload_n hx hb dX4_all_0 rfl h k) ?_
  refine xm_Oks.step (sn_if hG fun H locs cells slots ls rest x kt kf => lv_if_lt (tgt := 9) hx hb dX4_all_1 (by decide) kt kf) ?_
  refine xm_Oks.step (sn_ldI hG fun H locs cells slots ls rest x h k => lv_iload_n hx hb dX4_all_4 rfl h k) ?_
  refine xm_Oks.step (sn_push hG (fun _ => trivial) fun ad H locs cells slots ls rest k => lv_iconst hx hb dX4_all_5 (by decide) k) ?_
  refine xm_Oks.step (sn_icmp hG fun H locs cells slots ls rest x y kt kf => lv_icmp_le (tgt := 19) hx hb dX4_all_6 (by decide) kt kf) ?_
  refine xm_Oks.stop ?_
  refine xm_Oks.step (sn_ldR hG fun H locs cells slots ls rest x h k => lv_aload_n hx hb dX4_all_19 rfl h k) ?_
  refine xm_Oks.step (sn_getR hG rfl rfl (by decide) fun H locs cells slots ls rest q0 ws a fs v hP hw hv k => va_get (D := D) (C := RX4) (T := TX4) (N := 4) hx hb ht xu_4 hown hK hP q0 hw rfl 1 (by decide) (ht _ xw_199) (fun _ h9 => h9) hv dX4_all_20 k) ?_
  refine xm_Oks.step (sn_ldI hG fun H locs cells slots ls rest x h k => lv_iload_n hx hb dX4_all_23 rfl h k) ?_
  refine xm_Oks.call (xm_sndC hG hC (xm_callV ⟨hx, hb, hml, hown, hts⟩ xw_268 xw_269 xw_270 xw_196 xw_271 (by decide +kernel) dX4_all_24) (Nat.le_refl _) (by show 8 + (2 + 11) + 40 * d ≤ 40 * (d + 1); omega) (fun C0 h9 => by cases h9; exact ⟨3, _, _, by decide, by decide, rfl, rfl, rfl⟩) (fun as M v M1 mc ms h9 ad sz g1 g2 => ih 52 as M v M1 mc ms h9 ad sz g1 g2)) ?_
  refine xm_Oks.stop ?_
  exact trivial
set_option maxHeartbeats 4000000 in
set_option maxRecDepth 100000 in
theorem xk_X4_isNumber : xm_MOk xp_pg xp_pm 63 := by
  refine ⟨by decide +kernel, rfl, ?_, ?_⟩
  · show xm_Oks _ xt_X4_isNumber
    exact ⟨trivial, trivial, trivial, trivial, trivial, trivial, trivial, trivial, ⟨dX4_isNumber_15, rfl⟩, trivial⟩
  intro d mc ms p l e s m args below meth c Q cA D A tS ad0 o0 G hG hC hn ih
  have hG : xm_IsG p l e (xm_room (d + 1) mc ms) s m args below meth c Q cA D A tS 1 ad0 o0 G := hG
  have hC : xm_Cx p s m args c cX4_isNumber 1 RX4 (Cond.code yX4_isNumber cX4_isNumber 1 (some .boolean) :: xm_W) cA D A tS := hC
  have hn : meth.name = "isNumber" := hn
  obtain ⟨hx, hb, hml, hown, hts, hK, hA, hSx, hNx⟩ := id hC
  have ht : ∀ w ∈ xm_W, w.before args s = true := fun w h => hts w (List.mem_cons_of_mem _ h)
  show xm_Oks (xm_Ent (xm_room (d + 1) mc ms) G (xm_Do xp_pg d)) xt_X4_isNumber
  unfold xt_X4_isNumber
  refine xm_Oks.step (sn_ldI hG fun H locs cells slots ls rest x h k => lv_iload_n hx hb dX4_isNumber_0 rfl h k) ?_
  refine xm_Oks.step (sn_if hG fun H locs cells slots ls rest x kt kf => lv_if_lt (tgt := 14) hx hb dX4_isNumber_1 (by decide) kt kf) ?_
  refine xm_Oks.step (sn_ldI hG fun H locs cells slots ls rest x h k => lv_iload_n hx hb dX4_isNumber_4 rfl h k) ?_
  refine xm_Oks.step (sn_push hG (fun _ => trivial) fun ad H locs cells slots ls rest k => lv_bipush hx hb dX4_isNumber_5 (by decide) k) ?_
  refine xm_Oks.step (sn_icmp hG fun H locs cells slots ls rest x y kt kf => lv_icmp_ge (tgt := 14) hx hb dX4_isNumber_7 (by decide) kt kf) ?_
  refine xm_Oks.step (sn_push hG (fun _ => trivial) fun ad H locs cells slots ls rest k => lv_iconst hx hb dX4_isNumber_10 (by decide) k) ?_
  refine xm_Oks.step (sn_goto hG fun H locs cells slots ls rest k => lv_goto (tgt := 15) hx hb dX4_isNumber_11 (by decide) k) ?_
  refine xm_Oks.step (sn_push hG (fun _ => trivial) fun ad H locs cells slots ls rest k => lv_iconst hx hb dX4_isNumber_14 (by decide) k) ?_
  refine xm_Oks.stop ?_
  exact trivial
set_option maxHeartbeats 4000000 in
set_option maxRecDepth 100000 in
theorem xk_X4_isThere : xm_MOk xp_pg xp_pm 64 := by
  refine ⟨by decide +kernel, rfl, ?_, ?_⟩
  · show xm_Oks _ xt_X4_isThere
    exact ⟨trivial, trivial, trivial, trivial, trivial, trivial, trivial, trivial, trivial, trivial, trivial, trivial, ⟨dX4_isThere_24, rfl⟩, trivial⟩
  intro d mc ms p l e s m args below meth c Q cA D A tS ad0 o0 G hG hC hn ih
  have hG : xm_IsG p l e (xm_room (d + 1) mc ms) s m args below meth c Q cA D A tS 2 ad0 o0 G := hG
  have hC : xm_Cx p s m args c cX4_isThere 2 RX4 (Cond.code yX4_isThere cX4_isThere 2 (some .boolean) :: xm_W) cA D A tS := hC
  have hn : meth.name = "isThere" := hn
  obtain ⟨hx, hb, hml, hown, hts, hK, hA, hSx, hNx⟩ := id hC
  have ht : ∀ w ∈ xm_W, w.before args s = true := fun w h => hts w (List.mem_cons_of_mem _ h)
  show xm_Oks (xm_Ent (xm_room (d + 1) mc ms) G (xm_Do xp_pg d)) xt_X4_isThere
  unfold xt_X4_isThere
  refine xm_Oks.step (sn_ldI hG fun H locs cells slots ls rest x h k => lv_iload_n hx hb dX4_isThere_0 rfl h k) ?_
  refine xm_Oks.call (xm_sndC hG hC (xm_callS ⟨hx, hb, hml, hown, hts⟩ xw_218 xw_219 xw_220 xw_221 (by decide +kernel) dX4_isThere_1) (Nat.le_refl _) (by show 8 + (1 + 11) + 40 * d ≤ 40 * (d + 1); omega) (fun C0 h9 => by cases h9) (fun as M v M1 mc ms h9 ad sz g1 g2 => ih 63 as M v M1 mc ms h9 ad sz g1 g2)) ?_
  refine xm_Oks.step (sn_if hG fun H locs cells slots ls rest x kt kf => lv_if_eq (tgt := 23) hx hb dX4_isThere_4 (by decide) kt kf) ?_
  refine xm_Oks.step (sn_ldR hG fun H locs cells slots ls rest x h k => lv_aload_n hx hb dX4_isThere_7 rfl h k) ?_
  refine xm_Oks.step (sn_getR hG rfl rfl (by decide) fun H locs cells slots ls rest q0 ws a fs v hP hw hv k => va_get (D := D) (C := RX4) (T := TX4) (N := 4) hx hb ht xu_4 hown hK hP q0 hw rfl 2 (by decide) (ht _ xw_201) (fun _ h9 => h9) hv dX4_isThere_8 k) ?_
  refine xm_Oks.step (sn_ldI hG fun H locs cells slots ls rest x h k => lv_iload_n hx hb dX4_isThere_11 rfl h k) ?_
  refine xm_Oks.step (sn_aald hG (by decide) fun H locs cells slots ls rest q0 ws a N f x hP hw hin k => va_aldq hx hb hK hP q0 4 hw rfl hin dX4_isThere_12 k) ?_
  refine xm_Oks.step (sn_getI hG rfl rfl (by decide) (by decide) fun H locs cells slots ls rest q0 ws a fs v hP hw hv k => va_get (D := D) (C := RX0) (T := TX0) (N := 8) hx hb ht xu_0 hown hK hP q0 hw rfl 0 (by decide) (ht _ xw_246) (fun _ h9 => h9) hv dX4_isThere_13 k) ?_
  refine xm_Oks.step (sn_if hG fun H locs cells slots ls rest x kt kf => lv_if_eq (tgt := 23) hx hb dX4_isThere_16 (by decide) kt kf) ?_
  refine xm_Oks.step (sn_push hG (fun _ => trivial) fun ad H locs cells slots ls rest k => lv_iconst hx hb dX4_isThere_19 (by decide) k) ?_
  refine xm_Oks.step (sn_goto hG fun H locs cells slots ls rest k => lv_goto (tgt := 24) hx hb dX4_isThere_20 (by decide) k) ?_
  refine xm_Oks.step (sn_push hG (fun _ => trivial) fun ad H locs cells slots ls rest k => lv_iconst hx hb dX4_isThere_23 (by decide) k) ?_
  refine xm_Oks.stop ?_
  exact trivial
set_option maxHeartbeats 4000000 in
set_option maxRecDepth 100000 in
theorem xk_X4_pairNumber : xm_MOk xp_pg xp_pm 65 := by
  refine ⟨by decide +kernel, rfl, ?_, ?_⟩
  · show xm_Oks _ xt_X4_pairNumber
    exact ⟨trivial, trivial, trivial, trivial, trivial, trivial, trivial, trivial, trivial, trivial, trivial, trivial, trivial, ⟨dX4_pairNumber_14, rfl⟩, trivial⟩
  intro d mc ms p l e s m args below meth c Q cA D A tS ad0 o0 G hG hC hn ih
  have hG : xm_IsG p l e (xm_room (d + 1) mc ms) s m args below meth c Q cA D A tS 2 ad0 o0 G := hG
  have hC : xm_Cx p s m args c cX4_pairNumber 2 RX4 (Cond.code yX4_pairNumber cX4_pairNumber 2 (some .int) :: xm_W) cA D A tS := hC
  have hn : meth.name = "pairNumber" := hn
  obtain ⟨hx, hb, hml, hown, hts, hK, hA, hSx, hNx⟩ := id hC
  have ht : ∀ w ∈ xm_W, w.before args s = true := fun w h => hts w (List.mem_cons_of_mem _ h)
  show xm_Oks (xm_Ent (xm_room (d + 1) mc ms) G (xm_Do xp_pg d)) xt_X4_pairNumber
  unfold xt_X4_pairNumber
  refine xm_Oks.step (sn_ldI hG fun H locs cells slots ls rest x h k => lv_iload_n hx hb dX4_pairNumber_0 rfl h k) ?_
  refine xm_Oks.step (sn_push hG (fun _ => trivial) fun ad H locs cells slots ls rest k => lv_bipush hx hb dX4_pairNumber_1 (by decide) k) ?_
  refine xm_Oks.step (sn_ldI hG fun H locs cells slots ls rest x h k => lv_iload_n hx hb dX4_pairNumber_3 rfl h k) ?_
  refine xm_Oks.step (sn_bin hG fun H locs cells slots ls rest x y k => lv_isub hx hb dX4_pairNumber_4 k) ?_
  refine xm_Oks.step (sn_bin hG fun H locs cells slots ls rest x y k => lv_imul hx hb dX4_pairNumber_5 k) ?_
  refine xm_Oks.step (sn_push hG (fun _ => trivial) fun ad H locs cells slots ls rest k => lv_iconst hx hb dX4_pairNumber_6 (by decide) k) ?_
  refine xm_Oks.step (sn_div hG fun H locs cells slots ls rest x y h0 k => lv_idiv hx hb dX4_pairNumber_7 h0 k) ?_
  refine xm_Oks.step (sn_ldI hG fun H locs cells slots ls rest x h k => lv_iload_n hx hb dX4_pairNumber_8 rfl h k) ?_
  refine xm_Oks.step (sn_bin hG fun H locs cells slots ls rest x y k => lv_iadd hx hb dX4_pairNumber_9 k) ?_
  refine xm_Oks.step (sn_ldI hG fun H locs cells slots ls rest x h k => lv_iload_n hx hb dX4_pairNumber_10 rfl h k) ?_
  refine xm_Oks.step (sn_bin hG fun H locs cells slots ls rest x y k => lv_isub hx hb dX4_pairNumber_11 k) ?_
  refine xm_Oks.step (sn_push hG (fun _ => trivial) fun ad H locs cells slots ls rest k => lv_iconst hx hb dX4_pairNumber_12 (by decide) k) ?_
  refine xm_Oks.step (sn_bin hG fun H locs cells slots ls rest x y k => lv_isub hx hb dX4_pairNumber_13 k) ?_
  refine xm_Oks.stop ?_
  exact trivial
set_option maxHeartbeats 4000000 in
set_option maxRecDepth 100000 in
theorem xk_X4_dropAdviceOf : xm_MOk xp_pg xp_pm 66 := by
  refine ⟨by decide +kernel, rfl, ?_, ?_⟩
  · show xm_Oks _ xt_X4_dropAdviceOf
    exact ⟨trivial, trivial, trivial, trivial, trivial, trivial, trivial, trivial, trivial, trivial, trivial, trivial, trivial, trivial, trivial, trivial, trivial, trivial, trivial, trivial, trivial, trivial, trivial, ⟨dX4_dropAdviceOf_43, rfl⟩, trivial⟩
  intro d mc ms p l e s m args below meth c Q cA D A tS ad0 o0 G hG hC hn ih
  have hG : xm_IsG p l e (xm_room (d + 1) mc ms) s m args below meth c Q cA D A tS 6 ad0 o0 G := hG
  have hC : xm_Cx p s m args c cX4_dropAdviceOf 6 RX4 (Cond.code yX4_dropAdviceOf cX4_dropAdviceOf 6 none :: xm_W) cA D A tS := hC
  have hn : meth.name = "dropAdviceOf" := hn
  obtain ⟨hx, hb, hml, hown, hts, hK, hA, hSx, hNx⟩ := id hC
  have ht : ∀ w ∈ xm_W, w.before args s = true := fun w h => hts w (List.mem_cons_of_mem _ h)
  show xm_Oks (xm_Ent (xm_room (d + 1) mc ms) G (xm_Do xp_pg d)) xt_X4_dropAdviceOf
  unfold xt_X4_dropAdviceOf
  refine xm_Oks.step (sn_ldR hG fun H locs cells slots ls rest x h k => lv_aload_n hx hb dX4_dropAdviceOf_0 rfl h k) ?_
  refine xm_Oks.step (sn_getR hG rfl rfl (by decide) fun H locs cells slots ls rest q0 ws a fs v hP hw hv k => va_get (D := D) (C := RX4) (T := TX4) (N := 4) hx hb ht xu_4 hown hK hP q0 hw rfl 3 (by decide) (ht _ xw_206) (fun _ h9 => h9) hv dX4_dropAdviceOf_1 k) ?_
  refine xm_Oks.step (sn_stR hG fun H locs cells slots ls rest x lv lv9 h he k => lv_astore_n hx hb dX4_dropAdviceOf_4 rfl h (by decide) he k) ?_
  refine xm_Oks.step (sn_ldR hG fun H locs cells slots ls rest x h k => lv_aload_n hx hb dX4_dropAdviceOf_5 rfl h k) ?_
  refine xm_Oks.step (sn_alen hG hC (xr_alen hx hb hK dX4_dropAdviceOf_6) (fun H locs cells slots ls rest t k0 hT hS k => va_tlen hx hb hT.T hS rfl dX4_dropAdviceOf_6 k)) ?_
  refine xm_Oks.step (sn_stI hG fun H locs cells slots ls rest x lv lv9 h he k => lv_istore_n hx hb dX4_dropAdviceOf_7 rfl h (by decide) he k) ?_
  refine xm_Oks.step (sn_push hG (fun _ => trivial) fun ad H locs cells slots ls rest k => lv_iconst hx hb dX4_dropAdviceOf_8 (by decide) k) ?_
  refine xm_Oks.step (sn_stI hG fun H locs cells slots ls rest x lv lv9 h he k => lv_istore hx hb dX4_dropAdviceOf_9 h (by decide) he k) ?_
  refine xm_Oks.step (sn_ldI hG fun H locs cells slots ls rest x h k => lv_iload hx hb dX4_dropAdviceOf_11 h k) ?_
  refine xm_Oks.step (sn_ldI hG fun H locs cells slots ls rest x h k => lv_iload_n hx hb dX4_dropAdviceOf_13 rfl h k) ?_
  refine xm_Oks.step (sn_icmp hG fun H locs cells slots ls rest x y kt kf => lv_icmp_ge (tgt := 43) hx hb dX4_dropAdviceOf_14 (by decide) kt kf) ?_
  refine xm_Oks.step (sn_ldR hG fun H locs cells slots ls rest x h k => lv_aload_n hx hb dX4_dropAdviceOf_17 rfl h k) ?_
  refine xm_Oks.step (sn_ldI hG fun H locs cells slots ls rest x h k => lv_iload hx hb dX4_dropAdviceOf_18 h k) ?_
  refine xm_Oks.step (sn_aald hG (by decide) fun H locs cells slots ls rest q0 ws a N f x hP hw hin k => va_aldq hx hb hK hP q0 5 hw rfl hin dX4_dropAdviceOf_20 k) ?_
  refine xm_Oks.step (sn_stR hG fun H locs cells slots ls rest x lv lv9 h he k => lv_astore hx hb dX4_dropAdviceOf_21 h (by decide) he k) ?_
  refine xm_Oks.step (sn_ldR hG fun H locs cells slots ls rest x h k => lv_aload hx hb dX4_dropAdviceOf_23 h k) ?_
  refine xm_Oks.step (sn_ldR hG fun H locs cells slots ls rest x h k => lv_aload_n hx hb dX4_dropAdviceOf_25 rfl h k) ?_
  refine xm_Oks.call (xm_sndC hG hC (xm_callV ⟨hx, hb, hml, hown, hts⟩ xw_272 xw_273 xw_274 xw_53 xw_275 (by decide +kernel) dX4_dropAdviceOf_26) (Nat.le_refl _) (by show 8 + (2 + 11) + 40 * d ≤ 40 * (d + 1); omega) (fun C0 h9 => by cases h9; exact ⟨1, _, _, by decide, by decide, rfl, rfl, rfl⟩) (fun as M v M1 mc ms h9 ad sz g1 g2 => ih 15 as M v M1 mc ms h9 ad sz g1 g2)) ?_
  refine xm_Oks.step (sn_if hG fun H locs cells slots ls rest x kt kf => lv_if_eq (tgt := 37) hx hb dX4_dropAdviceOf_29 (by decide) kt kf) ?_
  refine xm_Oks.step (sn_ldR hG fun H locs cells slots ls rest x h k => lv_aload hx hb dX4_dropAdviceOf_32 h k) ?_
  refine xm_Oks.call (xm_sndC hG hC (xm_callV ⟨hx, hb, hml, hown, hts⟩ xw_276 xw_87 xw_88 xw_53 xw_89 (by decide +kernel) dX4_dropAdviceOf_34) (Nat.le_refl _) (by show 8 + (1 + 11) + 40 * d ≤ 40 * (d + 1); omega) (fun C0 h9 => by cases h9; exact ⟨1, _, _, by decide, by decide, rfl, rfl, rfl⟩) (fun as M v M1 mc ms h9 ad sz g1 g2 => ih 18 as M v M1 mc ms h9 ad sz g1 g2)) ?_
  refine xm_Oks.step (sn_inc hG fun H locs cells slots ls rest x lv lv9 j h hj he k => lv_iinc hx hb dX4_dropAdviceOf_37 h hj rfl (by decide) he k) ?_
  refine xm_Oks.step (sn_goto hG fun H locs cells slots ls rest k => lv_goto (tgt := 11) hx hb dX4_dropAdviceOf_40 (by decide) k) ?_
  refine xm_Oks.stop ?_
  exact trivial
set_option maxHeartbeats 4000000 in
set_option maxRecDepth 100000 in
theorem xk_X4_restartLeastOf : xm_MOk xp_pg xp_pm 67 := by
  refine ⟨by decide +kernel, rfl, ?_, ?_⟩
  · show xm_Oks _ xt_X4_restartLeastOf
    exact ⟨trivial, trivial, trivial, trivial, trivial, trivial, trivial, trivial, trivial, trivial, trivial, trivial, trivial, trivial, trivial, trivial, trivial, trivial, trivial, trivial, trivial, trivial, trivial, ⟨dX4_restartLeastOf_43, rfl⟩, trivial⟩
  intro d mc ms p l e s m args below meth c Q cA D A tS ad0 o0 G hG hC hn ih
  have hG : xm_IsG p l e (xm_room (d + 1) mc ms) s m args below meth c Q cA D A tS 6 ad0 o0 G := hG
  have hC : xm_Cx p s m args c cX4_restartLeastOf 6 RX4 (Cond.code yX4_restartLeastOf cX4_restartLeastOf 6 none :: xm_W) cA D A tS := hC
  have hn : meth.name = "restartLeastOf" := hn
  obtain ⟨hx, hb, hml, hown, hts, hK, hA, hSx, hNx⟩ := id hC
  have ht : ∀ w ∈ xm_W, w.before args s = true := fun w h => hts w (List.mem_cons_of_mem _ h)
  show xm_Oks (xm_Ent (xm_room (d + 1) mc ms) G (xm_Do xp_pg d)) xt_X4_restartLeastOf
  unfold xt_X4_restartLeastOf
  refine xm_Oks.step (sn_ldR hG fun H locs cells slots ls rest x h k => lv_aload_n hx hb dX4_restartLeastOf_0 rfl h k) ?_
  refine xm_Oks.step (sn_getR hG rfl rfl (by decide) fun H locs cells slots ls rest q0 ws a fs v hP hw hv k => va_get (D := D) (C := RX4) (T := TX4) (N := 4) hx hb ht xu_4 hown hK hP q0 hw rfl 3 (by decide) (ht _ xw_206) (fun _ h9 => h9) hv dX4_restartLeastOf_1 k) ?_
  refine xm_Oks.step (sn_stR hG fun H locs cells slots ls rest x lv lv9 h he k => lv_astore_n hx hb dX4_restartLeastOf_4 rfl h (by decide) he k) ?_
  refine xm_Oks.step (sn_ldR hG fun H locs cells slots ls rest x h k => lv_aload_n hx hb dX4_restartLeastOf_5 rfl h k) ?_
  refine xm_Oks.step (sn_alen hG hC (xr_alen hx hb hK dX4_restartLeastOf_6) (fun H locs cells slots ls rest t k0 hT hS k => va_tlen hx hb hT.T hS rfl dX4_restartLeastOf_6 k)) ?_
  refine xm_Oks.step (sn_stI hG fun H locs cells slots ls rest x lv lv9 h he k => lv_istore_n hx hb dX4_restartLeastOf_7 rfl h (by decide) he k) ?_
  refine xm_Oks.step (sn_push hG (fun _ => trivial) fun ad H locs cells slots ls rest k => lv_iconst hx hb dX4_restartLeastOf_8 (by decide) k) ?_
  refine xm_Oks.step (sn_stI hG fun H locs cells slots ls rest x lv lv9 h he k => lv_istore hx hb dX4_restartLeastOf_9 h (by decide) he k) ?_
  refine xm_Oks.step (sn_ldI hG fun H locs cells slots ls rest x h k => lv_iload hx hb dX4_restartLeastOf_11 h k) ?_
  refine xm_Oks.step (sn_ldI hG fun H locs cells slots ls rest x h k => lv_iload_n hx hb dX4_restartLeastOf_13 rfl h k) ?_
  refine xm_Oks.step (sn_icmp hG fun H locs cells slots ls rest x y kt kf => lv_icmp_ge (tgt := 43) hx hb dX4_restartLeastOf_14 (by decide) kt kf) ?_
  refine xm_Oks.step (sn_ldR hG fun H locs cells slots ls rest x h k => lv_aload_n hx hb dX4_restartLeastOf_17 rfl h k) ?_
  refine xm_Oks.step (sn_ldI hG fun H locs cells slots ls rest x h k => lv_iload hx hb dX4_restartLeastOf_18 h k) ?_
  refine xm_Oks.step (sn_aald hG (by decide) fun H locs cells slots ls rest q0 ws a N f x hP hw hin k => va_aldq hx hb hK hP q0 5 hw rfl hin dX4_restartLeastOf_20 k) ?_
  refine xm_Oks.step (sn_stR hG fun H locs cells slots ls rest x lv lv9 h he k => lv_astore hx hb dX4_restartLeastOf_21 h (by decide) he k) ?_
  refine xm_Oks.step (sn_ldR hG fun H locs cells slots ls rest x h k => lv_aload hx hb dX4_restartLeastOf_23 h k) ?_
  refine xm_Oks.step (sn_ldR hG fun H locs cells slots ls rest x h k => lv_aload_n hx hb dX4_restartLeastOf_25 rfl h k) ?_
  refine xm_Oks.call (xm_sndC hG hC (xm_callV ⟨hx, hb, hml, hown, hts⟩ xw_272 xw_273 xw_274 xw_53 xw_275 (by decide +kernel) dX4_restartLeastOf_26) (Nat.le_refl _) (by show 8 + (2 + 11) + 40 * d ≤ 40 * (d + 1); omega) (fun C0 h9 => by cases h9; exact ⟨1, _, _, by decide, by decide, rfl, rfl, rfl⟩) (fun as M v M1 mc ms h9 ad sz g1 g2 => ih 15 as M v M1 mc ms h9 ad sz g1 g2)) ?_
  refine xm_Oks.step (sn_if hG fun H locs cells slots ls rest x kt kf => lv_if_eq (tgt := 37) hx hb dX4_restartLeastOf_29 (by decide) kt kf) ?_
  refine xm_Oks.step (sn_ldR hG fun H locs cells slots ls rest x h k => lv_aload hx hb dX4_restartLeastOf_32 h k) ?_
  refine xm_Oks.call (xm_sndC hG hC (xm_callV ⟨hx, hb, hml, hown, hts⟩ xw_277 xw_278 xw_279 xw_53 xw_280 (by decide +kernel) dX4_restartLeastOf_34) (Nat.le_refl _) (by show 8 + (1 + 11) + 40 * d ≤ 40 * (d + 1); omega) (fun C0 h9 => by cases h9; exact ⟨1, _, _, by decide, by decide, rfl, rfl, rfl⟩) (fun as M v M1 mc ms h9 ad sz g1 g2 => ih 19 as M v M1 mc ms h9 ad sz g1 g2)) ?_
  refine xm_Oks.step (sn_inc hG fun H locs cells slots ls rest x lv lv9 j h hj he k => lv_iinc hx hb dX4_restartLeastOf_37 h hj rfl (by decide) he k) ?_
  refine xm_Oks.step (sn_goto hG fun H locs cells slots ls rest k => lv_goto (tgt := 11) hx hb dX4_restartLeastOf_40 (by decide) k) ?_
  refine xm_Oks.stop ?_
  exact trivial
set_option maxHeartbeats 4000000 in
set_option maxRecDepth 100000 in
theorem xk_X4_passSecond : xm_MOk xp_pg xp_pm 68 := by
  refine ⟨by decide +kernel, rfl, ?_, ?_⟩
  · show xm_Oks _ xt_X4_passSecond
    exact ⟨trivial, trivial, trivial, trivial, trivial, trivial, trivial, trivial, trivial, trivial, trivial, trivial, trivial, trivial, trivial, trivial, trivial, trivial, trivial, trivial, trivial, trivial, trivial, trivial, trivial, trivial, trivial, trivial, trivial, trivial, trivial, trivial, trivial, trivial, trivial, trivial, trivial, trivial, trivial, trivial, trivial, trivial, trivial, trivial, trivial, trivial, trivial, trivial, trivial, trivial, trivial, trivial, trivial, trivial, trivial, trivial, trivial, trivial, trivial, trivial, trivial, trivial, trivial, trivial, trivial, trivial, trivial, trivial, trivial, trivial, trivial, trivial, trivial, trivial, trivial, trivial, trivial, trivial, trivial, ⟨dX4_passSecond_144, rfl⟩, trivial⟩
  intro d mc ms p l e s m args below meth c Q cA D A tS ad0 o0 G hG hC hn ih
  have hG : xm_IsG p l e (xm_room (d + 1) mc ms) s m args below meth c Q cA D A tS 5 ad0 o0 G := hG
  have hC : xm_Cx p s m args c cX4_passSecond 5 RX4 (Cond.code yX4_passSecond cX4_passSecond 5 none :: xm_W) cA D A tS := hC
  have hn : meth.name = "passSecond" := hn
  obtain ⟨hx, hb, hml, hown, hts, hK, hA, hSx, hNx⟩ := id hC
  have ht : ∀ w ∈ xm_W, w.before args s = true := fun w h => hts w (List.mem_cons_of_mem _ h)
  show xm_Oks (xm_Ent (xm_room (d + 1) mc ms) G (xm_Do xp_pg d)) xt_X4_passSecond
  unfold xt_X4_passSecond
  refine xm_Oks.step (sn_ldR hG fun H locs cells slots ls rest x h k => lv_aload_n hx hb dX4_passSecond_0 rfl h k) ?_
  refine xm_Oks.step (sn_getR hG rfl rfl (by decide) fun H locs cells slots ls rest q0 ws a fs v hP hw hv k => va_get (D := D) (C := RX4) (T := TX4) (N := 4) hx hb ht xu_4 hown hK hP q0 hw rfl 2 (by decide) (ht _ xw_201) (fun _ h9 => h9) hv dX4_passSecond_1 k) ?_
  refine xm_Oks.step (sn_stR hG fun H locs cells slots ls rest x lv lv9 h he k => lv_astore_n hx hb dX4_passSecond_4 rfl h (by decide) he k) ?_
  refine xm_Oks.step (sn_ldR hG fun H locs cells slots ls rest x h k => lv_aload_n hx hb dX4_passSecond_5 rfl h k) ?_
  refine xm_Oks.step (sn_alen hG hC (xr_alen hx hb hK dX4_passSecond_6) (fun H locs cells slots ls rest t k0 hT hS k => va_tlen hx hb hT.T hS rfl dX4_passSecond_6 k)) ?_
  refine xm_Oks.step (sn_stI hG fun H locs cells slots ls rest x lv lv9 h he k => lv_istore_n hx hb dX4_passSecond_7 rfl h (by decide) he k) ?_
  refine xm_Oks.step (sn_push hG (fun _ => trivial) fun ad H locs cells slots ls rest k => lv_iconst hx hb dX4_passSecond_8 (by decide) k) ?_
  refine xm_Oks.step (sn_stI hG fun H locs cells slots ls rest x lv lv9 h he k => lv_istore_n hx hb dX4_passSecond_9 rfl h (by decide) he k) ?_
  refine xm_Oks.step (sn_ldI hG fun H locs cells slots ls rest x h k => lv_iload_n hx hb dX4_passSecond_10 rfl h k) ?_
  refine xm_Oks.step (sn_ldI hG fun H locs cells slots ls rest x h k => lv_iload_n hx hb dX4_passSecond_11 rfl h k) ?_
  refine xm_Oks.step (sn_icmp hG fun H locs cells slots ls rest x y kt kf => lv_icmp_ge (tgt := 39) hx hb dX4_passSecond_12 (by decide) kt kf) ?_
  refine xm_Oks.step (sn_ldR hG fun H locs cells slots ls rest x h k => lv_aload_n hx hb dX4_passSecond_15 rfl h k) ?_
  refine xm_Oks.step (sn_ldI hG fun H locs cells slots ls rest x h k => lv_iload_n hx hb dX4_passSecond_16 rfl h k) ?_
  refine xm_Oks.step (sn_aald hG (by decide) fun H locs cells slots ls rest q0 ws a N f x hP hw hin k => va_aldq hx hb hK hP q0 4 hw rfl hin dX4_passSecond_17 k) ?_
  refine xm_Oks.step (sn_stR hG fun H locs cells slots ls rest x lv lv9 h he k => lv_astore hx hb dX4_passSecond_18 h (by decide) he k) ?_
  refine xm_Oks.step (sn_ldR hG fun H locs cells slots ls rest x h k => lv_aload hx hb dX4_passSecond_20 h k) ?_
  refine xm_Oks.step (sn_getI hG rfl rfl (by decide) (by decide) fun H locs cells slots ls rest q0 ws a fs v hP hw hv k => va_get (D := D) (C := RX0) (T := TX0) (N := 8) hx hb ht xu_0 hown hK hP q0 hw rfl 0 (by decide) (ht _ xw_246) (fun _ h9 => h9) hv dX4_passSecond_22 k) ?_
  refine xm_Oks.step (sn_if hG fun H locs cells slots ls rest x kt kf => lv_if_eq (tgt := 33) hx hb dX4_passSecond_25 (by decide) kt kf) ?_
  refine xm_Oks.step (sn_ldR hG fun H locs cells slots ls rest x h k => lv_aload hx hb dX4_passSecond_28 h k) ?_
  refine xm_Oks.call (xm_sndC hG hC (xm_callV ⟨hx, hb, hml, hown, hts⟩ xw_281 xw_282 xw_283 xw_6 xw_284 (by decide +kernel) dX4_passSecond_30) (Nat.le_refl _) (by show 8 + (1 + 11) + 40 * d ≤ 40 * (d + 1); omega) (fun C0 h9 => by cases h9; exact ⟨0, _, _, by decide, by decide, rfl, rfl, rfl⟩) (fun as M v M1 mc ms h9 ad sz g1 g2 => ih 7 as M v M1 mc ms h9 ad sz g1 g2)) ?_
  refine xm_Oks.step (sn_inc hG fun H locs cells slots ls rest x lv lv9 j h hj he k => lv_iinc hx hb dX4_passSecond_33 h hj rfl (by decide) he k) ?_
  refine xm_Oks.step (sn_goto hG fun H locs cells slots ls rest k => lv_goto (tgt := 10) hx hb dX4_passSecond_36 (by decide) k) ?_
  refine xm_Oks.step (sn_ldR hG fun H locs cells slots ls rest x h k => lv_aload_n hx hb dX4_passSecond_39 rfl h k) ?_
  refine xm_Oks.step (sn_getR hG rfl rfl (by decide) fun H locs cells slots ls rest q0 ws a fs v hP hw hv k => va_get (D := D) (C := RX4) (T := TX4) (N := 4) hx hb ht xu_4 hown hK hP q0 hw rfl 2 (by decide) (ht _ xw_201) (fun _ h9 => h9) hv dX4_passSecond_40 k) ?_
  refine xm_Oks.step (sn_stR hG fun H locs cells slots ls rest x lv lv9 h he k => lv_astore_n hx hb dX4_passSecond_43 rfl h (by decide) he k) ?_
  refine xm_Oks.step (sn_ldR hG fun H locs cells slots ls rest x h k => lv_aload_n hx hb dX4_passSecond_44 rfl h k) ?_
  refine xm_Oks.step (sn_alen hG hC (xr_alen hx hb hK dX4_passSecond_45) (fun H locs cells slots ls rest t k0 hT hS k => va_tlen hx hb hT.T hS rfl dX4_passSecond_45 k)) ?_
  refine xm_Oks.step (sn_stI hG fun H locs cells slots ls rest x lv lv9 h he k => lv_istore_n hx hb dX4_passSecond_46 rfl h (by decide) he k) ?_
  refine xm_Oks.step (sn_push hG (fun _ => trivial) fun ad H locs cells slots ls rest k => lv_iconst hx hb dX4_passSecond_47 (by decide) k) ?_
  refine xm_Oks.step (sn_stI hG fun H locs cells slots ls rest x lv lv9 h he k => lv_istore_n hx hb dX4_passSecond_48 rfl h (by decide) he k) ?_
  refine xm_Oks.step (sn_ldI hG fun H locs cells slots ls rest x h k => lv_iload_n hx hb dX4_passSecond_49 rfl h k) ?_
  refine xm_Oks.step (sn_ldI hG fun H locs cells slots ls rest x h k => lv_iload_n hx hb dX4_passSecond_50 rfl h k) ?_
  refine xm_Oks.step (sn_icmp hG fun H locs cells slots ls rest x y kt kf => lv_icmp_ge (tgt := 87) hx hb dX4_passSecond_51 (by decide) kt kf) ?_
  refine xm_Oks.step (sn_ldR hG fun H locs cells slots ls rest x h k => lv_aload_n hx hb dX4_passSecond_54 rfl h k) ?_
  refine xm_Oks.step (sn_ldI hG fun H locs cells slots ls rest x h k => lv_iload_n hx hb dX4_passSecond_55 rfl h k) ?_
  refine xm_Oks.step (sn_aald hG (by decide) fun H locs cells slots ls rest q0 ws a N f x hP hw hin k => va_aldq hx hb hK hP q0 4 hw rfl hin dX4_passSecond_56 k) ?_
  refine xm_Oks.step (sn_stR hG fun H locs cells slots ls rest x lv lv9 h he k => lv_astore hx hb dX4_passSecond_57 h (by decide) he k) ?_
  refine xm_Oks.step (sn_ldR hG fun H locs cells slots ls rest x h k => lv_aload hx hb dX4_passSecond_59 h k) ?_
  refine xm_Oks.step (sn_getI hG rfl rfl (by decide) (by decide) fun H locs cells slots ls rest q0 ws a fs v hP hw hv k => va_get (D := D) (C := RX0) (T := TX0) (N := 8) hx hb ht xu_0 hown hK hP q0 hw rfl 0 (by decide) (ht _ xw_246) (fun _ h9 => h9) hv dX4_passSecond_61 k) ?_
  refine xm_Oks.step (sn_if hG fun H locs cells slots ls rest x kt kf => lv_if_eq (tgt := 81) hx hb dX4_passSecond_64 (by decide) kt kf) ?_
  refine xm_Oks.step (sn_ldR hG fun H locs cells slots ls rest x h k => lv_aload hx hb dX4_passSecond_67 h k) ?_
  refine xm_Oks.step (sn_getI hG rfl rfl (by decide) (by decide) fun H locs cells slots ls rest q0 ws a fs v hP hw hv k => va_get (D := D) (C := RX0) (T := TX0) (N := 8) hx hb ht xu_0 hown hK hP q0 hw rfl 1 (by decide) (ht _ xw_245) (fun _ h9 => h9) hv dX4_passSecond_69 k) ?_
  refine xm_Oks.step (sn_if hG fun H locs cells slots ls rest x kt kf => lv_if_eq (tgt := 81) hx hb dX4_passSecond_72 (by decide) kt kf) ?_
  refine xm_Oks.step (sn_ldR hG fun H locs cells slots ls rest x h k => lv_aload_n hx hb dX4_passSecond_75 rfl h k) ?_
  refine xm_Oks.step (sn_ldR hG fun H locs cells slots ls rest x h k => lv_aload hx hb dX4_passSecond_76 h k) ?_
  refine xm_Oks.call (xm_sndC hG hC (xm_callV ⟨hx, hb, hml, hown, hts⟩ xw_285 xw_286 xw_287 xw_220 xw_288 (by decide +kernel) dX4_passSecond_78) (Nat.le_refl _) (by show 8 + (8 + 11) + 40 * d ≤ 40 * (d + 1); omega) (fun C0 h9 => by cases h9; exact ⟨4, _, _, by decide, by decide, rfl, rfl, rfl⟩) (fun as M v M1 mc ms h9 ad sz g1 g2 => ih 69 as M v M1 mc ms h9 ad sz g1 g2)) ?_
  refine xm_Oks.step (sn_inc hG fun H locs cells slots ls rest x lv lv9 j h hj he k => lv_iinc hx hb dX4_passSecond_81 h hj rfl (by decide) he k) ?_
  refine xm_Oks.step (sn_goto hG fun H locs cells slots ls rest k => lv_goto (tgt := 49) hx hb dX4_passSecond_84 (by decide) k) ?_
  refine xm_Oks.step (sn_ldR hG fun H locs cells slots ls rest x h k => lv_aload_n hx hb dX4_passSecond_87 rfl h k) ?_
  refine xm_Oks.step (sn_getR hG rfl rfl (by decide) fun H locs cells slots ls rest q0 ws a fs v hP hw hv k => va_get (D := D) (C := RX4) (T := TX4) (N := 4) hx hb ht xu_4 hown hK hP q0 hw rfl 3 (by decide) (ht _ xw_206) (fun _ h9 => h9) hv dX4_passSecond_88 k) ?_
  refine xm_Oks.step (sn_stR hG fun H locs cells slots ls rest x lv lv9 h he k => lv_astore_n hx hb dX4_passSecond_91 rfl h (by decide) he k) ?_
  refine xm_Oks.step (sn_ldR hG fun H locs cells slots ls rest x h k => lv_aload_n hx hb dX4_passSecond_92 rfl h k) ?_
  refine xm_Oks.step (sn_alen hG hC (xr_alen hx hb hK dX4_passSecond_93) (fun H locs cells slots ls rest t k0 hT hS k => va_tlen hx hb hT.T hS rfl dX4_passSecond_93 k)) ?_
  refine xm_Oks.step (sn_stI hG fun H locs cells slots ls rest x lv lv9 h he k => lv_istore_n hx hb dX4_passSecond_94 rfl h (by decide) he k) ?_
  refine xm_Oks.step (sn_push hG (fun _ => trivial) fun ad H locs cells slots ls rest k => lv_iconst hx hb dX4_passSecond_95 (by decide) k) ?_
  refine xm_Oks.step (sn_stI hG fun H locs cells slots ls rest x lv lv9 h he k => lv_istore_n hx hb dX4_passSecond_96 rfl h (by decide) he k) ?_
  refine xm_Oks.step (sn_ldI hG fun H locs cells slots ls rest x h k => lv_iload_n hx hb dX4_passSecond_97 rfl h k) ?_
  refine xm_Oks.step (sn_ldI hG fun H locs cells slots ls rest x h k => lv_iload_n hx hb dX4_passSecond_98 rfl h k) ?_
  refine xm_Oks.step (sn_icmp hG fun H locs cells slots ls rest x y kt kf => lv_icmp_ge (tgt := 131) hx hb dX4_passSecond_99 (by decide) kt kf) ?_
  refine xm_Oks.step (sn_ldR hG fun H locs cells slots ls rest x h k => lv_aload_n hx hb dX4_passSecond_102 rfl h k) ?_
  refine xm_Oks.step (sn_ldI hG fun H locs cells slots ls rest x h k => lv_iload_n hx hb dX4_passSecond_103 rfl h k) ?_
  refine xm_Oks.step (sn_aald hG (by decide) fun H locs cells slots ls rest q0 ws a N f x hP hw hin k => va_aldq hx hb hK hP q0 5 hw rfl hin dX4_passSecond_104 k) ?_
  refine xm_Oks.step (sn_stR hG fun H locs cells slots ls rest x lv lv9 h he k => lv_astore hx hb dX4_passSecond_105 h (by decide) he k) ?_
  refine xm_Oks.step (sn_ldR hG fun H locs cells slots ls rest x h k => lv_aload hx hb dX4_passSecond_107 h k) ?_
  refine xm_Oks.call (xm_sndC hG hC (xm_callV ⟨hx, hb, hml, hown, hts⟩ xw_289 xw_290 xw_291 xw_53 xw_292 (by decide +kernel) dX4_passSecond_109) (Nat.le_refl _) (by show 8 + (1 + 11) + 40 * d ≤ 40 * (d + 1); omega) (fun C0 h9 => by cases h9; exact ⟨1, _, _, by decide, by decide, rfl, rfl, rfl⟩) (fun as M v M1 mc ms h9 ad sz g1 g2 => ih 14 as M v M1 mc ms h9 ad sz g1 g2)) ?_
  refine xm_Oks.step (sn_if hG fun H locs cells slots ls rest x kt kf => lv_if_eq (tgt := 125) hx hb dX4_passSecond_112 (by decide) kt kf) ?_
  refine xm_Oks.step (sn_ldR hG fun H locs cells slots ls rest x h k => lv_aload hx hb dX4_passSecond_115 h k) ?_
  refine xm_Oks.call (xm_sndC hG hC (xm_callV ⟨hx, hb, hml, hown, hts⟩ xw_293 xw_294 xw_295 xw_53 xw_296 (by decide +kernel) dX4_passSecond_117) (Nat.le_refl _) (by show 8 + (1 + 11) + 40 * d ≤ 40 * (d + 1); omega) (fun C0 h9 => by cases h9; exact ⟨1, _, _, by decide, by decide, rfl, rfl, rfl⟩) (fun as M v M1 mc ms h9 ad sz g1 g2 => ih 20 as M v M1 mc ms h9 ad sz g1 g2)) ?_
  refine xm_Oks.step (sn_ldR hG fun H locs cells slots ls rest x h k => lv_aload hx hb dX4_passSecond_120 h k) ?_
  refine xm_Oks.call (xm_sndC hG hC (xm_callV ⟨hx, hb, hml, hown, hts⟩ xw_297 xw_298 xw_299 xw_53 xw_300 (by decide +kernel) dX4_passSecond_122) (Nat.le_refl _) (by show 8 + (3 + 11) + 40 * d ≤ 40 * (d + 1); omega) (fun C0 h9 => by cases h9; exact ⟨1, _, _, by decide, by decide, rfl, rfl, rfl⟩) (fun as M v M1 mc ms h9 ad sz g1 g2 => ih 21 as M v M1 mc ms h9 ad sz g1 g2)) ?_
  refine xm_Oks.step (sn_inc hG fun H locs cells slots ls rest x lv lv9 j h hj he k => lv_iinc hx hb dX4_passSecond_125 h hj rfl (by decide) he k) ?_
  refine xm_Oks.step (sn_goto hG fun H locs cells slots ls rest k => lv_goto (tgt := 97) hx hb dX4_passSecond_128 (by decide) k) ?_
  refine xm_Oks.step (sn_ldR hG fun H locs cells slots ls rest x h k => lv_aload_n hx hb dX4_passSecond_131 rfl h k) ?_
  refine xm_Oks.step (sn_getR hG rfl rfl (by decide) fun H locs cells slots ls rest q0 ws a fs v hP hw hv k => va_get (D := D) (C := RX4) (T := TX4) (N := 4) hx hb ht xu_4 hown hK hP q0 hw rfl 1 (by decide) (ht _ xw_199) (fun _ h9 => h9) hv dX4_passSecond_132 k) ?_
  refine xm_Oks.step (sn_dup hG fun H locs cells slots ls rest v h k => lv_dup hx hb dX4_passSecond_135 h k) ?_
  refine xm_Oks.step (sn_getI hG rfl rfl (by decide) (by decide) fun H locs cells slots ls rest q0 ws a fs v hP hw hv k => va_get (D := D) (C := RX3) (T := TX3) (N := 5) hx hb ht xu_3 hown hK hP q0 hw rfl 4 (by decide) (ht _ xw_301) (fun _ h9 => h9) hv dX4_passSecond_136 k) ?_
  refine xm_Oks.step (sn_push hG (fun _ => trivial) fun ad H locs cells slots ls rest k => lv_iconst hx hb dX4_passSecond_139 (by decide) k) ?_
  refine xm_Oks.step (sn_bin hG fun H locs cells slots ls rest x y k => lv_iadd hx hb dX4_passSecond_140 k) ?_
  refine xm_Oks.step (sn_putI hG rfl rfl (by decide) (by decide) fun H locs cells slots ls rest q0 ws a fs v hP hD hS hw ⟨x, hv⟩ hl k => by subst hv; exact va_put (D := D) (ty := .int) (C := RX3) (T := TX3) (N := 5) hx hb ht xu_3 tyX3 tyX3_ok nmX3 hown hK hP hD hS q0 hw rfl 4 (by decide) (ht _ xw_301) (fun _ h9 => h9) rfl (by decide +kernel) rfl rfl hl dX4_passSecond_141 k) ?_
  refine xm_Oks.stop ?_
  exact trivial
set_option maxHeartbeats 4000000 in
set_option maxRecDepth 100000 in
theorem xk_X4_heedAdvice : xm_MOk xp_pg xp_pm 69 := by
  refine ⟨by decide +kernel, rfl, ?_, ?_⟩
  · show xm_Oks _ xt_X4_heedAdvice
    exact ⟨trivial, trivial, trivial, trivial, trivial, trivial, trivial, trivial, trivial, trivial, trivial, trivial, trivial, trivial, trivial, trivial, trivial, trivial, trivial, trivial, trivial, trivial, trivial, trivial, trivial, trivial, trivial, trivial, trivial, trivial, trivial, trivial, trivial, trivial, trivial, trivial, trivial, trivial, trivial, trivial, trivial, trivial, trivial, trivial, trivial, trivial, trivial, trivial, trivial, trivial, ⟨dX4_heedAdvice_100, rfl⟩, trivial⟩
  intro d mc ms p l e s m args below meth c Q cA D A tS ad0 o0 G hG hC hn ih
  have hG : xm_IsG p l e (xm_room (d + 1) mc ms) s m args below meth c Q cA D A tS 8 ad0 o0 G := hG
  have hC : xm_Cx p s m args c cX4_heedAdvice 8 RX4 (Cond.code yX4_heedAdvice cX4_heedAdvice 8 none :: xm_W) cA D A tS := hC
  have hn : meth.name = "heedAdvice" := hn
  obtain ⟨hx, hb, hml, hown, hts, hK, hA, hSx, hNx⟩ := id hC
  have ht : ∀ w ∈ xm_W, w.before args s = true := fun w h => hts w (List.mem_cons_of_mem _ h)
  show xm_Oks (xm_Ent (xm_room (d + 1) mc ms) G (xm_Do xp_pg d)) xt_X4_heedAdvice
  unfold xt_X4_heedAdvice
  refine xm_Oks.step (sn_push hG (fun _ => trivial) fun ad H locs cells slots ls rest k => lv_iconst hx hb dX4_heedAdvice_0 (by decide) k) ?_
  refine xm_Oks.step (sn_stI hG fun H locs cells slots ls rest x lv lv9 h he k => lv_istore_n hx hb dX4_heedAdvice_1 rfl h (by decide) he k) ?_
  refine xm_Oks.step (sn_push hG (fun _ => trivial) fun ad H locs cells slots ls rest k => lv_iconst hx hb dX4_heedAdvice_2 (by decide) k) ?_
  refine xm_Oks.step (sn_stI hG fun H locs cells slots ls rest x lv lv9 h he k => lv_istore_n hx hb dX4_heedAdvice_3 rfl h (by decide) he k) ?_
  refine xm_Oks.step (sn_ldR hG fun H locs cells slots ls rest x h k => lv_aload_n hx hb dX4_heedAdvice_4 rfl h k) ?_
  refine xm_Oks.step (sn_getR hG rfl rfl (by decide) fun H locs cells slots ls rest q0 ws a fs v hP hw hv k => va_get (D := D) (C := RX4) (T := TX4) (N := 4) hx hb ht xu_4 hown hK hP q0 hw rfl 3 (by decide) (ht _ xw_206) (fun _ h9 => h9) hv dX4_heedAdvice_5 k) ?_
  refine xm_Oks.step (sn_stR hG fun H locs cells slots ls rest x lv lv9 h he k => lv_astore hx hb dX4_heedAdvice_8 h (by decide) he k) ?_
  refine xm_Oks.step (sn_ldR hG fun H locs cells slots ls rest x h k => lv_aload hx hb dX4_heedAdvice_10 h k) ?_
  refine xm_Oks.step (sn_alen hG hC (xr_alen hx hb hK dX4_heedAdvice_12) (fun H locs cells slots ls rest t k0 hT hS k => va_tlen hx hb hT.T hS rfl dX4_heedAdvice_12 k)) ?_
  refine xm_Oks.step (sn_stI hG fun H locs cells slots ls rest x lv lv9 h he k => lv_istore hx hb dX4_heedAdvice_13 h (by decide) he k) ?_
  refine xm_Oks.step (sn_push hG (fun _ => trivial) fun ad H locs cells slots ls rest k => lv_iconst hx hb dX4_heedAdvice_15 (by decide) k) ?_
  refine xm_Oks.step (sn_stI hG fun H locs cells slots ls rest x lv lv9 h he k => lv_istore hx hb dX4_heedAdvice_16 h (by decide) he k) ?_
  refine xm_Oks.step (sn_ldI hG fun H locs cells slots ls rest x h k => lv_iload hx hb dX4_heedAdvice_18 h k) ?_
  refine xm_Oks.step (sn_ldI hG fun H locs cells slots ls rest x h k => lv_iload hx hb dX4_heedAdvice_20 h k) ?_
  refine xm_Oks.step (sn_icmp hG fun H locs cells slots ls rest x y kt kf => lv_icmp_ge (tgt := 87) hx hb dX4_heedAdvice_22 (by decide) kt kf) ?_
  refine xm_Oks.step (sn_ldR hG fun H locs cells slots ls rest x h k => lv_aload hx hb dX4_heedAdvice_25 h k) ?_
  refine xm_Oks.step (sn_ldI hG fun H locs cells slots ls rest x h k => lv_iload hx hb dX4_heedAdvice_27 h k) ?_
  refine xm_Oks.step (sn_aald hG (by decide) fun H locs cells slots ls rest q0 ws a N f x hP hw hin k => va_aldq hx hb hK hP q0 5 hw rfl hin dX4_heedAdvice_29 k) ?_
  refine xm_Oks.step (sn_stR hG fun H locs cells slots ls rest x lv lv9 h he k => lv_astore hx hb dX4_heedAdvice_30 h (by decide) he k) ?_
  refine xm_Oks.step (sn_ldR hG fun H locs cells slots ls rest x h k => lv_aload hx hb dX4_heedAdvice_32 h k) ?_
  refine xm_Oks.step (sn_ldR hG fun H locs cells slots ls rest x h k => lv_aload_n hx hb dX4_heedAdvice_34 rfl h k) ?_
  refine xm_Oks.call (xm_sndC hG hC (xm_callV ⟨hx, hb, hml, hown, hts⟩ xw_272 xw_273 xw_274 xw_53 xw_275 (by decide +kernel) dX4_heedAdvice_35) (Nat.le_refl _) (by show 8 + (2 + 11) + 40 * d ≤ 40 * (d + 1); omega) (fun C0 h9 => by cases h9; exact ⟨1, _, _, by decide, by decide, rfl, rfl, rfl⟩) (fun as M v M1 mc ms h9 ad sz g1 g2 => ih 15 as M v M1 mc ms h9 ad sz g1 g2)) ?_
  refine xm_Oks.step (sn_if hG fun H locs cells slots ls rest x kt kf => lv_if_eq (tgt := 81) hx hb dX4_heedAdvice_38 (by decide) kt kf) ?_
  refine xm_Oks.step (sn_ldR hG fun H locs cells slots ls rest x h k => lv_aload hx hb dX4_heedAdvice_41 h k) ?_
  refine xm_Oks.call (xm_sndC hG hC (xm_callV ⟨hx, hb, hml, hown, hts⟩ xw_302 xw_303 xw_304 xw_53 xw_305 (by decide +kernel) dX4_heedAdvice_43) (Nat.le_refl _) (by show 8 + (1 + 11) + 40 * d ≤ 40 * (d + 1); omega) (fun C0 h9 => by cases h9; exact ⟨1, _, _, by decide, by decide, rfl, rfl, rfl⟩) (fun as M v M1 mc ms h9 ad sz g1 g2 => ih 16 as M v M1 mc ms h9 ad sz g1 g2)) ?_
  refine xm_Oks.step (sn_if hG fun H locs cells slots ls rest x kt kf => lv_if_eq (tgt := 81) hx hb dX4_heedAdvice_46 (by decide) kt kf) ?_
  refine xm_Oks.step (sn_ldR hG fun H locs cells slots ls rest x h k => lv_aload hx hb dX4_heedAdvice_49 h k) ?_
  refine xm_Oks.step (sn_ldR hG fun H locs cells slots ls rest x h k => lv_aload_n hx hb dX4_heedAdvice_51 rfl h k) ?_
  refine xm_Oks.call (xm_sndC hG hC (xm_callV ⟨hx, hb, hml, hown, hts⟩ xw_306 xw_307 xw_308 xw_53 xw_309 (by decide +kernel) dX4_heedAdvice_52) (Nat.le_refl _) (by show 8 + (2 + 11) + 40 * d ≤ 40 * (d + 1); omega) (fun C0 h9 => by cases h9; exact ⟨1, _, _, by decide, by decide, rfl, rfl, rfl⟩) (fun as M v M1 mc ms h9 ad sz g1 g2 => ih 17 as M v M1 mc ms h9 ad sz g1 g2)) ?_
  refine xm_Oks.step (sn_if hG fun H locs cells slots ls rest x kt kf => lv_if_eq (tgt := 71) hx hb dX4_heedAdvice_55 (by decide) kt kf) ?_
  refine xm_Oks.step (sn_ldI hG fun H locs cells slots ls rest x h k => lv_iload_n hx hb dX4_heedAdvice_58 rfl h k) ?_
  refine xm_Oks.step (sn_ldR hG fun H locs cells slots ls rest x h k => lv_aload hx hb dX4_heedAdvice_59 h k) ?_
  refine xm_Oks.step (sn_getI hG rfl rfl (by decide) (by decide) fun H locs cells slots ls rest q0 ws a fs v hP hw hv k => va_get (D := D) (C := RX1) (T := TX1) (N := 11) hx hb ht xu_1 hown hK hP q0 hw rfl 10 (by decide) (ht _ xw_310) (fun _ h9 => h9) hv dX4_heedAdvice_61 k) ?_
  refine xm_Oks.step (sn_mbin hG fun H locs cells slots ls rest x y h1 h2 h3 h4 k => va_mmax hx hb (hml.trans h1.symm) hown (ht _ xw_260) (ht _ xw_13) (ht _ xw_10) (ht _ xw_14) (Nat.le_add_left 1 d) (by show _ + 13 ≤ 40 * (d + 1); omega) h2 h3 dX4_heedAdvice_64 k) ?_
  refine xm_Oks.step (sn_stI hG fun H locs cells slots ls rest x lv lv9 h he k => lv_istore_n hx hb dX4_heedAdvice_67 rfl h (by decide) he k) ?_
  refine xm_Oks.step (sn_goto hG fun H locs cells slots ls rest k => lv_goto (tgt := 81) hx hb dX4_heedAdvice_68 (by decide) k) ?_
  refine xm_Oks.step (sn_ldI hG fun H locs cells slots ls rest x h k => lv_iload_n hx hb dX4_heedAdvice_71 rfl h k) ?_
  refine xm_Oks.step (sn_ldR hG fun H locs cells slots ls rest x h k => lv_aload hx hb dX4_heedAdvice_72 h k) ?_
  refine xm_Oks.step (sn_getI hG rfl rfl (by decide) (by decide) fun H locs cells slots ls rest q0 ws a fs v hP hw hv k => va_get (D := D) (C := RX1) (T := TX1) (N := 11) hx hb ht xu_1 hown hK hP q0 hw rfl 10 (by decide) (ht _ xw_310) (fun _ h9 => h9) hv dX4_heedAdvice_74 k) ?_
  refine xm_Oks.step (sn_mbin hG fun H locs cells slots ls rest x y h1 h2 h3 h4 k => va_mmax hx hb (hml.trans h1.symm) hown (ht _ xw_260) (ht _ xw_13) (ht _ xw_10) (ht _ xw_14) (Nat.le_add_left 1 d) (by show _ + 13 ≤ 40 * (d + 1); omega) h2 h3 dX4_heedAdvice_77 k) ?_
  refine xm_Oks.step (sn_stI hG fun H locs cells slots ls rest x lv lv9 h he k => lv_istore_n hx hb dX4_heedAdvice_80 rfl h (by decide) he k) ?_
  refine xm_Oks.step (sn_inc hG fun H locs cells slots ls rest x lv lv9 j h hj he k => lv_iinc hx hb dX4_heedAdvice_81 h hj rfl (by decide) he k) ?_
  refine xm_Oks.step (sn_goto hG fun H locs cells slots ls rest k => lv_goto (tgt := 18) hx hb dX4_heedAdvice_84 (by decide) k) ?_
  refine xm_Oks.step (sn_ldR hG fun H locs cells slots ls rest x h k => lv_aload_n hx hb dX4_heedAdvice_87 rfl h k) ?_
  refine xm_Oks.step (sn_ldI hG fun H locs cells slots ls rest x h k => lv_iload_n hx hb dX4_heedAdvice_88 rfl h k) ?_
  refine xm_Oks.step (sn_ldI hG fun H locs cells slots ls rest x h k => lv_iload_n hx hb dX4_heedAdvice_89 rfl h k) ?_
  refine xm_Oks.step (sn_ldR hG fun H locs cells slots ls rest x h k => lv_aload_n hx hb dX4_heedAdvice_90 rfl h k) ?_
  refine xm_Oks.step (sn_getR hG rfl rfl (by decide) fun H locs cells slots ls rest q0 ws a fs v hP hw hv k => va_get (D := D) (C := RX4) (T := TX4) (N := 4) hx hb ht xu_4 hown hK hP q0 hw rfl 0 (by decide) (ht _ xw_193) (fun _ h9 => h9) hv dX4_heedAdvice_91 k) ?_
  refine xm_Oks.call (xm_sndC hG hC (xm_callV ⟨hx, hb, hml, hown, hts⟩ xw_311 xw_312 xw_313 xw_45 xw_314 (by decide +kernel) dX4_heedAdvice_94) (Nat.le_refl _) (by show 8 + (1 + 11) + 40 * d ≤ 40 * (d + 1); omega) (fun C0 h9 => by cases h9; exact ⟨2, _, _, by decide, by decide, rfl, rfl, rfl⟩) (fun as M v M1 mc ms h9 ad sz g1 g2 => ih 50 as M v M1 mc ms h9 ad sz g1 g2)) ?_
  refine xm_Oks.call (xm_sndC hG hC (xm_callV ⟨hx, hb, hml, hown, hts⟩ xw_315 xw_316 xw_317 xw_6 xw_318 (by decide +kernel) dX4_heedAdvice_97) (Nat.le_refl _) (by show 8 + (4 + 11) + 40 * d ≤ 40 * (d + 1); omega) (fun C0 h9 => by cases h9; exact ⟨0, _, _, by decide, by decide, rfl, rfl, rfl⟩) (fun as M v M1 mc ms h9 ad sz g1 g2 => ih 8 as M v M1 mc ms h9 ad sz g1 g2)) ?_
  refine xm_Oks.stop ?_
  exact trivial
set_option maxHeartbeats 4000000 in
set_option maxRecDepth 100000 in
theorem xk_X4_countAdvised : xm_MOk xp_pg xp_pm 70 := by
  refine ⟨by decide +kernel, rfl, ?_, ?_⟩
  · show xm_Oks _ xt_X4_countAdvised
    exact ⟨trivial, trivial, trivial, trivial, trivial, trivial, trivial, trivial, trivial, trivial, trivial, trivial, trivial, trivial, trivial, trivial, trivial, trivial, trivial, trivial, trivial, trivial, trivial, trivial, ⟨dX4_countAdvised_43, rfl⟩, trivial⟩
  intro d mc ms p l e s m args below meth c Q cA D A tS ad0 o0 G hG hC hn ih
  have hG : xm_IsG p l e (xm_room (d + 1) mc ms) s m args below meth c Q cA D A tS 6 ad0 o0 G := hG
  have hC : xm_Cx p s m args c cX4_countAdvised 6 RX4 (Cond.code yX4_countAdvised cX4_countAdvised 6 (some .int) :: xm_W) cA D A tS := hC
  have hn : meth.name = "countAdvised" := hn
  obtain ⟨hx, hb, hml, hown, hts, hK, hA, hSx, hNx⟩ := id hC
  have ht : ∀ w ∈ xm_W, w.before args s = true := fun w h => hts w (List.mem_cons_of_mem _ h)
  show xm_Oks (xm_Ent (xm_room (d + 1) mc ms) G (xm_Do xp_pg d)) xt_X4_countAdvised
  unfold xt_X4_countAdvised
  refine xm_Oks.step (sn_push hG (fun _ => trivial) fun ad H locs cells slots ls rest k => lv_iconst hx hb dX4_countAdvised_0 (by decide) k) ?_
  refine xm_Oks.step (sn_stI hG fun H locs cells slots ls rest x lv lv9 h he k => lv_istore_n hx hb dX4_countAdvised_1 rfl h (by decide) he k) ?_
  refine xm_Oks.step (sn_ldR hG fun H locs cells slots ls rest x h k => lv_aload_n hx hb dX4_countAdvised_2 rfl h k) ?_
  refine xm_Oks.step (sn_getR hG rfl rfl (by decide) fun H locs cells slots ls rest q0 ws a fs v hP hw hv k => va_get (D := D) (C := RX4) (T := TX4) (N := 4) hx hb ht xu_4 hown hK hP q0 hw rfl 3 (by decide) (ht _ xw_206) (fun _ h9 => h9) hv dX4_countAdvised_3 k) ?_
  refine xm_Oks.step (sn_stR hG fun H locs cells slots ls rest x lv lv9 h he k => lv_astore_n hx hb dX4_countAdvised_6 rfl h (by decide) he k) ?_
  refine xm_Oks.step (sn_ldR hG fun H locs cells slots ls rest x h k => lv_aload_n hx hb dX4_countAdvised_7 rfl h k) ?_
  refine xm_Oks.step (sn_alen hG hC (xr_alen hx hb hK dX4_countAdvised_8) (fun H locs cells slots ls rest t k0 hT hS k => va_tlen hx hb hT.T hS rfl dX4_countAdvised_8 k)) ?_
  refine xm_Oks.step (sn_stI hG fun H locs cells slots ls rest x lv lv9 h he k => lv_istore_n hx hb dX4_countAdvised_9 rfl h (by decide) he k) ?_
  refine xm_Oks.step (sn_push hG (fun _ => trivial) fun ad H locs cells slots ls rest k => lv_iconst hx hb dX4_countAdvised_10 (by decide) k) ?_
  refine xm_Oks.step (sn_stI hG fun H locs cells slots ls rest x lv lv9 h he k => lv_istore hx hb dX4_countAdvised_11 h (by decide) he k) ?_
  refine xm_Oks.step (sn_ldI hG fun H locs cells slots ls rest x h k => lv_iload hx hb dX4_countAdvised_13 h k) ?_
  refine xm_Oks.step (sn_ldI hG fun H locs cells slots ls rest x h k => lv_iload_n hx hb dX4_countAdvised_15 rfl h k) ?_
  refine xm_Oks.step (sn_icmp hG fun H locs cells slots ls rest x y kt kf => lv_icmp_ge (tgt := 42) hx hb dX4_countAdvised_16 (by decide) kt kf) ?_
  refine xm_Oks.step (sn_ldR hG fun H locs cells slots ls rest x h k => lv_aload_n hx hb dX4_countAdvised_19 rfl h k) ?_
  refine xm_Oks.step (sn_ldI hG fun H locs cells slots ls rest x h k => lv_iload hx hb dX4_countAdvised_20 h k) ?_
  refine xm_Oks.step (sn_aald hG (by decide) fun H locs cells slots ls rest q0 ws a N f x hP hw hin k => va_aldq hx hb hK hP q0 5 hw rfl hin dX4_countAdvised_22 k) ?_
  refine xm_Oks.step (sn_stR hG fun H locs cells slots ls rest x lv lv9 h he k => lv_astore hx hb dX4_countAdvised_23 h (by decide) he k) ?_
  refine xm_Oks.step (sn_ldR hG fun H locs cells slots ls rest x h k => lv_aload hx hb dX4_countAdvised_25 h k) ?_
  refine xm_Oks.step (sn_getI hG rfl rfl (by decide) (by decide) fun H locs cells slots ls rest q0 ws a fs v hP hw hv k => va_get (D := D) (C := RX1) (T := TX1) (N := 11) hx hb ht xu_1 hown hK hP q0 hw rfl 9 (by decide) (ht _ xw_319) (fun _ h9 => h9) hv dX4_countAdvised_27 k) ?_
  refine xm_Oks.step (sn_if hG fun H locs cells slots ls rest x kt kf => lv_if_eq (tgt := 36) hx hb dX4_countAdvised_30 (by decide) kt kf) ?_
  refine xm_Oks.step (sn_inc hG fun H locs cells slots ls rest x lv lv9 j h hj he k => lv_iinc hx hb dX4_countAdvised_33 h hj rfl (by decide) he k) ?_
  refine xm_Oks.step (sn_inc hG fun H locs cells slots ls rest x lv lv9 j h hj he k => lv_iinc hx hb dX4_countAdvised_36 h hj rfl (by decide) he k) ?_
  refine xm_Oks.step (sn_goto hG fun H locs cells slots ls rest k => lv_goto (tgt := 13) hx hb dX4_countAdvised_39 (by decide) k) ?_
  refine xm_Oks.step (sn_ldI hG fun H locs cells slots ls rest x h k => lv_iload_n hx hb dX4_countAdvised_42 rfl h k) ?_
  refine xm_Oks.stop ?_
  exact trivial
