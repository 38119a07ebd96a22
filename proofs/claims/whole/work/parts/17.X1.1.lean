set_option maxHeartbeats 4000000 in
set_option maxRecDepth 100000 in
theorem xk_X1_chosenParting : xm_MOk xp_pg xp_pm 40 := by
  refine ⟨by decide +kernel, rfl, ?_, ?_⟩
  · show xm_Oks _ xt_X1_chosenParting
    exact ⟨trivial, trivial, trivial, trivial, trivial, trivial, trivial, trivial, trivial, trivial, trivial, trivial, trivial, trivial, trivial, ⟨dX1_chosenParting_21, rfl⟩, trivial⟩
  intro d mc ms p l e s m args below meth c Q cA D A tS ad0 o0 G hG hC hn ih
  have hG : xm_IsG p l e (xm_room (d + 1) mc ms) s m args below meth c Q cA D A tS 3 ad0 o0 G := hG
  have hC : xm_Cx p s m args c cX1_chosenParting 3 RX1 (Cond.code yX1_chosenParting cX1_chosenParting 3 (some .int) :: xm_W) cA D A tS := hC
  have hn : meth.name = "chosenParting" := hn
  obtain ⟨hx, hb, hml, hown, hts, hK, hA, hSx, hNx⟩ := id hC
  have ht : ∀ w ∈ xm_W, w.before args s = true := fun w h => hts w (List.mem_cons_of_mem _ h)
  show xm_Oks (xm_Ent (xm_room (d + 1) mc ms) G (xm_Do xp_pg d)) xt_X1_chosenParting
  unfold xt_X1_chosenParting
  refine xm_Oks.step (sn_ldR hG fun H locs cells slots ls rest x h k => lv_aload_n hx hb dX1_chosenParting_0 rfl h k) ?_
  refine xm_Oks.step (sn_ldI hG fun H locs cells slots ls rest x h k => lv_iload_n hx hb dX1_chosenParting_1 rfl h k) ?_
  refine xm_Oks.call (xm_sndC hG hC (xm_callV ⟨hx, hb, hml, hown, hts⟩ xw_73 xw_74 xw_75 xw_53 xw_76 (by decide +kernel) dX1_chosenParting_2) (Nat.le_refl _) (by show 8 + (6 + 11) + 40 * d ≤ 40 * (d + 1); omega) (fun C0 h9 => by cases h9; exact ⟨1, _, _, by decide, by decide, rfl, rfl, rfl⟩) (fun as M v M1 mc ms h9 ad sz g1 g2 => ih 39 as M v M1 mc ms h9 ad sz g1 g2)) ?_
  refine xm_Oks.step (sn_stI hG fun H locs cells slots ls rest x lv lv9 h he k => lv_istore_n hx hb dX1_chosenParting_5 rfl h (by decide) he k) ?_
  refine xm_Oks.step (sn_ldR hG fun H locs cells slots ls rest x h k => lv_aload_n hx hb dX1_chosenParting_6 rfl h k) ?_
  refine xm_Oks.step (sn_ldI hG fun H locs cells slots ls rest x h k => lv_iload_n hx hb dX1_chosenParting_7 rfl h k) ?_
  refine xm_Oks.step (sn_ldR hG fun H locs cells slots ls rest x h k => lv_aload_n hx hb dX1_chosenParting_8 rfl h k) ?_
  refine xm_Oks.step (sn_ldI hG fun H locs cells slots ls rest x h k => lv_iload_n hx hb dX1_chosenParting_9 rfl h k) ?_
  refine xm_Oks.step (sn_push hG (fun _ => trivial) fun ad H locs cells slots ls rest k => lv_iconst hx hb dX1_chosenParting_10 (by decide) k) ?_
  refine xm_Oks.step (sn_push hG (fun _ => trivial) fun ad H locs cells slots ls rest k => lv_iconst hx hb dX1_chosenParting_11 (by decide) k) ?_
  refine xm_Oks.step (sn_ldI hG fun H locs cells slots ls rest x h k => lv_iload_n hx hb dX1_chosenParting_12 rfl h k) ?_
  refine xm_Oks.call (xm_sndC hG hC (xm_callV ⟨hx, hb, hml, hown, hts⟩ xw_100 xw_101 xw_102 xw_53 xw_103 (by decide +kernel) dX1_chosenParting_13) (Nat.le_refl _) (by show 8 + (6 + 11) + 40 * d ≤ 40 * (d + 1); omega) (fun C0 h9 => by cases h9; exact ⟨1, _, _, by decide, by decide, rfl, rfl, rfl⟩) (fun as M v M1 mc ms h9 ad sz g1 g2 => ih 38 as M v M1 mc ms h9 ad sz g1 g2)) ?_
  refine xm_Oks.step (sn_push hG (fun _ => trivial) fun ad H locs cells slots ls rest k => lv_iconst hx hb dX1_chosenParting_16 (by decide) k) ?_
  refine xm_Oks.step (sn_ldI hG fun H locs cells slots ls rest x h k => lv_iload_n hx hb dX1_chosenParting_17 rfl h k) ?_
  refine xm_Oks.call (xm_sndC hG hC (xm_callV ⟨hx, hb, hml, hown, hts⟩ xw_105 xw_106 xw_107 xw_53 xw_108 (by decide +kernel) dX1_chosenParting_18) (Nat.le_refl _) (by show 8 + (9 + 11) + 40 * d ≤ 40 * (d + 1); omega) (fun C0 h9 => by cases h9; exact ⟨1, _, _, by decide, by decide, rfl, rfl, rfl⟩) (fun as M v M1 mc ms h9 ad sz g1 g2 => ih 37 as M v M1 mc ms h9 ad sz g1 g2)) ?_
  refine xm_Oks.stop ?_
  exact trivial
