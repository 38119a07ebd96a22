/-! WHAT THE REFERENCE COMPUTES (by program) -/
set_option linter.unusedVariables false in
def xe_X5_set (I : xh_I) (L : xh_L) (a : Int32) (b : Int32) : Int32 := if a = 0 then (if a < 0 then 1 else (if 6 < a then 1 else (if b < 1 then 1 else (if b ≤ 100 then 0 else 1)))) else (if a = 6 then (if a = 1 then (if a < 0 then 1 else (if 6 < a then 1 else (if b < 1 then 1 else (if b ≤ 5000 then 0 else 1)))) else (if a = 2 then (if a < 0 then 1 else (if 6 < a then 1 else (if b < 1 then 1 else (if b ≤ 5000 then 0 else 1)))) else (if a = 3 then (if a < 0 then 1 else (if 6 < a then 1 else (if b < 1 then 1 else (if b ≤ 2000 then 0 else 1)))) else (if a = 4 then (if a < 0 then 1 else (if 6 < a then 1 else (if b < 1 then 1 else (if b ≤ 2000 then 0 else 1)))) else (if a = 5 then (if a < 0 then 1 else (if 6 < a then 1 else (if b < 1 then 1 else (if b ≤ 20 then 0 else 1)))) else (if a < 0 then 1 else (if 6 < a then 1 else (if b < 1 then 1 else (if b ≤ 60 then 0 else 1))))))))) else (if a = 1 then (if a < 0 then 1 else (if 6 < a then 1 else (if b < 0 then 1 else (if b ≤ 5000 then 0 else 1)))) else (if a = 2 then (if a < 0 then 1 else (if 6 < a then 1 else (if b < 0 then 1 else (if b ≤ 5000 then 0 else 1)))) else (if a = 3 then (if a < 0 then 1 else (if 6 < a then 1 else (if b < 0 then 1 else (if b ≤ 2000 then 0 else 1)))) else (if a = 4 then (if a < 0 then 1 else (if 6 < a then 1 else (if b < 0 then 1 else (if b ≤ 2000 then 0 else 1)))) else (if a = 5 then (if a < 0 then 1 else (if 6 < a then 1 else (if b < 0 then 1 else (if b ≤ 20 then 0 else 1)))) else (if a < 0 then 1 else (if 6 < a then 1 else (if b < 0 then 1 else (if b ≤ 60 then 0 else 1))))))))))
set_option maxHeartbeats 4000000 in
set_option maxRecDepth 100000 in
theorem xn_X5_set (d : Nat) (I : xh_I) (L : xh_L) (a : Int32) (b : Int32) (he : xe_X5_set I L a b = 1) : xm_Do xp_pg (d + 1) 73 [xm_r 5 0, xm_i a, xm_i b] (xh_M I L) (some (xm_i 0)) (xh_M (xm_up I 5 0 0 1) L) 0 0 := by
  refine xK.of (Nat.le_of_ble_eq_true rfl) rfl ?_
  refine xK.run (q := (1, [(0, xm_r 5 0), (1, xm_i a), (2, xm_i b)], [xm_i a], xh_M I L, 0, 0)) 1 rfl ?_
  refine xK.ifI rfl (fun (h1 : a = 0) => ?_) (fun (h1 : ¬ a = 0) => ?_)
  · skip
    refine xK.run (q := (17, [(0, xm_r 5 0), (1, xm_i a), (2, xm_i b), (3, xm_i 1)], [xm_i a], xh_M I L, 0, 0)) 4 rfl ?_
    refine xK.ifN rfl (fun _ => ?_) (fun h9 => absurd h1 h9)
    refine xK.run (q := (73, [(0, xm_r 5 0), (1, xm_i a), (2, xm_i b), (3, xm_i 1), (4, xm_i 100)], [xm_i a, xm_r 5 0], xh_M I L, 0, 0)) 5 rfl ?_
    refine xK.ifI rfl (fun (h2 : a < 0) => ?_) (fun (h2 : ¬ a < 0) => ?_)
    · skip
      refine xK.run (q := (105, [(0, xm_r 5 0), (1, xm_i a), (2, xm_i b), (3, xm_i 1), (4, xm_i 100)], [xm_i 1], xh_M (xm_up I 5 0 0 1) L, 0, 0)) 5 rfl ?_
      refine xK.ifI rfl (fun h9 => absurd h9 (by decide)) (fun _ => ?_)
      refine xK.run (q := (109, [(0, xm_r 5 0), (1, xm_i a), (2, xm_i b), (3, xm_i 1), (4, xm_i 100)], [xm_i 0], xh_M (xm_up I 5 0 0 1) L, 0, 0)) 1 rfl ?_
      exact xK.ret rfl ⟨_, rfl, rfl⟩
    · skip
      refine xK.run (q := (79, [(0, xm_r 5 0), (1, xm_i a), (2, xm_i b), (3, xm_i 1), (4, xm_i 100)], [xm_i 6, xm_i a, xm_r 5 0], xh_M I L, 0, 0)) 2 rfl ?_
      refine xK.icmp rfl (fun (h3 : 6 < a) => ?_) (fun (h3 : ¬ 6 < a) => ?_)
      · skip
        refine xK.run (q := (105, [(0, xm_r 5 0), (1, xm_i a), (2, xm_i b), (3, xm_i 1), (4, xm_i 100)], [xm_i 1], xh_M (xm_up I 5 0 0 1) L, 0, 0)) 5 rfl ?_
        refine xK.ifI rfl (fun h9 => absurd h9 (by decide)) (fun _ => ?_)
        refine xK.run (q := (109, [(0, xm_r 5 0), (1, xm_i a), (2, xm_i b), (3, xm_i 1), (4, xm_i 100)], [xm_i 0], xh_M (xm_up I 5 0 0 1) L, 0, 0)) 1 rfl ?_
        exact xK.ret rfl ⟨_, rfl, rfl⟩
      · skip
        refine xK.run (q := (84, [(0, xm_r 5 0), (1, xm_i a), (2, xm_i b), (3, xm_i 1), (4, xm_i 100)], [xm_i 1, xm_i b, xm_r 5 0], xh_M I L, 0, 0)) 2 rfl ?_
        refine xK.icmp rfl (fun (h4 : b < 1) => ?_) (fun (h4 : ¬ b < 1) => ?_)
        · skip
          refine xK.run (q := (105, [(0, xm_r 5 0), (1, xm_i a), (2, xm_i b), (3, xm_i 1), (4, xm_i 100)], [xm_i 1], xh_M (xm_up I 5 0 0 1) L, 0, 0)) 5 rfl ?_
          refine xK.ifI rfl (fun h9 => absurd h9 (by decide)) (fun _ => ?_)
          refine xK.run (q := (109, [(0, xm_r 5 0), (1, xm_i a), (2, xm_i b), (3, xm_i 1), (4, xm_i 100)], [xm_i 0], xh_M (xm_up I 5 0 0 1) L, 0, 0)) 1 rfl ?_
          exact xK.ret rfl ⟨_, rfl, rfl⟩
        · skip
          refine xK.run (q := (90, [(0, xm_r 5 0), (1, xm_i a), (2, xm_i b), (3, xm_i 1), (4, xm_i 100)], [xm_i 100, xm_i b, xm_r 5 0], xh_M I L, 0, 0)) 2 rfl ?_
          refine xK.icmp rfl (fun (h5 : b ≤ 100) => ?_) (fun (h5 : ¬ b ≤ 100) => ?_)
          · skip
            refine xK.run (q := (105, [(0, xm_r 5 0), (1, xm_i a), (2, xm_i b), (3, xm_i 1), (4, xm_i 100)], [xm_i 0], xh_M (xm_up I 5 0 0 0) L, 0, 0)) 4 rfl ?_
            refine xK.ifI rfl (fun _ => ?_) (fun h9 => absurd (by decide) h9)
            exact absurd ((show xe_X5_set I L a b = 0 from by unfold xe_X5_set; rw [if_pos h1, if_neg h2, if_neg h3, if_neg h4, if_pos h5]).symm.trans he) (by decide)
          · skip
            refine xK.run (q := (105, [(0, xm_r 5 0), (1, xm_i a), (2, xm_i b), (3, xm_i 1), (4, xm_i 100)], [xm_i 1], xh_M (xm_up I 5 0 0 1) L, 0, 0)) 5 rfl ?_
            refine xK.ifI rfl (fun h9 => absurd h9 (by decide)) (fun _ => ?_)
            refine xK.run (q := (109, [(0, xm_r 5 0), (1, xm_i a), (2, xm_i b), (3, xm_i 1), (4, xm_i 100)], [xm_i 0], xh_M (xm_up I 5 0 0 1) L, 0, 0)) 1 rfl ?_
            exact xK.ret rfl ⟨_, rfl, rfl⟩
  · skip
    refine xK.run (q := (7, [(0, xm_r 5 0), (1, xm_i a), (2, xm_i b)], [xm_i 6, xm_i a], xh_M I L, 0, 0)) 2 rfl ?_
    refine xK.icmpN rfl (fun (h6 : a = 6) => ?_) (fun (h6 : ¬ a = 6) => ?_)
    · skip
      refine xK.run (q := (17, [(0, xm_r 5 0), (1, xm_i a), (2, xm_i b), (3, xm_i 1)], [xm_i a], xh_M I L, 0, 0)) 4 rfl ?_
      refine xK.ifN rfl (fun h9 => absurd h9 h1) (fun _ => ?_)
      refine xK.run (q := (27, [(0, xm_r 5 0), (1, xm_i a), (2, xm_i b), (3, xm_i 1)], [xm_i 1, xm_i a], xh_M I L, 0, 0)) 2 rfl ?_
      refine xK.icmp rfl (fun (h7 : a = 1) => ?_) (fun (h7 : ¬ a = 1) => ?_)
      · skip
        refine xK.run (q := (73, [(0, xm_r 5 0), (1, xm_i a), (2, xm_i b), (3, xm_i 1), (4, xm_i 5000)], [xm_i a, xm_r 5 0], xh_M I L, 0, 0)) 5 rfl ?_
        refine xK.ifI rfl (fun (h8 : a < 0) => ?_) (fun (h8 : ¬ a < 0) => ?_)
        · skip
          refine xK.run (q := (105, [(0, xm_r 5 0), (1, xm_i a), (2, xm_i b), (3, xm_i 1), (4, xm_i 5000)], [xm_i 1], xh_M (xm_up I 5 0 0 1) L, 0, 0)) 5 rfl ?_
          refine xK.ifI rfl (fun h9 => absurd h9 (by decide)) (fun _ => ?_)
          refine xK.run (q := (109, [(0, xm_r 5 0), (1, xm_i a), (2, xm_i b), (3, xm_i 1), (4, xm_i 5000)], [xm_i 0], xh_M (xm_up I 5 0 0 1) L, 0, 0)) 1 rfl ?_
          exact xK.ret rfl ⟨_, rfl, rfl⟩
        · skip
          refine xK.run (q := (79, [(0, xm_r 5 0), (1, xm_i a), (2, xm_i b), (3, xm_i 1), (4, xm_i 5000)], [xm_i 6, xm_i a, xm_r 5 0], xh_M I L, 0, 0)) 2 rfl ?_
          refine xK.icmp rfl (fun (h9 : 6 < a) => ?_) (fun (h9 : ¬ 6 < a) => ?_)
          · skip
            refine xK.run (q := (105, [(0, xm_r 5 0), (1, xm_i a), (2, xm_i b), (3, xm_i 1), (4, xm_i 5000)], [xm_i 1], xh_M (xm_up I 5 0 0 1) L, 0, 0)) 5 rfl ?_
            refine xK.ifI rfl (fun h9 => absurd h9 (by decide)) (fun _ => ?_)
            refine xK.run (q := (109, [(0, xm_r 5 0), (1, xm_i a), (2, xm_i b), (3, xm_i 1), (4, xm_i 5000)], [xm_i 0], xh_M (xm_up I 5 0 0 1) L, 0, 0)) 1 rfl ?_
            exact xK.ret rfl ⟨_, rfl, rfl⟩
          · skip
            refine xK.run (q := (84, [(0, xm_r 5 0), (1, xm_i a), (2, xm_i b), (3, xm_i 1), (4, xm_i 5000)], [xm_i 1, xm_i b, xm_r 5 0], xh_M I L, 0, 0)) 2 rfl ?_
            refine xK.icmp rfl (fun (h10 : b < 1) => ?_) (fun (h10 : ¬ b < 1) => ?_)
            · skip
              refine xK.run (q := (105, [(0, xm_r 5 0), (1, xm_i a), (2, xm_i b), (3, xm_i 1), (4, xm_i 5000)], [xm_i 1], xh_M (xm_up I 5 0 0 1) L, 0, 0)) 5 rfl ?_
              refine xK.ifI rfl (fun h9 => absurd h9 (by decide)) (fun _ => ?_)
              refine xK.run (q := (109, [(0, xm_r 5 0), (1, xm_i a), (2, xm_i b), (3, xm_i 1), (4, xm_i 5000)], [xm_i 0], xh_M (xm_up I 5 0 0 1) L, 0, 0)) 1 rfl ?_
              exact xK.ret rfl ⟨_, rfl, rfl⟩
            · skip
              refine xK.run (q := (90, [(0, xm_r 5 0), (1, xm_i a), (2, xm_i b), (3, xm_i 1), (4, xm_i 5000)], [xm_i 5000, xm_i b, xm_r 5 0], xh_M I L, 0, 0)) 2 rfl ?_
              refine xK.icmp rfl (fun (h11 : b ≤ 5000) => ?_) (fun (h11 : ¬ b ≤ 5000) => ?_)
              · skip
                refine xK.run (q := (105, [(0, xm_r 5 0), (1, xm_i a), (2, xm_i b), (3, xm_i 1), (4, xm_i 5000)], [xm_i 0], xh_M (xm_up I 5 0 0 0) L, 0, 0)) 4 rfl ?_
                refine xK.ifI rfl (fun _ => ?_) (fun h9 => absurd (by decide) h9)
                exact absurd ((show xe_X5_set I L a b = 0 from by unfold xe_X5_set; rw [if_neg h1, if_pos h6, if_pos h7, if_neg h8, if_neg h9, if_neg h10, if_pos h11]).symm.trans he) (by decide)
              · skip
                refine xK.run (q := (105, [(0, xm_r 5 0), (1, xm_i a), (2, xm_i b), (3, xm_i 1), (4, xm_i 5000)], [xm_i 1], xh_M (xm_up I 5 0 0 1) L, 0, 0)) 5 rfl ?_
                refine xK.ifI rfl (fun h9 => absurd h9 (by decide)) (fun _ => ?_)
                refine xK.run (q := (109, [(0, xm_r 5 0), (1, xm_i a), (2, xm_i b), (3, xm_i 1), (4, xm_i 5000)], [xm_i 0], xh_M (xm_up I 5 0 0 1) L, 0, 0)) 1 rfl ?_
                exact xK.ret rfl ⟨_, rfl, rfl⟩
      · skip
        refine xK.run (q := (32, [(0, xm_r 5 0), (1, xm_i a), (2, xm_i b), (3, xm_i 1)], [xm_i 2, xm_i a], xh_M I L, 0, 0)) 2 rfl ?_
        refine xK.icmpN rfl (fun (h12 : a = 2) => ?_) (fun (h12 : ¬ a = 2) => ?_)
        · skip
          refine xK.run (q := (73, [(0, xm_r 5 0), (1, xm_i a), (2, xm_i b), (3, xm_i 1), (4, xm_i 5000)], [xm_i a, xm_r 5 0], xh_M I L, 0, 0)) 5 rfl ?_
          refine xK.ifI rfl (fun (h13 : a < 0) => ?_) (fun (h13 : ¬ a < 0) => ?_)
          · skip
            refine xK.run (q := (105, [(0, xm_r 5 0), (1, xm_i a), (2, xm_i b), (3, xm_i 1), (4, xm_i 5000)], [xm_i 1], xh_M (xm_up I 5 0 0 1) L, 0, 0)) 5 rfl ?_
            refine xK.ifI rfl (fun h9 => absurd h9 (by decide)) (fun _ => ?_)
            refine xK.run (q := (109, [(0, xm_r 5 0), (1, xm_i a), (2, xm_i b), (3, xm_i 1), (4, xm_i 5000)], [xm_i 0], xh_M (xm_up I 5 0 0 1) L, 0, 0)) 1 rfl ?_
            exact xK.ret rfl ⟨_, rfl, rfl⟩
          · skip
            refine xK.run (q := (79, [(0, xm_r 5 0), (1, xm_i a), (2, xm_i b), (3, xm_i 1), (4, xm_i 5000)], [xm_i 6, xm_i a, xm_r 5 0], xh_M I L, 0, 0)) 2 rfl ?_
            refine xK.icmp rfl (fun (h14 : 6 < a) => ?_) (fun (h14 : ¬ 6 < a) => ?_)
            · skip
              refine xK.run (q := (105, [(0, xm_r 5 0), (1, xm_i a), (2, xm_i b), (3, xm_i 1), (4, xm_i 5000)], [xm_i 1], xh_M (xm_up I 5 0 0 1) L, 0, 0)) 5 rfl ?_
              refine xK.ifI rfl (fun h9 => absurd h9 (by decide)) (fun _ => ?_)
              refine xK.run (q := (109, [(0, xm_r 5 0), (1, xm_i a), (2, xm_i b), (3, xm_i 1), (4, xm_i 5000)], [xm_i 0], xh_M (xm_up I 5 0 0 1) L, 0, 0)) 1 rfl ?_
              exact xK.ret rfl ⟨_, rfl, rfl⟩
            · skip
              refine xK.run (q := (84, [(0, xm_r 5 0), (1, xm_i a), (2, xm_i b), (3, xm_i 1), (4, xm_i 5000)], [xm_i 1, xm_i b, xm_r 5 0], xh_M I L, 0, 0)) 2 rfl ?_
              refine xK.icmp rfl (fun (h15 : b < 1) => ?_) (fun (h15 : ¬ b < 1) => ?_)
              · skip
                refine xK.run (q := (105, [(0, xm_r 5 0), (1, xm_i a), (2, xm_i b), (3, xm_i 1), (4, xm_i 5000)], [xm_i 1], xh_M (xm_up I 5 0 0 1) L, 0, 0)) 5 rfl ?_
                refine xK.ifI rfl (fun h9 => absurd h9 (by decide)) (fun _ => ?_)
                refine xK.run (q := (109, [(0, xm_r 5 0), (1, xm_i a), (2, xm_i b), (3, xm_i 1), (4, xm_i 5000)], [xm_i 0], xh_M (xm_up I 5 0 0 1) L, 0, 0)) 1 rfl ?_
                exact xK.ret rfl ⟨_, rfl, rfl⟩
              · skip
                refine xK.run (q := (90, [(0, xm_r 5 0), (1, xm_i a), (2, xm_i b), (3, xm_i 1), (4, xm_i 5000)], [xm_i 5000, xm_i b, xm_r 5 0], xh_M I L, 0, 0)) 2 rfl ?_
                refine xK.icmp rfl (fun (h16 : b ≤ 5000) => ?_) (fun (h16 : ¬ b ≤ 5000) => ?_)
                · skip
                  refine xK.run (q := (105, [(0, xm_r 5 0), (1, xm_i a), (2, xm_i b), (3, xm_i 1), (4, xm_i 5000)], [xm_i 0], xh_M (xm_up I 5 0 0 0) L, 0, 0)) 4 rfl ?_
                  refine xK.ifI rfl (fun _ => ?_) (fun h9 => absurd (by decide) h9)
                  exact absurd ((show xe_X5_set I L a b = 0 from by unfold xe_X5_set; rw [if_neg h1, if_pos h6, if_neg h7, if_pos h12, if_neg h13, if_neg h14, if_neg h15, if_pos h16]).symm.trans he) (by decide)
                · skip
                  refine xK.run (q := (105, [(0, xm_r 5 0), (1, xm_i a), (2, xm_i b), (3, xm_i 1), (4, xm_i 5000)], [xm_i 1], xh_M (xm_up I 5 0 0 1) L, 0, 0)) 5 rfl ?_
                  refine xK.ifI rfl (fun h9 => absurd h9 (by decide)) (fun _ => ?_)
                  refine xK.run (q := (109, [(0, xm_r 5 0), (1, xm_i a), (2, xm_i b), (3, xm_i 1), (4, xm_i 5000)], [xm_i 0], xh_M (xm_up I 5 0 0 1) L, 0, 0)) 1 rfl ?_
                  exact xK.ret rfl ⟨_, rfl, rfl⟩
        · skip
          refine xK.run (q := (43, [(0, xm_r 5 0), (1, xm_i a), (2, xm_i b), (3, xm_i 1)], [xm_i 3, xm_i a], xh_M I L, 0, 0)) 2 rfl ?_
          refine xK.icmp rfl (fun (h17 : a = 3) => ?_) (fun (h17 : ¬ a = 3) => ?_)
          · skip
            refine xK.run (q := (73, [(0, xm_r 5 0), (1, xm_i a), (2, xm_i b), (3, xm_i 1), (4, xm_i 2000)], [xm_i a, xm_r 5 0], xh_M I L, 0, 0)) 5 rfl ?_
            refine xK.ifI rfl (fun (h18 : a < 0) => ?_) (fun (h18 : ¬ a < 0) => ?_)
            · skip
              refine xK.run (q := (105, [(0, xm_r 5 0), (1, xm_i a), (2, xm_i b), (3, xm_i 1), (4, xm_i 2000)], [xm_i 1], xh_M (xm_up I 5 0 0 1) L, 0, 0)) 5 rfl ?_
              refine xK.ifI rfl (fun h9 => absurd h9 (by decide)) (fun _ => ?_)
              refine xK.run (q := (109, [(0, xm_r 5 0), (1, xm_i a), (2, xm_i b), (3, xm_i 1), (4, xm_i 2000)], [xm_i 0], xh_M (xm_up I 5 0 0 1) L, 0, 0)) 1 rfl ?_
              exact xK.ret rfl ⟨_, rfl, rfl⟩
            · skip
              refine xK.run (q := (79, [(0, xm_r 5 0), (1, xm_i a), (2, xm_i b), (3, xm_i 1), (4, xm_i 2000)], [xm_i 6, xm_i a, xm_r 5 0], xh_M I L, 0, 0)) 2 rfl ?_
              refine xK.icmp rfl (fun (h19 : 6 < a) => ?_) (fun (h19 : ¬ 6 < a) => ?_)
              · skip
                refine xK.run (q := (105, [(0, xm_r 5 0), (1, xm_i a), (2, xm_i b), (3, xm_i 1), (4, xm_i 2000)], [xm_i 1], xh_M (xm_up I 5 0 0 1) L, 0, 0)) 5 rfl ?_
                refine xK.ifI rfl (fun h9 => absurd h9 (by decide)) (fun _ => ?_)
                refine xK.run (q := (109, [(0, xm_r 5 0), (1, xm_i a), (2, xm_i b), (3, xm_i 1), (4, xm_i 2000)], [xm_i 0], xh_M (xm_up I 5 0 0 1) L, 0, 0)) 1 rfl ?_
                exact xK.ret rfl ⟨_, rfl, rfl⟩
              · skip
                refine xK.run (q := (84, [(0, xm_r 5 0), (1, xm_i a), (2, xm_i b), (3, xm_i 1), (4, xm_i 2000)], [xm_i 1, xm_i b, xm_r 5 0], xh_M I L, 0, 0)) 2 rfl ?_
                refine xK.icmp rfl (fun (h20 : b < 1) => ?_) (fun (h20 : ¬ b < 1) => ?_)
                · skip
                  refine xK.run (q := (105, [(0, xm_r 5 0), (1, xm_i a), (2, xm_i b), (3, xm_i 1), (4, xm_i 2000)], [xm_i 1], xh_M (xm_up I 5 0 0 1) L, 0, 0)) 5 rfl ?_
                  refine xK.ifI rfl (fun h9 => absurd h9 (by decide)) (fun _ => ?_)
                  refine xK.run (q := (109, [(0, xm_r 5 0), (1, xm_i a), (2, xm_i b), (3, xm_i 1), (4, xm_i 2000)], [xm_i 0], xh_M (xm_up I 5 0 0 1) L, 0, 0)) 1 rfl ?_
                  exact xK.ret rfl ⟨_, rfl, rfl⟩
                · skip
                  refine xK.run (q := (90, [(0, xm_r 5 0), (1, xm_i a), (2, xm_i b), (3, xm_i 1), (4, xm_i 2000)], [xm_i 2000, xm_i b, xm_r 5 0], xh_M I L, 0, 0)) 2 rfl ?_
                  refine xK.icmp rfl (fun (h21 : b ≤ 2000) => ?_) (fun (h21 : ¬ b ≤ 2000) => ?_)
                  · skip
                    refine xK.run (q := (105, [(0, xm_r 5 0), (1, xm_i a), (2, xm_i b), (3, xm_i 1), (4, xm_i 2000)], [xm_i 0], xh_M (xm_up I 5 0 0 0) L, 0, 0)) 4 rfl ?_
                    refine xK.ifI rfl (fun _ => ?_) (fun h9 => absurd (by decide) h9)
                    exact absurd ((show xe_X5_set I L a b = 0 from by unfold xe_X5_set; rw [if_neg h1, if_pos h6, if_neg h7, if_neg h12, if_pos h17, if_neg h18, if_neg h19, if_neg h20, if_pos h21]).symm.trans he) (by decide)
                  · skip
                    refine xK.run (q := (105, [(0, xm_r 5 0), (1, xm_i a), (2, xm_i b), (3, xm_i 1), (4, xm_i 2000)], [xm_i 1], xh_M (xm_up I 5 0 0 1) L, 0, 0)) 5 rfl ?_
                    refine xK.ifI rfl (fun h9 => absurd h9 (by decide)) (fun _ => ?_)
                    refine xK.run (q := (109, [(0, xm_r 5 0), (1, xm_i a), (2, xm_i b), (3, xm_i 1), (4, xm_i 2000)], [xm_i 0], xh_M (xm_up I 5 0 0 1) L, 0, 0)) 1 rfl ?_
                    exact xK.ret rfl ⟨_, rfl, rfl⟩
          · skip
            refine xK.run (q := (48, [(0, xm_r 5 0), (1, xm_i a), (2, xm_i b), (3, xm_i 1)], [xm_i 4, xm_i a], xh_M I L, 0, 0)) 2 rfl ?_
            refine xK.icmpN rfl (fun (h22 : a = 4) => ?_) (fun (h22 : ¬ a = 4) => ?_)
            · skip
              refine xK.run (q := (73, [(0, xm_r 5 0), (1, xm_i a), (2, xm_i b), (3, xm_i 1), (4, xm_i 2000)], [xm_i a, xm_r 5 0], xh_M I L, 0, 0)) 5 rfl ?_
              refine xK.ifI rfl (fun (h23 : a < 0) => ?_) (fun (h23 : ¬ a < 0) => ?_)
              · skip
                refine xK.run (q := (105, [(0, xm_r 5 0), (1, xm_i a), (2, xm_i b), (3, xm_i 1), (4, xm_i 2000)], [xm_i 1], xh_M (xm_up I 5 0 0 1) L, 0, 0)) 5 rfl ?_
                refine xK.ifI rfl (fun h9 => absurd h9 (by decide)) (fun _ => ?_)
                refine xK.run (q := (109, [(0, xm_r 5 0), (1, xm_i a), (2, xm_i b), (3, xm_i 1), (4, xm_i 2000)], [xm_i 0], xh_M (xm_up I 5 0 0 1) L, 0, 0)) 1 rfl ?_
                exact xK.ret rfl ⟨_, rfl, rfl⟩
              · skip
                refine xK.run (q := (79, [(0, xm_r 5 0), (1, xm_i a), (2, xm_i b), (3, xm_i 1), (4, xm_i 2000)], [xm_i 6, xm_i a, xm_r 5 0], xh_M I L, 0, 0)) 2 rfl ?_
                refine xK.icmp rfl (fun (h24 : 6 < a) => ?_) (fun (h24 : ¬ 6 < a) => ?_)
                · skip
                  refine xK.run (q := (105, [(0, xm_r 5 0), (1, xm_i a), (2, xm_i b), (3, xm_i 1), (4, xm_i 2000)], [xm_i 1], xh_M (xm_up I 5 0 0 1) L, 0, 0)) 5 rfl ?_
                  refine xK.ifI rfl (fun h9 => absurd h9 (by decide)) (fun _ => ?_)
                  refine xK.run (q := (109, [(0, xm_r 5 0), (1, xm_i a), (2, xm_i b), (3, xm_i 1), (4, xm_i 2000)], [xm_i 0], xh_M (xm_up I 5 0 0 1) L, 0, 0)) 1 rfl ?_
                  exact xK.ret rfl ⟨_, rfl, rfl⟩
                · skip
                  refine xK.run (q := (84, [(0, xm_r 5 0), (1, xm_i a), (2, xm_i b), (3, xm_i 1), (4, xm_i 2000)], [xm_i 1, xm_i b, xm_r 5 0], xh_M I L, 0, 0)) 2 rfl ?_
                  refine xK.icmp rfl (fun (h25 : b < 1) => ?_) (fun (h25 : ¬ b < 1) => ?_)
                  · skip
                    refine xK.run (q := (105, [(0, xm_r 5 0), (1, xm_i a), (2, xm_i b), (3, xm_i 1), (4, xm_i 2000)], [xm_i 1], xh_M (xm_up I 5 0 0 1) L, 0, 0)) 5 rfl ?_
                    refine xK.ifI rfl (fun h9 => absurd h9 (by decide)) (fun _ => ?_)
                    refine xK.run (q := (109, [(0, xm_r 5 0), (1, xm_i a), (2, xm_i b), (3, xm_i 1), (4, xm_i 2000)], [xm_i 0], xh_M (xm_up I 5 0 0 1) L, 0, 0)) 1 rfl ?_
                    exact xK.ret rfl ⟨_, rfl, rfl⟩
                  · skip
                    refine xK.run (q := (90, [(0, xm_r 5 0), (1, xm_i a), (2, xm_i b), (3, xm_i 1), (4, xm_i 2000)], [xm_i 2000, xm_i b, xm_r 5 0], xh_M I L, 0, 0)) 2 rfl ?_
                    refine xK.icmp rfl (fun (h26 : b ≤ 2000) => ?_) (fun (h26 : ¬ b ≤ 2000) => ?_)
                    · skip
                      refine xK.run (q := (105, [(0, xm_r 5 0), (1, xm_i a), (2, xm_i b), (3, xm_i 1), (4, xm_i 2000)], [xm_i 0], xh_M (xm_up I 5 0 0 0) L, 0, 0)) 4 rfl ?_
                      refine xK.ifI rfl (fun _ => ?_) (fun h9 => absurd (by decide) h9)
                      exact absurd ((show xe_X5_set I L a b = 0 from by unfold xe_X5_set; rw [if_neg h1, if_pos h6, if_neg h7, if_neg h12, if_neg h17, if_pos h22, if_neg h23, if_neg h24, if_neg h25, if_pos h26]).symm.trans he) (by decide)
                    · skip
                      refine xK.run (q := (105, [(0, xm_r 5 0), (1, xm_i a), (2, xm_i b), (3, xm_i 1), (4, xm_i 2000)], [xm_i 1], xh_M (xm_up I 5 0 0 1) L, 0, 0)) 5 rfl ?_
                      refine xK.ifI rfl (fun h9 => absurd h9 (by decide)) (fun _ => ?_)
                      refine xK.run (q := (109, [(0, xm_r 5 0), (1, xm_i a), (2, xm_i b), (3, xm_i 1), (4, xm_i 2000)], [xm_i 0], xh_M (xm_up I 5 0 0 1) L, 0, 0)) 1 rfl ?_
                      exact xK.ret rfl ⟨_, rfl, rfl⟩
            · skip
              refine xK.run (q := (59, [(0, xm_r 5 0), (1, xm_i a), (2, xm_i b), (3, xm_i 1)], [xm_i 5, xm_i a], xh_M I L, 0, 0)) 2 rfl ?_
              refine xK.icmpN rfl (fun (h27 : a = 5) => ?_) (fun (h27 : ¬ a = 5) => ?_)
              · skip
                refine xK.run (q := (73, [(0, xm_r 5 0), (1, xm_i a), (2, xm_i b), (3, xm_i 1), (4, xm_i 20)], [xm_i a, xm_r 5 0], xh_M I L, 0, 0)) 5 rfl ?_
                refine xK.ifI rfl (fun (h28 : a < 0) => ?_) (fun (h28 : ¬ a < 0) => ?_)
                · skip
                  refine xK.run (q := (105, [(0, xm_r 5 0), (1, xm_i a), (2, xm_i b), (3, xm_i 1), (4, xm_i 20)], [xm_i 1], xh_M (xm_up I 5 0 0 1) L, 0, 0)) 5 rfl ?_
                  refine xK.ifI rfl (fun h9 => absurd h9 (by decide)) (fun _ => ?_)
                  refine xK.run (q := (109, [(0, xm_r 5 0), (1, xm_i a), (2, xm_i b), (3, xm_i 1), (4, xm_i 20)], [xm_i 0], xh_M (xm_up I 5 0 0 1) L, 0, 0)) 1 rfl ?_
                  exact xK.ret rfl ⟨_, rfl, rfl⟩
                · skip
                  refine xK.run (q := (79, [(0, xm_r 5 0), (1, xm_i a), (2, xm_i b), (3, xm_i 1), (4, xm_i 20)], [xm_i 6, xm_i a, xm_r 5 0], xh_M I L, 0, 0)) 2 rfl ?_
                  refine xK.icmp rfl (fun (h29 : 6 < a) => ?_) (fun (h29 : ¬ 6 < a) => ?_)
                  · skip
                    refine xK.run (q := (105, [(0, xm_r 5 0), (1, xm_i a), (2, xm_i b), (3, xm_i 1), (4, xm_i 20)], [xm_i 1], xh_M (xm_up I 5 0 0 1) L, 0, 0)) 5 rfl ?_
                    refine xK.ifI rfl (fun h9 => absurd h9 (by decide)) (fun _ => ?_)
                    refine xK.run (q := (109, [(0, xm_r 5 0), (1, xm_i a), (2, xm_i b), (3, xm_i 1), (4, xm_i 20)], [xm_i 0], xh_M (xm_up I 5 0 0 1) L, 0, 0)) 1 rfl ?_
                    exact xK.ret rfl ⟨_, rfl, rfl⟩
                  · skip
                    refine xK.run (q := (84, [(0, xm_r 5 0), (1, xm_i a), (2, xm_i b), (3, xm_i 1), (4, xm_i 20)], [xm_i 1, xm_i b, xm_r 5 0], xh_M I L, 0, 0)) 2 rfl ?_
                    refine xK.icmp rfl (fun (h30 : b < 1) => ?_) (fun (h30 : ¬ b < 1) => ?_)
                    · skip
                      refine xK.run (q := (105, [(0, xm_r 5 0), (1, xm_i a), (2, xm_i b), (3, xm_i 1), (4, xm_i 20)], [xm_i 1], xh_M (xm_up I 5 0 0 1) L, 0, 0)) 5 rfl ?_
                      refine xK.ifI rfl (fun h9 => absurd h9 (by decide)) (fun _ => ?_)
                      refine xK.run (q := (109, [(0, xm_r 5 0), (1, xm_i a), (2, xm_i b), (3, xm_i 1), (4, xm_i 20)], [xm_i 0], xh_M (xm_up I 5 0 0 1) L, 0, 0)) 1 rfl ?_
                      exact xK.ret rfl ⟨_, rfl, rfl⟩
                    · skip
                      refine xK.run (q := (90, [(0, xm_r 5 0), (1, xm_i a), (2, xm_i b), (3, xm_i 1), (4, xm_i 20)], [xm_i 20, xm_i b, xm_r 5 0], xh_M I L, 0, 0)) 2 rfl ?_
                      refine xK.icmp rfl (fun (h31 : b ≤ 20) => ?_) (fun (h31 : ¬ b ≤ 20) => ?_)
                      · skip
                        refine xK.run (q := (105, [(0, xm_r 5 0), (1, xm_i a), (2, xm_i b), (3, xm_i 1), (4, xm_i 20)], [xm_i 0], xh_M (xm_up I 5 0 0 0) L, 0, 0)) 4 rfl ?_
                        refine xK.ifI rfl (fun _ => ?_) (fun h9 => absurd (by decide) h9)
                        exact absurd ((show xe_X5_set I L a b = 0 from by unfold xe_X5_set; rw [if_neg h1, if_pos h6, if_neg h7, if_neg h12, if_neg h17, if_neg h22, if_pos h27, if_neg h28, if_neg h29, if_neg h30, if_pos h31]).symm.trans he) (by decide)
                      · skip
                        refine xK.run (q := (105, [(0, xm_r 5 0), (1, xm_i a), (2, xm_i b), (3, xm_i 1), (4, xm_i 20)], [xm_i 1], xh_M (xm_up I 5 0 0 1) L, 0, 0)) 5 rfl ?_
                        refine xK.ifI rfl (fun h9 => absurd h9 (by decide)) (fun _ => ?_)
                        refine xK.run (q := (109, [(0, xm_r 5 0), (1, xm_i a), (2, xm_i b), (3, xm_i 1), (4, xm_i 20)], [xm_i 0], xh_M (xm_up I 5 0 0 1) L, 0, 0)) 1 rfl ?_
                        exact xK.ret rfl ⟨_, rfl, rfl⟩
              · skip
                refine xK.run (q := (73, [(0, xm_r 5 0), (1, xm_i a), (2, xm_i b), (3, xm_i 1), (4, xm_i 60)], [xm_i a, xm_r 5 0], xh_M I L, 0, 0)) 4 rfl ?_
                refine xK.ifI rfl (fun (h32 : a < 0) => ?_) (fun (h32 : ¬ a < 0) => ?_)
                · skip
                  refine xK.run (q := (105, [(0, xm_r 5 0), (1, xm_i a), (2, xm_i b), (3, xm_i 1), (4, xm_i 60)], [xm_i 1], xh_M (xm_up I 5 0 0 1) L, 0, 0)) 5 rfl ?_
                  refine xK.ifI rfl (fun h9 => absurd h9 (by decide)) (fun _ => ?_)
                  refine xK.run (q := (109, [(0, xm_r 5 0), (1, xm_i a), (2, xm_i b), (3, xm_i 1), (4, xm_i 60)], [xm_i 0], xh_M (xm_up I 5 0 0 1) L, 0, 0)) 1 rfl ?_
                  exact xK.ret rfl ⟨_, rfl, rfl⟩
                · skip
                  refine xK.run (q := (79, [(0, xm_r 5 0), (1, xm_i a), (2, xm_i b), (3, xm_i 1), (4, xm_i 60)], [xm_i 6, xm_i a, xm_r 5 0], xh_M I L, 0, 0)) 2 rfl ?_
                  refine xK.icmp rfl (fun (h33 : 6 < a) => ?_) (fun (h33 : ¬ 6 < a) => ?_)
                  · skip
                    refine xK.run (q := (105, [(0, xm_r 5 0), (1, xm_i a), (2, xm_i b), (3, xm_i 1), (4, xm_i 60)], [xm_i 1], xh_M (xm_up I 5 0 0 1) L, 0, 0)) 5 rfl ?_
                    refine xK.ifI rfl (fun h9 => absurd h9 (by decide)) (fun _ => ?_)
                    refine xK.run (q := (109, [(0, xm_r 5 0), (1, xm_i a), (2, xm_i b), (3, xm_i 1), (4, xm_i 60)], [xm_i 0], xh_M (xm_up I 5 0 0 1) L, 0, 0)) 1 rfl ?_
                    exact xK.ret rfl ⟨_, rfl, rfl⟩
                  · skip
                    refine xK.run (q := (84, [(0, xm_r 5 0), (1, xm_i a), (2, xm_i b), (3, xm_i 1), (4, xm_i 60)], [xm_i 1, xm_i b, xm_r 5 0], xh_M I L, 0, 0)) 2 rfl ?_
                    refine xK.icmp rfl (fun (h34 : b < 1) => ?_) (fun (h34 : ¬ b < 1) => ?_)
                    · skip
                      refine xK.run (q := (105, [(0, xm_r 5 0), (1, xm_i a), (2, xm_i b), (3, xm_i 1), (4, xm_i 60)], [xm_i 1], xh_M (xm_up I 5 0 0 1) L, 0, 0)) 5 rfl ?_
                      refine xK.ifI rfl (fun h9 => absurd h9 (by decide)) (fun _ => ?_)
                      refine xK.run (q := (109, [(0, xm_r 5 0), (1, xm_i a), (2, xm_i b), (3, xm_i 1), (4, xm_i 60)], [xm_i 0], xh_M (xm_up I 5 0 0 1) L, 0, 0)) 1 rfl ?_
                      exact xK.ret rfl ⟨_, rfl, rfl⟩
                    · skip
                      refine xK.run (q := (90, [(0, xm_r 5 0), (1, xm_i a), (2, xm_i b), (3, xm_i 1), (4, xm_i 60)], [xm_i 60, xm_i b, xm_r 5 0], xh_M I L, 0, 0)) 2 rfl ?_
                      refine xK.icmp rfl (fun (h35 : b ≤ 60) => ?_) (fun (h35 : ¬ b ≤ 60) => ?_)
                      · skip
                        refine xK.run (q := (105, [(0, xm_r 5 0), (1, xm_i a), (2, xm_i b), (3, xm_i 1), (4, xm_i 60)], [xm_i 0], xh_M (xm_up I 5 0 0 0) L, 0, 0)) 4 rfl ?_
                        refine xK.ifI rfl (fun _ => ?_) (fun h9 => absurd (by decide) h9)
                        exact absurd ((show xe_X5_set I L a b = 0 from by unfold xe_X5_set; rw [if_neg h1, if_pos h6, if_neg h7, if_neg h12, if_neg h17, if_neg h22, if_neg h27, if_neg h32, if_neg h33, if_neg h34, if_pos h35]).symm.trans he) (by decide)
                      · skip
                        refine xK.run (q := (105, [(0, xm_r 5 0), (1, xm_i a), (2, xm_i b), (3, xm_i 1), (4, xm_i 60)], [xm_i 1], xh_M (xm_up I 5 0 0 1) L, 0, 0)) 5 rfl ?_
                        refine xK.ifI rfl (fun h9 => absurd h9 (by decide)) (fun _ => ?_)
                        refine xK.run (q := (109, [(0, xm_r 5 0), (1, xm_i a), (2, xm_i b), (3, xm_i 1), (4, xm_i 60)], [xm_i 0], xh_M (xm_up I 5 0 0 1) L, 0, 0)) 1 rfl ?_
                        exact xK.ret rfl ⟨_, rfl, rfl⟩
    · skip
      refine xK.run (q := (17, [(0, xm_r 5 0), (1, xm_i a), (2, xm_i b), (3, xm_i 0)], [xm_i a], xh_M I L, 0, 0)) 3 rfl ?_
      refine xK.ifN rfl (fun h9 => absurd h9 h1) (fun _ => ?_)
      refine xK.run (q := (27, [(0, xm_r 5 0), (1, xm_i a), (2, xm_i b), (3, xm_i 0)], [xm_i 1, xm_i a], xh_M I L, 0, 0)) 2 rfl ?_
      refine xK.icmp rfl (fun (h36 : a = 1) => ?_) (fun (h36 : ¬ a = 1) => ?_)
      · skip
        refine xK.run (q := (73, [(0, xm_r 5 0), (1, xm_i a), (2, xm_i b), (3, xm_i 0), (4, xm_i 5000)], [xm_i a, xm_r 5 0], xh_M I L, 0, 0)) 5 rfl ?_
        refine xK.ifI rfl (fun (h37 : a < 0) => ?_) (fun (h37 : ¬ a < 0) => ?_)
        · skip
          refine xK.run (q := (105, [(0, xm_r 5 0), (1, xm_i a), (2, xm_i b), (3, xm_i 0), (4, xm_i 5000)], [xm_i 1], xh_M (xm_up I 5 0 0 1) L, 0, 0)) 5 rfl ?_
          refine xK.ifI rfl (fun h9 => absurd h9 (by decide)) (fun _ => ?_)
          refine xK.run (q := (109, [(0, xm_r 5 0), (1, xm_i a), (2, xm_i b), (3, xm_i 0), (4, xm_i 5000)], [xm_i 0], xh_M (xm_up I 5 0 0 1) L, 0, 0)) 1 rfl ?_
          exact xK.ret rfl ⟨_, rfl, rfl⟩
        · skip
          refine xK.run (q := (79, [(0, xm_r 5 0), (1, xm_i a), (2, xm_i b), (3, xm_i 0), (4, xm_i 5000)], [xm_i 6, xm_i a, xm_r 5 0], xh_M I L, 0, 0)) 2 rfl ?_
          refine xK.icmp rfl (fun (h38 : 6 < a) => ?_) (fun (h38 : ¬ 6 < a) => ?_)
          · skip
            refine xK.run (q := (105, [(0, xm_r 5 0), (1, xm_i a), (2, xm_i b), (3, xm_i 0), (4, xm_i 5000)], [xm_i 1], xh_M (xm_up I 5 0 0 1) L, 0, 0)) 5 rfl ?_
            refine xK.ifI rfl (fun h9 => absurd h9 (by decide)) (fun _ => ?_)
            refine xK.run (q := (109, [(0, xm_r 5 0), (1, xm_i a), (2, xm_i b), (3, xm_i 0), (4, xm_i 5000)], [xm_i 0], xh_M (xm_up I 5 0 0 1) L, 0, 0)) 1 rfl ?_
            exact xK.ret rfl ⟨_, rfl, rfl⟩
          · skip
            refine xK.run (q := (84, [(0, xm_r 5 0), (1, xm_i a), (2, xm_i b), (3, xm_i 0), (4, xm_i 5000)], [xm_i 0, xm_i b, xm_r 5 0], xh_M I L, 0, 0)) 2 rfl ?_
            refine xK.icmp rfl (fun (h39 : b < 0) => ?_) (fun (h39 : ¬ b < 0) => ?_)
            · skip
              refine xK.run (q := (105, [(0, xm_r 5 0), (1, xm_i a), (2, xm_i b), (3, xm_i 0), (4, xm_i 5000)], [xm_i 1], xh_M (xm_up I 5 0 0 1) L, 0, 0)) 5 rfl ?_
              refine xK.ifI rfl (fun h9 => absurd h9 (by decide)) (fun _ => ?_)
              refine xK.run (q := (109, [(0, xm_r 5 0), (1, xm_i a), (2, xm_i b), (3, xm_i 0), (4, xm_i 5000)], [xm_i 0], xh_M (xm_up I 5 0 0 1) L, 0, 0)) 1 rfl ?_
              exact xK.ret rfl ⟨_, rfl, rfl⟩
            · skip
              refine xK.run (q := (90, [(0, xm_r 5 0), (1, xm_i a), (2, xm_i b), (3, xm_i 0), (4, xm_i 5000)], [xm_i 5000, xm_i b, xm_r 5 0], xh_M I L, 0, 0)) 2 rfl ?_
              refine xK.icmp rfl (fun (h40 : b ≤ 5000) => ?_) (fun (h40 : ¬ b ≤ 5000) => ?_)
              · skip
                refine xK.run (q := (105, [(0, xm_r 5 0), (1, xm_i a), (2, xm_i b), (3, xm_i 0), (4, xm_i 5000)], [xm_i 0], xh_M (xm_up I 5 0 0 0) L, 0, 0)) 4 rfl ?_
                refine xK.ifI rfl (fun _ => ?_) (fun h9 => absurd (by decide) h9)
                exact absurd ((show xe_X5_set I L a b = 0 from by unfold xe_X5_set; rw [if_neg h1, if_neg h6, if_pos h36, if_neg h37, if_neg h38, if_neg h39, if_pos h40]).symm.trans he) (by decide)
              · skip
                refine xK.run (q := (105, [(0, xm_r 5 0), (1, xm_i a), (2, xm_i b), (3, xm_i 0), (4, xm_i 5000)], [xm_i 1], xh_M (xm_up I 5 0 0 1) L, 0, 0)) 5 rfl ?_
                refine xK.ifI rfl (fun h9 => absurd h9 (by decide)) (fun _ => ?_)
                refine xK.run (q := (109, [(0, xm_r 5 0), (1, xm_i a), (2, xm_i b), (3, xm_i 0), (4, xm_i 5000)], [xm_i 0], xh_M (xm_up I 5 0 0 1) L, 0, 0)) 1 rfl ?_
                exact xK.ret rfl ⟨_, rfl, rfl⟩
      · skip
        refine xK.run (q := (32, [(0, xm_r 5 0), (1, xm_i a), (2, xm_i b), (3, xm_i 0)], [xm_i 2, xm_i a], xh_M I L, 0, 0)) 2 rfl ?_
        refine xK.icmpN rfl (fun (h41 : a = 2) => ?_) (fun (h41 : ¬ a = 2) => ?_)
        · skip
          refine xK.run (q := (73, [(0, xm_r 5 0), (1, xm_i a), (2, xm_i b), (3, xm_i 0), (4, xm_i 5000)], [xm_i a, xm_r 5 0], xh_M I L, 0, 0)) 5 rfl ?_
          refine xK.ifI rfl (fun (h42 : a < 0) => ?_) (fun (h42 : ¬ a < 0) => ?_)
          · skip
            refine xK.run (q := (105, [(0, xm_r 5 0), (1, xm_i a), (2, xm_i b), (3, xm_i 0), (4, xm_i 5000)], [xm_i 1], xh_M (xm_up I 5 0 0 1) L, 0, 0)) 5 rfl ?_
            refine xK.ifI rfl (fun h9 => absurd h9 (by decide)) (fun _ => ?_)
            refine xK.run (q := (109, [(0, xm_r 5 0), (1, xm_i a), (2, xm_i b), (3, xm_i 0), (4, xm_i 5000)], [xm_i 0], xh_M (xm_up I 5 0 0 1) L, 0, 0)) 1 rfl ?_
            exact xK.ret rfl ⟨_, rfl, rfl⟩
          · skip
            refine xK.run (q := (79, [(0, xm_r 5 0), (1, xm_i a), (2, xm_i b), (3, xm_i 0), (4, xm_i 5000)], [xm_i 6, xm_i a, xm_r 5 0], xh_M I L, 0, 0)) 2 rfl ?_
            refine xK.icmp rfl (fun (h43 : 6 < a) => ?_) (fun (h43 : ¬ 6 < a) => ?_)
            · skip
              refine xK.run (q := (105, [(0, xm_r 5 0), (1, xm_i a), (2, xm_i b), (3, xm_i 0), (4, xm_i 5000)], [xm_i 1], xh_M (xm_up I 5 0 0 1) L, 0, 0)) 5 rfl ?_
              refine xK.ifI rfl (fun h9 => absurd h9 (by decide)) (fun _ => ?_)
              refine xK.run (q := (109, [(0, xm_r 5 0), (1, xm_i a), (2, xm_i b), (3, xm_i 0), (4, xm_i 5000)], [xm_i 0], xh_M (xm_up I 5 0 0 1) L, 0, 0)) 1 rfl ?_
              exact xK.ret rfl ⟨_, rfl, rfl⟩
            · skip
              refine xK.run (q := (84, [(0, xm_r 5 0), (1, xm_i a), (2, xm_i b), (3, xm_i 0), (4, xm_i 5000)], [xm_i 0, xm_i b, xm_r 5 0], xh_M I L, 0, 0)) 2 rfl ?_
              refine xK.icmp rfl (fun (h44 : b < 0) => ?_) (fun (h44 : ¬ b < 0) => ?_)
              · skip
                refine xK.run (q := (105, [(0, xm_r 5 0), (1, xm_i a), (2, xm_i b), (3, xm_i 0), (4, xm_i 5000)], [xm_i 1], xh_M (xm_up I 5 0 0 1) L, 0, 0)) 5 rfl ?_
                refine xK.ifI rfl (fun h9 => absurd h9 (by decide)) (fun _ => ?_)
                refine xK.run (q := (109, [(0, xm_r 5 0), (1, xm_i a), (2, xm_i b), (3, xm_i 0), (4, xm_i 5000)], [xm_i 0], xh_M (xm_up I 5 0 0 1) L, 0, 0)) 1 rfl ?_
                exact xK.ret rfl ⟨_, rfl, rfl⟩
              · skip
                refine xK.run (q := (90, [(0, xm_r 5 0), (1, xm_i a), (2, xm_i b), (3, xm_i 0), (4, xm_i 5000)], [xm_i 5000, xm_i b, xm_r 5 0], xh_M I L, 0, 0)) 2 rfl ?_
                refine xK.icmp rfl (fun (h45 : b ≤ 5000) => ?_) (fun (h45 : ¬ b ≤ 5000) => ?_)
                · skip
                  refine xK.run (q := (105, [(0, xm_r 5 0), (1, xm_i a), (2, xm_i b), (3, xm_i 0), (4, xm_i 5000)], [xm_i 0], xh_M (xm_up I 5 0 0 0) L, 0, 0)) 4 rfl ?_
                  refine xK.ifI rfl (fun _ => ?_) (fun h9 => absurd (by decide) h9)
                  exact absurd ((show xe_X5_set I L a b = 0 from by unfold xe_X5_set; rw [if_neg h1, if_neg h6, if_neg h36, if_pos h41, if_neg h42, if_neg h43, if_neg h44, if_pos h45]).symm.trans he) (by decide)
                · skip
                  refine xK.run (q := (105, [(0, xm_r 5 0), (1, xm_i a), (2, xm_i b), (3, xm_i 0), (4, xm_i 5000)], [xm_i 1], xh_M (xm_up I 5 0 0 1) L, 0, 0)) 5 rfl ?_
                  refine xK.ifI rfl (fun h9 => absurd h9 (by decide)) (fun _ => ?_)
                  refine xK.run (q := (109, [(0, xm_r 5 0), (1, xm_i a), (2, xm_i b), (3, xm_i 0), (4, xm_i 5000)], [xm_i 0], xh_M (xm_up I 5 0 0 1) L, 0, 0)) 1 rfl ?_
                  exact xK.ret rfl ⟨_, rfl, rfl⟩
        · skip
          refine xK.run (q := (43, [(0, xm_r 5 0), (1, xm_i a), (2, xm_i b), (3, xm_i 0)], [xm_i 3, xm_i a], xh_M I L, 0, 0)) 2 rfl ?_
          refine xK.icmp rfl (fun (h46 : a = 3) => ?_) (fun (h46 : ¬ a = 3) => ?_)
          · skip
            refine xK.run (q := (73, [(0, xm_r 5 0), (1, xm_i a), (2, xm_i b), (3, xm_i 0), (4, xm_i 2000)], [xm_i a, xm_r 5 0], xh_M I L, 0, 0)) 5 rfl ?_
            refine xK.ifI rfl (fun (h47 : a < 0) => ?_) (fun (h47 : ¬ a < 0) => ?_)
            · skip
              refine xK.run (q := (105, [(0, xm_r 5 0), (1, xm_i a), (2, xm_i b), (3, xm_i 0), (4, xm_i 2000)], [xm_i 1], xh_M (xm_up I 5 0 0 1) L, 0, 0)) 5 rfl ?_
              refine xK.ifI rfl (fun h9 => absurd h9 (by decide)) (fun _ => ?_)
              refine xK.run (q := (109, [(0, xm_r 5 0), (1, xm_i a), (2, xm_i b), (3, xm_i 0), (4, xm_i 2000)], [xm_i 0], xh_M (xm_up I 5 0 0 1) L, 0, 0)) 1 rfl ?_
              exact xK.ret rfl ⟨_, rfl, rfl⟩
            · skip
              refine xK.run (q := (79, [(0, xm_r 5 0), (1, xm_i a), (2, xm_i b), (3, xm_i 0), (4, xm_i 2000)], [xm_i 6, xm_i a, xm_r 5 0], xh_M I L, 0, 0)) 2 rfl ?_
              refine xK.icmp rfl (fun (h48 : 6 < a) => ?_) (fun (h48 : ¬ 6 < a) => ?_)
              · skip
                refine xK.run (q := (105, [(0, xm_r 5 0), (1, xm_i a), (2, xm_i b), (3, xm_i 0), (4, xm_i 2000)], [xm_i 1], xh_M (xm_up I 5 0 0 1) L, 0, 0)) 5 rfl ?_
                refine xK.ifI rfl (fun h9 => absurd h9 (by decide)) (fun _ => ?_)
                refine xK.run (q := (109, [(0, xm_r 5 0), (1, xm_i a), (2, xm_i b), (3, xm_i 0), (4, xm_i 2000)], [xm_i 0], xh_M (xm_up I 5 0 0 1) L, 0, 0)) 1 rfl ?_
                exact xK.ret rfl ⟨_, rfl, rfl⟩
              · skip
                refine xK.run (q := (84, [(0, xm_r 5 0), (1, xm_i a), (2, xm_i b), (3, xm_i 0), (4, xm_i 2000)], [xm_i 0, xm_i b, xm_r 5 0], xh_M I L, 0, 0)) 2 rfl ?_
                refine xK.icmp rfl (fun (h49 : b < 0) => ?_) (fun (h49 : ¬ b < 0) => ?_)
                · skip
                  refine xK.run (q := (105, [(0, xm_r 5 0), (1, xm_i a), (2, xm_i b), (3, xm_i 0), (4, xm_i 2000)], [xm_i 1], xh_M (xm_up I 5 0 0 1) L, 0, 0)) 5 rfl ?_
                  refine xK.ifI rfl (fun h9 => absurd h9 (by decide)) (fun _ => ?_)
                  refine xK.run (q := (109, [(0, xm_r 5 0), (1, xm_i a), (2, xm_i b), (3, xm_i 0), (4, xm_i 2000)], [xm_i 0], xh_M (xm_up I 5 0 0 1) L, 0, 0)) 1 rfl ?_
                  exact xK.ret rfl ⟨_, rfl, rfl⟩
                · skip
                  refine xK.run (q := (90, [(0, xm_r 5 0), (1, xm_i a), (2, xm_i b), (3, xm_i 0), (4, xm_i 2000)], [xm_i 2000, xm_i b, xm_r 5 0], xh_M I L, 0, 0)) 2 rfl ?_
                  refine xK.icmp rfl (fun (h50 : b ≤ 2000) => ?_) (fun (h50 : ¬ b ≤ 2000) => ?_)
                  · skip
                    refine xK.run (q := (105, [(0, xm_r 5 0), (1, xm_i a), (2, xm_i b), (3, xm_i 0), (4, xm_i 2000)], [xm_i 0], xh_M (xm_up I 5 0 0 0) L, 0, 0)) 4 rfl ?_
                    refine xK.ifI rfl (fun _ => ?_) (fun h9 => absurd (by decide) h9)
                    exact absurd ((show xe_X5_set I L a b = 0 from by unfold xe_X5_set; rw [if_neg h1, if_neg h6, if_neg h36, if_neg h41, if_pos h46, if_neg h47, if_neg h48, if_neg h49, if_pos h50]).symm.trans he) (by decide)
                  · skip
                    refine xK.run (q := (105, [(0, xm_r 5 0), (1, xm_i a), (2, xm_i b), (3, xm_i 0), (4, xm_i 2000)], [xm_i 1], xh_M (xm_up I 5 0 0 1) L, 0, 0)) 5 rfl ?_
                    refine xK.ifI rfl (fun h9 => absurd h9 (by decide)) (fun _ => ?_)
                    refine xK.run (q := (109, [(0, xm_r 5 0), (1, xm_i a), (2, xm_i b), (3, xm_i 0), (4, xm_i 2000)], [xm_i 0], xh_M (xm_up I 5 0 0 1) L, 0, 0)) 1 rfl ?_
                    exact xK.ret rfl ⟨_, rfl, rfl⟩
          · skip
            refine xK.run (q := (48, [(0, xm_r 5 0), (1, xm_i a), (2, xm_i b), (3, xm_i 0)], [xm_i 4, xm_i a], xh_M I L, 0, 0)) 2 rfl ?_
            refine xK.icmpN rfl (fun (h51 : a = 4) => ?_) (fun (h51 : ¬ a = 4) => ?_)
            · skip
              refine xK.run (q := (73, [(0, xm_r 5 0), (1, xm_i a), (2, xm_i b), (3, xm_i 0), (4, xm_i 2000)], [xm_i a, xm_r 5 0], xh_M I L, 0, 0)) 5 rfl ?_
              refine xK.ifI rfl (fun (h52 : a < 0) => ?_) (fun (h52 : ¬ a < 0) => ?_)
              · skip
                refine xK.run (q := (105, [(0, xm_r 5 0), (1, xm_i a), (2, xm_i b), (3, xm_i 0), (4, xm_i 2000)], [xm_i 1], xh_M (xm_up I 5 0 0 1) L, 0, 0)) 5 rfl ?_
                refine xK.ifI rfl (fun h9 => absurd h9 (by decide)) (fun _ => ?_)
                refine xK.run (q := (109, [(0, xm_r 5 0), (1, xm_i a), (2, xm_i b), (3, xm_i 0), (4, xm_i 2000)], [xm_i 0], xh_M (xm_up I 5 0 0 1) L, 0, 0)) 1 rfl ?_
                exact xK.ret rfl ⟨_, rfl, rfl⟩
              · skip
                refine xK.run (q := (79, [(0, xm_r 5 0), (1, xm_i a), (2, xm_i b), (3, xm_i 0), (4, xm_i 2000)], [xm_i 6, xm_i a, xm_r 5 0], xh_M I L, 0, 0)) 2 rfl ?_
                refine xK.icmp rfl (fun (h53 : 6 < a) => ?_) (fun (h53 : ¬ 6 < a) => ?_)
                · skip
                  refine xK.run (q := (105, [(0, xm_r 5 0), (1, xm_i a), (2, xm_i b), (3, xm_i 0), (4, xm_i 2000)], [xm_i 1], xh_M (xm_up I 5 0 0 1) L, 0, 0)) 5 rfl ?_
                  refine xK.ifI rfl (fun h9 => absurd h9 (by decide)) (fun _ => ?_)
                  refine xK.run (q := (109, [(0, xm_r 5 0), (1, xm_i a), (2, xm_i b), (3, xm_i 0), (4, xm_i 2000)], [xm_i 0], xh_M (xm_up I 5 0 0 1) L, 0, 0)) 1 rfl ?_
                  exact xK.ret rfl ⟨_, rfl, rfl⟩
                · skip
                  refine xK.run (q := (84, [(0, xm_r 5 0), (1, xm_i a), (2, xm_i b), (3, xm_i 0), (4, xm_i 2000)], [xm_i 0, xm_i b, xm_r 5 0], xh_M I L, 0, 0)) 2 rfl ?_
                  refine xK.icmp rfl (fun (h54 : b < 0) => ?_) (fun (h54 : ¬ b < 0) => ?_)
                  · skip
                    refine xK.run (q := (105, [(0, xm_r 5 0), (1, xm_i a), (2, xm_i b), (3, xm_i 0), (4, xm_i 2000)], [xm_i 1], xh_M (xm_up I 5 0 0 1) L, 0, 0)) 5 rfl ?_
                    refine xK.ifI rfl (fun h9 => absurd h9 (by decide)) (fun _ => ?_)
                    refine xK.run (q := (109, [(0, xm_r 5 0), (1, xm_i a), (2, xm_i b), (3, xm_i 0), (4, xm_i 2000)], [xm_i 0], xh_M (xm_up I 5 0 0 1) L, 0, 0)) 1 rfl ?_
                    exact xK.ret rfl ⟨_, rfl, rfl⟩
                  · skip
                    refine xK.run (q := (90, [(0, xm_r 5 0), (1, xm_i a), (2, xm_i b), (3, xm_i 0), (4, xm_i 2000)], [xm_i 2000, xm_i b, xm_r 5 0], xh_M I L, 0, 0)) 2 rfl ?_
                    refine xK.icmp rfl (fun (h55 : b ≤ 2000) => ?_) (fun (h55 : ¬ b ≤ 2000) => ?_)
                    · skip
                      refine xK.run (q := (105, [(0, xm_r 5 0), (1, xm_i a), (2, xm_i b), (3, xm_i 0), (4, xm_i 2000)], [xm_i 0], xh_M (xm_up I 5 0 0 0) L, 0, 0)) 4 rfl ?_
                      refine xK.ifI rfl (fun _ => ?_) (fun h9 => absurd (by decide) h9)
                      exact absurd ((show xe_X5_set I L a b = 0 from by unfold xe_X5_set; rw [if_neg h1, if_neg h6, if_neg h36, if_neg h41, if_neg h46, if_pos h51, if_neg h52, if_neg h53, if_neg h54, if_pos h55]).symm.trans he) (by decide)
                    · skip
                      refine xK.run (q := (105, [(0, xm_r 5 0), (1, xm_i a), (2, xm_i b), (3, xm_i 0), (4, xm_i 2000)], [xm_i 1], xh_M (xm_up I 5 0 0 1) L, 0, 0)) 5 rfl ?_
                      refine xK.ifI rfl (fun h9 => absurd h9 (by decide)) (fun _ => ?_)
                      refine xK.run (q := (109, [(0, xm_r 5 0), (1, xm_i a), (2, xm_i b), (3, xm_i 0), (4, xm_i 2000)], [xm_i 0], xh_M (xm_up I 5 0 0 1) L, 0, 0)) 1 rfl ?_
                      exact xK.ret rfl ⟨_, rfl, rfl⟩
            · skip
              refine xK.run (q := (59, [(0, xm_r 5 0), (1, xm_i a), (2, xm_i b), (3, xm_i 0)], [xm_i 5, xm_i a], xh_M I L, 0, 0)) 2 rfl ?_
              refine xK.icmpN rfl (fun (h56 : a = 5) => ?_) (fun (h56 : ¬ a = 5) => ?_)
              · skip
                refine xK.run (q := (73, [(0, xm_r 5 0), (1, xm_i a), (2, xm_i b), (3, xm_i 0), (4, xm_i 20)], [xm_i a, xm_r 5 0], xh_M I L, 0, 0)) 5 rfl ?_
                refine xK.ifI rfl (fun (h57 : a < 0) => ?_) (fun (h57 : ¬ a < 0) => ?_)
                · skip
                  refine xK.run (q := (105, [(0, xm_r 5 0), (1, xm_i a), (2, xm_i b), (3, xm_i 0), (4, xm_i 20)], [xm_i 1], xh_M (xm_up I 5 0 0 1) L, 0, 0)) 5 rfl ?_
                  refine xK.ifI rfl (fun h9 => absurd h9 (by decide)) (fun _ => ?_)
                  refine xK.run (q := (109, [(0, xm_r 5 0), (1, xm_i a), (2, xm_i b), (3, xm_i 0), (4, xm_i 20)], [xm_i 0], xh_M (xm_up I 5 0 0 1) L, 0, 0)) 1 rfl ?_
                  exact xK.ret rfl ⟨_, rfl, rfl⟩
                · skip
                  refine xK.run (q := (79, [(0, xm_r 5 0), (1, xm_i a), (2, xm_i b), (3, xm_i 0), (4, xm_i 20)], [xm_i 6, xm_i a, xm_r 5 0], xh_M I L, 0, 0)) 2 rfl ?_
                  refine xK.icmp rfl (fun (h58 : 6 < a) => ?_) (fun (h58 : ¬ 6 < a) => ?_)
                  · skip
                    refine xK.run (q := (105, [(0, xm_r 5 0), (1, xm_i a), (2, xm_i b), (3, xm_i 0), (4, xm_i 20)], [xm_i 1], xh_M (xm_up I 5 0 0 1) L, 0, 0)) 5 rfl ?_
                    refine xK.ifI rfl (fun h9 => absurd h9 (by decide)) (fun _ => ?_)
                    refine xK.run (q := (109, [(0, xm_r 5 0), (1, xm_i a), (2, xm_i b), (3, xm_i 0), (4, xm_i 20)], [xm_i 0], xh_M (xm_up I 5 0 0 1) L, 0, 0)) 1 rfl ?_
                    exact xK.ret rfl ⟨_, rfl, rfl⟩
                  · skip
                    refine xK.run (q := (84, [(0, xm_r 5 0), (1, xm_i a), (2, xm_i b), (3, xm_i 0), (4, xm_i 20)], [xm_i 0, xm_i b, xm_r 5 0], xh_M I L, 0, 0)) 2 rfl ?_
                    refine xK.icmp rfl (fun (h59 : b < 0) => ?_) (fun (h59 : ¬ b < 0) => ?_)
                    · skip
                      refine xK.run (q := (105, [(0, xm_r 5 0), (1, xm_i a), (2, xm_i b), (3, xm_i 0), (4, xm_i 20)], [xm_i 1], xh_M (xm_up I 5 0 0 1) L, 0, 0)) 5 rfl ?_
                      refine xK.ifI rfl (fun h9 => absurd h9 (by decide)) (fun _ => ?_)
                      refine xK.run (q := (109, [(0, xm_r 5 0), (1, xm_i a), (2, xm_i b), (3, xm_i 0), (4, xm_i 20)], [xm_i 0], xh_M (xm_up I 5 0 0 1) L, 0, 0)) 1 rfl ?_
                      exact xK.ret rfl ⟨_, rfl, rfl⟩
                    · skip
                      refine xK.run (q := (90, [(0, xm_r 5 0), (1, xm_i a), (2, xm_i b), (3, xm_i 0), (4, xm_i 20)], [xm_i 20, xm_i b, xm_r 5 0], xh_M I L, 0, 0)) 2 rfl ?_
                      refine xK.icmp rfl (fun (h60 : b ≤ 20) => ?_) (fun (h60 : ¬ b ≤ 20) => ?_)
                      · skip
                        refine xK.run (q := (105, [(0, xm_r 5 0), (1, xm_i a), (2, xm_i b), (3, xm_i 0), (4, xm_i 20)], [xm_i 0], xh_M (xm_up I 5 0 0 0) L, 0, 0)) 4 rfl ?_
                        refine xK.ifI rfl (fun _ => ?_) (fun h9 => absurd (by decide) h9)
                        exact absurd ((show xe_X5_set I L a b = 0 from by unfold xe_X5_set; rw [if_neg h1, if_neg h6, if_neg h36, if_neg h41, if_neg h46, if_neg h51, if_pos h56, if_neg h57, if_neg h58, if_neg h59, if_pos h60]).symm.trans he) (by decide)
                      · skip
                        refine xK.run (q := (105, [(0, xm_r 5 0), (1, xm_i a), (2, xm_i b), (3, xm_i 0), (4, xm_i 20)], [xm_i 1], xh_M (xm_up I 5 0 0 1) L, 0, 0)) 5 rfl ?_
                        refine xK.ifI rfl (fun h9 => absurd h9 (by decide)) (fun _ => ?_)
                        refine xK.run (q := (109, [(0, xm_r 5 0), (1, xm_i a), (2, xm_i b), (3, xm_i 0), (4, xm_i 20)], [xm_i 0], xh_M (xm_up I 5 0 0 1) L, 0, 0)) 1 rfl ?_
                        exact xK.ret rfl ⟨_, rfl, rfl⟩
              · skip
                refine xK.run (q := (73, [(0, xm_r 5 0), (1, xm_i a), (2, xm_i b), (3, xm_i 0), (4, xm_i 60)], [xm_i a, xm_r 5 0], xh_M I L, 0, 0)) 4 rfl ?_
                refine xK.ifI rfl (fun (h61 : a < 0) => ?_) (fun (h61 : ¬ a < 0) => ?_)
                · skip
                  refine xK.run (q := (105, [(0, xm_r 5 0), (1, xm_i a), (2, xm_i b), (3, xm_i 0), (4, xm_i 60)], [xm_i 1], xh_M (xm_up I 5 0 0 1) L, 0, 0)) 5 rfl ?_
                  refine xK.ifI rfl (fun h9 => absurd h9 (by decide)) (fun _ => ?_)
                  refine xK.run (q := (109, [(0, xm_r 5 0), (1, xm_i a), (2, xm_i b), (3, xm_i 0), (4, xm_i 60)], [xm_i 0], xh_M (xm_up I 5 0 0 1) L, 0, 0)) 1 rfl ?_
                  exact xK.ret rfl ⟨_, rfl, rfl⟩
                · skip
                  refine xK.run (q := (79, [(0, xm_r 5 0), (1, xm_i a), (2, xm_i b), (3, xm_i 0), (4, xm_i 60)], [xm_i 6, xm_i a, xm_r 5 0], xh_M I L, 0, 0)) 2 rfl ?_
                  refine xK.icmp rfl (fun (h62 : 6 < a) => ?_) (fun (h62 : ¬ 6 < a) => ?_)
                  · skip
                    refine xK.run (q := (105, [(0, xm_r 5 0), (1, xm_i a), (2, xm_i b), (3, xm_i 0), (4, xm_i 60)], [xm_i 1], xh_M (xm_up I 5 0 0 1) L, 0, 0)) 5 rfl ?_
                    refine xK.ifI rfl (fun h9 => absurd h9 (by decide)) (fun _ => ?_)
                    refine xK.run (q := (109, [(0, xm_r 5 0), (1, xm_i a), (2, xm_i b), (3, xm_i 0), (4, xm_i 60)], [xm_i 0], xh_M (xm_up I 5 0 0 1) L, 0, 0)) 1 rfl ?_
                    exact xK.ret rfl ⟨_, rfl, rfl⟩
                  · skip
                    refine xK.run (q := (84, [(0, xm_r 5 0), (1, xm_i a), (2, xm_i b), (3, xm_i 0), (4, xm_i 60)], [xm_i 0, xm_i b, xm_r 5 0], xh_M I L, 0, 0)) 2 rfl ?_
                    refine xK.icmp rfl (fun (h63 : b < 0) => ?_) (fun (h63 : ¬ b < 0) => ?_)
                    · skip
                      refine xK.run (q := (105, [(0, xm_r 5 0), (1, xm_i a), (2, xm_i b), (3, xm_i 0), (4, xm_i 60)], [xm_i 1], xh_M (xm_up I 5 0 0 1) L, 0, 0)) 5 rfl ?_
                      refine xK.ifI rfl (fun h9 => absurd h9 (by decide)) (fun _ => ?_)
                      refine xK.run (q := (109, [(0, xm_r 5 0), (1, xm_i a), (2, xm_i b), (3, xm_i 0), (4, xm_i 60)], [xm_i 0], xh_M (xm_up I 5 0 0 1) L, 0, 0)) 1 rfl ?_
                      exact xK.ret rfl ⟨_, rfl, rfl⟩
                    · skip
                      refine xK.run (q := (90, [(0, xm_r 5 0), (1, xm_i a), (2, xm_i b), (3, xm_i 0), (4, xm_i 60)], [xm_i 60, xm_i b, xm_r 5 0], xh_M I L, 0, 0)) 2 rfl ?_
                      refine xK.icmp rfl (fun (h64 : b ≤ 60) => ?_) (fun (h64 : ¬ b ≤ 60) => ?_)
                      · skip
                        refine xK.run (q := (105, [(0, xm_r 5 0), (1, xm_i a), (2, xm_i b), (3, xm_i 0), (4, xm_i 60)], [xm_i 0], xh_M (xm_up I 5 0 0 0) L, 0, 0)) 4 rfl ?_
                        refine xK.ifI rfl (fun _ => ?_) (fun h9 => absurd (by decide) h9)
                        exact absurd ((show xe_X5_set I L a b = 0 from by unfold xe_X5_set; rw [if_neg h1, if_neg h6, if_neg h36, if_neg h41, if_neg h46, if_neg h51, if_neg h56, if_neg h61, if_neg h62, if_neg h63, if_pos h64]).symm.trans he) (by decide)
                      · skip
                        refine xK.run (q := (105, [(0, xm_r 5 0), (1, xm_i a), (2, xm_i b), (3, xm_i 0), (4, xm_i 60)], [xm_i 1], xh_M (xm_up I 5 0 0 1) L, 0, 0)) 5 rfl ?_
                        refine xK.ifI rfl (fun h9 => absurd h9 (by decide)) (fun _ => ?_)
                        refine xK.run (q := (109, [(0, xm_r 5 0), (1, xm_i a), (2, xm_i b), (3, xm_i 0), (4, xm_i 60)], [xm_i 0], xh_M (xm_up I 5 0 0 1) L, 0, 0)) 1 rfl ?_
                        exact xK.ret rfl ⟨_, rfl, rfl⟩
set_option linter.unusedVariables false in
def xe_X5_place (I : xh_I) (L : xh_L) (a : Int32) (b : Int32) (c : Int32) (e : Int32) : Int32 := if (xf_X5_isNumber a) = 0 then 1 else (if (xf_X5_within b 200000) = 0 then 1 else (if (xf_X5_within c 200000) = 0 then 1 else (if (xf_X5_within e 20000) = 0 then 1 else 0)))
set_option maxHeartbeats 4000000 in
set_option maxRecDepth 100000 in
theorem xn_X5_place (d : Nat) (I : xh_I) (L : xh_L) (a : Int32) (b : Int32) (c : Int32) (e : Int32) (he : xe_X5_place I L a b c e = 1) : xm_Do xp_pg (d + 2) 80 [xm_r 5 0, xm_i a, xm_i b, xm_i c, xm_i e] (xh_M I L) none (xh_M (xm_up I 5 0 0 1) L) 0 0 := by
  refine xK.of (Nat.le_of_ble_eq_true rfl) rfl ?_
  refine xK.run (q := (2, [(0, xm_r 5 0), (1, xm_i a), (2, xm_i b), (3, xm_i c), (4, xm_i e)], [xm_i a, xm_r 5 0], xh_M I L, 0, 0)) 2 rfl ?_
  refine xK.call [xm_i a] (xd_X5_isNumber d I L a) rfl rfl rfl (Or.inl rfl) (Nat.le_of_ble_eq_true rfl) ?_
  refine xK.ifI rfl (fun (h1 : (xf_X5_isNumber a) = 0) => ?_) (fun (h1 : ¬ (xf_X5_isNumber a) = 0) => ?_)
  · skip
    refine xK.run (q := (49, [(0, xm_r 5 0), (1, xm_i a), (2, xm_i b), (3, xm_i c), (4, xm_i e)], [xm_i 1], xh_M (xm_up I 5 0 0 1) L, 0, 0)) 5 rfl ?_
    refine xK.ifI rfl (fun h9 => absurd h9 (by decide)) (fun _ => ?_)
    exact xK.ret rfl ⟨rfl, rfl⟩
  · skip
    refine xK.run (q := (11, [(0, xm_r 5 0), (1, xm_i a), (2, xm_i b), (3, xm_i c), (4, xm_i e)], [xm_i 200000, xm_i b, xm_r 5 0], xh_M I L, 0, 0)) 2 rfl ?_
    refine xK.call [xm_i b, xm_i 200000] (xd_X5_within d I L b 200000) rfl rfl rfl (Or.inl rfl) (Nat.le_of_ble_eq_true rfl) ?_
    refine xK.ifI rfl (fun (h2 : (xf_X5_within b 200000) = 0) => ?_) (fun (h2 : ¬ (xf_X5_within b 200000) = 0) => ?_)
    · skip
      refine xK.run (q := (49, [(0, xm_r 5 0), (1, xm_i a), (2, xm_i b), (3, xm_i c), (4, xm_i e)], [xm_i 1], xh_M (xm_up I 5 0 0 1) L, 0, 0)) 5 rfl ?_
      refine xK.ifI rfl (fun h9 => absurd h9 (by decide)) (fun _ => ?_)
      exact xK.ret rfl ⟨rfl, rfl⟩
    · skip
      refine xK.run (q := (20, [(0, xm_r 5 0), (1, xm_i a), (2, xm_i b), (3, xm_i c), (4, xm_i e)], [xm_i 200000, xm_i c, xm_r 5 0], xh_M I L, 0, 0)) 2 rfl ?_
      refine xK.call [xm_i c, xm_i 200000] (xd_X5_within d I L c 200000) rfl rfl rfl (Or.inl rfl) (Nat.le_of_ble_eq_true rfl) ?_
      refine xK.ifI rfl (fun (h3 : (xf_X5_within c 200000) = 0) => ?_) (fun (h3 : ¬ (xf_X5_within c 200000) = 0) => ?_)
      · skip
        refine xK.run (q := (49, [(0, xm_r 5 0), (1, xm_i a), (2, xm_i b), (3, xm_i c), (4, xm_i e)], [xm_i 1], xh_M (xm_up I 5 0 0 1) L, 0, 0)) 5 rfl ?_
        refine xK.ifI rfl (fun h9 => absurd h9 (by decide)) (fun _ => ?_)
        exact xK.ret rfl ⟨rfl, rfl⟩
      · skip
        refine xK.run (q := (31, [(0, xm_r 5 0), (1, xm_i a), (2, xm_i b), (3, xm_i c), (4, xm_i e)], [xm_i 20000, xm_i e, xm_r 5 0], xh_M I L, 0, 0)) 2 rfl ?_
        refine xK.call [xm_i e, xm_i 20000] (xd_X5_within d I L e 20000) rfl rfl rfl (Or.inl rfl) (Nat.le_of_ble_eq_true rfl) ?_
        refine xK.ifN rfl (fun (h4 : (xf_X5_within e 20000) = 0) => ?_) (fun (h4 : ¬ (xf_X5_within e 20000) = 0) => ?_)
        · skip
          refine xK.run (q := (49, [(0, xm_r 5 0), (1, xm_i a), (2, xm_i b), (3, xm_i c), (4, xm_i e)], [xm_i 1], xh_M (xm_up I 5 0 0 1) L, 0, 0)) 5 rfl ?_
          refine xK.ifI rfl (fun h9 => absurd h9 (by decide)) (fun _ => ?_)
          exact xK.ret rfl ⟨rfl, rfl⟩
        · skip
          refine xK.run (q := (49, [(0, xm_r 5 0), (1, xm_i a), (2, xm_i b), (3, xm_i c), (4, xm_i e)], [xm_i 0], xh_M (xm_up I 5 0 0 0) L, 0, 0)) 4 rfl ?_
          refine xK.ifI rfl (fun _ => ?_) (fun h9 => absurd (by decide) h9)
          exact absurd ((show xe_X5_place I L a b c e = 0 from by unfold xe_X5_place; rw [if_neg h1, if_neg h2, if_neg h3, if_neg h4]).symm.trans he) (by decide)
set_option linter.unusedVariables false in
def xe_X5_speed (I : xh_I) (L : xh_L) (a : Int32) (b : Int32) (c : Int32) (e : Int32) : Int32 := if (xf_X5_isThere I L a) = 0 then 1 else (if (xf_X5_within b 500) = 0 then 1 else (if (xf_X5_within c 500) = 0 then 1 else (if (xf_X5_within e 60) = 0 then 1 else 0)))
set_option maxHeartbeats 4000000 in
set_option maxRecDepth 100000 in
theorem xn_X5_speed (d : Nat) (I : xh_I) (L : xh_L) (a : Int32) (b : Int32) (c : Int32) (e : Int32) (he : xe_X5_speed I L a b c e = 1) : xm_Do xp_pg (d + 3) 81 [xm_r 5 0, xm_i a, xm_i b, xm_i c, xm_i e] (xh_M I L) none (xh_M (xm_up I 5 0 0 1) L) 0 0 := by
  refine xK.of (Nat.le_of_ble_eq_true rfl) rfl ?_
  refine xK.run (q := (3, [(0, xm_r 5 0), (1, xm_i a), (2, xm_i b), (3, xm_i c), (4, xm_i e)], [xm_i a, xm_r 5 0, xm_r 5 0], xh_M I L, 0, 0)) 3 rfl ?_
  refine xK.call [xm_r 5 0, xm_i a] (xd_X5_isThere d I L a) rfl rfl rfl (Or.inr ⟨_, _, rfl⟩) (Nat.le_of_ble_eq_true rfl) ?_
  refine xK.ifI rfl (fun (h1 : (xf_X5_isThere I L a) = 0) => ?_) (fun (h1 : ¬ (xf_X5_isThere I L a) = 0) => ?_)
  · skip
    refine xK.run (q := (51, [(0, xm_r 5 0), (1, xm_i a), (2, xm_i b), (3, xm_i c), (4, xm_i e)], [xm_i 1], xh_M (xm_up I 5 0 0 1) L, 0, 0)) 5 rfl ?_
    refine xK.ifN rfl (fun h9 => absurd h9 (by decide)) (fun _ => ?_)
    exact xK.ret rfl ⟨rfl, rfl⟩
  · skip
    refine xK.run (q := (13, [(0, xm_r 5 0), (1, xm_i a), (2, xm_i b), (3, xm_i c), (4, xm_i e)], [xm_i 500, xm_i b, xm_r 5 0], xh_M I L, 0, 0)) 2 rfl ?_
    refine xK.call [xm_i b, xm_i 500] (xd_X5_within (d + 1) I L b 500) rfl rfl rfl (Or.inl rfl) (Nat.le_of_ble_eq_true rfl) ?_
    refine xK.ifI rfl (fun (h2 : (xf_X5_within b 500) = 0) => ?_) (fun (h2 : ¬ (xf_X5_within b 500) = 0) => ?_)
    · skip
      refine xK.run (q := (51, [(0, xm_r 5 0), (1, xm_i a), (2, xm_i b), (3, xm_i c), (4, xm_i e)], [xm_i 1], xh_M (xm_up I 5 0 0 1) L, 0, 0)) 5 rfl ?_
      refine xK.ifN rfl (fun h9 => absurd h9 (by decide)) (fun _ => ?_)
      exact xK.ret rfl ⟨rfl, rfl⟩
    · skip
      refine xK.run (q := (23, [(0, xm_r 5 0), (1, xm_i a), (2, xm_i b), (3, xm_i c), (4, xm_i e)], [xm_i 500, xm_i c, xm_r 5 0], xh_M I L, 0, 0)) 2 rfl ?_
      refine xK.call [xm_i c, xm_i 500] (xd_X5_within (d + 1) I L c 500) rfl rfl rfl (Or.inl rfl) (Nat.le_of_ble_eq_true rfl) ?_
      refine xK.ifI rfl (fun (h3 : (xf_X5_within c 500) = 0) => ?_) (fun (h3 : ¬ (xf_X5_within c 500) = 0) => ?_)
      · skip
        refine xK.run (q := (51, [(0, xm_r 5 0), (1, xm_i a), (2, xm_i b), (3, xm_i c), (4, xm_i e)], [xm_i 1], xh_M (xm_up I 5 0 0 1) L, 0, 0)) 5 rfl ?_
        refine xK.ifN rfl (fun h9 => absurd h9 (by decide)) (fun _ => ?_)
        exact xK.ret rfl ⟨rfl, rfl⟩
      · skip
        refine xK.run (q := (33, [(0, xm_r 5 0), (1, xm_i a), (2, xm_i b), (3, xm_i c), (4, xm_i e)], [xm_i 60, xm_i e, xm_r 5 0], xh_M I L, 0, 0)) 2 rfl ?_
        refine xK.call [xm_i e, xm_i 60] (xd_X5_within (d + 1) I L e 60) rfl rfl rfl (Or.inl rfl) (Nat.le_of_ble_eq_true rfl) ?_
        refine xK.ifN rfl (fun (h4 : (xf_X5_within e 60) = 0) => ?_) (fun (h4 : ¬ (xf_X5_within e 60) = 0) => ?_)
        · skip
          refine xK.run (q := (51, [(0, xm_r 5 0), (1, xm_i a), (2, xm_i b), (3, xm_i c), (4, xm_i e)], [xm_i 1], xh_M (xm_up I 5 0 0 1) L, 0, 0)) 5 rfl ?_
          refine xK.ifN rfl (fun h9 => absurd h9 (by decide)) (fun _ => ?_)
          exact xK.ret rfl ⟨rfl, rfl⟩
        · skip
          refine xK.run (q := (51, [(0, xm_r 5 0), (1, xm_i a), (2, xm_i b), (3, xm_i c), (4, xm_i e)], [xm_i 0], xh_M (xm_up I 5 0 0 0) L, 0, 0)) 4 rfl ?_
          refine xK.ifN rfl (fun _ => ?_) (fun h9 => absurd (by decide) h9)
          exact absurd ((show xe_X5_speed I L a b c e = 0 from by unfold xe_X5_speed; rw [if_neg h1, if_neg h2, if_neg h3, if_neg h4]).symm.trans he) (by decide)
set_option linter.unusedVariables false in
def xe_X5_follow (I : xh_I) (L : xh_L) (a : Int32) (b : Int32) : Int32 := if (xf_X5_isThere I L a) = 0 then 1 else 0
set_option maxHeartbeats 4000000 in
set_option maxRecDepth 100000 in
theorem xn_X5_follow (d : Nat) (I : xh_I) (L : xh_L) (a : Int32) (b : Int32) (he : xe_X5_follow I L a b = 1) : xm_Do xp_pg (d + 3) 82 [xm_r 5 0, xm_i a, xm_i b] (xh_M I L) none (xh_M (xm_up I 5 0 0 1) L) 0 0 := by
  refine xK.of (Nat.le_of_ble_eq_true rfl) rfl ?_
  refine xK.run (q := (3, [(0, xm_r 5 0), (1, xm_i a), (2, xm_i b)], [xm_i a, xm_r 5 0, xm_r 5 0], xh_M I L, 0, 0)) 3 rfl ?_
  refine xK.call [xm_r 5 0, xm_i a] (xd_X5_isThere d I L a) rfl rfl rfl (Or.inr ⟨_, _, rfl⟩) (Nat.le_of_ble_eq_true rfl) ?_
  refine xK.ifI rfl (fun (h1 : (xf_X5_isThere I L a) = 0) => ?_) (fun (h1 : ¬ (xf_X5_isThere I L a) = 0) => ?_)
  · skip
    refine xK.run (q := (21, [(0, xm_r 5 0), (1, xm_i a), (2, xm_i b)], [xm_i 1], xh_M (xm_up I 5 0 0 1) L, 0, 0)) 4 rfl ?_
    refine xK.ifN rfl (fun h9 => absurd h9 (by decide)) (fun _ => ?_)
    exact xK.ret rfl ⟨rfl, rfl⟩
  · skip
    refine xK.run (q := (21, [(0, xm_r 5 0), (1, xm_i a), (2, xm_i b)], [xm_i 0], xh_M (xm_up I 5 0 0 0) L, 0, 0)) 5 rfl ?_
    refine xK.ifN rfl (fun _ => ?_) (fun h9 => absurd (by decide) h9)
    exact absurd ((show xe_X5_follow I L a b = 0 from by unfold xe_X5_follow; rw [if_neg h1]).symm.trans he) (by decide)
set_option linter.unusedVariables false in
def xe_X5_leave (I : xh_I) (L : xh_L) (a : Int32) : Int32 := if (xf_X5_isThere I L a) = 0 then 1 else 0
set_option maxHeartbeats 4000000 in
set_option maxRecDepth 100000 in
theorem xn_X5_leave (d : Nat) (I : xh_I) (L : xh_L) (a : Int32) (he : xe_X5_leave I L a = 1) : xm_Do xp_pg (d + 3) 83 [xm_r 5 0, xm_i a] (xh_M I L) none (xh_M (xm_up I 5 0 0 1) L) 0 0 := by
  refine xK.of (Nat.le_of_ble_eq_true rfl) rfl ?_
  refine xK.run (q := (3, [(0, xm_r 5 0), (1, xm_i a)], [xm_i a, xm_r 5 0, xm_r 5 0], xh_M I L, 0, 0)) 3 rfl ?_
  refine xK.call [xm_r 5 0, xm_i a] (xd_X5_isThere d I L a) rfl rfl rfl (Or.inr ⟨_, _, rfl⟩) (Nat.le_of_ble_eq_true rfl) ?_
  refine xK.ifI rfl (fun (h1 : (xf_X5_isThere I L a) = 0) => ?_) (fun (h1 : ¬ (xf_X5_isThere I L a) = 0) => ?_)
  · skip
    refine xK.run (q := (21, [(0, xm_r 5 0), (1, xm_i a)], [xm_i 1], xh_M (xm_up I 5 0 0 1) L, 0, 0)) 4 rfl ?_
    refine xK.ifN rfl (fun h9 => absurd h9 (by decide)) (fun _ => ?_)
    exact xK.ret rfl ⟨rfl, rfl⟩
  · skip
    refine xK.run (q := (21, [(0, xm_r 5 0), (1, xm_i a)], [xm_i 0], xh_M (xm_up I 5 0 0 0) L, 0, 0)) 5 rfl ?_
    refine xK.ifN rfl (fun _ => ?_) (fun h9 => absurd (by decide) h9)
    exact absurd ((show xe_X5_leave I L a = 0 from by unfold xe_X5_leave; rw [if_neg h1]).symm.trans he) (by decide)
set_option linter.unusedVariables false in
def xe_X5_step (I : xh_I) (L : xh_L) (a : Int32) : Int32 := if a < 0 then 1 else (if a ≤ 300 then 0 else 1)
set_option maxHeartbeats 4000000 in
set_option maxRecDepth 100000 in
theorem xn_X5_step (d : Nat) (I : xh_I) (L : xh_L) (a : Int32) (he : xe_X5_step I L a = 1) : xm_Do xp_pg (d + 1) 96 [xm_r 5 0, xm_i a] (xh_M I L) (some (xm_i 0)) (xh_M (xm_up I 5 0 0 1) L) 0 0 := by
  refine xK.of (Nat.le_of_ble_eq_true rfl) rfl ?_
  refine xK.run (q := (2, [(0, xm_r 5 0), (1, xm_i a)], [xm_i a, xm_r 5 0], xh_M I L, 0, 0)) 2 rfl ?_
  refine xK.ifI rfl (fun (h1 : a < 0) => ?_) (fun (h1 : ¬ a < 0) => ?_)
  · skip
    refine xK.run (q := (24, [(0, xm_r 5 0), (1, xm_i a)], [xm_i 1], xh_M (xm_up I 5 0 0 1) L, 0, 0)) 5 rfl ?_
    refine xK.ifI rfl (fun h9 => absurd h9 (by decide)) (fun _ => ?_)
    refine xK.run (q := (28, [(0, xm_r 5 0), (1, xm_i a)], [xm_i 0], xh_M (xm_up I 5 0 0 1) L, 0, 0)) 1 rfl ?_
    exact xK.ret rfl ⟨_, rfl, rfl⟩
  · skip
    refine xK.run (q := (9, [(0, xm_r 5 0), (1, xm_i a)], [xm_i 300, xm_i a, xm_r 5 0], xh_M I L, 0, 0)) 2 rfl ?_
    refine xK.icmp rfl (fun (h2 : a ≤ 300) => ?_) (fun (h2 : ¬ a ≤ 300) => ?_)
    · skip
      refine xK.run (q := (24, [(0, xm_r 5 0), (1, xm_i a)], [xm_i 0], xh_M (xm_up I 5 0 0 0) L, 0, 0)) 4 rfl ?_
      refine xK.ifI rfl (fun _ => ?_) (fun h9 => absurd (by decide) h9)
      exact absurd ((show xe_X5_step I L a = 0 from by unfold xe_X5_step; rw [if_neg h1, if_pos h2]).symm.trans he) (by decide)
    · skip
      refine xK.run (q := (24, [(0, xm_r 5 0), (1, xm_i a)], [xm_i 1], xh_M (xm_up I 5 0 0 1) L, 0, 0)) 5 rfl ?_
      refine xK.ifI rfl (fun h9 => absurd h9 (by decide)) (fun _ => ?_)
      refine xK.run (q := (28, [(0, xm_r 5 0), (1, xm_i a)], [xm_i 0], xh_M (xm_up I 5 0 0 1) L, 0, 0)) 1 rfl ?_
      exact xK.ret rfl ⟨_, rfl, rfl⟩
set_option linter.unusedVariables false in
def xe_X5_told (I : xh_I) (L : xh_L) (a : Int32) (b : Int32) : Int32 := if (xf_X5_isThere I L a) = 0 then 1 else (if b < 0 then 1 else (if b ≤ 6 then 0 else 1))
set_option maxHeartbeats 4000000 in
set_option maxRecDepth 100000 in
theorem xn_X5_told (d : Nat) (I : xh_I) (L : xh_L) (a : Int32) (b : Int32) (he : xe_X5_told I L a b = 1) : xm_Do xp_pg (d + 3) 97 [xm_r 5 0, xm_i a, xm_i b] (xh_M I L) (some (xm_i 0)) (xh_M (xm_up I 5 0 0 1) L) 0 0 := by
  refine xK.of (Nat.le_of_ble_eq_true rfl) rfl ?_
  refine xK.run (q := (3, [(0, xm_r 5 0), (1, xm_i a), (2, xm_i b)], [xm_i a, xm_r 5 0, xm_r 5 0], xh_M I L, 0, 0)) 3 rfl ?_
  refine xK.call [xm_r 5 0, xm_i a] (xd_X5_isThere d I L a) rfl rfl rfl (Or.inr ⟨_, _, rfl⟩) (Nat.le_of_ble_eq_true rfl) ?_
  refine xK.ifI rfl (fun (h1 : (xf_X5_isThere I L a) = 0) => ?_) (fun (h1 : ¬ (xf_X5_isThere I L a) = 0) => ?_)
  · skip
    refine xK.run (q := (31, [(0, xm_r 5 0), (1, xm_i a), (2, xm_i b)], [xm_i 1], xh_M (xm_up I 5 0 0 1) L, 0, 0)) 5 rfl ?_
    refine xK.ifI rfl (fun h9 => absurd h9 (by decide)) (fun _ => ?_)
    refine xK.run (q := (35, [(0, xm_r 5 0), (1, xm_i a), (2, xm_i b)], [xm_i 0], xh_M (xm_up I 5 0 0 1) L, 0, 0)) 1 rfl ?_
    exact xK.ret rfl ⟨_, rfl, rfl⟩
  · skip
    refine xK.run (q := (10, [(0, xm_r 5 0), (1, xm_i a), (2, xm_i b)], [xm_i b, xm_r 5 0], xh_M I L, 0, 0)) 1 rfl ?_
    refine xK.ifI rfl (fun (h2 : b < 0) => ?_) (fun (h2 : ¬ b < 0) => ?_)
    · skip
      refine xK.run (q := (31, [(0, xm_r 5 0), (1, xm_i a), (2, xm_i b)], [xm_i 1], xh_M (xm_up I 5 0 0 1) L, 0, 0)) 5 rfl ?_
      refine xK.ifI rfl (fun h9 => absurd h9 (by decide)) (fun _ => ?_)
      refine xK.run (q := (35, [(0, xm_r 5 0), (1, xm_i a), (2, xm_i b)], [xm_i 0], xh_M (xm_up I 5 0 0 1) L, 0, 0)) 1 rfl ?_
      exact xK.ret rfl ⟨_, rfl, rfl⟩
    · skip
      refine xK.run (q := (16, [(0, xm_r 5 0), (1, xm_i a), (2, xm_i b)], [xm_i 6, xm_i b, xm_r 5 0], xh_M I L, 0, 0)) 2 rfl ?_
      refine xK.icmp rfl (fun (h3 : b ≤ 6) => ?_) (fun (h3 : ¬ b ≤ 6) => ?_)
      · skip
        refine xK.run (q := (31, [(0, xm_r 5 0), (1, xm_i a), (2, xm_i b)], [xm_i 0], xh_M (xm_up I 5 0 0 0) L, 0, 0)) 4 rfl ?_
        refine xK.ifI rfl (fun _ => ?_) (fun h9 => absurd (by decide) h9)
        exact absurd ((show xe_X5_told I L a b = 0 from by unfold xe_X5_told; rw [if_neg h1, if_neg h2, if_pos h3]).symm.trans he) (by decide)
      · skip
        refine xK.run (q := (31, [(0, xm_r 5 0), (1, xm_i a), (2, xm_i b)], [xm_i 1], xh_M (xm_up I 5 0 0 1) L, 0, 0)) 5 rfl ?_
        refine xK.ifI rfl (fun h9 => absurd h9 (by decide)) (fun _ => ?_)
        refine xK.run (q := (35, [(0, xm_r 5 0), (1, xm_i a), (2, xm_i b)], [xm_i 0], xh_M (xm_up I 5 0 0 1) L, 0, 0)) 1 rfl ?_
        exact xK.ret rfl ⟨_, rfl, rfl⟩
set_option linter.unusedVariables false in
def xe_X5_pair (I : xh_I) (L : xh_L) (a : Int32) (b : Int32) (c : Int32) : Int32 := if (xf_X5_isThere I L a) = 0 then 1 else (if (xf_X5_isThere I L b) = 0 then 1 else (if a = b then 1 else (if c < 0 then 1 else (if c ≤ 10 then 0 else 1))))
set_option maxHeartbeats 4000000 in
set_option maxRecDepth 100000 in
theorem xn_X5_pair (d : Nat) (I : xh_I) (L : xh_L) (a : Int32) (b : Int32) (c : Int32) (he : xe_X5_pair I L a b c = 1) : xm_Do xp_pg (d + 3) 99 [xm_r 5 0, xm_i a, xm_i b, xm_i c] (xh_M I L) (some (xm_i 0)) (xh_M (xm_up I 5 0 0 1) L) 0 0 := by
  refine xK.of (Nat.le_of_ble_eq_true rfl) rfl ?_
  refine xK.run (q := (3, [(0, xm_r 5 0), (1, xm_i a), (2, xm_i b), (3, xm_i c)], [xm_i a, xm_r 5 0, xm_r 5 0], xh_M I L, 0, 0)) 3 rfl ?_
  refine xK.call [xm_r 5 0, xm_i a] (xd_X5_isThere d I L a) rfl rfl rfl (Or.inr ⟨_, _, rfl⟩) (Nat.le_of_ble_eq_true rfl) ?_
  refine xK.ifI rfl (fun (h1 : (xf_X5_isThere I L a) = 0) => ?_) (fun (h1 : ¬ (xf_X5_isThere I L a) = 0) => ?_)
  · skip
    refine xK.run (q := (44, [(0, xm_r 5 0), (1, xm_i a), (2, xm_i b), (3, xm_i c)], [xm_i 1], xh_M (xm_up I 5 0 0 1) L, 0, 0)) 5 rfl ?_
    refine xK.ifI rfl (fun h9 => absurd h9 (by decide)) (fun _ => ?_)
    refine xK.run (q := (48, [(0, xm_r 5 0), (1, xm_i a), (2, xm_i b), (3, xm_i c)], [xm_i 0], xh_M (xm_up I 5 0 0 1) L, 0, 0)) 1 rfl ?_
    exact xK.ret rfl ⟨_, rfl, rfl⟩
  · skip
    refine xK.run (q := (11, [(0, xm_r 5 0), (1, xm_i a), (2, xm_i b), (3, xm_i c)], [xm_i b, xm_r 5 0, xm_r 5 0], xh_M I L, 0, 0)) 2 rfl ?_
    refine xK.call [xm_r 5 0, xm_i b] (xd_X5_isThere d I L b) rfl rfl rfl (Or.inr ⟨_, _, rfl⟩) (Nat.le_of_ble_eq_true rfl) ?_
    refine xK.ifI rfl (fun (h2 : (xf_X5_isThere I L b) = 0) => ?_) (fun (h2 : ¬ (xf_X5_isThere I L b) = 0) => ?_)
    · skip
      refine xK.run (q := (44, [(0, xm_r 5 0), (1, xm_i a), (2, xm_i b), (3, xm_i c)], [xm_i 1], xh_M (xm_up I 5 0 0 1) L, 0, 0)) 5 rfl ?_
      refine xK.ifI rfl (fun h9 => absurd h9 (by decide)) (fun _ => ?_)
      refine xK.run (q := (48, [(0, xm_r 5 0), (1, xm_i a), (2, xm_i b), (3, xm_i c)], [xm_i 0], xh_M (xm_up I 5 0 0 1) L, 0, 0)) 1 rfl ?_
      exact xK.ret rfl ⟨_, rfl, rfl⟩
    · skip
      refine xK.run (q := (19, [(0, xm_r 5 0), (1, xm_i a), (2, xm_i b), (3, xm_i c)], [xm_i b, xm_i a, xm_r 5 0], xh_M I L, 0, 0)) 2 rfl ?_
      refine xK.icmp rfl (fun (h3 : a = b) => ?_) (fun (h3 : ¬ a = b) => ?_)
      · skip
        refine xK.run (q := (44, [(0, xm_r 5 0), (1, xm_i a), (2, xm_i b), (3, xm_i c)], [xm_i 1], xh_M (xm_up I 5 0 0 1) L, 0, 0)) 5 rfl ?_
        refine xK.ifI rfl (fun h9 => absurd h9 (by decide)) (fun _ => ?_)
        refine xK.run (q := (48, [(0, xm_r 5 0), (1, xm_i a), (2, xm_i b), (3, xm_i c)], [xm_i 0], xh_M (xm_up I 5 0 0 1) L, 0, 0)) 1 rfl ?_
        exact xK.ret rfl ⟨_, rfl, rfl⟩
      · skip
        refine xK.run (q := (23, [(0, xm_r 5 0), (1, xm_i a), (2, xm_i b), (3, xm_i c)], [xm_i c, xm_r 5 0], xh_M I L, 0, 0)) 1 rfl ?_
        refine xK.ifI rfl (fun (h4 : c < 0) => ?_) (fun (h4 : ¬ c < 0) => ?_)
        · skip
          refine xK.run (q := (44, [(0, xm_r 5 0), (1, xm_i a), (2, xm_i b), (3, xm_i c)], [xm_i 1], xh_M (xm_up I 5 0 0 1) L, 0, 0)) 5 rfl ?_
          refine xK.ifI rfl (fun h9 => absurd h9 (by decide)) (fun _ => ?_)
          refine xK.run (q := (48, [(0, xm_r 5 0), (1, xm_i a), (2, xm_i b), (3, xm_i c)], [xm_i 0], xh_M (xm_up I 5 0 0 1) L, 0, 0)) 1 rfl ?_
          exact xK.ret rfl ⟨_, rfl, rfl⟩
        · skip
          refine xK.run (q := (29, [(0, xm_r 5 0), (1, xm_i a), (2, xm_i b), (3, xm_i c)], [xm_i 10, xm_i c, xm_r 5 0], xh_M I L, 0, 0)) 2 rfl ?_
          refine xK.icmp rfl (fun (h5 : c ≤ 10) => ?_) (fun (h5 : ¬ c ≤ 10) => ?_)
          · skip
            refine xK.run (q := (44, [(0, xm_r 5 0), (1, xm_i a), (2, xm_i b), (3, xm_i c)], [xm_i 0], xh_M (xm_up I 5 0 0 0) L, 0, 0)) 4 rfl ?_
            refine xK.ifI rfl (fun _ => ?_) (fun h9 => absurd (by decide) h9)
            exact absurd ((show xe_X5_pair I L a b c = 0 from by unfold xe_X5_pair; rw [if_neg h1, if_neg h2, if_neg h3, if_neg h4, if_pos h5]).symm.trans he) (by decide)
          · skip
            refine xK.run (q := (44, [(0, xm_r 5 0), (1, xm_i a), (2, xm_i b), (3, xm_i c)], [xm_i 1], xh_M (xm_up I 5 0 0 1) L, 0, 0)) 5 rfl ?_
            refine xK.ifI rfl (fun h9 => absurd h9 (by decide)) (fun _ => ?_)
            refine xK.run (q := (48, [(0, xm_r 5 0), (1, xm_i a), (2, xm_i b), (3, xm_i c)], [xm_i 0], xh_M (xm_up I 5 0 0 1) L, 0, 0)) 1 rfl ?_
            exact xK.ret rfl ⟨_, rfl, rfl⟩
set_option linter.unusedVariables false in
def xe_X5_all (I : xh_I) (L : xh_L) (a : Int32) : Int32 := if a < 0 then 1 else (if a ≤ 4 then 0 else 1)
set_option maxHeartbeats 4000000 in
set_option maxRecDepth 100000 in
theorem xn_X5_all (d : Nat) (I : xh_I) (L : xh_L) (a : Int32) (he : xe_X5_all I L a = 1) : xm_Do xp_pg (d + 1) 100 [xm_r 5 0, xm_i a] (xh_M I L) (some (xm_i 0)) (xh_M (xm_up I 5 0 0 1) L) 0 0 := by
  refine xK.of (Nat.le_of_ble_eq_true rfl) rfl ?_
  refine xK.run (q := (2, [(0, xm_r 5 0), (1, xm_i a)], [xm_i a, xm_r 5 0], xh_M I L, 0, 0)) 2 rfl ?_
  refine xK.ifI rfl (fun (h1 : a < 0) => ?_) (fun (h1 : ¬ a < 0) => ?_)
  · skip
    refine xK.run (q := (22, [(0, xm_r 5 0), (1, xm_i a)], [xm_i 1], xh_M (xm_up I 5 0 0 1) L, 0, 0)) 5 rfl ?_
    refine xK.ifI rfl (fun h9 => absurd h9 (by decide)) (fun _ => ?_)
    refine xK.run (q := (35, [(0, xm_r 5 0), (1, xm_i a)], [xm_i 0], xh_M (xm_up I 5 0 0 1) L, 0, 0)) 2 rfl ?_
    exact xK.ret rfl ⟨_, rfl, rfl⟩
  · skip
    refine xK.run (q := (7, [(0, xm_r 5 0), (1, xm_i a)], [xm_i 4, xm_i a, xm_r 5 0], xh_M I L, 0, 0)) 2 rfl ?_
    refine xK.icmp rfl (fun (h2 : a ≤ 4) => ?_) (fun (h2 : ¬ a ≤ 4) => ?_)
    · skip
      refine xK.run (q := (22, [(0, xm_r 5 0), (1, xm_i a)], [xm_i 0], xh_M (xm_up I 5 0 0 0) L, 0, 0)) 4 rfl ?_
      refine xK.ifI rfl (fun _ => ?_) (fun h9 => absurd (by decide) h9)
      exact absurd ((show xe_X5_all I L a = 0 from by unfold xe_X5_all; rw [if_neg h1, if_pos h2]).symm.trans he) (by decide)
    · skip
      refine xK.run (q := (22, [(0, xm_r 5 0), (1, xm_i a)], [xm_i 1], xh_M (xm_up I 5 0 0 1) L, 0, 0)) 5 rfl ?_
      refine xK.ifI rfl (fun h9 => absurd h9 (by decide)) (fun _ => ?_)
      refine xK.run (q := (35, [(0, xm_r 5 0), (1, xm_i a)], [xm_i 0], xh_M (xm_up I 5 0 0 1) L, 0, 0)) 2 rfl ?_
      exact xK.ret rfl ⟨_, rfl, rfl⟩
