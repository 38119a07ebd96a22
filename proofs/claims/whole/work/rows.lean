section
-- ===== PART A: goes FIRST, ahead of the names: the tables' words, and 'selects' of the private methods out of them =====
/-- a private method of a class that the tables say can be made, by its rows of tables_1 -/
def lw_okq (q : MethodName × Nat) : Prop := (q.1.cls ≠ "java/lang/invoke/MethodHandle" ∧ q.1.cls ≠ "java/lang/invoke/VarHandle") ∧ Cond.instantiable q.1.cls q.2 ∈ tables_1 ∧ Cond.privateMethod q.1 ∈ tables_1 ∧ Cond.instanceMethod q.1 ∈ tables_1
theorem lw_p0 : lw_okq (⟨"java/lang/Throwable", "fillInStackTrace", "(I)Ljava/lang/Throwable;"⟩, 6) := ⟨⟨by decide +kernel, by decide +kernel⟩, List.mem_of_getElem? (i := 216) (by decide +kernel), List.mem_of_getElem? (i := 214) (by decide +kernel), List.mem_of_getElem? (i := 215) (by decide +kernel)⟩
theorem lw_p1 : lw_okq (⟨"SkyAdvisor", "dropAdviceOf", "(LSkyAdvisor$Aircraft;)V"⟩, 4) := ⟨⟨by decide +kernel, by decide +kernel⟩, List.mem_of_getElem? (i := 13) (by decide +kernel), List.mem_of_getElem? (i := 276) (by decide +kernel), List.mem_of_getElem? (i := 277) (by decide +kernel)⟩
theorem lw_p2 : lw_okq (⟨"SkyAdvisor", "restartLeastOf", "(LSkyAdvisor$Aircraft;)V"⟩, 4) := ⟨⟨by decide +kernel, by decide +kernel⟩, List.mem_of_getElem? (i := 13) (by decide +kernel), List.mem_of_getElem? (i := 288) (by decide +kernel), List.mem_of_getElem? (i := 289) (by decide +kernel)⟩
theorem lw_p3 : lw_okq (⟨"SkyAdvisor$Pair", "distanceSquared", "()J"⟩, 11) := ⟨⟨by decide +kernel, by decide +kernel⟩, List.mem_of_getElem? (i := 110) (by decide +kernel), List.mem_of_getElem? (i := 296) (by decide +kernel), List.mem_of_getElem? (i := 297) (by decide +kernel)⟩
theorem lw_p4 : lw_okq (⟨"SkyAdvisor$Pair", "heightBetween", "()I"⟩, 11) := ⟨⟨by decide +kernel, by decide +kernel⟩, List.mem_of_getElem? (i := 110) (by decide +kernel), List.mem_of_getElem? (i := 300) (by decide +kernel), List.mem_of_getElem? (i := 301) (by decide +kernel)⟩
theorem lw_p5 : lw_okq (⟨"SkyAdvisor", "isThere", "(I)Z"⟩, 4) := ⟨⟨by decide +kernel, by decide +kernel⟩, List.mem_of_getElem? (i := 13) (by decide +kernel), List.mem_of_getElem? (i := 314) (by decide +kernel), List.mem_of_getElem? (i := 315) (by decide +kernel)⟩
theorem lw_p6 : lw_okq (⟨"SkyAdvisor", "passSecond", "()V"⟩, 4) := ⟨⟨by decide +kernel, by decide +kernel⟩, List.mem_of_getElem? (i := 13) (by decide +kernel), List.mem_of_getElem? (i := 346) (by decide +kernel), List.mem_of_getElem? (i := 347) (by decide +kernel)⟩
theorem lw_p7 : lw_okq (⟨"SkyAdvisor", "heedAdvice", "(LSkyAdvisor$Aircraft;)V"⟩, 4) := ⟨⟨by decide +kernel, by decide +kernel⟩, List.mem_of_getElem? (i := 13) (by decide +kernel), List.mem_of_getElem? (i := 363) (by decide +kernel), List.mem_of_getElem? (i := 364) (by decide +kernel)⟩
theorem lw_p8 : lw_okq (⟨"SkyAdvisor$Aircraft", "levelOff", "(I)V"⟩, 8) := ⟨⟨by decide +kernel, by decide +kernel⟩, List.mem_of_getElem? (i := 69) (by decide +kernel), List.mem_of_getElem? (i := 388) (by decide +kernel), List.mem_of_getElem? (i := 389) (by decide +kernel)⟩
theorem lw_p9 : lw_okq (⟨"SkyAdvisor$Pair", "alerts", "()Z"⟩, 11) := ⟨⟨by decide +kernel, by decide +kernel⟩, List.mem_of_getElem? (i := 110) (by decide +kernel), List.mem_of_getElem? (i := 408) (by decide +kernel), List.mem_of_getElem? (i := 409) (by decide +kernel)⟩
theorem lw_p10 : lw_okq (⟨"SkyAdvisor$Pair", "isNear", "()Z"⟩, 11) := ⟨⟨by decide +kernel, by decide +kernel⟩, List.mem_of_getElem? (i := 110) (by decide +kernel), List.mem_of_getElem? (i := 412) (by decide +kernel), List.mem_of_getElem? (i := 413) (by decide +kernel)⟩
theorem lw_p11 : lw_okq (⟨"SkyAdvisor$Pair", "nearSquared", "()J"⟩, 11) := ⟨⟨by decide +kernel, by decide +kernel⟩, List.mem_of_getElem? (i := 110) (by decide +kernel), List.mem_of_getElem? (i := 416) (by decide +kernel), List.mem_of_getElem? (i := 417) (by decide +kernel)⟩
theorem lw_p12 : lw_okq (⟨"SkyAdvisor$Pair", "comesNearInTime", "()Z"⟩, 11) := ⟨⟨by decide +kernel, by decide +kernel⟩, List.mem_of_getElem? (i := 110) (by decide +kernel), List.mem_of_getElem? (i := 424) (by decide +kernel), List.mem_of_getElem? (i := 425) (by decide +kernel)⟩
theorem lw_p13 : lw_okq (⟨"SkyAdvisor$Pair", "closing", "()J"⟩, 11) := ⟨⟨by decide +kernel, by decide +kernel⟩, List.mem_of_getElem? (i := 110) (by decide +kernel), List.mem_of_getElem? (i := 428) (by decide +kernel), List.mem_of_getElem? (i := 429) (by decide +kernel)⟩
theorem lw_p14 : lw_okq (⟨"SkyAdvisor$Pair", "passesNear", "()Z"⟩, 11) := ⟨⟨by decide +kernel, by decide +kernel⟩, List.mem_of_getElem? (i := 110) (by decide +kernel), List.mem_of_getElem? (i := 436) (by decide +kernel), List.mem_of_getElem? (i := 437) (by decide +kernel)⟩
theorem lw_p15 : lw_okq (⟨"SkyAdvisor$Pair", "meetsInHeight", "()Z"⟩, 11) := ⟨⟨by decide +kernel, by decide +kernel⟩, List.mem_of_getElem? (i := 110) (by decide +kernel), List.mem_of_getElem? (i := 444) (by decide +kernel), List.mem_of_getElem? (i := 445) (by decide +kernel)⟩
def lw_privs_1 : List (MethodName × Nat) := [(⟨"java/lang/Throwable", "fillInStackTrace", "(I)Ljava/lang/Throwable;"⟩, 6), (⟨"SkyAdvisor", "dropAdviceOf", "(LSkyAdvisor$Aircraft;)V"⟩, 4), (⟨"SkyAdvisor", "restartLeastOf", "(LSkyAdvisor$Aircraft;)V"⟩, 4), (⟨"SkyAdvisor$Pair", "distanceSquared", "()J"⟩, 11), (⟨"SkyAdvisor$Pair", "heightBetween", "()I"⟩, 11), (⟨"SkyAdvisor", "isThere", "(I)Z"⟩, 4), (⟨"SkyAdvisor", "passSecond", "()V"⟩, 4), (⟨"SkyAdvisor", "heedAdvice", "(LSkyAdvisor$Aircraft;)V"⟩, 4), (⟨"SkyAdvisor$Aircraft", "levelOff", "(I)V"⟩, 8), (⟨"SkyAdvisor$Pair", "alerts", "()Z"⟩, 11), (⟨"SkyAdvisor$Pair", "isNear", "()Z"⟩, 11), (⟨"SkyAdvisor$Pair", "nearSquared", "()J"⟩, 11), (⟨"SkyAdvisor$Pair", "comesNearInTime", "()Z"⟩, 11), (⟨"SkyAdvisor$Pair", "closing", "()J"⟩, 11), (⟨"SkyAdvisor$Pair", "passesNear", "()Z"⟩, 11), (⟨"SkyAdvisor$Pair", "meetsInHeight", "()Z"⟩, 11)]
theorem lw_r1 : ∀ q ∈ lw_privs_1, lw_okq q := List.forall_mem_cons.mpr ⟨lw_p0, List.forall_mem_cons.mpr ⟨lw_p1, List.forall_mem_cons.mpr ⟨lw_p2, List.forall_mem_cons.mpr ⟨lw_p3, List.forall_mem_cons.mpr ⟨lw_p4, List.forall_mem_cons.mpr ⟨lw_p5, List.forall_mem_cons.mpr ⟨lw_p6, List.forall_mem_cons.mpr ⟨lw_p7, List.forall_mem_cons.mpr ⟨lw_p8, List.forall_mem_cons.mpr ⟨lw_p9, List.forall_mem_cons.mpr ⟨lw_p10, List.forall_mem_cons.mpr ⟨lw_p11, List.forall_mem_cons.mpr ⟨lw_p12, List.forall_mem_cons.mpr ⟨lw_p13, List.forall_mem_cons.mpr ⟨lw_p14, List.forall_mem_cons.mpr ⟨lw_p15, fun _ h => absurd h List.not_mem_nil⟩⟩⟩⟩⟩⟩⟩⟩⟩⟩⟩⟩⟩⟩⟩⟩
theorem lw_p16 : lw_okq (⟨"SkyAdvisor$Pair", "timeLeft", "()I"⟩, 11) := ⟨⟨by decide +kernel, by decide +kernel⟩, List.mem_of_getElem? (i := 110) (by decide +kernel), List.mem_of_getElem? (i := 452) (by decide +kernel), List.mem_of_getElem? (i := 453) (by decide +kernel)⟩
theorem lw_p17 : lw_okq (⟨"SkyAdvisor$Pair", "chosenSense", "(I)Z"⟩, 11) := ⟨⟨by decide +kernel, by decide +kernel⟩, List.mem_of_getElem? (i := 110) (by decide +kernel), List.mem_of_getElem? (i := 456) (by decide +kernel), List.mem_of_getElem? (i := 457) (by decide +kernel)⟩
theorem lw_p18 : lw_okq (⟨"SkyAdvisor$Pair", "enough", "(ZIII)I"⟩, 11) := ⟨⟨by decide +kernel, by decide +kernel⟩, List.mem_of_getElem? (i := 110) (by decide +kernel), List.mem_of_getElem? (i := 460) (by decide +kernel), List.mem_of_getElem? (i := 461) (by decide +kernel)⟩
theorem lw_p19 : lw_okq (⟨"SkyAdvisor$Pair", "parting", "(ZIII)I"⟩, 11) := ⟨⟨by decide +kernel, by decide +kernel⟩, List.mem_of_getElem? (i := 110) (by decide +kernel), List.mem_of_getElem? (i := 464) (by decide +kernel), List.mem_of_getElem? (i := 465) (by decide +kernel)⟩
theorem lw_p20 : lw_okq (⟨"SkyAdvisor$Pair", "takeSense", "(ZI)V"⟩, 11) := ⟨⟨by decide +kernel, by decide +kernel⟩, List.mem_of_getElem? (i := 110) (by decide +kernel), List.mem_of_getElem? (i := 481) (by decide +kernel), List.mem_of_getElem? (i := 482) (by decide +kernel)⟩
theorem lw_p21 : lw_okq (⟨"SkyAdvisor$Pair", "mustTurn", "(I)Z"⟩, 11) := ⟨⟨by decide +kernel, by decide +kernel⟩, List.mem_of_getElem? (i := 110) (by decide +kernel), List.mem_of_getElem? (i := 486) (by decide +kernel), List.mem_of_getElem? (i := 487) (by decide +kernel)⟩
theorem lw_p22 : lw_okq (⟨"SkyAdvisor$Pair", "strengthen", "(I)V"⟩, 11) := ⟨⟨by decide +kernel, by decide +kernel⟩, List.mem_of_getElem? (i := 110) (by decide +kernel), List.mem_of_getElem? (i := 490) (by decide +kernel), List.mem_of_getElem? (i := 491) (by decide +kernel)⟩
theorem lw_p23 : lw_okq (⟨"SkyAdvisor", "countAdvised", "()I"⟩, 4) := ⟨⟨by decide +kernel, by decide +kernel⟩, List.mem_of_getElem? (i := 13) (by decide +kernel), List.mem_of_getElem? (i := 494) (by decide +kernel), List.mem_of_getElem? (i := 495) (by decide +kernel)⟩
theorem lw_p24 : lw_okq (⟨"SkyAdvisor$Pair", "chosenParting", "(I)I"⟩, 11) := ⟨⟨by decide +kernel, by decide +kernel⟩, List.mem_of_getElem? (i := 110) (by decide +kernel), List.mem_of_getElem? (i := 529) (by decide +kernel), List.mem_of_getElem? (i := 530) (by decide +kernel)⟩
theorem lw_p25 : lw_okq (⟨"SkyAdvisorModel", "endAll", "(I)V"⟩, 22) := ⟨⟨by decide +kernel, by decide +kernel⟩, List.mem_of_getElem? (i := 546) (by decide +kernel), List.mem_of_getElem? (i := 640) (by decide +kernel), List.mem_of_getElem? (i := 641) (by decide +kernel)⟩
theorem lw_p26 : lw_okq (⟨"SkyAdvisorModel", "measure", "(II)V"⟩, 22) := ⟨⟨by decide +kernel, by decide +kernel⟩, List.mem_of_getElem? (i := 546) (by decide +kernel), List.mem_of_getElem? (i := 649) (by decide +kernel), List.mem_of_getElem? (i := 650) (by decide +kernel)⟩
theorem lw_p27 : lw_okq (⟨"SkyAdvisorModel", "isThere", "(I)Z"⟩, 22) := ⟨⟨by decide +kernel, by decide +kernel⟩, List.mem_of_getElem? (i := 546) (by decide +kernel), List.mem_of_getElem? (i := 657) (by decide +kernel), List.mem_of_getElem? (i := 658) (by decide +kernel)⟩
theorem lw_p28 : lw_okq (⟨"SkyAdvisorModel", "move", "()V"⟩, 22) := ⟨⟨by decide +kernel, by decide +kernel⟩, List.mem_of_getElem? (i := 546) (by decide +kernel), List.mem_of_getElem? (i := 673) (by decide +kernel), List.mem_of_getElem? (i := 674) (by decide +kernel)⟩
theorem lw_p29 : lw_okq (⟨"SkyAdvisorModel", "obey", "(I)V"⟩, 22) := ⟨⟨by decide +kernel, by decide +kernel⟩, List.mem_of_getElem? (i := 546) (by decide +kernel), List.mem_of_getElem? (i := 680) (by decide +kernel), List.mem_of_getElem? (i := 681) (by decide +kernel)⟩
theorem lw_p30 : lw_okq (⟨"SkyAdvisorModel", "look", "(II)V"⟩, 22) := ⟨⟨by decide +kernel, by decide +kernel⟩, List.mem_of_getElem? (i := 546) (by decide +kernel), List.mem_of_getElem? (i := 684) (by decide +kernel), List.mem_of_getElem? (i := 685) (by decide +kernel)⟩
theorem lw_p31 : lw_okq (⟨"SkyAdvisorModel", "advise", "(I)V"⟩, 22) := ⟨⟨by decide +kernel, by decide +kernel⟩, List.mem_of_getElem? (i := 546) (by decide +kernel), List.mem_of_getElem? (i := 688) (by decide +kernel), List.mem_of_getElem? (i := 689) (by decide +kernel)⟩
def lw_privs_2 : List (MethodName × Nat) := [(⟨"SkyAdvisor$Pair", "timeLeft", "()I"⟩, 11), (⟨"SkyAdvisor$Pair", "chosenSense", "(I)Z"⟩, 11), (⟨"SkyAdvisor$Pair", "enough", "(ZIII)I"⟩, 11), (⟨"SkyAdvisor$Pair", "parting", "(ZIII)I"⟩, 11), (⟨"SkyAdvisor$Pair", "takeSense", "(ZI)V"⟩, 11), (⟨"SkyAdvisor$Pair", "mustTurn", "(I)Z"⟩, 11), (⟨"SkyAdvisor$Pair", "strengthen", "(I)V"⟩, 11), (⟨"SkyAdvisor", "countAdvised", "()I"⟩, 4), (⟨"SkyAdvisor$Pair", "chosenParting", "(I)I"⟩, 11), (⟨"SkyAdvisorModel", "endAll", "(I)V"⟩, 22), (⟨"SkyAdvisorModel", "measure", "(II)V"⟩, 22), (⟨"SkyAdvisorModel", "isThere", "(I)Z"⟩, 22), (⟨"SkyAdvisorModel", "move", "()V"⟩, 22), (⟨"SkyAdvisorModel", "obey", "(I)V"⟩, 22), (⟨"SkyAdvisorModel", "look", "(II)V"⟩, 22), (⟨"SkyAdvisorModel", "advise", "(I)V"⟩, 22)]
theorem lw_r2 : ∀ q ∈ lw_privs_2, lw_okq q := List.forall_mem_cons.mpr ⟨lw_p16, List.forall_mem_cons.mpr ⟨lw_p17, List.forall_mem_cons.mpr ⟨lw_p18, List.forall_mem_cons.mpr ⟨lw_p19, List.forall_mem_cons.mpr ⟨lw_p20, List.forall_mem_cons.mpr ⟨lw_p21, List.forall_mem_cons.mpr ⟨lw_p22, List.forall_mem_cons.mpr ⟨lw_p23, List.forall_mem_cons.mpr ⟨lw_p24, List.forall_mem_cons.mpr ⟨lw_p25, List.forall_mem_cons.mpr ⟨lw_p26, List.forall_mem_cons.mpr ⟨lw_p27, List.forall_mem_cons.mpr ⟨lw_p28, List.forall_mem_cons.mpr ⟨lw_p29, List.forall_mem_cons.mpr ⟨lw_p30, List.forall_mem_cons.mpr ⟨lw_p31, fun _ h => absurd h List.not_mem_nil⟩⟩⟩⟩⟩⟩⟩⟩⟩⟩⟩⟩⟩⟩⟩⟩
theorem lw_p32 : lw_okq (⟨"SkyAdvisorModel", "alerts", "()Z"⟩, 22) := ⟨⟨by decide +kernel, by decide +kernel⟩, List.mem_of_getElem? (i := 546) (by decide +kernel), List.mem_of_getElem? (i := 692) (by decide +kernel), List.mem_of_getElem? (i := 693) (by decide +kernel)⟩
theorem lw_p33 : lw_okq (⟨"SkyAdvisorModel", "chosen", "()I"⟩, 22) := ⟨⟨by decide +kernel, by decide +kernel⟩, List.mem_of_getElem? (i := 546) (by decide +kernel), List.mem_of_getElem? (i := 699) (by decide +kernel), List.mem_of_getElem? (i := 700) (by decide +kernel)⟩
theorem lw_p34 : lw_okq (⟨"SkyAdvisorModel", "enough", "(III)I"⟩, 22) := ⟨⟨by decide +kernel, by decide +kernel⟩, List.mem_of_getElem? (i := 546) (by decide +kernel), List.mem_of_getElem? (i := 703) (by decide +kernel), List.mem_of_getElem? (i := 704) (by decide +kernel)⟩
theorem lw_p35 : lw_okq (⟨"SkyAdvisorModel", "part", "(III)J"⟩, 22) := ⟨⟨by decide +kernel, by decide +kernel⟩, List.mem_of_getElem? (i := 546) (by decide +kernel), List.mem_of_getElem? (i := 707) (by decide +kernel), List.mem_of_getElem? (i := 708) (by decide +kernel)⟩
theorem lw_p36 : lw_okq (⟨"SkyAdvisorModel", "height", "(IZII)J"⟩, 22) := ⟨⟨by decide +kernel, by decide +kernel⟩, List.mem_of_getElem? (i := 546) (by decide +kernel), List.mem_of_getElem? (i := 711) (by decide +kernel), List.mem_of_getElem? (i := 712) (by decide +kernel)⟩
theorem lw_p37 : lw_okq (⟨"SkyAdvisorModel", "begin", "(II)V"⟩, 22) := ⟨⟨by decide +kernel, by decide +kernel⟩, List.mem_of_getElem? (i := 546) (by decide +kernel), List.mem_of_getElem? (i := 717) (by decide +kernel), List.mem_of_getElem? (i := 718) (by decide +kernel)⟩
def lw_privs_3 : List (MethodName × Nat) := [(⟨"SkyAdvisorModel", "alerts", "()Z"⟩, 22), (⟨"SkyAdvisorModel", "chosen", "()I"⟩, 22), (⟨"SkyAdvisorModel", "enough", "(III)I"⟩, 22), (⟨"SkyAdvisorModel", "part", "(III)J"⟩, 22), (⟨"SkyAdvisorModel", "height", "(IZII)J"⟩, 22), (⟨"SkyAdvisorModel", "begin", "(II)V"⟩, 22)]
theorem lw_r3 : ∀ q ∈ lw_privs_3, lw_okq q := List.forall_mem_cons.mpr ⟨lw_p32, List.forall_mem_cons.mpr ⟨lw_p33, List.forall_mem_cons.mpr ⟨lw_p34, List.forall_mem_cons.mpr ⟨lw_p35, List.forall_mem_cons.mpr ⟨lw_p36, List.forall_mem_cons.mpr ⟨lw_p37, fun _ h => absurd h List.not_mem_nil⟩⟩⟩⟩⟩⟩
def lw_privs : List (MethodName × Nat) := lw_privs_1 ++ (lw_privs_2 ++ (lw_privs_3))
def lw_tbl : List Cond := k2_sels lw_privs ++ tables_1
theorem lw_privs_ok : ∀ q ∈ lw_privs, lw_okq q := by
  show ∀ q ∈ lw_privs_1 ++ (lw_privs_2 ++ (lw_privs_3)), lw_okq q
  exact List.forall_mem_append.mpr ⟨lw_r1, List.forall_mem_append.mpr ⟨lw_r2, lw_r3⟩⟩
/-! ===== BEGIN words of one list among another's, by their places ===== -/
theorem goodIn_r {big : List Cond} (ws : List Cond) (ps : List Nat) (hp : ws = ps.filterMap (fun i => big[i]?)) (h : ws.all goodWord = true) : GoodIn big ws := by
  intro w hw
  have h1 := List.all_eq_true.mp h w hw
  rw [hp] at hw
  obtain ⟨i, -, hi⟩ := List.mem_filterMap.mp hw
  have hm : w ∈ big := by first | exact List.mem_of_getElem? hi | exact List.getElem?_mem hi
  exact ⟨hm, good_of_word h1⟩
theorem goodIn_app {big a b : List Cond} (ha : GoodIn big a) (hb : GoodIn big b) : GoodIn big (a ++ b) := fun w h => (List.mem_append.mp h).elim (ha w) (hb w)
theorem goodIn_ca {big a b : List Cond} {c : Cond} (ha : GoodIn big (c :: a)) (hb : GoodIn big b) : GoodIn big (c :: (a ++ b)) := fun w h => (List.mem_cons.mp h).elim (fun e => ha w (List.mem_cons.mpr (Or.inl e))) (fun h => (List.mem_append.mp h).elim (fun h => ha w (List.mem_cons.mpr (Or.inr h))) (hb w))
theorem goodIn_sub {big ws : List Cond} (hm : ∀ w ∈ ws, w ∈ big) (h : ws.all goodWord = true) : GoodIn big ws := fun w hw => ⟨hm w hw, good_of_word (List.all_eq_true.mp h w hw)⟩
/-! ===== END ===== -/

/-! ===== BEGIN exceptions that leave a method, and their catching by the caller (launches without stack traces) ===== -/
section VXA
/-! The laws vx_back, vx_callV, vx_callS, vx_callSW, vx_throw0, vx_throwS follow proofs of the library, with one case more: JvmDerived/Free/Laws.lean (Back.of_free), Shelf42/LK1.lean (callV, callS), Shelf/KitTraced.lean (throwNew0V, throwNewS). -/

/-- where a method has thrown q: the class by its name, the cell, what was written, the world -/
def vx_T (XC : String → State → State → Prop) (st : State) (q : Addr) (t : State) (mc ms : Nat) (free : Addr → Prop) : Prop :=
  ∃ (E : String) (ce : Cell) (L : List Loc), XC E st t ∧ t.heap[q]? = some ce ∧ ce.vm = .none ∧ st.vm.findClass E = some ce.cls ∧ st.WarmedH t.vm ∧ st.sameButNew ({ t with vm := st.vm } : State) L mc ms ∧ ∀ z ∈ L, free z.base
def vx_Q (Qc : Array Value → State → Outcome → State → Prop) (XC : String → State → State → Prop) (mc ms : Nat) (free : Addr → Prop) : Array Value → State → Outcome → State → Prop := fun a st o t =>
  (Qc a st o t ∧ ∃ L, FrameEnd st o t L mc ms ∧ ∀ q ∈ L, free q.base) ∨ ∃ q, o = .threw q ∧ vx_T XC st q t mc ms free
/-- a callee that returns or throws -/
def vx_Met (l : Launch) (y : MethodName) (ws : List Cond) (rm : Room) (Pc : Array Value → State → Prop) (Qc : Array Value → State → Outcome → State → Prop) (XC : String → State → State → Prop) (mc ms : Nat) (free : Addr → Prop) : Prop :=
  MetFree l y (headSpec ws rm) Pc (fun _ _ _ _ _ => True) (vx_Q Qc XC mc ms free)
def vx_Post (XC : String → State → State → Prop) (mc ms : Nat) (free : Addr → Prop) : Pt → Array Value → Addr → Pt → Prop := fun A a q B =>
  ∃ (g : JFrame) (mk : MethodId) (t : State) (L : List Loc) (E : String) (ce : Cell), B.U.heap = t.heap ∧ B.U.vm = t.vm ∧ XC E (A.U.calling g mk a) t ∧ t.heap[q]? = some ce ∧ ce.vm = .none ∧ A.U.vm.findClass E = some ce.cls ∧ B.locs = A.locs ++ L ∧ (∀ z ∈ L, free z.base) ∧ B.cells = A.cells + mc ∧ B.slots = A.slots + ms
def vx_Back (l : Launch) (R : Room) (p : Program) (e : Env) (below : List Frame) (s : State) (sargs : Array Value) (y : MethodName) (len W9 : Nat)
    (Pre : Pt → Array Value → Prop) (Post : Pt → Array Value → Option Value → Pt → Prop) (PostX : Pt → Array Value → Addr → Pt → Prop) : Prop :=
  ∀ (m : MethodId) (meth : Method) (c : Code) (A : Pt) (g : JFrame) (ig : Instr) (mk : MethodId) (a : Array Value),
    Stand p l e R s m sargs below meth c A.U A.locs A.cells A.slots → g.method = m → g.locals.size = c.maxLocals → decode c.code g.pc = .ok (ig, len) →
    2 * g.monitorRoom + (g.stack.map fun v => v.category).sum ≤ W9 → A.U.methodNamed? y = some mk → Pre A a →
    (∃ (v : Option Value) (B : Pt), Stand p l e R s m sargs below meth c B.U B.locs B.cells B.slots ∧ Post A a v B ∧
      Steps p.tables e below (doInvoke e (A.U.setTop g) [] mk a).1 (B.U.setTop { g with pc := g.pc + len, stack := v.toList ++ g.stack })) ∨
    (∃ (q : Addr) (B : Pt), Stand p l e R s m sargs below meth c B.U B.locs B.cells B.slots ∧ PostX A a q B ∧
      Steps p.tables e below (doInvoke e (A.U.setTop g) [] mk a).1 ((B.U.setTop g).pushFrame (.throwing q)))
section Payer
variable {l : Launch} {R : Room} {p : Program} {e : Env} {below : List Frame} {s : State} {sargs : Array Value} {y : MethodName} {len W9 : Nat}
theorem vx_back {ws : List Cond} {rm : Room} {Pc : Array Value → State → Prop} {Qc : Array Value → State → Outcome → State → Prop} {XC : String → State → State → Prop} {mc ms : Nat} {free : Addr → Prop} {bytes : ByteArray} {maxL : Nat} {ret : Option FieldType}
    (hM : vx_Met l y ws rm Pc Qc XC mc ms free) (hblind : FrameBlind Pc) (hrc : rm.cells = mc) (hrs : rm.slots = ms)
    (hframes : rm.frames + 1 ≤ R.frames) (hlocals : W9 + (maxL + 11) + rm.locals ≤ R.locals)
    (hws : ∀ w ∈ ws, ∀ a' U, s.WarmedH U.vm → w.before a' U = true) (hcode : Cond.code y bytes maxL ret ∈ ws) (hinit : ∀ a' U, s.WarmedH U.vm → (Cond.initialized y.cls).before a' U = true) :
    vx_Back l R p e below s sargs y len W9 (PreOf R mc ms Pc) (PostOf Qc mc ms free) (vx_Post XC mc ms free) := by
  intro m meth c A g ig mk a X hg hsize hdg hW hn hp
  have h1 : (headSpec ws rm).pre.before a A.U = true := atoms_intro fun w hw => hws w hw _ _ X.warmed
  have h2 : (Cond.code y bytes maxL ret).before a A.U = true := hws _ hcode _ _ X.warmed
  have h3 : (Cond.initialized y.cls).before a A.U = true := hinit _ _ X.warmed
  have h4 : A.cells + (headSpec ws rm).room.cells ≤ R.cells := by rw [show (headSpec ws rm).room.cells = mc from hrc]; exact hp.1
  have h5 : A.slots + (headSpec ws rm).room.slots ≤ R.slots := by rw [show (headSpec ws rm).room.slots = ms from hrs]; exact hp.2.1
  have hPc : Pc a (A.U.calling g mk a) := hblind _ _ _ _ hp.2.2
  obtain ⟨U, Ls, c0, s0⟩ := A
  dsimp only [Pt.U, Pt.locs, Pt.cells, Pt.slots] at h1 h2 h3 h4 h5 X hn hPc ⊢
  obtain ⟨methY, cY, hmY, hcY, -, hlY, -, -, -, -⟩ := Cond.code_spec hn h2
  obtain ⟨kY, hkY, -⟩ := className_of_methodNamed hn
  have hinitY : kY.init = .initialized := Cond.initialized_spec (findClass_of_methodNamed hn) hkY h3
  have h : At U g.method c below := by rw [hg]; exact X.here
  have hlocals9 : W9 + (maxL + 11) + (headSpec ws rm).room.locals ≤ R.locals := hlocals
  have happ : (headSpec ws rm).appliesLoose y e.platform (U.calling g mk a) = true :=
    Spec.appliesLoose_calling (g := g) h hdg hn hkY hinitY
      (X.room_calling (g := g) (R' := (headSpec ws rm).room) hsize hmY hcY hframes (by rw [hlY]; omega) h4 h5) h1
  obtain ⟨mid, hmid⟩ := h.above
  have hfr : (U.setTop g).frames = (.java g :: mid) ++ below := by rw [State.frames_setTop' g h.top, hmid]; rfl
  obtain ⟨o, s₂, hsteps, -, hend, hq⟩ := Steps.callFree hM p X.admits X.cas X.clock (acts := []) hfr happ hPc trivial
  have hq' : vx_Q Qc XC mc ms free a (U.calling g mk a) o s₂ := hq
  rw [State.frames_setTop' g h.top] at hend
  obtain ⟨g₀, hg0⟩ := Option.isSome_iff_exists.mp h.top
  obtain ⟨r, hr⟩ := State.topJava?_eq_some.mp hg0
  have hr' : (({ U with heap := s₂.heap, slotsUsed := s₂.slotsUsed } : State).setVm s₂.vm).frames = .java g₀ :: r := hr
  rcases hq' with ⟨hqc, L, hfe, hL⟩ | ⟨q, rfl, E, ce, L, hx, hce, hcv, hcl, hW₂, hsm, hL⟩
  · obtain ⟨⟨v, rfl⟩, hW₂, e2, q2, q3, q4, q5, q6⟩ := id hfe
    have e3 : s₂ = ({ (U.calling g mk a).setFrames s₂.frames with heap := s₂.heap, slotsUsed := s₂.slotsUsed } : State).setVm s₂.vm := by
      have : s₂ = ({ s₂ with vm := (U.calling g mk a).vm } : State).setVm s₂.vm := rfl
      rw [e2] at this
      exact this
    obtain ⟨c₂, i₂, len₂, hc₂, hd₂, hf₂⟩ := hend
    have hW' : U.WarmedH s₂.vm := hW₂
    have hcc : c₂ = c := by
      have h1 : s₂.code? g.method = U.code? g.method := by
        rw [State.code?_eq, State.code?_eq, hW'.alike.method?]
      exact Option.some.inj (hc₂.symm.trans (h1.trans h.code))
    subst hcc
    have hlen : len₂ = len := by rw [hdg] at hd₂; cases hd₂; rfl
    subst hlen
    have hs₂ : s₂ = (({ U with heap := s₂.heap, slotsUsed := s₂.slotsUsed } : State).setVm s₂.vm).setTop { g with pc := g.pc + len₂, stack := v.toList ++ g.stack } := by
      refine e3.trans ?_
      rw [hf₂, State.calling_eq h.top, State.setFrames_setFrames, State.setTop_of_frames _ hr', hr]
      rfl
    have hsame : U.sameButNew ({ U with heap := s₂.heap, slotsUsed := s₂.slotsUsed } : State) L mc ms := by
      refine ⟨?_, q2, q3, q4, q5, q6⟩
      obtain ⟨t, ht, -⟩ := State.frames_cons hr
      show ({ U with heap := s₂.heap, slotsUsed := s₂.slotsUsed } : State) = { U.setFrames U.frames with heap := s₂.heap, slotsUsed := s₂.slotsUsed }
      rw [State.setFrames_self ht]
    subst hg
    refine Or.inl ⟨v, ⟨(({ U with heap := s₂.heap, slotsUsed := s₂.slotsUsed } : State).setVm s₂.vm), Ls ++ L, c0 + mc, s0 + ms⟩,
      ⟨X.admits, X.cas, X.clock, X.frames, X.room, X.hears, X.method, X.code, (X.here.setHeapUsed s₂.heap s₂.slotsUsed).setVm hW'.alike, X.tail, State.WarmedH.trans X.warmed hW', X.limits, X.bytes, X.same.trans (hsame.setVm s.vm)⟩,
      ⟨g, mk, s₂, L, rfl, rfl, hqc, rfl, hL, rfl, rfl⟩, ?_⟩
    show Steps p.tables e below _ ((({ U with heap := s₂.heap, slotsUsed := s₂.slotsUsed } : State).setVm s₂.vm).setTop { g with pc := g.pc + len₂, stack := v.toList ++ g.stack })
    rw [← hs₂]
    exact hsteps
  · obtain ⟨e2, q2, q3, q4, q5, q6⟩ := id hsm
    have e3 : s₂ = ({ (U.calling g mk a).setFrames s₂.frames with heap := s₂.heap, slotsUsed := s₂.slotsUsed } : State).setVm s₂.vm := by
      have : s₂ = ({ s₂ with vm := (U.calling g mk a).vm } : State).setVm s₂.vm := rfl
      rw [e2] at this
      exact this
    have hf₂ : s₂.frames = .throwing q :: .java g :: U.frames.tail := hend
    have hW' : U.WarmedH s₂.vm := hW₂
    have hs₂ : s₂ = ((({ U with heap := s₂.heap, slotsUsed := s₂.slotsUsed } : State).setVm s₂.vm).setTop g).pushFrame (.throwing q) := by
      refine e3.trans ?_
      rw [hf₂, State.calling_eq h.top, State.setFrames_setFrames, State.pushFrame, State.frames_setTop _ hr', State.setTop_of_frames _ hr', State.setFrames_setFrames, hr]
      rfl
    have hsame : U.sameButNew ({ U with heap := s₂.heap, slotsUsed := s₂.slotsUsed } : State) L mc ms := by
      refine ⟨?_, q2, q3, q4, q5, q6⟩
      obtain ⟨t, ht, -⟩ := State.frames_cons hr
      show ({ U with heap := s₂.heap, slotsUsed := s₂.slotsUsed } : State) = { U.setFrames U.frames with heap := s₂.heap, slotsUsed := s₂.slotsUsed }
      rw [State.setFrames_self ht]
    subst hg
    refine Or.inr ⟨q, ⟨(({ U with heap := s₂.heap, slotsUsed := s₂.slotsUsed } : State).setVm s₂.vm), Ls ++ L, c0 + mc, s0 + ms⟩,
      ⟨X.admits, X.cas, X.clock, X.frames, X.room, X.hears, X.method, X.code, (X.here.setHeapUsed s₂.heap s₂.slotsUsed).setVm hW'.alike, X.tail, State.WarmedH.trans X.warmed hW', X.limits, X.bytes, X.same.trans (hsame.setVm s.vm)⟩,
      ⟨g, mk, s₂, L, E, ce, rfl, rfl, hx, hce, hcv, hcl, rfl, hL, rfl, rfl⟩, ?_⟩
    show Steps p.tables e below _ (((({ U with heap := s₂.heap, slotsUsed := s₂.slotsUsed } : State).setVm s₂.vm).setTop g).pushFrame (.throwing q))
    rw [← hs₂]
    exact hsteps
end Payer
section Calls
variable {p : Program} {l : Launch} {e : Env} {R : Room} {s : State} {m : MethodId} {args : Array Value} {below : List Frame} {meth : Method} {c : Code} {T : State} {locs : List Loc} {cells slots : Nat}
theorem vx_callV (X : Stand p l e R s m args below meth c T locs cells slots) (hexec : p.tables.exec = Jvm.exec) {own C : String} {index : Nat} {y : MethodName} {bytes : ByteArray} {maxL : Nat} {ret : Option FieldType}
    (hown : s.vm.findClass own = some m.cls) (hlink : (Cond.methodLink own index y).before args s = true) (hinst : (Cond.instanceMethod y).before args s = true) (hsel : (Cond.selects C y y).before args s = true)
    (hcode : (Cond.code y bytes maxL ret).before args s = true) (hy : y.cls ≠ "java/lang/invoke/MethodHandle" ∧ y.cls ≠ "java/lang/invoke/VarHandle")
    {W9 : Nat} {Pre : Pt → Array Value → Prop} {Post : Pt → Array Value → Option Value → Pt → Prop} {PostX : Pt → Array Value → Addr → Pt → Prop} (hK : vx_Back l R p e below s args y 3 W9 Pre Post PostX)
    {b : Addr} {cellB : Cell} (hcell : T.heap[b]? = some cellB) (hobj : cellB.vm.isStatics = false) (hcls : s.vm.findClass C = some cellB.cls)
    {g : JFrame} (hg : g.method = m) (hsize : g.locals.size = c.maxLocals) {argsL rest : List Value} (hlen : ∀ sig, parseMethodDescriptor y.desc = some sig → argsL.length = sig.parameters.length)
    (hstack : g.stack = argsL.reverse ++ .ref b :: rest) (hW : 2 * g.monitorRoom + (rest.map fun v => v.category).sum ≤ W9) (hdg : decode c.code g.pc = .ok (.invokevirtual index, 3))
    (hpre : ∀ vm₁, s.WarmedH vm₁ → Pre ⟨T.setVm vm₁, locs, cells, slots⟩ (Value.ref b :: argsL).toArray) :
    (∃ (v : Option Value) (vm₁ : Vm) (B : Pt), s.WarmedH vm₁ ∧ Stand p l e R s m args below meth c B.U B.locs B.cells B.slots ∧ Post ⟨T.setVm vm₁, locs, cells, slots⟩ (Value.ref b :: argsL).toArray v B ∧
      ∀ target, Steps p.tables e below (B.U.setTop { g with pc := g.pc + 3, stack := v.toList ++ rest }) target → Steps p.tables e below (T.setTop g) target) ∨
    (∃ (q : Addr) (vm₁ : Vm) (B : Pt), s.WarmedH vm₁ ∧ Stand p l e R s m args below meth c B.U B.locs B.cells B.slots ∧ PostX ⟨T.setVm vm₁, locs, cells, slots⟩ (Value.ref b :: argsL).toArray q B ∧
      Steps p.tables e below (T.setTop g) ((B.U.setTop { g with stack := rest }).pushFrame (.throwing q))) := by
  obtain ⟨mk, methM, hnamed, hmethM, hstM, habM⟩ := Cond.instanceMethod_spec hinst
  obtain ⟨methM', cM, hmethM', -, -, -, -, -, -, hsigM⟩ := Cond.code_spec hnamed hcode
  cases hmethM.symm.trans hmethM'
  obtain ⟨c2, r2, m2, q1, q2, q3, q4, kP, hkP, hkPi⟩ := Cond.selects_spec hsel
  cases hcls.symm.trans q1
  cases (State.methodFound?_of_named hnamed hy).symm.trans q2
  cases hnamed.symm.trans q3
  have hselP : selectMethod e.platform s.vm cellB.cls mk = .method mk := by rw [Launch.admits_selectMethod X.admits]; exact q4
  obtain ⟨vm₁, X₁, hstep₁⟩ := X.invokevirtual hexec hown hlink hnamed hmethM hstM hkP hkPi hy (a := b) (cell := cellB) hcell
    (fun z h => by rw [h] at hobj; cases hobj) hselP hmethM habM hkP hkPi (g := g) hg (argsL := argsL) (rest := rest) (hlen _ hsigM) hstack hdg
  rcases hK m meth c ⟨T.setVm vm₁, locs, cells, slots⟩ { g with stack := rest } (.invokevirtual index) mk (Value.ref b :: argsL).toArray X₁ hg hsize hdg hW (X₁.named hnamed) (hpre vm₁ X₁.warmed) with ⟨v, B, X', hpost, hsteps⟩ | ⟨q, B, X', hpost, hsteps⟩
  · exact Or.inl ⟨v, vm₁, B, X₁.warmed, X', hpost, fun target h => hstep₁ _ fun acts => by rw [doInvoke_state]; exact hsteps.trans h⟩
  · exact Or.inr ⟨q, vm₁, B, X₁.warmed, X', hpost, hstep₁ _ fun acts => by rw [doInvoke_state]; exact hsteps⟩
theorem vx_callS (X : Stand p l e R s m args below meth c T locs cells slots) (hexec : p.tables.exec = Jvm.exec) {own : String} {index : Nat} {y : MethodName} {bytes : ByteArray} {maxL : Nat} {ret : Option FieldType}
    (hown : s.vm.findClass own = some m.cls) (hlink : (Cond.methodLink own index y).before args s = true) (hstat : (Cond.static y).before args s = true) (hinit : (Cond.initialized y.cls).before args s = true)
    (hcode : (Cond.code y bytes maxL ret).before args s = true) (hy : y.cls ≠ "java/lang/invoke/MethodHandle" ∧ y.cls ≠ "java/lang/invoke/VarHandle")
    {W9 : Nat} {Pre : Pt → Array Value → Prop} {Post : Pt → Array Value → Option Value → Pt → Prop} {PostX : Pt → Array Value → Addr → Pt → Prop} (hK : vx_Back l R p e below s args y 3 W9 Pre Post PostX)
    {g : JFrame} (hg : g.method = m) (hsize : g.locals.size = c.maxLocals) {argsL rest : List Value} (hlen : ∀ sig, parseMethodDescriptor y.desc = some sig → argsL.length = sig.parameters.length)
    (hstack : g.stack = argsL.reverse ++ rest) (hW : 2 * g.monitorRoom + (rest.map fun v => v.category).sum ≤ W9) (hdg : decode c.code g.pc = .ok (.invokestatic index, 3))
    (hpre : ∀ vm₁, s.WarmedH vm₁ → Pre ⟨T.setVm vm₁, locs, cells, slots⟩ argsL.toArray) :
    (∃ (v : Option Value) (vm₁ : Vm) (B : Pt), s.WarmedH vm₁ ∧ Stand p l e R s m args below meth c B.U B.locs B.cells B.slots ∧ Post ⟨T.setVm vm₁, locs, cells, slots⟩ argsL.toArray v B ∧
      ∀ target, Steps p.tables e below (B.U.setTop { g with pc := g.pc + 3, stack := v.toList ++ rest }) target → Steps p.tables e below (T.setTop g) target) ∨
    (∃ (q : Addr) (vm₁ : Vm) (B : Pt), s.WarmedH vm₁ ∧ Stand p l e R s m args below meth c B.U B.locs B.cells B.slots ∧ PostX ⟨T.setVm vm₁, locs, cells, slots⟩ argsL.toArray q B ∧
      Steps p.tables e below (T.setTop g) ((B.U.setTop { g with stack := rest }).pushFrame (.throwing q))) := by
  obtain ⟨mk, hnamed⟩ := Cond.code_named hcode
  obtain ⟨methM, cM, hmethM, -, -, -, -, -, -, hsigM⟩ := Cond.code_spec hnamed hcode
  have hstatic : methM.isStatic = true := Cond.static_spec hnamed hmethM hstat
  obtain ⟨kP, hkP, -⟩ := className_of_methodNamed hnamed
  have hinitP : kP.init = .initialized := Cond.initialized_spec (findClass_of_methodNamed hnamed) hkP hinit
  obtain ⟨vm₁, X₁, hstep₁⟩ := X.invokestatic hexec hown hlink hnamed hmethM hstatic hkP hinitP hy (g := g) hg (argsL := argsL) (rest := rest) (hlen _ hsigM) hstack hdg
  rcases hK m meth c ⟨T.setVm vm₁, locs, cells, slots⟩ { g with stack := rest } (.invokestatic index) mk argsL.toArray X₁ hg hsize hdg hW (X₁.named hnamed) (hpre vm₁ X₁.warmed) with ⟨v, B, X', hpost, hsteps⟩ | ⟨q, B, X', hpost, hsteps⟩
  · exact Or.inl ⟨v, vm₁, B, X₁.warmed, X', hpost, fun target h => hstep₁ _ fun acts => by rw [doInvoke_state]; exact hsteps.trans h⟩
  · exact Or.inr ⟨q, vm₁, B, X₁.warmed, X', hpost, hstep₁ _ fun acts => by rw [doInvoke_state]; exact hsteps⟩
end Calls
theorem vx_cls {s : State} {T : State} {vm₁ : Vm} {E : String} {k : ClassId} (hW : s.WarmedH vm₁) (h : (T.setVm vm₁).vm.findClass E = some k) : s.vm.findClass E = some k := by
  have h1 : vm₁.findClass E = some k := h
  rw [hW.alike.findClass] at h1
  exact h1
/-- the method's frame g, with q thrown over it -/
def vx_W (p : Program) (l : Launch) (e : Env) (R : Room) (s : State) (m : MethodId) (args : Array Value) (below : List Frame) (meth : Method) (c : Code) (H : Heap) (locs : List Loc) (cells slots : Nat) (Q : State → Prop) (g : JFrame) (q : Addr) : Prop :=
  ∀ T : State, T.heap = H → Stand p l e R s m args below meth c T locs cells slots → ∃ t, Steps p.tables e below ((T.setTop g).pushFrame (.throwing q)) t ∧ Q t
def vx_Run (p : Program) (l : Launch) (e : Env) (R : Room) (s : State) (m : MethodId) (args : Array Value) (below : List Frame) (meth : Method) (c : Code) (H : Heap) (locs : List Loc) (cells slots mc ms : Nat) (g : JFrame) (rest : List Value) (Qa : State → Outcome → State → Prop) (XC : String → State → State → Prop) (free : Addr → Prop) : Prop :=
  ∀ T : State, T.heap = H → Stand p l e R s m args below meth c T locs cells slots →
    (∃ (v : Option Value) (st₀ t T' : State) (L : List Loc), st₀.heap = H ∧ Stand p l e R s m args below meth c T' (locs ++ L) (cells + mc) (slots + ms) ∧ (∀ q ∈ L, free q.base) ∧ T'.heap = t.heap ∧ T'.vm = t.vm ∧ Qa st₀ (.returned v) t ∧
      Goes p e below T g T' { g with pc := g.pc + 3, stack := v.toList ++ rest }) ∨
    (∃ (q : Addr) (st₀ t T' : State) (L : List Loc) (E : String) (ce : Cell), st₀.heap = H ∧ Stand p l e R s m args below meth c T' (locs ++ L) (cells + mc) (slots + ms) ∧ (∀ z ∈ L, free z.base) ∧ T'.heap = t.heap ∧ T'.vm = t.vm ∧ XC E st₀ t ∧ t.heap[q]? = some ce ∧ ce.vm = .none ∧ s.vm.findClass E = some ce.cls ∧
      Steps p.tables e below (T.setTop g) ((T'.setTop { g with stack := rest }).pushFrame (.throwing q)))
def vx_X {S : Type} (px : S → Prop) (B : String → S → State → Prop) (A : Nat → Prop) : String → State → State → Prop := fun E st t => ∃ u : S, px u ∧ B E u t ∧ va_F A st t
section Runs
variable {p : Program} {l : Launch} {e : Env} {R : Room} {s : State} {m : MethodId} {args : Array Value} {below : List Frame} {meth : Method} {c : Code} {H : Heap} {locs : List Loc} {cells slots : Nat}
variable {y : MethodName} {bytes cc : ByteArray} {maxL nL mc ms n index : Nat} {ret : Option FieldType} {ws : List Cond} {rm : Room} {Pc : Array Value → State → Prop} {Qc : Array Value → State → Outcome → State → Prop} {XC : String → State → State → Prop} {free : Addr → Prop} {Ts : List Cond} {own C : String} {b : Addr} {As rest : List Value} {g : JFrame}
theorem vx_callBack (cb : CallB R s args own index y bytes maxL ret ws rm mc ms n) (hM : vx_Met l y ws rm Pc Qc XC mc ms free) (hbl : FrameBlind Pc) : vx_Back l R p e below s args y 3 8 (PreOf R mc ms Pc) (PostOf Qc mc ms free) (vx_Post XC mc ms free) := by
  obtain ⟨hrc, hrs, hfr, hlo, hws, hcw, -, hini, -⟩ := cb
  exact vx_back (bytes := bytes) (maxL := maxL) (ret := ret) hM hbl hrc hrs hfr hlo hws hcw (fun a' U hW => word_at hW (Or.inl (by first | rfl | simp [Cond.onTables, Cond.keeps, Cond.steady])) hini)
theorem vx_runV (S : CallFix p m c cc nL s args Ts own) (hM : vx_Met l y ws rm Pc Qc XC mc ms free) (cw : CallW R s args own C index y bytes maxL ret ws rm mc ms n) (hp : PreV s H C b Pc As)
    (hg : g.method = m) (hn : As.length = n) (hsize : g.locals.size = nL) (hstack : g.stack = As.reverse ++ .ref b :: rest) (hW : 2 * g.monitorRoom + (rest.map fun v => v.category).sum ≤ 8) (hdg : decode cc g.pc = .ok (.invokevirtual index, 3)) (hf : cells + mc ≤ R.cells ∧ slots + ms ≤ R.slots) :
    vx_Run p l e R s m args below meth c H locs cells slots mc ms g rest (Qc (Value.ref b :: As).toArray) XC free := by
  have hK : vx_Back l R p e below s args y 3 8 (PreOf R mc ms Pc) (PostOf Qc mc ms free) (vx_Post XC mc ms free) := vx_callBack cw.1 hM hp.1
  obtain ⟨⟨-, -, -, -, -, -, hcode, -, hy, hlen, hl⟩, hin, hse⟩ := cw
  obtain ⟨hx, hb, hml, ho, -⟩ := S
  obtain ⟨-, ⟨cellB, hcB, hoB, hclB⟩, hPc⟩ := hp
  intro T hT X
  rcases vx_callV X hx (C := C) (bytes := bytes) (maxL := maxL) (ret := ret) ho hl hin hse hcode hy hK (by rw [hT]; exact hcB) hoB hclB hg (hsize.trans hml.symm) (argsL := As) (rest := rest) (fun sig h => hn.trans (hlen sig h)) hstack hW (by rw [hb]; exact hdg)
    (fun vm₁ hW₁ => ⟨hf.1, hf.2, hPc (T.setVm vm₁) hT hW₁⟩) with ⟨v, vm₁, ⟨U', l2, c2, s2⟩, hW₁, X', ⟨g', mk, t, L, e1, e2, hq, h1, hL, h2, h3⟩, st⟩ | ⟨q, vm₁, ⟨U', l2, c2, s2⟩, hW₁, X', ⟨g', mk, t, L, E, ce, e1, e2, hq, hce, hcv, hcl, h1, hL, h2, h3⟩, st⟩
  · dsimp only [Pt.U, Pt.locs, Pt.cells, Pt.slots] at X' e1 e2 h1 h2 h3 st
    subst h1; subst h2; subst h3
    exact Or.inl ⟨v, (T.setVm vm₁).calling g' mk (Value.ref b :: As).toArray, t, U', L, hT, X', hL, e1, e2, hq, st⟩
  · dsimp only [Pt.U, Pt.locs, Pt.cells, Pt.slots] at X' e1 e2 h1 h2 h3 st hcl
    subst h1; subst h2; subst h3
    exact Or.inr ⟨q, (T.setVm vm₁).calling g' mk (Value.ref b :: As).toArray, t, U', L, E, ce, hT, X', hL, e1, e2, hq, hce, hcv, vx_cls hW₁ hcl, st⟩
theorem vx_runS (S : CallFix p m c cc nL s args Ts own) (hM : vx_Met l y ws rm Pc Qc XC mc ms free) (cw : CallB R s args own index y bytes maxL ret ws rm mc ms n ∧ (Cond.static y).before args s = true) (hp : PreS s H Pc As)
    (hg : g.method = m) (hn : As.length = n) (hsize : g.locals.size = nL) (hstack : g.stack = As.reverse ++ rest) (hW : 2 * g.monitorRoom + (rest.map fun v => v.category).sum ≤ 8) (hdg : decode cc g.pc = .ok (.invokestatic index, 3)) (hf : cells + mc ≤ R.cells ∧ slots + ms ≤ R.slots) :
    vx_Run p l e R s m args below meth c H locs cells slots mc ms g rest (Qc As.toArray) XC free := by
  have hK : vx_Back l R p e below s args y 3 8 (PreOf R mc ms Pc) (PostOf Qc mc ms free) (vx_Post XC mc ms free) := vx_callBack cw.1 hM hp.1
  obtain ⟨⟨-, -, -, -, -, -, hcode, hini, hy, hlen, hl⟩, hstt⟩ := cw
  obtain ⟨hx, hb, hml, ho, -⟩ := S
  intro T hT X
  rcases vx_callS X hx (bytes := bytes) (maxL := maxL) (ret := ret) ho hl hstt hini hcode hy hK hg (hsize.trans hml.symm) (argsL := As) (rest := rest) (fun sig h => hn.trans (hlen sig h)) hstack hW (by rw [hb]; exact hdg)
    (fun vm₁ hW₁ => ⟨hf.1, hf.2, hp.2 (T.setVm vm₁) hT hW₁⟩) with ⟨v, vm₁, ⟨U', l2, c2, s2⟩, hW₁, X', ⟨g', mk, t, L, e1, e2, hq, h1, hL, h2, h3⟩, st⟩ | ⟨q, vm₁, ⟨U', l2, c2, s2⟩, hW₁, X', ⟨g', mk, t, L, E, ce, e1, e2, hq, hce, hcv, hcl, h1, hL, h2, h3⟩, st⟩
  · dsimp only [Pt.U, Pt.locs, Pt.cells, Pt.slots] at X' e1 e2 h1 h2 h3 st
    subst h1; subst h2; subst h3
    exact Or.inl ⟨v, (T.setVm vm₁).calling g' mk As.toArray, t, U', L, hT, X', hL, e1, e2, hq, st⟩
  · dsimp only [Pt.U, Pt.locs, Pt.cells, Pt.slots] at X' e1 e2 h1 h2 h3 st hcl
    subst h1; subst h2; subst h3
    exact Or.inr ⟨q, (T.setVm vm₁).calling g' mk As.toArray, t, U', L, E, ce, hT, X', hL, e1, e2, hq, hce, hcv, vx_cls hW₁ hcl, st⟩
end Runs
section Rows
variable {p : Program} {l : Launch} {e : Env} {R : Room} {s : State} {m : MethodId} {args : Array Value} {below : List Frame} {meth : Method} {c : Code} {H : Heap} {locs : List Loc} {cells slots : Nat} {Q : State → Prop}
variable {mc ms : Nat} {free : Addr → Prop} {A0 A1 : Nat → Prop} {H0 : Heap} {a : Array Value} {pc : Nat} {ls : Array Slot} {st0 rest : List Value}
theorem vx_keep {st₀ t T' : State} {L : List Loc} (h0 : st₀.heap = H) (e1 : T'.heap = t.heap) (hS : va_S A0 H0 H locs) (hA : ∀ q, q < H.size → A1 q → A0 q) (hf : ∀ q, free q → A0 q) (hL : ∀ q ∈ L, free q.base) (hF : va_F A1 st₀ t) :
    H.size ≤ T'.heap.size ∧ (∀ q : Nat, q < H.size → ¬ A1 q → T'.heap[q]? = H[q]?) ∧ va_S A0 H0 T'.heap (locs ++ L) := by
  obtain ⟨hz, hk⟩ := hF
  rw [h0] at hz hk
  exact ⟨by rw [e1]; exact hz, fun q h1 h2 => by rw [e1]; exact hk q h1 h2,
    ⟨Nat.le_trans hS.1 (by rw [e1]; exact hz), fun q h1 h2 => by rw [e1, hk q (Nat.lt_of_lt_of_le h1 hS.1) (fun z => h2 (hA q (Nat.lt_of_lt_of_le h1 hS.1) z))]; exact hS.2.1 q h1 h2, fun q hq => by
      rcases List.mem_append.mp hq with h | h
      · exact hS.2.2 q h
      · exact hf _ (hL q h)⟩⟩
theorem vx_calli {S SX : Type} {post : Int32 → S → Prop} {px : SX → Prop} {B : S → State → Prop} {BX : String → SX → State → Prop} {AX : Nat → Prop} (hr : vx_Run p l e R s m args below meth c H locs cells slots mc ms (F0 m pc ls st0) rest (va_Qi post B A1 a) (vx_X px BX AX) free) (hS : va_S A0 H0 H locs) (hA : ∀ q, q < H.size → A1 q → A0 q) (hf : ∀ q, free q → A0 q) (hAX : ∀ q, q < H.size → AX q → A0 q)
    (kx : ∀ (E : String) (ce : Cell) (q9 : Addr) (u : SX) (t : State) (H1 : Heap) (locs1 : List Loc), t.heap = H1 → s.vm.Alike t.vm → px u → BX E u t → H.size ≤ H1.size → (∀ q : Nat, q < H.size → ¬ AX q → H1[q]? = H[q]?) → va_S A0 H0 H1 locs1 → H1[q9]? = some ce → ce.vm = .none → s.vm.findClass E = some ce.cls → vx_W p l e R s m args below meth c H1 locs1 (cells + mc) (slots + ms) Q (F0 m pc ls rest) q9)
    (kk : ∀ (r : Int32) (u : S) (t : State) (H1 : Heap) (locs1 : List Loc), t.heap = H1 → s.vm.Alike t.vm → post r u → B u t → H.size ≤ H1.size → (∀ q : Nat, q < H.size → ¬ A1 q → H1[q]? = H[q]?) → va_S A0 H0 H1 locs1 → W p l e R s m args below meth c H1 locs1 (cells + mc) (slots + ms) Q (F0 m (pc + 3) ls (.int r :: rest))) : W p l e R s m args below meth c H locs cells slots Q (F0 m pc ls st0) := by
  intro T hT X
  rcases hr T hT X with ⟨v, st₀, t, T', L, h0, X', hL, e1, e2, ⟨⟨r, u, hv, hp, hb⟩, hF⟩, st⟩ | ⟨q, st₀, t, T', L, E, ce, h0, X', hL, e1, e2, ⟨u, hp, hb, hF⟩, hce, hcv, hcl, st⟩
  · cases hv
    obtain ⟨k1, k2, k3⟩ := vx_keep h0 e1 hS hA hf hL hF
    obtain ⟨t2, a1, b1⟩ := kk r u t T'.heap (locs ++ L) e1.symm (by rw [← e2]; exact X'.warmed.alike) hp hb k1 k2 k3 T' rfl X'
    exact ⟨t2, st t2 a1, b1⟩
  · obtain ⟨k1, k2, k3⟩ := vx_keep h0 e1 hS hAX hf hL hF
    obtain ⟨t2, a1, b1⟩ := kx E ce q u t T'.heap (locs ++ L) e1.symm (by rw [← e2]; exact X'.warmed.alike) hp hb k1 k2 k3 (by rw [e1]; exact hce) hcv hcl T' rfl X'
    exact ⟨t2, st.trans a1, b1⟩
theorem vx_calll {S SX : Type} {post : Int64 → S → Prop} {px : SX → Prop} {B : S → State → Prop} {BX : String → SX → State → Prop} {AX : Nat → Prop} (hr : vx_Run p l e R s m args below meth c H locs cells slots mc ms (F0 m pc ls st0) rest (va_Ql post B A1 a) (vx_X px BX AX) free) (hS : va_S A0 H0 H locs) (hA : ∀ q, q < H.size → A1 q → A0 q) (hf : ∀ q, free q → A0 q) (hAX : ∀ q, q < H.size → AX q → A0 q)
    (kx : ∀ (E : String) (ce : Cell) (q9 : Addr) (u : SX) (t : State) (H1 : Heap) (locs1 : List Loc), t.heap = H1 → s.vm.Alike t.vm → px u → BX E u t → H.size ≤ H1.size → (∀ q : Nat, q < H.size → ¬ AX q → H1[q]? = H[q]?) → va_S A0 H0 H1 locs1 → H1[q9]? = some ce → ce.vm = .none → s.vm.findClass E = some ce.cls → vx_W p l e R s m args below meth c H1 locs1 (cells + mc) (slots + ms) Q (F0 m pc ls rest) q9)
    (kk : ∀ (r : Int64) (u : S) (t : State) (H1 : Heap) (locs1 : List Loc), t.heap = H1 → s.vm.Alike t.vm → post r u → B u t → H.size ≤ H1.size → (∀ q : Nat, q < H.size → ¬ A1 q → H1[q]? = H[q]?) → va_S A0 H0 H1 locs1 → W p l e R s m args below meth c H1 locs1 (cells + mc) (slots + ms) Q (F0 m (pc + 3) ls (.long r :: rest))) : W p l e R s m args below meth c H locs cells slots Q (F0 m pc ls st0) := by
  intro T hT X
  rcases hr T hT X with ⟨v, st₀, t, T', L, h0, X', hL, e1, e2, ⟨⟨r, u, hv, hp, hb⟩, hF⟩, st⟩ | ⟨q, st₀, t, T', L, E, ce, h0, X', hL, e1, e2, ⟨u, hp, hb, hF⟩, hce, hcv, hcl, st⟩
  · cases hv
    obtain ⟨k1, k2, k3⟩ := vx_keep h0 e1 hS hA hf hL hF
    obtain ⟨t2, a1, b1⟩ := kk r u t T'.heap (locs ++ L) e1.symm (by rw [← e2]; exact X'.warmed.alike) hp hb k1 k2 k3 T' rfl X'
    exact ⟨t2, st t2 a1, b1⟩
  · obtain ⟨k1, k2, k3⟩ := vx_keep h0 e1 hS hAX hf hL hF
    obtain ⟨t2, a1, b1⟩ := kx E ce q u t T'.heap (locs ++ L) e1.symm (by rw [← e2]; exact X'.warmed.alike) hp hb k1 k2 k3 (by rw [e1]; exact hce) hcv hcl T' rfl X'
    exact ⟨t2, st.trans a1, b1⟩
theorem vx_callf {S SX : Type} {post : UInt32 → S → Prop} {px : SX → Prop} {B : S → State → Prop} {BX : String → SX → State → Prop} {AX : Nat → Prop} (hr : vx_Run p l e R s m args below meth c H locs cells slots mc ms (F0 m pc ls st0) rest (va_Qf post B A1 a) (vx_X px BX AX) free) (hS : va_S A0 H0 H locs) (hA : ∀ q, q < H.size → A1 q → A0 q) (hf : ∀ q, free q → A0 q) (hAX : ∀ q, q < H.size → AX q → A0 q)
    (kx : ∀ (E : String) (ce : Cell) (q9 : Addr) (u : SX) (t : State) (H1 : Heap) (locs1 : List Loc), t.heap = H1 → s.vm.Alike t.vm → px u → BX E u t → H.size ≤ H1.size → (∀ q : Nat, q < H.size → ¬ AX q → H1[q]? = H[q]?) → va_S A0 H0 H1 locs1 → H1[q9]? = some ce → ce.vm = .none → s.vm.findClass E = some ce.cls → vx_W p l e R s m args below meth c H1 locs1 (cells + mc) (slots + ms) Q (F0 m pc ls rest) q9)
    (kk : ∀ (r : UInt32) (u : S) (t : State) (H1 : Heap) (locs1 : List Loc), t.heap = H1 → s.vm.Alike t.vm → post r u → B u t → H.size ≤ H1.size → (∀ q : Nat, q < H.size → ¬ A1 q → H1[q]? = H[q]?) → va_S A0 H0 H1 locs1 → W p l e R s m args below meth c H1 locs1 (cells + mc) (slots + ms) Q (F0 m (pc + 3) ls (.float r :: rest))) : W p l e R s m args below meth c H locs cells slots Q (F0 m pc ls st0) := by
  intro T hT X
  rcases hr T hT X with ⟨v, st₀, t, T', L, h0, X', hL, e1, e2, ⟨⟨r, u, hv, hp, hb⟩, hF⟩, st⟩ | ⟨q, st₀, t, T', L, E, ce, h0, X', hL, e1, e2, ⟨u, hp, hb, hF⟩, hce, hcv, hcl, st⟩
  · cases hv
    obtain ⟨k1, k2, k3⟩ := vx_keep h0 e1 hS hA hf hL hF
    obtain ⟨t2, a1, b1⟩ := kk r u t T'.heap (locs ++ L) e1.symm (by rw [← e2]; exact X'.warmed.alike) hp hb k1 k2 k3 T' rfl X'
    exact ⟨t2, st t2 a1, b1⟩
  · obtain ⟨k1, k2, k3⟩ := vx_keep h0 e1 hS hAX hf hL hF
    obtain ⟨t2, a1, b1⟩ := kx E ce q u t T'.heap (locs ++ L) e1.symm (by rw [← e2]; exact X'.warmed.alike) hp hb k1 k2 k3 (by rw [e1]; exact hce) hcv hcl T' rfl X'
    exact ⟨t2, st.trans a1, b1⟩
theorem vx_calld {S SX : Type} {post : UInt64 → S → Prop} {px : SX → Prop} {B : S → State → Prop} {BX : String → SX → State → Prop} {AX : Nat → Prop} (hr : vx_Run p l e R s m args below meth c H locs cells slots mc ms (F0 m pc ls st0) rest (va_Qd post B A1 a) (vx_X px BX AX) free) (hS : va_S A0 H0 H locs) (hA : ∀ q, q < H.size → A1 q → A0 q) (hf : ∀ q, free q → A0 q) (hAX : ∀ q, q < H.size → AX q → A0 q)
    (kx : ∀ (E : String) (ce : Cell) (q9 : Addr) (u : SX) (t : State) (H1 : Heap) (locs1 : List Loc), t.heap = H1 → s.vm.Alike t.vm → px u → BX E u t → H.size ≤ H1.size → (∀ q : Nat, q < H.size → ¬ AX q → H1[q]? = H[q]?) → va_S A0 H0 H1 locs1 → H1[q9]? = some ce → ce.vm = .none → s.vm.findClass E = some ce.cls → vx_W p l e R s m args below meth c H1 locs1 (cells + mc) (slots + ms) Q (F0 m pc ls rest) q9)
    (kk : ∀ (r : UInt64) (u : S) (t : State) (H1 : Heap) (locs1 : List Loc), t.heap = H1 → s.vm.Alike t.vm → post r u → B u t → H.size ≤ H1.size → (∀ q : Nat, q < H.size → ¬ A1 q → H1[q]? = H[q]?) → va_S A0 H0 H1 locs1 → W p l e R s m args below meth c H1 locs1 (cells + mc) (slots + ms) Q (F0 m (pc + 3) ls (.double r :: rest))) : W p l e R s m args below meth c H locs cells slots Q (F0 m pc ls st0) := by
  intro T hT X
  rcases hr T hT X with ⟨v, st₀, t, T', L, h0, X', hL, e1, e2, ⟨⟨r, u, hv, hp, hb⟩, hF⟩, st⟩ | ⟨q, st₀, t, T', L, E, ce, h0, X', hL, e1, e2, ⟨u, hp, hb, hF⟩, hce, hcv, hcl, st⟩
  · cases hv
    obtain ⟨k1, k2, k3⟩ := vx_keep h0 e1 hS hA hf hL hF
    obtain ⟨t2, a1, b1⟩ := kk r u t T'.heap (locs ++ L) e1.symm (by rw [← e2]; exact X'.warmed.alike) hp hb k1 k2 k3 T' rfl X'
    exact ⟨t2, st t2 a1, b1⟩
  · obtain ⟨k1, k2, k3⟩ := vx_keep h0 e1 hS hAX hf hL hF
    obtain ⟨t2, a1, b1⟩ := kx E ce q u t T'.heap (locs ++ L) e1.symm (by rw [← e2]; exact X'.warmed.alike) hp hb k1 k2 k3 (by rw [e1]; exact hce) hcv hcl T' rfl X'
    exact ⟨t2, st.trans a1, b1⟩
theorem vx_callv {S SX : Type} {post : S → Prop} {px : SX → Prop} {B : S → State → Prop} {BX : String → SX → State → Prop} {AX : Nat → Prop} (hr : vx_Run p l e R s m args below meth c H locs cells slots mc ms (F0 m pc ls st0) rest (va_Qv post B A1 a) (vx_X px BX AX) free) (hS : va_S A0 H0 H locs) (hA : ∀ q, q < H.size → A1 q → A0 q) (hf : ∀ q, free q → A0 q) (hAX : ∀ q, q < H.size → AX q → A0 q)
    (kx : ∀ (E : String) (ce : Cell) (q9 : Addr) (u : SX) (t : State) (H1 : Heap) (locs1 : List Loc), t.heap = H1 → s.vm.Alike t.vm → px u → BX E u t → H.size ≤ H1.size → (∀ q : Nat, q < H.size → ¬ AX q → H1[q]? = H[q]?) → va_S A0 H0 H1 locs1 → H1[q9]? = some ce → ce.vm = .none → s.vm.findClass E = some ce.cls → vx_W p l e R s m args below meth c H1 locs1 (cells + mc) (slots + ms) Q (F0 m pc ls rest) q9)
    (kk : ∀ (u : S) (t : State) (H1 : Heap) (locs1 : List Loc), t.heap = H1 → s.vm.Alike t.vm → post u → B u t → H.size ≤ H1.size → (∀ q : Nat, q < H.size → ¬ A1 q → H1[q]? = H[q]?) → va_S A0 H0 H1 locs1 → W p l e R s m args below meth c H1 locs1 (cells + mc) (slots + ms) Q (F0 m (pc + 3) ls (rest))) : W p l e R s m args below meth c H locs cells slots Q (F0 m pc ls st0) := by
  intro T hT X
  rcases hr T hT X with ⟨v, st₀, t, T', L, h0, X', hL, e1, e2, ⟨⟨u, hv, hp, hb⟩, hF⟩, st⟩ | ⟨q, st₀, t, T', L, E, ce, h0, X', hL, e1, e2, ⟨u, hp, hb, hF⟩, hce, hcv, hcl, st⟩
  · cases hv
    obtain ⟨k1, k2, k3⟩ := vx_keep h0 e1 hS hA hf hL hF
    obtain ⟨t2, a1, b1⟩ := kk u t T'.heap (locs ++ L) e1.symm (by rw [← e2]; exact X'.warmed.alike) hp hb k1 k2 k3 T' rfl X'
    exact ⟨t2, st t2 a1, b1⟩
  · obtain ⟨k1, k2, k3⟩ := vx_keep h0 e1 hS hAX hf hL hF
    obtain ⟨t2, a1, b1⟩ := kx E ce q u t T'.heap (locs ++ L) e1.symm (by rw [← e2]; exact X'.warmed.alike) hp hb k1 k2 k3 (by rw [e1]; exact hce) hcv hcl T' rfl X'
    exact ⟨t2, st.trans a1, b1⟩
end Rows
section Ends
variable {p : Program} {l : Launch} {e : Env} {R : Room} {s : State} {m : MethodId} {args : Array Value} {below : List Frame} {meth : Method} {c : Code} {H : Heap} {locs : List Loc} {cells slots : Nat} {Q : State → Prop}
variable {mc ms : Nat} {free : Addr → Prop} {A0 A1 : Nat → Prop} {H0 : Heap} {a : Array Value} {ls : Array Slot} {st0 rest : List Value}
variable {Qc : Array Value → State → Outcome → State → Prop} {XC : String → State → State → Prop}
/-- what a body that may throw owes at its end -/
def vx_MQ (below : List Frame) (Qc : Array Value → State → Outcome → State → Prop) (XC : String → State → State → Prop) (a : Array Value) (s : State) (mc ms : Nat) (free : Addr → Prop) : State → Prop := fun t =>
  ∃ o, t.status = .running ∧ Ended t below o ∧ vx_Q Qc XC mc ms free a s o t
theorem vx_ret {g : JFrame} {mc ms : Nat} (k : W p l e R s m args below meth c H locs cells slots (MQ below Qc args s mc ms free) g) : W p l e R s m args below meth c H locs cells slots (vx_MQ below Qc XC args s mc ms free) g := by
  intro T hT X
  obtain ⟨t, a1, o, b1, b2, b3, b4⟩ := k T hT X
  exact ⟨t, a1, o, b1, b2, Or.inl ⟨b3, b4⟩⟩
/-- not caught here: it goes on to the caller -/
theorem vx_widen {g : JFrame} {q : Addr} {k n : Nat} (h1 : cells ≤ k) (h2 : slots ≤ n) (kk : vx_W p l e R s m args below meth c H locs k n Q g q) : vx_W p l e R s m args below meth c H locs cells slots Q g q := fun T hT X => kk T hT (stand_widen X h1 h2)
theorem vx_out {pc : Nat} {E : String} {ce : Cell} {q : Addr} {mc ms : Nat} (hout : ∀ x ∈ c.exceptionTable.toList, covers x pc = false) (hlocks : meth.locks = false) (hcell : H[q]? = some ce) (hv : ce.vm = .none) (hcl : s.vm.findClass E = some ce.cls)
    (hx : ∀ t : State, t.heap = H → s.vm.Alike t.vm → XC E s t) (hf : ∀ z ∈ locs, free z.base) (hc : cells ≤ mc) (hs : slots ≤ ms) :
    vx_W p l e R s m args below meth c H locs cells slots (vx_MQ below Qc XC args s mc ms free) (F0 m pc ls rest) q := by
  intro T hT X
  obtain ⟨st1, hrun, hend, hW, hsm⟩ := X.leaveThrown q (g := F0 m pc ls rest) rfl rfl rfl hout hlocks
  have hcell9 : (T.setFrames (.throwing q :: below)).heap[q]? = some ce := by
    show T.heap[q]? = some ce
    rw [hT]; exact hcell
  exact ⟨_, st1, .threw q, hrun, hend, Or.inr ⟨q, rfl, E, ce, locs, hx _ hT hW.alike, hcell9, hv, hcl, hW, hsm.mono hc hs, hf⟩⟩
theorem vx_frame {U : State} {k n : Nat} (h : s.sameButNew ({ U with vm := s.vm } : State) locs k n) : s.heap.size ≤ U.heap.size ∧ ∀ q : Nat, q < s.heap.size → (∀ z ∈ locs, z.base ≠ q) → U.heap[q]? = s.heap[q]? := by
  obtain ⟨-, h2, -, -, -, h6⟩ := h
  refine ⟨h2, fun q hq hz => ?_⟩
  obtain ⟨c9, e1, e2, e3, e4⟩ := h6 q _ (Array.getElem?_eq_getElem hq)
  have hs : c9.slots = (s.heap[q]).slots := Array.ext_getElem? fun i => e4 i fun hm => hz _ hm rfl
  have h9 : c9 = s.heap[q] := by
    rw [hs] at e2
    exact e2
  have e5 : U.heap[q]? = some c9 := e1
  rw [e5, h9, Array.getElem?_eq_getElem hq]
/-- the words of a throw but the four that speak of the heap -/
def vx_no (w : Cond) : Bool := decide (w ≠ .isRef (.static Bundle.tN "UNASSIGNED_STACK" Bundle.steD)) && decide (w ≠ .isRef (.static Bundle.tN "SUPPRESSED_SENTINEL" Bundle.listD)) && decide (w ≠ .laysStatic Bundle.tN "UNASSIGNED_STACK" Bundle.steD) && decide (w ≠ .laysStatic Bundle.tN "SUPPRESSED_SENTINEL" Bundle.listD)
def vx_at0 (own : String) (ic : Nat) (X : String) (names : List String) : List Cond := (Bundle.ownAtoms0 own ic X names).filter vx_no
def vx_atS (own : String) (ic : Nat) (X : String) (names : List String) : List Cond := (Bundle.ownAtoms own ic X names).filter vx_no
/-- a word that the tables alone decide, or a good one -/
def vx_ot (w : Cond) : Bool := w.onTables || goodWord w
theorem vx_ot_at {args a' : Array Value} {s U : State} {w : Cond} (hW : s.WarmedH U.vm) (hvm : s.vm = U.vm) (hg : vx_ot w = true) (h : w.before args s = true) : w.before a' U = true := by
  simp only [vx_ot, Bool.or_eq_true] at hg
  rcases hg with hg | hg
  · exact va_tabs hg hvm h
  · exact word_at hW (good_of_word hg) h
/-- a list's words: the good ones out of the method's own list, the others by premises of their own -/
theorem vx_hat {args : Array Value} {s : State} {L B : List Cond} (h1 : ∀ w ∈ L.filter goodWord, w.before args s = true) (h2 : ∀ w ∈ L.filter (fun w => !goodWord w), w ∈ B) (h3 : ∀ w ∈ B, w.before args s = true) : ∀ w ∈ L, w.before args s = true := by
  intro w hw
  by_cases g : goodWord w = true
  · exact h1 w (List.mem_filter.mpr ⟨hw, g⟩)
  · refine h3 w (h2 w (List.mem_filter.mpr ⟨hw, ?_⟩))
    show (!goodWord w) = true
    cases hgw : goodWord w
    · rfl
    · exact absurd hgw g
theorem vx_c {args : Array Value} {s : State} {w : Cond} {B : List Cond} (h : w.before args s = true) (t : ∀ w ∈ B, w.before args s = true) : ∀ w' ∈ w :: B, w'.before args s = true := fun w' h' => (List.mem_cons.mp h').elim (fun e => by rw [e]; exact h) (t w')
theorem vx_n {args : Array Value} {s : State} : ∀ w ∈ ([] : List Cond), w.before args s = true := fun _ h => nomatch h
theorem vx_own {args : Array Value} {s : State} {L : List Cond} (h1 : ∀ w ∈ L.filter vx_no, w.before args s = true)
    (hU : (Cond.isRef (.static Bundle.tN "UNASSIGNED_STACK" Bundle.steD)).before args s = true) (hN : (Cond.isRef (.static Bundle.tN "SUPPRESSED_SENTINEL" Bundle.listD)).before args s = true)
    (lU : (Cond.laysStatic Bundle.tN "UNASSIGNED_STACK" Bundle.steD).before args s = true) (lN : (Cond.laysStatic Bundle.tN "SUPPRESSED_SENTINEL" Bundle.listD).before args s = true) : ∀ w ∈ L, w.before args s = true := by
  intro w hw
  by_cases e1 : w = .isRef (.static Bundle.tN "UNASSIGNED_STACK" Bundle.steD)
  · rw [e1]; exact hU
  · by_cases e2 : w = .isRef (.static Bundle.tN "SUPPRESSED_SENTINEL" Bundle.listD)
    · rw [e2]; exact hN
    · by_cases e3 : w = .laysStatic Bundle.tN "UNASSIGNED_STACK" Bundle.steD
      · rw [e3]; exact lU
      · by_cases e4 : w = .laysStatic Bundle.tN "SUPPRESSED_SENTINEL" Bundle.listD
        · rw [e4]; exact lN
        · exact h1 w (List.mem_filter.mpr ⟨hw, by unfold vx_no; rw [decide_eq_true e1, decide_eq_true e2, decide_eq_true e3, decide_eq_true e4]; rfl⟩)
/-- where a static field lies, its class's statics cell in H -/
def vx_L (C n d : String) (A : Nat → Prop) (U : State) (H : Heap) : Prop := ∃ (c : ClassId) (k : Class) (i : Nat) (f : Field) (a : Nat) (cell : Cell), U.vm.findClass C = some c ∧ U.fieldFound? C n d = some (c, k, i, f) ∧ f.isStatic = true ∧ k.statics = some a ∧ H[a]? = some cell ∧ cell.vm.isStatics = true ∧ cell.cls = c ∧ f.slot < cell.slots.size ∧ k.staticTypes[f.slot]? = some f.type ∧ ¬ A a
theorem vx_L.moved {C n d : String} {A : Nat → Prop} {u U : State} {H : Heap} (hvm : u.vm.Alike U.vm) (h : vx_L C n d A u H) : vx_L C n d A U H := by
  obtain ⟨c, k, i, f, a, cell, h1, h2, h3, h4, h5, h6, h7, h8, h9, h10⟩ := h
  obtain ⟨k', hi', he⟩ := State.fieldFound?_setVm hvm h2
  exact ⟨c, k', i, f, a, cell, by rw [hvm.findClass]; exact h1, hi', h3, by rw [he]; exact h4, h5, h6, h7, h8, by rw [he]; exact h9, h10⟩
theorem vx_L.kept {C n d : String} {A : Nat → Prop} {U : State} {H H1 : Heap} (h : vx_L C n d A U H) (hq : ∀ a : Nat, a < H.size → ¬ A a → H1[a]? = H[a]?) : vx_L C n d A U H1 := by
  obtain ⟨c, k, i, f, a, cell, h1, h2, h3, h4, h5, h6, h7, h8, h9, h10⟩ := h
  exact ⟨c, k, i, f, a, cell, h1, h2, h3, h4, by rw [hq a (Array.getElem?_eq_some_iff.mp h5).1 h10]; exact h5, h6, h7, h8, h9, h10⟩
theorem vx_L.narrow {C n d : String} {A B : Nat → Prop} {U : State} {H : Heap} (h : vx_L C n d A U H) (hAB : ∀ q, B q → A q) : vx_L C n d B U H := by
  obtain ⟨c, k, i, f, a, cell, h1, h2, h3, h4, h5, h6, h7, h8, h9, h10⟩ := h
  exact ⟨c, k, i, f, a, cell, h1, h2, h3, h4, h5, h6, h7, h8, h9, fun z => h10 (hAB _ z)⟩
theorem vx_L.word {C n d : String} {A : Nat → Prop} {s : State} {args : Array Value} (h : vx_L C n d A s s.heap) : (Cond.laysStatic C n d).before args s = true := by
  obtain ⟨c, k, i, f, a, cell, h1, h2, h3, h4, h5, h6, h7, h8, h9, -⟩ := h
  show (Cond.laysStatic C n d).holds args s none s [] = true
  exact Cond.laysStatic_of h1 h2 h3 h4 h5 h6 h7 h8 h9
/-- .. and what it holds: null or some reference -/
def vx_Zq (C n d : String) (A : Nat → Prop) (U : State) (H : Heap) : Prop := va_Zq C n d A U H ∧ vx_L C n d A U H
theorem vx_Zq.moved {C n d : String} {A : Nat → Prop} {u U : State} {H : Heap} (hvm : u.vm.Alike U.vm) (h : vx_Zq C n d A u H) : vx_Zq C n d A U H := ⟨va_Zq.moved hvm h.1, vx_L.moved hvm h.2⟩
theorem vx_Zq.kept {C n d : String} {A : Nat → Prop} {U : State} {H H1 : Heap} (h : vx_Zq C n d A U H) (hq : ∀ a : Nat, a < H.size → ¬ A a → H1[a]? = H[a]?) : vx_Zq C n d A U H1 := ⟨va_Zq.kept h.1 hq, vx_L.kept h.2 hq⟩
theorem vx_Zq.narrow {C n d : String} {A B : Nat → Prop} {U : State} {H : Heap} (h : vx_Zq C n d A U H) (hAB : ∀ q, B q → A q) : vx_Zq C n d B U H := ⟨va_Zq.narrow h.1 hAB, vx_L.narrow h.2 hAB⟩
theorem vx_Zqof {args : Array Value} {s : State} {C n d : String} {A : Nat → Prop} (hl : (Cond.laysStatic C n d).before args s = true) (hini : (Cond.initialized C).before args s = true) (h : (Cond.isRef (.static C n d)).before args s = true) (hA : ∀ a : Nat, a < s.heap.size → ¬ A a) : vx_Zq C n d A s s.heap := by
  refine ⟨va_Zqof hl hini h hA, ?_⟩
  obtain ⟨c, k, i, f, a, cell, h1, h2, h3, h4, h5, h6, h7, h8, h9⟩ := Cond.laysStatic_spec hl
  exact ⟨c, k, i, f, a, cell, h1, h2, h3, h4, h5, h6, h7, h8, h9, hA a (Array.getElem?_eq_some_iff.mp h5).1⟩
theorem vx_isRef {C n d : String} {v : Value} {A : Nat → Prop} {s : State} {args : Array Value} (h : va_Z C n d v A s s.heap) (hv : v.isRef = true) : (Cond.isRef (.static C n d)).before args s = true := by
  obtain ⟨cf, kf, fi, f, a, cell, h1, h2, h3, h4, h5, h6, h7, -⟩ := h
  have he : (Term.static C n d).eval args s none [] s = some v := by
    simp [Term.eval, State.fieldNamed?, h1, h2, h4, h5, h6, h7]
  simp only [Cond.before, Cond.holds, Cond.value, he]
  cases v <;> simp_all [Value.isRef]
theorem vx_isRefq {C n d : String} {A : Nat → Prop} {s : State} {args : Array Value} (h : va_Zq C n d A s s.heap) : (Cond.isRef (.static C n d)).before args s = true := by
  rcases h with h | ⟨t, h⟩
  · exact vx_isRef h rfl
  · exact vx_isRef h rfl
/-- the same frame, seen from here: as if the method were called anew in this heap -/
theorem vx_rebase {T : State} (X : Stand p l e R s m args below meth c T locs cells slots) {R' : Room} (hf : R'.frames ≤ R.frames) (hl : R'.locals ≤ R.locals) (hc : cells + R'.cells ≤ R.cells) (hs : slots + R'.slots ≤ R.slots) :
    Stand p l e R' ((T.setVm s.vm).setFrames (.invoking m args :: below)) m args below meth c T [] 0 0 := by
  have htop : (T.setVm s.vm).topJava?.isSome := X.here.top
  have hF : ((T.setVm s.vm).setFrames (.invoking m args :: below)).frames = .invoking m args :: below := State.frames_setFrames _ (State.cur_lt_of_top htop)
  obtain ⟨g₀, hg0⟩ := Option.isSome_iff_exists.mp htop
  obtain ⟨r, hr⟩ := State.topJava?_eq_some.mp hg0
  have hl9 : e.platform.stackLimits (T.setVm s.vm).me = e.platform.stackLimits s.me := X.limits
  have hb9 : (T.setVm s.vm).me.stackBytes = s.me.stackBytes := X.bytes
  refine ⟨X.admits, X.cas, X.clock, hF, ?_, X.hears, X.method, X.code, X.here, X.tail, X.warmed, ?_, ?_, ?_⟩
  · have h := X.room
    have hU : ((T.setVm s.vm).setFrames (.invoking m args :: below)).localsInUse = s.localsInUse := by
      rw [State.localsInUse_invoking hF (meth := meth) (c := c) X.method X.code, State.localsInUse_invoking X.frames X.method X.code]
    simp only [State.hasRoom, Bool.and_eq_true, decide_eq_true_eq] at h ⊢
    obtain ⟨⟨⟨⟨h1, h2, h3, h4, h5, h6⟩, h7⟩, h8⟩, h9⟩ := h
    rw [X.frames, List.length_cons] at h2 h3
    have q1 := X.heapSize
    have q2 := X.used
    simp only [hF, hU, List.length_cons, State.stackLimits_setFrames, State.stackBytes_setFrames, hl9, hb9]
    refine ⟨⟨⟨⟨by omega, by omega, by omega, by omega, by omega, h6⟩, ?_⟩, ?_⟩, X.book⟩
    · show T.heap.size + R'.cells ≤ e.platform.maxCells
      omega
    · show T.slotsUsed + R'.slots ≤ e.platform.maxSlots
      omega
  · rw [State.stackLimits_setFrames]; rfl
  · rw [State.stackBytes_setFrames]; rfl
  · refine ⟨?_, Nat.le_refl _, Nat.le_refl _, ?_, ?_, fun a c9 h9 => ⟨c9, h9, rfl, rfl, fun _ _ => rfl⟩⟩
    · obtain ⟨t, ht, -⟩ := State.frames_cons hr
      show T.setVm s.vm = { ((T.setVm s.vm).setFrames (.invoking m args :: below)).setFrames (T.setVm s.vm).frames with heap := T.heap, slotsUsed := T.slotsUsed }
      rw [State.setFrames_setFrames, State.setFrames_self ht]
      rfl
    · show T.slotsUsed = T.slotsUsed + ((T.heap.toList.drop T.heap.size).map (·.slots.size)).sum
      rw [List.drop_eq_nil_of_le (Nat.le_of_eq Array.length_toList)]
      rfl
    · show ((T.heap.toList.drop T.heap.size).map (·.slots.size)).sum ≤ 0
      rw [List.drop_eq_nil_of_le (Nat.le_of_eq Array.length_toList)]
      exact Nat.le_refl _
/-- 'throw new E()': new; dup; invokespecial; athrow -/
theorem vx_throw0 {cc : ByteArray} {pc : Nat} (hexec : p.tables.exec = Jvm.exec) (hb : c.code = cc) (hl : l.stackTraces = false) {own cls : String} {names : List String} {ik ic mc ms : Nat} {A : Nat → Prop}
    (hown : s.vm.findClass own = some m.cls) (hcls : Bundle.fit cls = true) (hnames : ∀ n ∈ names, Bundle.fit n = true)
    (hk : (Cond.classLink own ik cls).before args s = true) (hini : (Cond.initialized cls).before args s = true) (hat : ∀ w ∈ vx_at0 own ic cls names, w.before args s = true)
    (hgood : ∀ w ∈ Cond.classLink own ik cls :: Cond.initialized cls :: vx_at0 own ic cls names, vx_ot w = true)
    (hU : vx_Zq Bundle.tN "UNASSIGNED_STACK" Bundle.steD A s s.heap) (hN : vx_Zq Bundle.tN "SUPPRESSED_SENTINEL" Bundle.listD A s s.heap) (hS : va_S A s.heap H locs) (hsize : ls.size = c.maxLocals)
    (d0 : decode cc pc = .ok (.new ik, 3)) (d3 : decode cc (pc + 3) = .ok (.dup, 1)) (d4 : decode cc (pc + 4) = .ok (.invokespecial ic, 3)) (d7 : decode cc (pc + 7) = .ok (.athrow, 1))
    (hout : ∀ x ∈ c.exceptionTable.toList, covers x (pc + 7) = false)
    (hRframes : names.length + 3 < R.frames) (hRlocals : (rest.map fun v => v.category).sum + (13 * (names.length + 1) + 42) ≤ R.locals) (hRcells : cells + 1 ≤ R.cells) (hRslots : slots + 6 ≤ R.slots) (hlocks : meth.locks = false)
    (hx : ∀ t : State, s.vm.Alike t.vm → H.size ≤ t.heap.size → (∀ q : Nat, q < H.size → t.heap[q]? = H[q]?) → XC cls s t)
    (hf : ∀ z ∈ locs, free z.base) (hc : cells + 1 ≤ mc) (hs : slots + 6 ≤ ms) :
    W p l e R s m args below meth c H locs cells slots (vx_MQ below Qc XC args s mc ms free) (F0 m pc ls rest) := by
  intro T hT X
  have htr : e.platform.stackTraces = false := (show e.platform.stackTraces = l.stackTraces by rw [X.admits.platform]).trans hl
  have Y := vx_rebase X (R' := { frames := R.frames, locals := R.locals, cells := 1, slots := 6 }) (Nat.le_refl _) (Nat.le_refl _) hRcells hRslots
  obtain ⟨s', hA⟩ : ∃ z, z = (T.setVm s.vm).setFrames (.invoking m args :: below) := ⟨_, rfl⟩
  rw [← hA] at Y
  have hvm : s'.vm = s.vm := by rw [hA]; rfl
  have hhp : s'.heap = H := by rw [hA]; exact hT
  have hW0 : s.WarmedH s'.vm := by rw [hvm]; exact State.WarmedH.refl s
  have hat' : ∀ w ∈ vx_at0 own ic cls names, w.before args s' = true := fun w hw => vx_ot_at hW0 hvm.symm (hgood w (List.mem_cons_of_mem _ (List.mem_cons_of_mem _ hw))) (hat w hw)
  have hk' : (Cond.classLink own ik cls).before args s' = true := vx_ot_at hW0 hvm.symm (hgood _ List.mem_cons_self) hk
  have hini' : (Cond.initialized cls).before args s' = true := vx_ot_at hW0 hvm.symm (hgood _ (List.mem_cons_of_mem _ List.mem_cons_self)) hini
  have hU' : vx_Zq Bundle.tN "UNASSIGNED_STACK" Bundle.steD A s' s'.heap := by rw [hhp]; exact vx_Zq.moved hW0.alike (hU.kept hS.2.1)
  have hN' : vx_Zq Bundle.tN "SUPPRESSED_SENTINEL" Bundle.listD A s' s'.heap := by rw [hhp]; exact vx_Zq.moved hW0.alike (hN.kept hS.2.1)
  have h : ∀ w ∈ Bundle.ownAtoms0 own ic cls names, w.before args s' = true := vx_own hat' (vx_isRefq hU'.1) (vx_isRefq hN'.1) hU'.2.word hN'.2.word
  have hown' : s'.vm.findClass own = some m.cls := by rw [hvm]; exact hown
  have hins : (Cond.instantiable cls 6).before args s' = true := h _ (by simp [Bundle.ownAtoms0])
  obtain ⟨vm₁, cX, kX, hfX, hkX, -, -, X₁, st1⟩ := Y.newCold hexec (own := own) (C := cls) (index := ik) (n := 6) hown' hk' hins hini'
    (g := F0 m pc ls rest) rfl (by rw [hb]; exact d0) (Nat.le_refl _) (Nat.le_refl _)
  generalize hT1 : (T.setVm vm₁).pushCell { cls := cX, slots := kX.instanceTypes.map defaultValue, vm := .none } = T1 at X₁ st1
  have hcat : (Value.ref T.heap.size).category = 1 := rfl
  have hcellA : T1.heap[T.heap.size]? = some (freshCell cX kX) := by rw [← hT1]; exact State.heap_pushCell_size _ _
  have d3' : decode c.code (pc + 3) = .ok (.dup, 1) := by rw [hb]; exact d3
  obtain ⟨U, hsteps, hrun, hend, hW, hsame, ce, hce, hO⟩ := X₁.ctorThrow0 hexec htr (own := own) (cls := cls) (names := names) (ic := ic) hown' hcls hnames h (fun x hx => nomatch hx) hfX hkX hcellA (by rw [hhp, hT]; exact Nat.le_refl _)
    (g := { method := m, pc := pc + 4, locals := ls, stack := .ref T.heap.size :: .ref T.heap.size :: rest, locked := none }) rfl hsize rfl rfl (rest := rest) rfl
    (by rw [hb]; exact d4) (by rw [hb]; exact d7) hout hRframes (by simp only [List.map_cons, List.sum_cons, hcat]; omega) hlocks
  obtain ⟨f1, f2⟩ := vx_frame hsame
  rw [hhp] at f1 f2
  have hWs : s.WarmedH U.vm := State.WarmedH.trans hW0 hW
  have hcl : s.vm.findClass cls = some ce.cls := by
    have h9 := hO.cls
    rw [hvm] at h9
    exact h9
  have hall : s.sameButNew ({ U with vm := s.vm } : State) locs mc ms := by
    subst hA
    obtain ⟨e1, e2⟩ := hsame
    rw [State.setFrames_setFrames] at e1
    have h2 : (T.setVm s.vm).sameButNew ({ U with vm := s.vm } : State) [] (0 + 1) (0 + 6) := ⟨e1, e2⟩
    have h3 := X.same.trans h2
    rw [List.append_nil] at h3
    exact h3.mono hc hs
  refine ⟨U, ?_, .threw T.heap.size, hrun, hend, Or.inr ⟨T.heap.size, rfl, cls, ce, locs, hx U hWs.alike f1 (fun q hq => f2 q hq (fun z hz => nomatch hz)), hce, hO.vm, hcl, hWs, hall, hf⟩⟩
  refine st1 _ ?_
  show Steps p.tables e below (T1.setTop { method := m, pc := pc + 3, locals := ls, stack := .ref T.heap.size :: rest, locked := none }) _
  jvm_step X₁.here [X₁.here.top, hexec, d3', Value.category]
  exact hsteps
/-- 'throw new E("text")': new; dup; ldc; invokespecial; athrow -/
theorem vx_throwS {cc : ByteArray} {pc : Nat} (hexec : p.tables.exec = Jvm.exec) (hb : c.code = cc) (hl : l.stackTraces = false) {own cls text : String} {names : List String} {ik is ic mc ms sa : Nat} {A : Nat → Prop}
    (hown : s.vm.findClass own = some m.cls) (hcls : Bundle.fit cls = true) (hnames : ∀ n ∈ names, Bundle.fit n = true)
    (hk : (Cond.classLink own ik cls).before args s = true) (hini : (Cond.initialized cls).before args s = true) (hstr : vk_R own is text sa s) (hat : ∀ w ∈ vx_atS own ic cls names, w.before args s = true)
    (hgood : ∀ w ∈ Cond.classLink own ik cls :: Cond.initialized cls :: vx_atS own ic cls names, vx_ot w = true)
    (hU : vx_Zq Bundle.tN "UNASSIGNED_STACK" Bundle.steD A s s.heap) (hN : vx_Zq Bundle.tN "SUPPRESSED_SENTINEL" Bundle.listD A s s.heap) (hS : va_S A s.heap H locs) (hsize : ls.size = c.maxLocals)
    (d0 : decode cc pc = .ok (.new ik, 3)) (d3 : decode cc (pc + 3) = .ok (.dup, 1)) (d4 : decode cc (pc + 4) = .ok (.ldc is, 2)) (d6 : decode cc (pc + 6) = .ok (.invokespecial ic, 3)) (d9 : decode cc (pc + 9) = .ok (.athrow, 1))
    (hout : ∀ x ∈ c.exceptionTable.toList, covers x (pc + 9) = false)
    (hRframes : names.length + 3 < R.frames) (hRlocals : (rest.map fun v => v.category).sum + (13 * (names.length + 1) + 43) ≤ R.locals) (hRcells : cells + 1 ≤ R.cells) (hRslots : slots + 6 ≤ R.slots) (hlocks : meth.locks = false)
    (hx : ∀ t : State, s.vm.Alike t.vm → H.size ≤ t.heap.size → (∀ q : Nat, q < H.size → t.heap[q]? = H[q]?) → XC cls s t)
    (hf : ∀ z ∈ locs, free z.base) (hc : cells + 1 ≤ mc) (hs : slots + 6 ≤ ms) :
    W p l e R s m args below meth c H locs cells slots (vx_MQ below Qc XC args s mc ms free) (F0 m pc ls rest) := by
  intro T hT X
  have htr : e.platform.stackTraces = false := (show e.platform.stackTraces = l.stackTraces by rw [X.admits.platform]).trans hl
  have Y := vx_rebase X (R' := { frames := R.frames, locals := R.locals, cells := 1, slots := 6 }) (Nat.le_refl _) (Nat.le_refl _) hRcells hRslots
  obtain ⟨s', hA⟩ : ∃ z, z = (T.setVm s.vm).setFrames (.invoking m args :: below) := ⟨_, rfl⟩
  rw [← hA] at Y
  have hvm : s'.vm = s.vm := by rw [hA]; rfl
  have hhp : s'.heap = H := by rw [hA]; exact hT
  have hW0 : s.WarmedH s'.vm := by rw [hvm]; exact State.WarmedH.refl s
  have hat' : ∀ w ∈ vx_atS own ic cls names, w.before args s' = true := fun w hw => vx_ot_at hW0 hvm.symm (hgood w (List.mem_cons_of_mem _ (List.mem_cons_of_mem _ hw))) (hat w hw)
  have hk' : (Cond.classLink own ik cls).before args s' = true := vx_ot_at hW0 hvm.symm (hgood _ List.mem_cons_self) hk
  have hini' : (Cond.initialized cls).before args s' = true := vx_ot_at hW0 hvm.symm (hgood _ (List.mem_cons_of_mem _ List.mem_cons_self)) hini
  have hU' : vx_Zq Bundle.tN "UNASSIGNED_STACK" Bundle.steD A s' s'.heap := by rw [hhp]; exact vx_Zq.moved hW0.alike (hU.kept hS.2.1)
  have hN' : vx_Zq Bundle.tN "SUPPRESSED_SENTINEL" Bundle.listD A s' s'.heap := by rw [hhp]; exact vx_Zq.moved hW0.alike (hN.kept hS.2.1)
  have h : ∀ w ∈ Bundle.ownAtoms own ic cls names, w.before args s' = true := vx_own hat' (vx_isRefq hU'.1) (vx_isRefq hN'.1) hU'.2.word hN'.2.word
  have hown' : s'.vm.findClass own = some m.cls := by rw [hvm]; exact hown
  have hins : (Cond.instantiable cls 6).before args s' = true := h _ (by simp [Bundle.ownAtoms])
  obtain ⟨vm₁, cX, kX, hfX, hkX, -, -, X₁, st1⟩ := Y.newCold hexec (own := own) (C := cls) (index := ik) (n := 6) hown' hk' hins hini'
    (g := F0 m pc ls rest) rfl (by rw [hb]; exact d0) (Nat.le_refl _) (Nat.le_refl _)
  generalize hT1 : (T.setVm vm₁).pushCell { cls := cX, slots := kX.instanceTypes.map defaultValue, vm := .none } = T1 at X₁ st1
  have hcat : (Value.ref T.heap.size).category = 1 := rfl
  have hcellA : T1.heap[T.heap.size]? = some (freshCell cX kX) := by rw [← hT1]; exact State.heap_pushCell_size _ _
  have d3' : decode c.code (pc + 3) = .ok (.dup, 1) := by rw [hb]; exact d3
  have d4' : decode c.code (pc + 4) = .ok (.ldc is, 2) := by rw [hb]; exact d4
  have hstr' : vk_R own is text sa s' := vk_R.warm hW0 hstr
  obtain ⟨U, hsteps, hrun, hend, hW, hsame, ce, hce, hO⟩ := X₁.ctorThrowS hexec htr (own := own) (cls := cls) (names := names) (ic := ic) hown' hcls hnames h (fun x hx => nomatch hx) hfX hkX hcellA (by rw [hhp, hT]; exact Nat.le_refl _) (msg := .ref sa) rfl
    (g := { method := m, pc := pc + 6, locals := ls, stack := .ref sa :: .ref T.heap.size :: .ref T.heap.size :: rest, locked := none }) rfl hsize rfl rfl (rest := rest) rfl
    (by rw [hb]; exact d6) (by rw [hb]; exact d9) hout hRframes (by simp only [List.map_cons, List.sum_cons, hcat]; omega) hlocks
  obtain ⟨f1, f2⟩ := vx_frame hsame
  rw [hhp] at f1 f2
  have hWs : s.WarmedH U.vm := State.WarmedH.trans hW0 hW
  have hcl : s.vm.findClass cls = some ce.cls := by
    have h9 := hO.cls
    rw [hvm] at h9
    exact h9
  have hall : s.sameButNew ({ U with vm := s.vm } : State) locs mc ms := by
    subst hA
    obtain ⟨e1, e2⟩ := hsame
    rw [State.setFrames_setFrames] at e1
    have h2 : (T.setVm s.vm).sameButNew ({ U with vm := s.vm } : State) [] (0 + 1) (0 + 6) := ⟨e1, e2⟩
    have h3 := X.same.trans h2
    rw [List.append_nil] at h3
    exact h3.mono hc hs
  refine ⟨U, ?_, .threw T.heap.size, hrun, hend, Or.inr ⟨T.heap.size, rfl, cls, ce, locs, hx U hWs.alike f1 (fun q hq => f2 q hq (fun z hz => nomatch hz)), hce, hO.vm, hcl, hWs, hall, hf⟩⟩
  refine st1 _ ?_
  show Steps p.tables e below (T1.setTop { method := m, pc := pc + 3, locals := ls, stack := .ref T.heap.size :: rest, locked := none }) _
  jvm_step X₁.here [X₁.here.top, hexec, d3', Value.category]
  exact X₁.ldcString hexec (own := own) (text := text) (index := is) (a := sa) hown' hstr'.1 hstr'.2
    (g := { method := m, pc := pc + 4, locals := ls, stack := .ref T.heap.size :: .ref T.heap.size :: rest, locked := none }) rfl d4' _ hsteps
/-- 'throw new E("text")', the text by a wide index -/
theorem vx_throwSW {cc : ByteArray} {pc : Nat} (hexec : p.tables.exec = Jvm.exec) (hb : c.code = cc) (hl : l.stackTraces = false) {own cls text : String} {names : List String} {ik is ic mc ms sa : Nat} {A : Nat → Prop}
    (hown : s.vm.findClass own = some m.cls) (hcls : Bundle.fit cls = true) (hnames : ∀ n ∈ names, Bundle.fit n = true)
    (hk : (Cond.classLink own ik cls).before args s = true) (hini : (Cond.initialized cls).before args s = true) (hstr : vk_R own is text sa s) (hat : ∀ w ∈ vx_atS own ic cls names, w.before args s = true)
    (hgood : ∀ w ∈ Cond.classLink own ik cls :: Cond.initialized cls :: vx_atS own ic cls names, vx_ot w = true)
    (hU : vx_Zq Bundle.tN "UNASSIGNED_STACK" Bundle.steD A s s.heap) (hN : vx_Zq Bundle.tN "SUPPRESSED_SENTINEL" Bundle.listD A s s.heap) (hS : va_S A s.heap H locs) (hsize : ls.size = c.maxLocals)
    (d0 : decode cc pc = .ok (.new ik, 3)) (d3 : decode cc (pc + 3) = .ok (.dup, 1)) (d4 : decode cc (pc + 4) = .ok (.ldc_w is, 3)) (d7 : decode cc (pc + 7) = .ok (.invokespecial ic, 3)) (d10 : decode cc (pc + 10) = .ok (.athrow, 1))
    (hout : ∀ x ∈ c.exceptionTable.toList, covers x (pc + 10) = false)
    (hRframes : names.length + 3 < R.frames) (hRlocals : (rest.map fun v => v.category).sum + (13 * (names.length + 1) + 43) ≤ R.locals) (hRcells : cells + 1 ≤ R.cells) (hRslots : slots + 6 ≤ R.slots) (hlocks : meth.locks = false)
    (hx : ∀ t : State, s.vm.Alike t.vm → H.size ≤ t.heap.size → (∀ q : Nat, q < H.size → t.heap[q]? = H[q]?) → XC cls s t)
    (hf : ∀ z ∈ locs, free z.base) (hc : cells + 1 ≤ mc) (hs : slots + 6 ≤ ms) :
    W p l e R s m args below meth c H locs cells slots (vx_MQ below Qc XC args s mc ms free) (F0 m pc ls rest) := by
  intro T hT X
  have htr : e.platform.stackTraces = false := (show e.platform.stackTraces = l.stackTraces by rw [X.admits.platform]).trans hl
  have Y := vx_rebase X (R' := { frames := R.frames, locals := R.locals, cells := 1, slots := 6 }) (Nat.le_refl _) (Nat.le_refl _) hRcells hRslots
  obtain ⟨s', hA⟩ : ∃ z, z = (T.setVm s.vm).setFrames (.invoking m args :: below) := ⟨_, rfl⟩
  rw [← hA] at Y
  have hvm : s'.vm = s.vm := by rw [hA]; rfl
  have hhp : s'.heap = H := by rw [hA]; exact hT
  have hW0 : s.WarmedH s'.vm := by rw [hvm]; exact State.WarmedH.refl s
  have hat' : ∀ w ∈ vx_atS own ic cls names, w.before args s' = true := fun w hw => vx_ot_at hW0 hvm.symm (hgood w (List.mem_cons_of_mem _ (List.mem_cons_of_mem _ hw))) (hat w hw)
  have hk' : (Cond.classLink own ik cls).before args s' = true := vx_ot_at hW0 hvm.symm (hgood _ List.mem_cons_self) hk
  have hini' : (Cond.initialized cls).before args s' = true := vx_ot_at hW0 hvm.symm (hgood _ (List.mem_cons_of_mem _ List.mem_cons_self)) hini
  have hU' : vx_Zq Bundle.tN "UNASSIGNED_STACK" Bundle.steD A s' s'.heap := by rw [hhp]; exact vx_Zq.moved hW0.alike (hU.kept hS.2.1)
  have hN' : vx_Zq Bundle.tN "SUPPRESSED_SENTINEL" Bundle.listD A s' s'.heap := by rw [hhp]; exact vx_Zq.moved hW0.alike (hN.kept hS.2.1)
  have h : ∀ w ∈ Bundle.ownAtoms own ic cls names, w.before args s' = true := vx_own hat' (vx_isRefq hU'.1) (vx_isRefq hN'.1) hU'.2.word hN'.2.word
  have hown' : s'.vm.findClass own = some m.cls := by rw [hvm]; exact hown
  have hins : (Cond.instantiable cls 6).before args s' = true := h _ (by simp [Bundle.ownAtoms])
  obtain ⟨vm₁, cX, kX, hfX, hkX, -, -, X₁, st1⟩ := Y.newCold hexec (own := own) (C := cls) (index := ik) (n := 6) hown' hk' hins hini'
    (g := F0 m pc ls rest) rfl (by rw [hb]; exact d0) (Nat.le_refl _) (Nat.le_refl _)
  generalize hT1 : (T.setVm vm₁).pushCell { cls := cX, slots := kX.instanceTypes.map defaultValue, vm := .none } = T1 at X₁ st1
  have hcat : (Value.ref T.heap.size).category = 1 := rfl
  have hcellA : T1.heap[T.heap.size]? = some (freshCell cX kX) := by rw [← hT1]; exact State.heap_pushCell_size _ _
  have d3' : decode c.code (pc + 3) = .ok (.dup, 1) := by rw [hb]; exact d3
  have d4' : decode c.code (pc + 4) = .ok (.ldc_w is, 3) := by rw [hb]; exact d4
  have hstr' : vk_R own is text sa s' := vk_R.warm hW0 hstr
  obtain ⟨U, hsteps, hrun, hend, hW, hsame, ce, hce, hO⟩ := X₁.ctorThrowS hexec htr (own := own) (cls := cls) (names := names) (ic := ic) hown' hcls hnames h (fun x hx => nomatch hx) hfX hkX hcellA (by rw [hhp, hT]; exact Nat.le_refl _) (msg := .ref sa) rfl
    (g := { method := m, pc := pc + 7, locals := ls, stack := .ref sa :: .ref T.heap.size :: .ref T.heap.size :: rest, locked := none }) rfl hsize rfl rfl (rest := rest) rfl
    (by rw [hb]; exact d7) (by rw [hb]; exact d10) hout hRframes (by simp only [List.map_cons, List.sum_cons, hcat]; omega) hlocks
  obtain ⟨f1, f2⟩ := vx_frame hsame
  rw [hhp] at f1 f2
  have hWs : s.WarmedH U.vm := State.WarmedH.trans hW0 hW
  have hcl : s.vm.findClass cls = some ce.cls := by
    have h9 := hO.cls
    rw [hvm] at h9
    exact h9
  have hall : s.sameButNew ({ U with vm := s.vm } : State) locs mc ms := by
    subst hA
    obtain ⟨e1, e2⟩ := hsame
    rw [State.setFrames_setFrames] at e1
    have h2 : (T.setVm s.vm).sameButNew ({ U with vm := s.vm } : State) [] (0 + 1) (0 + 6) := ⟨e1, e2⟩
    have h3 := X.same.trans h2
    rw [List.append_nil] at h3
    exact h3.mono hc hs
  refine ⟨U, ?_, .threw T.heap.size, hrun, hend, Or.inr ⟨T.heap.size, rfl, cls, ce, locs, hx U hWs.alike f1 (fun q hq => f2 q hq (fun z hz => nomatch hz)), hce, hO.vm, hcl, hWs, hall, hf⟩⟩
  refine st1 _ ?_
  show Steps p.tables e below (T1.setTop { method := m, pc := pc + 3, locals := ls, stack := .ref T.heap.size :: rest, locked := none }) _
  jvm_step X₁.here [X₁.here.top, hexec, d3', Value.category]
  exact X₁.ldcStringW hexec (own := own) (text := text) (index := is) (a := sa) hown' hstr'.1 hstr'.2
    (g := { method := m, pc := pc + 4, locals := ls, stack := .ref T.heap.size :: .ref T.heap.size :: rest, locked := none }) rfl d4' _ hsteps
end Ends
section Bodies
variable {l : Launch}
theorem vx_ofW {y : MethodName} {ws ws' : List Cond} {rm : Room} {Pc : Array Value → State → Prop} {Qc : Array Value → State → Outcome → State → Prop} {XC : String → State → State → Prop} {mc ms : Nat} {free : Addr → Prop} {cc : ByteArray} {maxL : Nat} {ret : Option FieldType}
    (hy : plainName y.cls = true) (hw : ws = Cond.code y cc maxL ret :: ws')
    (body : ∀ p e s m args below meth c s₁, BodyLoose p l y (headSpec ws rm) cc maxL ret e s m args below meth c s₁ → c.maxLocals = maxL → (∀ x ∈ c.exceptionTable.toList, False) → Pc args s →
      W p l e (headSpec ws rm).room s m args below meth c s.heap [] 0 0 (vx_MQ below Qc XC args s mc ms free) (entryFrame m args maxL)) : vx_Met l y ws rm Pc Qc XC mc ms free := by
  refine MetFree.of_bodyS (code := cc) (maxLocals := maxL) (ret := ret) hy ?_ ?_
  · intro args s m h hn
    obtain ⟨meth, c, h1, h2, h3, h4, h5, h6, -, -⟩ := Cond.code_spec hn (atoms_spec (ws := ws) h _ (by rw [hw]; exact List.mem_cons_self))
    exact ⟨meth, c, h1, h2, h3, h4, h5, h6⟩
  · intro p e s m args below meth c s₁ B hml hP _
    have hh0 : s₁.heap = s.heap := by rw [B.state]; rfl
    have ht : ∀ x ∈ c.exceptionTable.toList, False := by
      obtain ⟨meth9, c9, h1, h2, -, -, -, -, h7, -⟩ := Cond.code_spec B.named (atoms_spec (ws := ws) B.pre _ (by rw [hw]; exact List.mem_cons_self))
      cases Option.some.inj (h1.symm.trans B.method)
      cases Option.some.inj (h2.symm.trans (Stand.of_body B).code)
      intro x hx
      rw [Array.isEmpty_iff.mp h7] at hx
      cases hx
    obtain ⟨t, a1, o, b1, b2, b3⟩ := body p e s m args below meth c s₁ B hml ht hP s₁ hh0 (Stand.of_body B)
    exact ⟨t, o, a1, b1, b2, b3⟩
/-- the table of a body with handlers -/
theorem vx_table {p : Program} {x y : MethodName} {S : Spec} {cc bytes : ByteArray} {maxL maxL' : Nat} {ret ret' : Option FieldType} {e : Env} {s s₁ : State} {m : MethodId} {args : Array Value} {below : List Frame} {meth : Method} {c : Code} {hh : List (Nat × Nat × Nat × Nat)}
    (B : BodyLoose p l y S cc maxL ret e s m args below meth c s₁) (h : (Cond.codeWith y bytes maxL' ret' hh).before args s = true) : c.exceptionTable.toList = tableOf hh := by
  obtain ⟨m9, meth9, c9, hn9, h1, h2, -, -, h6, -⟩ := Cond.codeWith_spec h
  cases Option.some.inj (hn9.symm.trans B.named)
  cases Option.some.inj (h1.symm.trans B.method)
  cases Option.some.inj (h2.symm.trans (Stand.of_body B).code)
  rw [← h6, table_eq]
end Bodies
end VXA
/-! ===== END ===== -/
/-! ===== BEGIN a static call of a method with an exception table ===== -/
section VXS
variable {p : Program} {l : Launch} {e : Env} {R : Room} {s : State} {m : MethodId} {args : Array Value} {below : List Frame} {meth : Method} {c : Code} {T : State} {H : Heap} {locs : List Loc} {cells slots : Nat}
abbrev vx_CSW (R : Room) (s : State) (args : Array Value) (own : String) (index : Nat) (y : MethodName) (bytes : ByteArray) (maxL : Nat) (ret : Option FieldType) (hh : List (Nat × Nat × Nat × Nat)) (ws : List Cond) (rm : Room) (mc ms n : Nat) : Prop :=
  (rm.cells = mc ∧ rm.slots = ms ∧ rm.frames + 1 ≤ R.frames ∧ 8 + (maxL + 11) + rm.locals ≤ R.locals ∧ (∀ w ∈ ws, ∀ (a' : Array Value) (U : State), s.WarmedH U.vm → w.before a' U = true) ∧ Cond.codeWith y bytes maxL ret hh ∈ ws) ∧
  (Cond.codeWith y bytes maxL ret hh).before args s = true ∧ (Cond.initialized y.cls).before args s = true ∧ (y.cls ≠ "java/lang/invoke/MethodHandle" ∧ y.cls ≠ "java/lang/invoke/VarHandle") ∧
  (∀ sig, parseMethodDescriptor y.desc = some sig → n = sig.parameters.length) ∧ (Cond.methodLink own index y).before args s = true ∧ (Cond.static y).before args s = true
theorem vx_cwSW {own : String} {index maxL mc ms : Nat} {y : MethodName} {bytes : ByteArray} {ret : Option FieldType} {hh : List (Nat × Nat × Nat × Nat)} {Ts ws ws' : List Cond} {rm : Room} (n : Nat) (ht : ∀ w ∈ Ts, w.before args s = true) (hT : GoodIn Ts (va_wsS own index y ws)) (hw : ws = Cond.codeWith y bytes maxL ret hh :: ws') (hrc : rm.cells = mc) (hrs : rm.slots = ms)
    (hd : y.cls ≠ "java/lang/invoke/MethodHandle" ∧ y.cls ≠ "java/lang/invoke/VarHandle" ∧ (parseMethodDescriptor y.desc).map (fun d => d.parameters.length) = some n) (hR : rm.frames + 1 ≤ R.frames ∧ 8 + (maxL + 11) + rm.locals ≤ R.locals) :
    vx_CSW R s args own index y bytes maxL ret hh ws rm mc ms n := by
  have ok : ∀ w ∈ va_wsS own index y ws, w.before args s = true := fun w h => ht w (hT w h).1
  have hG : GoodIn Ts ws := fun w h => hT w (by unfold va_wsS; exact List.mem_append_right _ h)
  have hc : Cond.codeWith y bytes maxL ret hh ∈ ws := by rw [hw]; exact List.mem_cons_self
  refine ⟨⟨hrc, hrs, hR.1, hR.2, pay_in ht hG, hc⟩, ht _ (hG _ hc).1, ok _ (by simp [va_wsS]), ⟨hd.1, hd.2.1⟩, fun sig h => ?_, ok _ (by simp [va_wsS]), ok _ (by simp [va_wsS])⟩
  have h2 := hd.2.2
  rw [h] at h2
  exact (Option.some.inj h2).symm
theorem vx_callSW (X : Stand p l e R s m args below meth c T locs cells slots) (hexec : p.tables.exec = Jvm.exec) {own : String} {index : Nat} {y : MethodName} {bytes : ByteArray} {maxL : Nat} {ret : Option FieldType} {hh : List (Nat × Nat × Nat × Nat)}
    (hown : s.vm.findClass own = some m.cls) (hlink : (Cond.methodLink own index y).before args s = true) (hstat : (Cond.static y).before args s = true) (hinit : (Cond.initialized y.cls).before args s = true)
    (hcode : (Cond.codeWith y bytes maxL ret hh).before args s = true) (hy : y.cls ≠ "java/lang/invoke/MethodHandle" ∧ y.cls ≠ "java/lang/invoke/VarHandle")
    {W9 : Nat} {Pre : Pt → Array Value → Prop} {Post : Pt → Array Value → Option Value → Pt → Prop} (hK : Back l R p e below s args y 3 W9 Pre Post)
    {g : JFrame} (hg : g.method = m) (hsize : g.locals.size = c.maxLocals) {argsL rest : List Value} (hlen : ∀ sig, parseMethodDescriptor y.desc = some sig → argsL.length = sig.parameters.length)
    (hstack : g.stack = argsL.reverse ++ rest) (hW : 2 * g.monitorRoom + (rest.map fun v => v.category).sum ≤ W9) (hdg : decode c.code g.pc = .ok (.invokestatic index, 3))
    (hpre : ∀ vm₁, s.WarmedH vm₁ → Pre ⟨T.setVm vm₁, locs, cells, slots⟩ argsL.toArray) :
    ∃ (v : Option Value) (vm₁ : Vm) (B : Pt), s.WarmedH vm₁ ∧ Stand p l e R s m args below meth c B.U B.locs B.cells B.slots ∧ Post ⟨T.setVm vm₁, locs, cells, slots⟩ argsL.toArray v B ∧
      ∀ target, Steps p.tables e below (B.U.setTop { g with pc := g.pc + 3, stack := v.toList ++ rest }) target → Steps p.tables e below (T.setTop g) target := by
  obtain ⟨mk, methM, cM, hnamed, hmethM, -, -, -, -, -, -, hsigM⟩ := Cond.codeWith_spec hcode
  have hstatic : methM.isStatic = true := Cond.static_spec hnamed hmethM hstat
  obtain ⟨kP, hkP, -⟩ := className_of_methodNamed hnamed
  have hinitP : kP.init = .initialized := Cond.initialized_spec (findClass_of_methodNamed hnamed) hkP hinit
  obtain ⟨vm₁, X₁, hstep₁⟩ := X.invokestatic hexec hown hlink hnamed hmethM hstatic hkP hinitP hy (g := g) hg (argsL := argsL) (rest := rest) (hlen _ hsigM) hstack hdg
  obtain ⟨v, B, X', hpost, hsteps⟩ := hK m meth c ⟨T.setVm vm₁, locs, cells, slots⟩ { g with stack := rest } (.invokestatic index) mk argsL.toArray X₁ hg hsize hdg hW (X₁.named hnamed) (hpre vm₁ X₁.warmed)
  exact ⟨v, vm₁, B, X₁.warmed, X', hpost, fun target h => hstep₁ _ fun acts => by rw [doInvoke_state]; exact hsteps.trans h⟩
theorem vx_runSW {y : MethodName} {bytes cc : ByteArray} {maxL nL mc ms n index : Nat} {ret : Option FieldType} {hh : List (Nat × Nat × Nat × Nat)} {ws : List Cond} {rm : Room} {Pc : Array Value → State → Prop} {Qc : Array Value → State → Outcome → State → Prop} {free : Addr → Prop} {Ts : List Cond} {own : String} {As rest : List Value} {g : JFrame}
    (S : CallFix p m c cc nL s args Ts own) (hM : Met l y ws rm Pc Qc mc ms free) (cw : vx_CSW R s args own index y bytes maxL ret hh ws rm mc ms n) (hp : PreS s H Pc As)
    (hg : g.method = m) (hn : As.length = n) (hsize : g.locals.size = nL) (hstack : g.stack = As.reverse ++ rest) (hW : 2 * g.monitorRoom + (rest.map fun v => v.category).sum ≤ 8) (hdg : decode cc g.pc = .ok (.invokestatic index, 3)) (hf : cells + mc ≤ R.cells ∧ slots + ms ≤ R.slots) :
    va_Run p l e R s m args below meth c H locs cells slots mc ms g rest (Qc As.toArray) (free) := by
  obtain ⟨⟨hrc, hrs, hfr, hlo, hws, hcw⟩, hcode, hini, hy, hlen, hl, hstt⟩ := cw
  have hK : Back l R p e below s args y 3 8 (PreOf R mc ms Pc) (PostOf Qc mc ms free) := va_backW (hh := hh) (bytes := bytes) (maxL := maxL) (ret := ret) hM hp.1 hrc hrs hfr hlo hws hcw (fun a' U hW => word_at hW (Or.inl (by first | rfl | simp [Cond.onTables, Cond.keeps, Cond.steady])) hini)
  obtain ⟨hx, hb, hml, ho, -⟩ := S
  intro T hT X
  obtain ⟨v, vm₁, ⟨U', l2, c2, s2⟩, hW₁, X', ⟨g', mk, t, L, e1, e2, hq, h1, hL, h2, h3⟩, st⟩ := vx_callSW X hx (hh := hh) (bytes := bytes) (maxL := maxL) (ret := ret) ho hl hstt hini hcode hy hK hg (hsize.trans hml.symm) (argsL := As) (rest := rest) (fun sig h => hn.trans (hlen sig h)) hstack hW (by rw [hb]; exact hdg)
    (fun vm₁ hW₁ => ⟨hf.1, hf.2, hp.2 (T.setVm vm₁) hT hW₁⟩)
  dsimp only [Pt.U, Pt.locs, Pt.cells, Pt.slots] at X' e1 e2 h1 h2 h3 st
  subst h1; subst h2; subst h3
  exact ⟨v, (T.setVm vm₁).calling g' mk As.toArray, t, U', L, hT, X', hL, e1, e2, hq, st⟩
/-- a thing of a world lies in the heap -/
theorem vx_lt {D : va_G} {cl : List vw_C} {ws : va_W} {H1 : Heap} (h : va_P D cl ws H1) {k : Nat} {q : Nat × va_E} (hk : ws[k]? = some q) : q.1 < H1.size := (h k q hk).lt
end VXS
/-! ===== END ===== -/
/-! ===== BEGIN methods with a table of their own: called by a name, returning or throwing ===== -/
section VXH
/-! vx_backW, vx_callVX, vx_callSX, vx_callVW, vx_runVW, vx_runVX, vx_runSX, vx_ofWH follow the same proofs as their sisters above (Free/Laws.lean, Shelf42/LK1.lean); vx_outP calls Shelf42/NT130.lean (outThrough). -/
section
variable {l : Launch} {R : Room} {p : Program} {e : Env} {below : List Frame} {s : State} {sargs : Array Value} {y : MethodName} {len W9 : Nat}
theorem vx_backW {ws : List Cond} {rm : Room} {Pc : Array Value → State → Prop} {Qc : Array Value → State → Outcome → State → Prop} {XC : String → State → State → Prop} {mc ms : Nat} {free : Addr → Prop} {bytes : ByteArray} {maxL : Nat} {ret : Option FieldType} {hh : List (Nat × Nat × Nat × Nat)}
    (hM : vx_Met l y ws rm Pc Qc XC mc ms free) (hblind : FrameBlind Pc) (hrc : rm.cells = mc) (hrs : rm.slots = ms)
    (hframes : rm.frames + 1 ≤ R.frames) (hlocals : W9 + (maxL + 11) + rm.locals ≤ R.locals)
    (hws : ∀ w ∈ ws, ∀ a' U, s.WarmedH U.vm → w.before a' U = true) (hcode : Cond.codeWith y bytes maxL ret hh ∈ ws) (hinit : ∀ a' U, s.WarmedH U.vm → (Cond.initialized y.cls).before a' U = true) :
    vx_Back l R p e below s sargs y len W9 (PreOf R mc ms Pc) (PostOf Qc mc ms free) (vx_Post XC mc ms free) := by
  intro m meth c A g ig mk a X hg hsize hdg hW hn hp
  have h1 : (headSpec ws rm).pre.before a A.U = true := atoms_intro fun w hw => hws w hw _ _ X.warmed
  have h2 : (Cond.codeWith y bytes maxL ret hh).before a A.U = true := hws _ hcode _ _ X.warmed
  have h3 : (Cond.initialized y.cls).before a A.U = true := hinit _ _ X.warmed
  have h4 : A.cells + (headSpec ws rm).room.cells ≤ R.cells := by rw [show (headSpec ws rm).room.cells = mc from hrc]; exact hp.1
  have h5 : A.slots + (headSpec ws rm).room.slots ≤ R.slots := by rw [show (headSpec ws rm).room.slots = ms from hrs]; exact hp.2.1
  have hPc : Pc a (A.U.calling g mk a) := hblind _ _ _ _ hp.2.2
  obtain ⟨U, Ls, c0, s0⟩ := A
  dsimp only [Pt.U, Pt.locs, Pt.cells, Pt.slots] at h1 h2 h3 h4 h5 X hn hPc ⊢
  obtain ⟨m9, methY, cY, hn9, hmY, hcY, -, hlY, -⟩ := Cond.codeWith_spec h2
  cases Option.some.inj (hn9.symm.trans hn)
  obtain ⟨kY, hkY, -⟩ := className_of_methodNamed hn
  have hinitY : kY.init = .initialized := Cond.initialized_spec (findClass_of_methodNamed hn) hkY h3
  have h : At U g.method c below := by rw [hg]; exact X.here
  have hlocals9 : W9 + (maxL + 11) + (headSpec ws rm).room.locals ≤ R.locals := hlocals
  have happ : (headSpec ws rm).appliesLoose y e.platform (U.calling g mk a) = true :=
    Spec.appliesLoose_calling (g := g) h hdg hn hkY hinitY
      (X.room_calling (g := g) (R' := (headSpec ws rm).room) hsize hmY hcY hframes (by rw [hlY]; omega) h4 h5) h1
  obtain ⟨mid, hmid⟩ := h.above
  have hfr : (U.setTop g).frames = (.java g :: mid) ++ below := by rw [State.frames_setTop' g h.top, hmid]; rfl
  obtain ⟨o, s₂, hsteps, -, hend, hq⟩ := Steps.callFree hM p X.admits X.cas X.clock (acts := []) hfr happ hPc trivial
  have hq' : vx_Q Qc XC mc ms free a (U.calling g mk a) o s₂ := hq
  rw [State.frames_setTop' g h.top] at hend
  obtain ⟨g₀, hg0⟩ := Option.isSome_iff_exists.mp h.top
  obtain ⟨r, hr⟩ := State.topJava?_eq_some.mp hg0
  have hr' : (({ U with heap := s₂.heap, slotsUsed := s₂.slotsUsed } : State).setVm s₂.vm).frames = .java g₀ :: r := hr
  rcases hq' with ⟨hqc, L, hfe, hL⟩ | ⟨q, rfl, E, ce, L, hx, hce, hcv, hcl, hW₂, hsm, hL⟩
  · obtain ⟨⟨v, rfl⟩, hW₂, e2, q2, q3, q4, q5, q6⟩ := id hfe
    have e3 : s₂ = ({ (U.calling g mk a).setFrames s₂.frames with heap := s₂.heap, slotsUsed := s₂.slotsUsed } : State).setVm s₂.vm := by
      have : s₂ = ({ s₂ with vm := (U.calling g mk a).vm } : State).setVm s₂.vm := rfl
      rw [e2] at this
      exact this
    obtain ⟨c₂, i₂, len₂, hc₂, hd₂, hf₂⟩ := hend
    have hW' : U.WarmedH s₂.vm := hW₂
    have hcc : c₂ = c := by
      have h1 : s₂.code? g.method = U.code? g.method := by
        rw [State.code?_eq, State.code?_eq, hW'.alike.method?]
      exact Option.some.inj (hc₂.symm.trans (h1.trans h.code))
    subst hcc
    have hlen : len₂ = len := by rw [hdg] at hd₂; cases hd₂; rfl
    subst hlen
    have hs₂ : s₂ = (({ U with heap := s₂.heap, slotsUsed := s₂.slotsUsed } : State).setVm s₂.vm).setTop { g with pc := g.pc + len₂, stack := v.toList ++ g.stack } := by
      refine e3.trans ?_
      rw [hf₂, State.calling_eq h.top, State.setFrames_setFrames, State.setTop_of_frames _ hr', hr]
      rfl
    have hsame : U.sameButNew ({ U with heap := s₂.heap, slotsUsed := s₂.slotsUsed } : State) L mc ms := by
      refine ⟨?_, q2, q3, q4, q5, q6⟩
      obtain ⟨t, ht, -⟩ := State.frames_cons hr
      show ({ U with heap := s₂.heap, slotsUsed := s₂.slotsUsed } : State) = { U.setFrames U.frames with heap := s₂.heap, slotsUsed := s₂.slotsUsed }
      rw [State.setFrames_self ht]
    subst hg
    refine Or.inl ⟨v, ⟨(({ U with heap := s₂.heap, slotsUsed := s₂.slotsUsed } : State).setVm s₂.vm), Ls ++ L, c0 + mc, s0 + ms⟩,
      ⟨X.admits, X.cas, X.clock, X.frames, X.room, X.hears, X.method, X.code, (X.here.setHeapUsed s₂.heap s₂.slotsUsed).setVm hW'.alike, X.tail, State.WarmedH.trans X.warmed hW', X.limits, X.bytes, X.same.trans (hsame.setVm s.vm)⟩,
      ⟨g, mk, s₂, L, rfl, rfl, hqc, rfl, hL, rfl, rfl⟩, ?_⟩
    show Steps p.tables e below _ ((({ U with heap := s₂.heap, slotsUsed := s₂.slotsUsed } : State).setVm s₂.vm).setTop { g with pc := g.pc + len₂, stack := v.toList ++ g.stack })
    rw [← hs₂]
    exact hsteps
  · obtain ⟨e2, q2, q3, q4, q5, q6⟩ := id hsm
    have e3 : s₂ = ({ (U.calling g mk a).setFrames s₂.frames with heap := s₂.heap, slotsUsed := s₂.slotsUsed } : State).setVm s₂.vm := by
      have : s₂ = ({ s₂ with vm := (U.calling g mk a).vm } : State).setVm s₂.vm := rfl
      rw [e2] at this
      exact this
    have hf₂ : s₂.frames = .throwing q :: .java g :: U.frames.tail := hend
    have hW' : U.WarmedH s₂.vm := hW₂
    have hs₂ : s₂ = ((({ U with heap := s₂.heap, slotsUsed := s₂.slotsUsed } : State).setVm s₂.vm).setTop g).pushFrame (.throwing q) := by
      refine e3.trans ?_
      rw [hf₂, State.calling_eq h.top, State.setFrames_setFrames, State.pushFrame, State.frames_setTop _ hr', State.setTop_of_frames _ hr', State.setFrames_setFrames, hr]
      rfl
    have hsame : U.sameButNew ({ U with heap := s₂.heap, slotsUsed := s₂.slotsUsed } : State) L mc ms := by
      refine ⟨?_, q2, q3, q4, q5, q6⟩
      obtain ⟨t, ht, -⟩ := State.frames_cons hr
      show ({ U with heap := s₂.heap, slotsUsed := s₂.slotsUsed } : State) = { U.setFrames U.frames with heap := s₂.heap, slotsUsed := s₂.slotsUsed }
      rw [State.setFrames_self ht]
    subst hg
    refine Or.inr ⟨q, ⟨(({ U with heap := s₂.heap, slotsUsed := s₂.slotsUsed } : State).setVm s₂.vm), Ls ++ L, c0 + mc, s0 + ms⟩,
      ⟨X.admits, X.cas, X.clock, X.frames, X.room, X.hears, X.method, X.code, (X.here.setHeapUsed s₂.heap s₂.slotsUsed).setVm hW'.alike, X.tail, State.WarmedH.trans X.warmed hW', X.limits, X.bytes, X.same.trans (hsame.setVm s.vm)⟩,
      ⟨g, mk, s₂, L, E, ce, rfl, rfl, hx, hce, hcv, hcl, rfl, hL, rfl, rfl⟩, ?_⟩
    show Steps p.tables e below _ (((({ U with heap := s₂.heap, slotsUsed := s₂.slotsUsed } : State).setVm s₂.vm).setTop g).pushFrame (.throwing q))
    rw [← hs₂]
    exact hsteps
end
variable {p : Program} {l : Launch} {e : Env} {R : Room} {s : State} {m : MethodId} {args : Array Value} {below : List Frame} {meth : Method} {c : Code} {T : State} {H : Heap} {locs : List Loc} {cells slots : Nat}
theorem vx_callVX (X : Stand p l e R s m args below meth c T locs cells slots) (hexec : p.tables.exec = Jvm.exec) {own C : String} {index : Nat} {y : MethodName} {bytes : ByteArray} {maxL : Nat} {ret : Option FieldType} {hh : List (Nat × Nat × Nat × Nat)}
    (hown : s.vm.findClass own = some m.cls) (hlink : (Cond.methodLink own index y).before args s = true) (hinst : (Cond.instanceMethod y).before args s = true) (hsel : (Cond.selects C y y).before args s = true)
    (hcode : (Cond.codeWith y bytes maxL ret hh).before args s = true) (hy : y.cls ≠ "java/lang/invoke/MethodHandle" ∧ y.cls ≠ "java/lang/invoke/VarHandle")
    {W9 : Nat} {Pre : Pt → Array Value → Prop} {Post : Pt → Array Value → Option Value → Pt → Prop} {PostX : Pt → Array Value → Addr → Pt → Prop} (hK : vx_Back l R p e below s args y 3 W9 Pre Post PostX)
    {b : Addr} {cellB : Cell} (hcell : T.heap[b]? = some cellB) (hobj : cellB.vm.isStatics = false) (hcls : s.vm.findClass C = some cellB.cls)
    {g : JFrame} (hg : g.method = m) (hsize : g.locals.size = c.maxLocals) {argsL rest : List Value} (hlen : ∀ sig, parseMethodDescriptor y.desc = some sig → argsL.length = sig.parameters.length)
    (hstack : g.stack = argsL.reverse ++ .ref b :: rest) (hW : 2 * g.monitorRoom + (rest.map fun v => v.category).sum ≤ W9) (hdg : decode c.code g.pc = .ok (.invokevirtual index, 3))
    (hpre : ∀ vm₁, s.WarmedH vm₁ → Pre ⟨T.setVm vm₁, locs, cells, slots⟩ (Value.ref b :: argsL).toArray) :
    (∃ (v : Option Value) (vm₁ : Vm) (B : Pt), s.WarmedH vm₁ ∧ Stand p l e R s m args below meth c B.U B.locs B.cells B.slots ∧ Post ⟨T.setVm vm₁, locs, cells, slots⟩ (Value.ref b :: argsL).toArray v B ∧
      ∀ target, Steps p.tables e below (B.U.setTop { g with pc := g.pc + 3, stack := v.toList ++ rest }) target → Steps p.tables e below (T.setTop g) target) ∨
    (∃ (q : Addr) (vm₁ : Vm) (B : Pt), s.WarmedH vm₁ ∧ Stand p l e R s m args below meth c B.U B.locs B.cells B.slots ∧ PostX ⟨T.setVm vm₁, locs, cells, slots⟩ (Value.ref b :: argsL).toArray q B ∧
      Steps p.tables e below (T.setTop g) ((B.U.setTop { g with stack := rest }).pushFrame (.throwing q))) := by
  obtain ⟨mk, methM, hnamed, hmethM, hstM, habM⟩ := Cond.instanceMethod_spec hinst
  obtain ⟨m8, methM', cM, hn8, hmethM', -, -, -, -, -, -, hsigM⟩ := Cond.codeWith_spec hcode
  cases Option.some.inj (hn8.symm.trans hnamed)
  cases hmethM.symm.trans hmethM'
  obtain ⟨c2, r2, m2, q1, q2, q3, q4, kP, hkP, hkPi⟩ := Cond.selects_spec hsel
  cases hcls.symm.trans q1
  cases (State.methodFound?_of_named hnamed hy).symm.trans q2
  cases hnamed.symm.trans q3
  have hselP : selectMethod e.platform s.vm cellB.cls mk = .method mk := by rw [Launch.admits_selectMethod X.admits]; exact q4
  obtain ⟨vm₁, X₁, hstep₁⟩ := X.invokevirtual hexec hown hlink hnamed hmethM hstM hkP hkPi hy (a := b) (cell := cellB) hcell
    (fun z h => by rw [h] at hobj; cases hobj) hselP hmethM habM hkP hkPi (g := g) hg (argsL := argsL) (rest := rest) (hlen _ hsigM) hstack hdg
  rcases hK m meth c ⟨T.setVm vm₁, locs, cells, slots⟩ { g with stack := rest } (.invokevirtual index) mk (Value.ref b :: argsL).toArray X₁ hg hsize hdg hW (X₁.named hnamed) (hpre vm₁ X₁.warmed) with ⟨v, B, X', hpost, hsteps⟩ | ⟨q, B, X', hpost, hsteps⟩
  · exact Or.inl ⟨v, vm₁, B, X₁.warmed, X', hpost, fun target h => hstep₁ _ fun acts => by rw [doInvoke_state]; exact hsteps.trans h⟩
  · exact Or.inr ⟨q, vm₁, B, X₁.warmed, X', hpost, hstep₁ _ fun acts => by rw [doInvoke_state]; exact hsteps⟩
theorem vx_callSX (X : Stand p l e R s m args below meth c T locs cells slots) (hexec : p.tables.exec = Jvm.exec) {own : String} {index : Nat} {y : MethodName} {bytes : ByteArray} {maxL : Nat} {ret : Option FieldType} {hh : List (Nat × Nat × Nat × Nat)}
    (hown : s.vm.findClass own = some m.cls) (hlink : (Cond.methodLink own index y).before args s = true) (hstat : (Cond.static y).before args s = true) (hinit : (Cond.initialized y.cls).before args s = true)
    (hcode : (Cond.codeWith y bytes maxL ret hh).before args s = true) (hy : y.cls ≠ "java/lang/invoke/MethodHandle" ∧ y.cls ≠ "java/lang/invoke/VarHandle")
    {W9 : Nat} {Pre : Pt → Array Value → Prop} {Post : Pt → Array Value → Option Value → Pt → Prop} {PostX : Pt → Array Value → Addr → Pt → Prop} (hK : vx_Back l R p e below s args y 3 W9 Pre Post PostX)
    {g : JFrame} (hg : g.method = m) (hsize : g.locals.size = c.maxLocals) {argsL rest : List Value} (hlen : ∀ sig, parseMethodDescriptor y.desc = some sig → argsL.length = sig.parameters.length)
    (hstack : g.stack = argsL.reverse ++ rest) (hW : 2 * g.monitorRoom + (rest.map fun v => v.category).sum ≤ W9) (hdg : decode c.code g.pc = .ok (.invokestatic index, 3))
    (hpre : ∀ vm₁, s.WarmedH vm₁ → Pre ⟨T.setVm vm₁, locs, cells, slots⟩ argsL.toArray) :
    (∃ (v : Option Value) (vm₁ : Vm) (B : Pt), s.WarmedH vm₁ ∧ Stand p l e R s m args below meth c B.U B.locs B.cells B.slots ∧ Post ⟨T.setVm vm₁, locs, cells, slots⟩ argsL.toArray v B ∧
      ∀ target, Steps p.tables e below (B.U.setTop { g with pc := g.pc + 3, stack := v.toList ++ rest }) target → Steps p.tables e below (T.setTop g) target) ∨
    (∃ (q : Addr) (vm₁ : Vm) (B : Pt), s.WarmedH vm₁ ∧ Stand p l e R s m args below meth c B.U B.locs B.cells B.slots ∧ PostX ⟨T.setVm vm₁, locs, cells, slots⟩ argsL.toArray q B ∧
      Steps p.tables e below (T.setTop g) ((B.U.setTop { g with stack := rest }).pushFrame (.throwing q))) := by
  obtain ⟨mk, methM, cM, hnamed, hmethM, -, -, -, -, -, -, hsigM⟩ := Cond.codeWith_spec hcode
  have hstatic : methM.isStatic = true := Cond.static_spec hnamed hmethM hstat
  obtain ⟨kP, hkP, -⟩ := className_of_methodNamed hnamed
  have hinitP : kP.init = .initialized := Cond.initialized_spec (findClass_of_methodNamed hnamed) hkP hinit
  obtain ⟨vm₁, X₁, hstep₁⟩ := X.invokestatic hexec hown hlink hnamed hmethM hstatic hkP hinitP hy (g := g) hg (argsL := argsL) (rest := rest) (hlen _ hsigM) hstack hdg
  rcases hK m meth c ⟨T.setVm vm₁, locs, cells, slots⟩ { g with stack := rest } (.invokestatic index) mk argsL.toArray X₁ hg hsize hdg hW (X₁.named hnamed) (hpre vm₁ X₁.warmed) with ⟨v, B, X', hpost, hsteps⟩ | ⟨q, B, X', hpost, hsteps⟩
  · exact Or.inl ⟨v, vm₁, B, X₁.warmed, X', hpost, fun target h => hstep₁ _ fun acts => by rw [doInvoke_state]; exact hsteps.trans h⟩
  · exact Or.inr ⟨q, vm₁, B, X₁.warmed, X', hpost, hstep₁ _ fun acts => by rw [doInvoke_state]; exact hsteps⟩
theorem vx_callVW (X : Stand p l e R s m args below meth c T locs cells slots) (hexec : p.tables.exec = Jvm.exec) {own C : String} {index : Nat} {y : MethodName} {bytes : ByteArray} {maxL : Nat} {ret : Option FieldType} {hh : List (Nat × Nat × Nat × Nat)}
    (hown : s.vm.findClass own = some m.cls) (hlink : (Cond.methodLink own index y).before args s = true) (hinst : (Cond.instanceMethod y).before args s = true) (hsel : (Cond.selects C y y).before args s = true)
    (hcode : (Cond.codeWith y bytes maxL ret hh).before args s = true) (hy : y.cls ≠ "java/lang/invoke/MethodHandle" ∧ y.cls ≠ "java/lang/invoke/VarHandle")
    {W9 : Nat} {Pre : Pt → Array Value → Prop} {Post : Pt → Array Value → Option Value → Pt → Prop} (hK : Back l R p e below s args y 3 W9 Pre Post)
    {b : Addr} {cellB : Cell} (hcell : T.heap[b]? = some cellB) (hobj : cellB.vm.isStatics = false) (hcls : s.vm.findClass C = some cellB.cls)
    {g : JFrame} (hg : g.method = m) (hsize : g.locals.size = c.maxLocals) {argsL rest : List Value} (hlen : ∀ sig, parseMethodDescriptor y.desc = some sig → argsL.length = sig.parameters.length)
    (hstack : g.stack = argsL.reverse ++ .ref b :: rest) (hW : 2 * g.monitorRoom + (rest.map fun v => v.category).sum ≤ W9) (hdg : decode c.code g.pc = .ok (.invokevirtual index, 3))
    (hpre : ∀ vm₁, s.WarmedH vm₁ → Pre ⟨T.setVm vm₁, locs, cells, slots⟩ (Value.ref b :: argsL).toArray) :
    ∃ (v : Option Value) (vm₁ : Vm) (B : Pt), s.WarmedH vm₁ ∧ Stand p l e R s m args below meth c B.U B.locs B.cells B.slots ∧ Post ⟨T.setVm vm₁, locs, cells, slots⟩ (Value.ref b :: argsL).toArray v B ∧
      ∀ target, Steps p.tables e below (B.U.setTop { g with pc := g.pc + 3, stack := v.toList ++ rest }) target → Steps p.tables e below (T.setTop g) target := by
  obtain ⟨mk, methM, hnamed, hmethM, hstM, habM⟩ := Cond.instanceMethod_spec hinst
  obtain ⟨m8, methM', cM, hn8, hmethM', -, -, -, -, -, -, hsigM⟩ := Cond.codeWith_spec hcode
  cases Option.some.inj (hn8.symm.trans hnamed)
  cases hmethM.symm.trans hmethM'
  obtain ⟨c2, r2, m2, q1, q2, q3, q4, kP, hkP, hkPi⟩ := Cond.selects_spec hsel
  cases hcls.symm.trans q1
  cases (State.methodFound?_of_named hnamed hy).symm.trans q2
  cases hnamed.symm.trans q3
  have hselP : selectMethod e.platform s.vm cellB.cls mk = .method mk := by rw [Launch.admits_selectMethod X.admits]; exact q4
  obtain ⟨vm₁, X₁, hstep₁⟩ := X.invokevirtual hexec hown hlink hnamed hmethM hstM hkP hkPi hy (a := b) (cell := cellB) hcell
    (fun z h => by rw [h] at hobj; cases hobj) hselP hmethM habM hkP hkPi (g := g) hg (argsL := argsL) (rest := rest) (hlen _ hsigM) hstack hdg
  obtain ⟨v, B, X', hpost, hsteps⟩ := hK m meth c ⟨T.setVm vm₁, locs, cells, slots⟩ { g with stack := rest } (.invokevirtual index) mk (Value.ref b :: argsL).toArray X₁ hg hsize hdg hW (X₁.named hnamed) (hpre vm₁ X₁.warmed)
  exact ⟨v, vm₁, B, X₁.warmed, X', hpost, fun target h => hstep₁ _ fun acts => by rw [doInvoke_state]; exact hsteps.trans h⟩
abbrev vx_CVW (R : Room) (s : State) (args : Array Value) (own C : String) (index : Nat) (y : MethodName) (bytes : ByteArray) (maxL : Nat) (ret : Option FieldType) (hh : List (Nat × Nat × Nat × Nat)) (ws : List Cond) (rm : Room) (mc ms n : Nat) : Prop :=
  (rm.cells = mc ∧ rm.slots = ms ∧ rm.frames + 1 ≤ R.frames ∧ 8 + (maxL + 11) + rm.locals ≤ R.locals ∧ (∀ w ∈ ws, ∀ (a' : Array Value) (U : State), s.WarmedH U.vm → w.before a' U = true) ∧ Cond.codeWith y bytes maxL ret hh ∈ ws) ∧
  (Cond.codeWith y bytes maxL ret hh).before args s = true ∧ (Cond.initialized y.cls).before args s = true ∧ (y.cls ≠ "java/lang/invoke/MethodHandle" ∧ y.cls ≠ "java/lang/invoke/VarHandle") ∧
  (∀ sig, parseMethodDescriptor y.desc = some sig → n = sig.parameters.length) ∧ (Cond.methodLink own index y).before args s = true ∧ (Cond.instanceMethod y).before args s = true ∧ (Cond.selects C y y).before args s = true
theorem vx_cwVW {own C : String} {index maxL mc ms : Nat} {y : MethodName} {bytes : ByteArray} {ret : Option FieldType} {hh : List (Nat × Nat × Nat × Nat)} {Ts ws ws' : List Cond} {rm : Room} (n : Nat) (ht : ∀ w ∈ Ts, w.before args s = true) (hT : GoodIn Ts (wsV own index C y ws)) (hw : ws = Cond.codeWith y bytes maxL ret hh :: ws') (hrc : rm.cells = mc) (hrs : rm.slots = ms)
    (hd : y.cls = C ∧ y.cls ≠ "java/lang/invoke/MethodHandle" ∧ y.cls ≠ "java/lang/invoke/VarHandle" ∧ (parseMethodDescriptor y.desc).map (fun d => d.parameters.length) = some n) (hR : rm.frames + 1 ≤ R.frames ∧ 8 + (maxL + 11) + rm.locals ≤ R.locals) :
    vx_CVW R s args own C index y bytes maxL ret hh ws rm mc ms n := by
  obtain ⟨hC, hd⟩ := hd
  subst hC
  have ok : ∀ w ∈ wsV own index y.cls y ws, w.before args s = true := fun w h => ht w (hT w h).1
  have hG : GoodIn Ts ws := fun w h => hT w (by unfold wsV; exact List.mem_append_right _ h)
  have hc : Cond.codeWith y bytes maxL ret hh ∈ ws := by rw [hw]; exact List.mem_cons_self
  refine ⟨⟨hrc, hrs, hR.1, hR.2, pay_in ht hG, hc⟩, ht _ (hG _ hc).1, ok _ (by simp [wsV]), ⟨hd.1, hd.2.1⟩, fun sig h => ?_, ok _ (by simp [wsV]), ok _ (by simp [wsV]), ok _ (by simp [wsV])⟩
  have h2 := hd.2.2
  rw [h] at h2
  exact (Option.some.inj h2).symm
theorem vx_runVW {y : MethodName} {bytes cc : ByteArray} {maxL nL mc ms n index : Nat} {ret : Option FieldType} {hh : List (Nat × Nat × Nat × Nat)} {ws : List Cond} {rm : Room} {Pc : Array Value → State → Prop} {Qc : Array Value → State → Outcome → State → Prop} {free : Addr → Prop} {Ts : List Cond} {own C : String} {b : Addr} {As rest : List Value} {g : JFrame}
    (S : CallFix p m c cc nL s args Ts own) (hM : Met l y ws rm Pc Qc mc ms free) (cw : vx_CVW R s args own C index y bytes maxL ret hh ws rm mc ms n) (hp : PreV s H C b Pc As)
    (hg : g.method = m) (hn : As.length = n) (hsize : g.locals.size = nL) (hstack : g.stack = As.reverse ++ .ref b :: rest) (hW : 2 * g.monitorRoom + (rest.map fun v => v.category).sum ≤ 8) (hdg : decode cc g.pc = .ok (.invokevirtual index, 3)) (hf : cells + mc ≤ R.cells ∧ slots + ms ≤ R.slots) :
    va_Run p l e R s m args below meth c H locs cells slots mc ms g rest (Qc (Value.ref b :: As).toArray) free := by
  obtain ⟨⟨hrc, hrs, hfr, hlo, hws, hcw⟩, hcode, hini, hy, hlen, hl, hin, hse⟩ := cw
  have hK : Back l R p e below s args y 3 8 (PreOf R mc ms Pc) (PostOf Qc mc ms free) := va_backW (hh := hh) (bytes := bytes) (maxL := maxL) (ret := ret) hM hp.1 hrc hrs hfr hlo hws hcw (fun a' U hW => word_at hW (Or.inl (by first | rfl | simp [Cond.onTables, Cond.keeps, Cond.steady])) hini)
  obtain ⟨hx, hb, hml, ho, -⟩ := S
  obtain ⟨-, ⟨cellB, hcB, hoB, hclB⟩, hPc⟩ := hp
  intro T hT X
  obtain ⟨v, vm₁, ⟨U', l2, c2, s2⟩, hW₁, X', ⟨g', mk, t, L, e1, e2, hq, h1, hL, h2, h3⟩, st⟩ := vx_callVW X hx (C := C) (hh := hh) (bytes := bytes) (maxL := maxL) (ret := ret) ho hl hin hse hcode hy hK (by rw [hT]; exact hcB) hoB hclB hg (hsize.trans hml.symm) (argsL := As) (rest := rest) (fun sig h => hn.trans (hlen sig h)) hstack hW (by rw [hb]; exact hdg)
    (fun vm₁ hW₁ => ⟨hf.1, hf.2, hPc (T.setVm vm₁) hT hW₁⟩)
  dsimp only [Pt.U, Pt.locs, Pt.cells, Pt.slots] at X' e1 e2 h1 h2 h3 st
  subst h1; subst h2; subst h3
  exact ⟨v, (T.setVm vm₁).calling g' mk (Value.ref b :: As).toArray, t, U', L, hT, X', hL, e1, e2, hq, st⟩
section
variable {y : MethodName} {bytes cc : ByteArray} {maxL nL mc ms n index : Nat} {ret : Option FieldType} {ws : List Cond} {rm : Room} {Pc : Array Value → State → Prop} {Qc : Array Value → State → Outcome → State → Prop} {XC : String → State → State → Prop} {free : Addr → Prop} {Ts : List Cond} {own C : String} {b : Addr} {As rest : List Value} {g : JFrame}
theorem vx_runVX {hh : List (Nat × Nat × Nat × Nat)} (S : CallFix p m c cc nL s args Ts own) (hM : vx_Met l y ws rm Pc Qc XC mc ms free) (cw : vx_CVW R s args own C index y bytes maxL ret hh ws rm mc ms n) (hp : PreV s H C b Pc As)
    (hg : g.method = m) (hn : As.length = n) (hsize : g.locals.size = nL) (hstack : g.stack = As.reverse ++ .ref b :: rest) (hW : 2 * g.monitorRoom + (rest.map fun v => v.category).sum ≤ 8) (hdg : decode cc g.pc = .ok (.invokevirtual index, 3)) (hf : cells + mc ≤ R.cells ∧ slots + ms ≤ R.slots) :
    vx_Run p l e R s m args below meth c H locs cells slots mc ms g rest (Qc (Value.ref b :: As).toArray) XC free := by
  obtain ⟨⟨hrc, hrs, hfr, hlo, hws, hcw⟩, hcode, hini, hy, hlen, hl, hin, hse⟩ := cw
  have hK : vx_Back l R p e below s args y 3 8 (PreOf R mc ms Pc) (PostOf Qc mc ms free) (vx_Post XC mc ms free) := vx_backW (hh := hh) (bytes := bytes) (maxL := maxL) (ret := ret) hM hp.1 hrc hrs hfr hlo hws hcw (fun a' U hW => word_at hW (Or.inl (by first | rfl | simp [Cond.onTables, Cond.keeps, Cond.steady])) hini)
  obtain ⟨hx, hb, hml, ho, -⟩ := S
  obtain ⟨-, ⟨cellB, hcB, hoB, hclB⟩, hPc⟩ := hp
  intro T hT X
  rcases vx_callVX X hx (C := C) (hh := hh) (bytes := bytes) (maxL := maxL) (ret := ret) ho hl hin hse hcode hy hK (by rw [hT]; exact hcB) hoB hclB hg (hsize.trans hml.symm) (argsL := As) (rest := rest) (fun sig h => hn.trans (hlen sig h)) hstack hW (by rw [hb]; exact hdg)
    (fun vm₁ hW₁ => ⟨hf.1, hf.2, hPc (T.setVm vm₁) hT hW₁⟩) with ⟨v, vm₁, ⟨U', l2, c2, s2⟩, hW₁, X', ⟨g', mk, t, L, e1, e2, hq, h1, hL, h2, h3⟩, st⟩ | ⟨q, vm₁, ⟨U', l2, c2, s2⟩, hW₁, X', ⟨g', mk, t, L, E, ce, e1, e2, hq, hce, hcv, hcl, h1, hL, h2, h3⟩, st⟩
  · dsimp only [Pt.U, Pt.locs, Pt.cells, Pt.slots] at X' e1 e2 h1 h2 h3 st
    subst h1; subst h2; subst h3
    exact Or.inl ⟨v, (T.setVm vm₁).calling g' mk (Value.ref b :: As).toArray, t, U', L, hT, X', hL, e1, e2, hq, st⟩
  · dsimp only [Pt.U, Pt.locs, Pt.cells, Pt.slots] at X' e1 e2 h1 h2 h3 st hcl
    subst h1; subst h2; subst h3
    exact Or.inr ⟨q, (T.setVm vm₁).calling g' mk (Value.ref b :: As).toArray, t, U', L, E, ce, hT, X', hL, e1, e2, hq, hce, hcv, vx_cls hW₁ hcl, st⟩
theorem vx_runSX {hh : List (Nat × Nat × Nat × Nat)} (S : CallFix p m c cc nL s args Ts own) (hM : vx_Met l y ws rm Pc Qc XC mc ms free) (cw : vx_CSW R s args own index y bytes maxL ret hh ws rm mc ms n) (hp : PreS s H Pc As)
    (hg : g.method = m) (hn : As.length = n) (hsize : g.locals.size = nL) (hstack : g.stack = As.reverse ++ rest) (hW : 2 * g.monitorRoom + (rest.map fun v => v.category).sum ≤ 8) (hdg : decode cc g.pc = .ok (.invokestatic index, 3)) (hf : cells + mc ≤ R.cells ∧ slots + ms ≤ R.slots) :
    vx_Run p l e R s m args below meth c H locs cells slots mc ms g rest (Qc As.toArray) XC free := by
  obtain ⟨⟨hrc, hrs, hfr, hlo, hws, hcw⟩, hcode, hini, hy, hlen, hl, hstt⟩ := cw
  have hK : vx_Back l R p e below s args y 3 8 (PreOf R mc ms Pc) (PostOf Qc mc ms free) (vx_Post XC mc ms free) := vx_backW (hh := hh) (bytes := bytes) (maxL := maxL) (ret := ret) hM hp.1 hrc hrs hfr hlo hws hcw (fun a' U hW => word_at hW (Or.inl (by first | rfl | simp [Cond.onTables, Cond.keeps, Cond.steady])) hini)
  obtain ⟨hx, hb, hml, ho, -⟩ := S
  intro T hT X
  rcases vx_callSX X hx (hh := hh) (bytes := bytes) (maxL := maxL) (ret := ret) ho hl hstt hini hcode hy hK hg (hsize.trans hml.symm) (argsL := As) (rest := rest) (fun sig h => hn.trans (hlen sig h)) hstack hW (by rw [hb]; exact hdg)
    (fun vm₁ hW₁ => ⟨hf.1, hf.2, hp.2 (T.setVm vm₁) hT hW₁⟩) with ⟨v, vm₁, ⟨U', l2, c2, s2⟩, hW₁, X', ⟨g', mk, t, L, e1, e2, hq, h1, hL, h2, h3⟩, st⟩ | ⟨q, vm₁, ⟨U', l2, c2, s2⟩, hW₁, X', ⟨g', mk, t, L, E, ce, e1, e2, hq, hce, hcv, hcl, h1, hL, h2, h3⟩, st⟩
  · dsimp only [Pt.U, Pt.locs, Pt.cells, Pt.slots] at X' e1 e2 h1 h2 h3 st
    subst h1; subst h2; subst h3
    exact Or.inl ⟨v, (T.setVm vm₁).calling g' mk As.toArray, t, U', L, hT, X', hL, e1, e2, hq, st⟩
  · dsimp only [Pt.U, Pt.locs, Pt.cells, Pt.slots] at X' e1 e2 h1 h2 h3 st hcl
    subst h1; subst h2; subst h3
    exact Or.inr ⟨q, (T.setVm vm₁).calling g' mk As.toArray, t, U', L, E, ce, hT, X', hL, e1, e2, hq, hce, hcv, vx_cls hW₁ hcl, st⟩
end
end VXH
theorem vx_ofWH {l : Launch} {y : MethodName} {ws ws' : List Cond} {rm : Room} {Pc : Array Value → State → Prop} {Qc : Array Value → State → Outcome → State → Prop} {XC : String → State → State → Prop} {mc ms : Nat} {free : Addr → Prop} {cc : ByteArray} {maxL : Nat} {ret : Option FieldType} {hh : List (Nat × Nat × Nat × Nat)}
    (hy : plainName y.cls = true) (hw : ws = Cond.codeWith y cc maxL ret hh :: ws')
    (body : ∀ p e s m args below meth c s₁, BodyLoose p l y (headSpec ws rm) cc maxL ret e s m args below meth c s₁ → c.maxLocals = maxL → Pc args s →
      W p l e (headSpec ws rm).room s m args below meth c s.heap [] 0 0 (vx_MQ below Qc XC args s mc ms free) (entryFrame m args maxL)) : vx_Met l y ws rm Pc Qc XC mc ms free := by
  refine MetFree.of_bodyS (code := cc) (maxLocals := maxL) (ret := ret) hy ?_ ?_
  · intro args s m h hn
    obtain ⟨m9, meth, c, hn9, h1, h2, h3, h4, -, h5, h6, -⟩ := Cond.codeWith_spec (atoms_spec (ws := ws) h _ (by rw [hw]; exact List.mem_cons_self))
    cases hn.symm.trans hn9
    exact ⟨meth, c, h1, h2, h3, h4, h5, h6⟩
  · intro p e s m args below meth c s₁ B hml hP _
    have hh0 : s₁.heap = s.heap := by rw [B.state]; rfl
    obtain ⟨t, a1, o, b1, b2, b3⟩ := body p e s m args below meth c s₁ B hml hP s₁ hh0 (Stand.of_body B)
    exact ⟨t, o, a1, b1, b2, b3⟩
/-! ===== END ===== -/
end
section
/-! ===== BEGIN printed: names, fields, word lists, decode rows ===== -/
def RX0 : String := "SkyAdvisor$Aircraft"
def TX0 : u_T := fun k => match k with
  | 0 => ("SkyAdvisor$Aircraft", "there", "Z", false)
  | 1 => ("SkyAdvisor$Aircraft", "follows", "Z", false)
  | 2 => ("SkyAdvisor$Aircraft", "x", "I", false)
  | 3 => ("SkyAdvisor$Aircraft", "y", "I", false)
  | 4 => ("SkyAdvisor$Aircraft", "z", "I", false)
  | 5 => ("SkyAdvisor$Aircraft", "vx", "I", false)
  | 6 => ("SkyAdvisor$Aircraft", "vy", "I", false)
  | _ => ("SkyAdvisor$Aircraft", "vz", "I", false)
def tyX0 : Nat → FieldType := fun k => match k with
  | 0 => .boolean
  | 1 => .boolean
  | 2 => .int
  | 3 => .int
  | 4 => .int
  | 5 => .int
  | 6 => .int
  | _ => .int
abbrev wsX00 : List Cond := u_ws RX0 TX0 8
theorem nmX0 : ∀ a, a < 8 → ∀ b, b < 8 → a ≠ b → (TX0 a).2.1 ≠ (TX0 b).2.1 := by decide +kernel
theorem tyX0_ok : ∀ k, k < 8 → parseFieldDescriptor (TX0 k).2.2.1 = some (tyX0 k) := by decide +kernel
abbrev cX0_init : ByteArray := prog_2_method_1_code
def yX0_init : MethodName := ⟨RX0, "<init>", "()V"⟩
abbrev cX0_isPlace : ByteArray := prog_2_method_2_code
def yX0_isPlace : MethodName := ⟨RX0, "isPlace", "(III)Z"⟩
abbrev cX0_isSpeed : ByteArray := prog_2_method_3_code
def yX0_isSpeed : MethodName := ⟨RX0, "isSpeed", "(III)Z"⟩
abbrev cX0_isWithin : ByteArray := prog_2_method_4_code
def yX0_isWithin : MethodName := ⟨RX0, "isWithin", "(II)Z"⟩
abbrev cX0_stopAt : ByteArray := prog_2_method_5_code
def yX0_stopAt : MethodName := ⟨RX0, "stopAt", "(II)I"⟩
abbrev cX0_putAt : ByteArray := prog_2_method_6_code
def yX0_putAt : MethodName := ⟨RX0, "putAt", "(III)V"⟩
abbrev cX0_flyWith : ByteArray := prog_2_method_7_code
def yX0_flyWith : MethodName := ⟨RX0, "flyWith", "(III)V"⟩
abbrev cX0_move : ByteArray := prog_2_method_8_code
def yX0_move : MethodName := ⟨RX0, "move", "()V"⟩
abbrev cX0_pull : ByteArray := prog_2_method_9_code
def yX0_pull : MethodName := ⟨RX0, "pull", "(III)V"⟩
abbrev cX0_levelOff : ByteArray := prog_2_method_10_code
def yX0_levelOff : MethodName := ⟨RX0, "levelOff", "(I)V"⟩
abbrev cX0_heightGoingUp : ByteArray := prog_2_method_11_code
def yX0_heightGoingUp : MethodName := ⟨RX0, "heightGoingUp", "(III)I"⟩
abbrev cX0_heightGoingDown : ByteArray := prog_2_method_12_code
def yX0_heightGoingDown : MethodName := ⟨RX0, "heightGoingDown", "(III)I"⟩
abbrev cX0_answer : ByteArray := prog_2_method_13_code
def yX0_answer : MethodName := ⟨RX0, "answer", "(I)I"⟩
def RX1 : String := "SkyAdvisor$Pair"
def TX1 : u_T := fun k => match k with
  | 0 => ("SkyAdvisor$Pair", "first", "LSkyAdvisor$Aircraft;", true)
  | 1 => ("SkyAdvisor$Pair", "second", "LSkyAdvisor$Aircraft;", true)
  | 2 => ("SkyAdvisor$Pair", "settings", "LSkyAdvisor$Settings;", true)
  | 3 => ("SkyAdvisor$Pair", "tally", "LSkyAdvisor$Tally;", true)
  | 4 => ("SkyAdvisor$Pair", "leastDistance", "J", false)
  | 5 => ("SkyAdvisor$Pair", "leastHeight", "I", false)
  | 6 => ("SkyAdvisor$Pair", "sense", "Z", false)
  | 7 => ("SkyAdvisor$Pair", "stood", "I", false)
  | 8 => ("SkyAdvisor$Pair", "turned", "Z", false)
  | 9 => ("SkyAdvisor$Pair", "advised", "Z", false)
  | _ => ("SkyAdvisor$Pair", "strength", "I", false)
def tyX1 : Nat → FieldType := fun k => match k with
  | 0 => .object "SkyAdvisor$Aircraft"
  | 1 => .object "SkyAdvisor$Aircraft"
  | 2 => .object "SkyAdvisor$Settings"
  | 3 => .object "SkyAdvisor$Tally"
  | 4 => .long
  | 5 => .int
  | 6 => .boolean
  | 7 => .int
  | 8 => .boolean
  | 9 => .boolean
  | _ => .int
abbrev wsX10 : List Cond := u_ws RX1 TX1 11
theorem nmX1 : ∀ a, a < 11 → ∀ b, b < 11 → a ≠ b → (TX1 a).2.1 ≠ (TX1 b).2.1 := by decide +kernel
theorem tyX1_ok : ∀ k, k < 11 → parseFieldDescriptor (TX1 k).2.2.1 = some (tyX1 k) := by decide +kernel
abbrev cX1_init : ByteArray := prog_3_method_1_code
def yX1_init : MethodName := ⟨RX1, "<init>", "(LSkyAdvisor$Aircraft;LSkyAdvisor$Aircraft;LSkyAdvisor$Settings;LSkyAdvisor$Tally;)V"⟩
abbrev cX1_isThere : ByteArray := prog_3_method_2_code
def yX1_isThere : MethodName := ⟨RX1, "isThere", "()Z"⟩
abbrev cX1_has : ByteArray := prog_3_method_3_code
def yX1_has : MethodName := ⟨RX1, "has", "(LSkyAdvisor$Aircraft;)Z"⟩
abbrev cX1_isHeeded : ByteArray := prog_3_method_4_code
def yX1_isHeeded : MethodName := ⟨RX1, "isHeeded", "()Z"⟩
abbrev cX1_sendsUp : ByteArray := prog_3_method_5_code
def yX1_sendsUp : MethodName := ⟨RX1, "sendsUp", "(LSkyAdvisor$Aircraft;)Z"⟩
abbrev cX1_dropAdvice : ByteArray := prog_3_method_6_code
def yX1_dropAdvice : MethodName := ⟨RX1, "dropAdvice", "()V"⟩
abbrev cX1_restartLeast : ByteArray := prog_3_method_7_code
def yX1_restartLeast : MethodName := ⟨RX1, "restartLeast", "()V"⟩
abbrev cX1_lookAtLeast : ByteArray := prog_3_method_8_code
def yX1_lookAtLeast : MethodName := ⟨RX1, "lookAtLeast", "()V"⟩
abbrev cX1_review : ByteArray := prog_3_method_9_code
def yX1_review : MethodName := ⟨RX1, "review", "()V"⟩
abbrev cX1_takeSense : ByteArray := prog_3_method_10_code
def yX1_takeSense : MethodName := ⟨RX1, "takeSense", "(ZI)V"⟩
abbrev cX1_strengthen : ByteArray := prog_3_method_11_code
def yX1_strengthen : MethodName := ⟨RX1, "strengthen", "(I)V"⟩
abbrev cX1_mustTurn : ByteArray := prog_3_method_12_code
def yX1_mustTurn : MethodName := ⟨RX1, "mustTurn", "(I)Z"⟩
abbrev cX1_answer : ByteArray := prog_3_method_13_code
def yX1_answer : MethodName := ⟨RX1, "answer", "(IZ)I"⟩
abbrev cX1_senseFor : ByteArray := prog_3_method_14_code
def yX1_senseFor : MethodName := ⟨RX1, "senseFor", "(ZZ)I"⟩
abbrev cX1_alerts : ByteArray := prog_3_method_15_code
def yX1_alerts : MethodName := ⟨RX1, "alerts", "()Z"⟩
abbrev cX1_isNear : ByteArray := prog_3_method_16_code
def yX1_isNear : MethodName := ⟨RX1, "isNear", "()Z"⟩
abbrev cX1_comesNearInTime : ByteArray := prog_3_method_17_code
def yX1_comesNearInTime : MethodName := ⟨RX1, "comesNearInTime", "()Z"⟩
abbrev cX1_passesNear : ByteArray := prog_3_method_18_code
def yX1_passesNear : MethodName := ⟨RX1, "passesNear", "()Z"⟩
abbrev cX1_meetsInHeight : ByteArray := prog_3_method_19_code
def yX1_meetsInHeight : MethodName := ⟨RX1, "meetsInHeight", "()Z"⟩
abbrev cX1_nearSquared : ByteArray := prog_3_method_20_code
def yX1_nearSquared : MethodName := ⟨RX1, "nearSquared", "()J"⟩
abbrev cX1_distanceSquared : ByteArray := prog_3_method_21_code
def yX1_distanceSquared : MethodName := ⟨RX1, "distanceSquared", "()J"⟩
abbrev cX1_heightBetween : ByteArray := prog_3_method_22_code
def yX1_heightBetween : MethodName := ⟨RX1, "heightBetween", "()I"⟩
abbrev cX1_closing : ByteArray := prog_3_method_23_code
def yX1_closing : MethodName := ⟨RX1, "closing", "()J"⟩
abbrev cX1_timeLeft : ByteArray := prog_3_method_24_code
def yX1_timeLeft : MethodName := ⟨RX1, "timeLeft", "()I"⟩
abbrev cX1_parting : ByteArray := prog_3_method_25_code
def yX1_parting : MethodName := ⟨RX1, "parting", "(ZIII)I"⟩
abbrev cX1_enough : ByteArray := prog_3_method_26_code
def yX1_enough : MethodName := ⟨RX1, "enough", "(ZIII)I"⟩
abbrev cX1_chosenSense : ByteArray := prog_3_method_27_code
def yX1_chosenSense : MethodName := ⟨RX1, "chosenSense", "(I)Z"⟩
abbrev cX1_chosenParting : ByteArray := prog_3_method_28_code
def yX1_chosenParting : MethodName := ⟨RX1, "chosenParting", "(I)I"⟩
def RX2 : String := "SkyAdvisor$Settings"
def TX2 : u_T := fun k => match k with
  | _ => ("SkyAdvisor$Settings", "values", "[I", true)
def tyX2 : Nat → FieldType := fun k => match k with
  | _ => .array .int
abbrev wsX20 : List Cond := u_ws RX2 TX2 1
theorem nmX2 : ∀ a, a < 1 → ∀ b, b < 1 → a ≠ b → (TX2 a).2.1 ≠ (TX2 b).2.1 := by decide +kernel
theorem tyX2_ok : ∀ k, k < 1 → parseFieldDescriptor (TX2 k).2.2.1 = some (tyX2 k) := by decide +kernel
abbrev cX2_init : ByteArray := prog_4_method_1_code
def yX2_init : MethodName := ⟨RX2, "<init>", "()V"⟩
abbrev cX2_allows : ByteArray := prog_4_method_2_code
def yX2_allows : MethodName := ⟨RX2, "allows", "(II)Z"⟩
abbrev cX2_exchange : ByteArray := prog_4_method_3_code
def yX2_exchange : MethodName := ⟨RX2, "exchange", "(II)I"⟩
abbrev cX2_time : ByteArray := prog_4_method_4_code
def yX2_time : MethodName := ⟨RX2, "time", "()I"⟩
abbrev cX2_near : ByteArray := prog_4_method_5_code
def yX2_near : MethodName := ⟨RX2, "near", "()I"⟩
abbrev cX2_miss : ByteArray := prog_4_method_6_code
def yX2_miss : MethodName := ⟨RX2, "miss", "()I"⟩
abbrev cX2_high : ByteArray := prog_4_method_7_code
def yX2_high : MethodName := ⟨RX2, "high", "()I"⟩
abbrev cX2_wanted : ByteArray := prog_4_method_8_code
def yX2_wanted : MethodName := ⟨RX2, "wanted", "()I"⟩
abbrev cX2_delay : ByteArray := prog_4_method_9_code
def yX2_delay : MethodName := ⟨RX2, "delay", "()I"⟩
abbrev cX2_pull : ByteArray := prog_4_method_10_code
def yX2_pull : MethodName := ⟨RX2, "pull", "()I"⟩
def RX3 : String := "SkyAdvisor$Tally"
def TX3 : u_T := fun k => match k with
  | 0 => ("SkyAdvisor$Tally", "begun", "I", false)
  | 1 => ("SkyAdvisor$Tally", "turned", "I", false)
  | 2 => ("SkyAdvisor$Tally", "strengthened", "I", false)
  | 3 => ("SkyAdvisor$Tally", "ended", "I", false)
  | _ => ("SkyAdvisor$Tally", "seconds", "I", false)
def tyX3 : Nat → FieldType := fun k => match k with
  | 0 => .int
  | 1 => .int
  | 2 => .int
  | 3 => .int
  | _ => .int
abbrev wsX30 : List Cond := u_ws RX3 TX3 5
theorem nmX3 : ∀ a, a < 5 → ∀ b, b < 5 → a ≠ b → (TX3 a).2.1 ≠ (TX3 b).2.1 := by decide +kernel
theorem tyX3_ok : ∀ k, k < 5 → parseFieldDescriptor (TX3 k).2.2.1 = some (tyX3 k) := by decide +kernel
abbrev cX3_init : ByteArray := prog_5_method_1_code
def yX3_init : MethodName := ⟨RX3, "<init>", "()V"⟩
abbrev cX3_answer : ByteArray := prog_5_method_2_code
def yX3_answer : MethodName := ⟨RX3, "answer", "(I)I"⟩
def RX4 : String := "SkyAdvisor"
def TX4 : u_T := fun k => match k with
  | 0 => ("SkyAdvisor", "settings", "LSkyAdvisor$Settings;", true)
  | 1 => ("SkyAdvisor", "tally", "LSkyAdvisor$Tally;", true)
  | 2 => ("SkyAdvisor", "fleet", "[LSkyAdvisor$Aircraft;", true)
  | _ => ("SkyAdvisor", "pairs", "[LSkyAdvisor$Pair;", true)
def tyX4 : Nat → FieldType := fun k => match k with
  | 0 => .object "SkyAdvisor$Settings"
  | 1 => .object "SkyAdvisor$Tally"
  | 2 => .array (.object "SkyAdvisor$Aircraft")
  | _ => .array (.object "SkyAdvisor$Pair")
abbrev wsX40 : List Cond := u_ws RX4 TX4 4
theorem nmX4 : ∀ a, a < 4 → ∀ b, b < 4 → a ≠ b → (TX4 a).2.1 ≠ (TX4 b).2.1 := by decide +kernel
theorem tyX4_ok : ∀ k, k < 4 → parseFieldDescriptor (TX4 k).2.2.1 = some (tyX4 k) := by decide +kernel
abbrev cX4_init : ByteArray := prog_1_method_1_code
def yX4_init : MethodName := ⟨RX4, "<init>", "()V"⟩
abbrev cX4_set : ByteArray := prog_1_method_2_code
def yX4_set : MethodName := ⟨RX4, "set", "(II)I"⟩
abbrev cX4_place : ByteArray := prog_1_method_3_code
def yX4_place : MethodName := ⟨RX4, "place", "(IIII)V"⟩
abbrev cX4_speed : ByteArray := prog_1_method_4_code
def yX4_speed : MethodName := ⟨RX4, "speed", "(IIII)V"⟩
abbrev cX4_follow : ByteArray := prog_1_method_5_code
def yX4_follow : MethodName := ⟨RX4, "follow", "(IZ)V"⟩
abbrev cX4_leave : ByteArray := prog_1_method_6_code
def yX4_leave : MethodName := ⟨RX4, "leave", "(I)V"⟩
abbrev cX4_step : ByteArray := prog_1_method_7_code
def yX4_step : MethodName := ⟨RX4, "step", "(I)I"⟩
abbrev cX4_told : ByteArray := prog_1_method_8_code
def yX4_told : MethodName := ⟨RX4, "told", "(II)I"⟩
abbrev cX4_pair : ByteArray := prog_1_method_9_code
def yX4_pair : MethodName := ⟨RX4, "pair", "(III)I"⟩
abbrev cX4_all : ByteArray := prog_1_method_10_code
def yX4_all : MethodName := ⟨RX4, "all", "(I)I"⟩
abbrev cX4_isNumber : ByteArray := prog_1_method_11_code
def yX4_isNumber : MethodName := ⟨RX4, "isNumber", "(I)Z"⟩
abbrev cX4_isThere : ByteArray := prog_1_method_12_code
def yX4_isThere : MethodName := ⟨RX4, "isThere", "(I)Z"⟩
abbrev cX4_pairNumber : ByteArray := prog_1_method_13_code
def yX4_pairNumber : MethodName := ⟨RX4, "pairNumber", "(II)I"⟩
abbrev cX4_dropAdviceOf : ByteArray := prog_1_method_14_code
def yX4_dropAdviceOf : MethodName := ⟨RX4, "dropAdviceOf", "(LSkyAdvisor$Aircraft;)V"⟩
abbrev cX4_restartLeastOf : ByteArray := prog_1_method_15_code
def yX4_restartLeastOf : MethodName := ⟨RX4, "restartLeastOf", "(LSkyAdvisor$Aircraft;)V"⟩
abbrev cX4_passSecond : ByteArray := prog_1_method_16_code
def yX4_passSecond : MethodName := ⟨RX4, "passSecond", "()V"⟩
abbrev cX4_heedAdvice : ByteArray := prog_1_method_17_code
def yX4_heedAdvice : MethodName := ⟨RX4, "heedAdvice", "(LSkyAdvisor$Aircraft;)V"⟩
abbrev cX4_countAdvised : ByteArray := prog_1_method_18_code
def yX4_countAdvised : MethodName := ⟨RX4, "countAdvised", "()I"⟩
def RX5 : String := "SkyAdvisorModel"
def TX5 : u_T := fun k => match k with
  | 0 => ("SkyAdvisorModel", "thrown", "I", false)
  | 1 => ("SkyAdvisorModel", "settings", "[I", true)
  | 2 => ("SkyAdvisorModel", "there", "[Z", true)
  | 3 => ("SkyAdvisorModel", "follows", "[Z", true)
  | 4 => ("SkyAdvisorModel", "track", "[I", true)
  | 5 => ("SkyAdvisorModel", "sense", "[I", true)
  | 6 => ("SkyAdvisorModel", "strength", "[I", true)
  | 7 => ("SkyAdvisorModel", "stood", "[I", true)
  | 8 => ("SkyAdvisorModel", "turned", "[Z", true)
  | 9 => ("SkyAdvisorModel", "nearest", "[J", true)
  | 10 => ("SkyAdvisorModel", "lowest", "[I", true)
  | 11 => ("SkyAdvisorModel", "counts", "[I", true)
  | 12 => ("SkyAdvisorModel", "one", "I", false)
  | 13 => ("SkyAdvisorModel", "other", "I", false)
  | 14 => ("SkyAdvisorModel", "x", "J", false)
  | 15 => ("SkyAdvisorModel", "y", "J", false)
  | 16 => ("SkyAdvisorModel", "z", "J", false)
  | 17 => ("SkyAdvisorModel", "u", "J", false)
  | 18 => ("SkyAdvisorModel", "v", "J", false)
  | 19 => ("SkyAdvisorModel", "w", "J", false)
  | 20 => ("SkyAdvisorModel", "closing", "J", false)
  | _ => ("SkyAdvisorModel", "left", "J", false)
def tyX5 : Nat → FieldType := fun k => match k with
  | 0 => .int
  | 1 => .array .int
  | 2 => .array .boolean
  | 3 => .array .boolean
  | 4 => .array .int
  | 5 => .array .int
  | 6 => .array .int
  | 7 => .array .int
  | 8 => .array .boolean
  | 9 => .array .long
  | 10 => .array .int
  | 11 => .array .int
  | 12 => .int
  | 13 => .int
  | 14 => .long
  | 15 => .long
  | 16 => .long
  | 17 => .long
  | 18 => .long
  | 19 => .long
  | 20 => .long
  | _ => .long
abbrev wsX50 : List Cond := u_ws RX5 TX5 22
theorem nmX5 : ∀ a, a < 22 → ∀ b, b < 22 → a ≠ b → (TX5 a).2.1 ≠ (TX5 b).2.1 := by decide +kernel
theorem tyX5_ok : ∀ k, k < 22 → parseFieldDescriptor (TX5 k).2.2.1 = some (tyX5 k) := by decide +kernel
abbrev cX5_init : ByteArray := prog_7_method_1_code
def yX5_init : MethodName := ⟨RX5, "<init>", "()V"⟩
abbrev cX5_thrown : ByteArray := prog_7_method_2_code
def yX5_thrown : MethodName := ⟨RX5, "thrown", "()I"⟩
abbrev cX5_set : ByteArray := prog_7_method_3_code
def yX5_set : MethodName := ⟨RX5, "set", "(II)I"⟩
abbrev cX5_isNumber : ByteArray := prog_7_method_4_code
def yX5_isNumber : MethodName := ⟨RX5, "isNumber", "(I)Z"⟩
abbrev cX5_isThere : ByteArray := prog_7_method_5_code
def yX5_isThere : MethodName := ⟨RX5, "isThere", "(I)Z"⟩
abbrev cX5_within : ByteArray := prog_7_method_6_code
def yX5_within : MethodName := ⟨RX5, "within", "(II)Z"⟩
abbrev cX5_pairOf : ByteArray := prog_7_method_7_code
def yX5_pairOf : MethodName := ⟨RX5, "pairOf", "(II)I"⟩
abbrev cX5_endAll : ByteArray := prog_7_method_8_code
def yX5_endAll : MethodName := ⟨RX5, "endAll", "(I)V"⟩
abbrev cX5_measure : ByteArray := prog_7_method_9_code
def yX5_measure : MethodName := ⟨RX5, "measure", "(II)V"⟩
abbrev cX5_place : ByteArray := prog_7_method_10_code
def yX5_place : MethodName := ⟨RX5, "place", "(IIII)V"⟩
abbrev cX5_speed : ByteArray := prog_7_method_11_code
def yX5_speed : MethodName := ⟨RX5, "speed", "(IIII)V"⟩
abbrev cX5_follow : ByteArray := prog_7_method_12_code
def yX5_follow : MethodName := ⟨RX5, "follow", "(IZ)V"⟩
abbrev cX5_leave : ByteArray := prog_7_method_13_code
def yX5_leave : MethodName := ⟨RX5, "leave", "(I)V"⟩
abbrev cX5_look : ByteArray := prog_7_method_14_code
def yX5_look : MethodName := ⟨RX5, "look", "(II)V"⟩
abbrev cX5_plain : ByteArray := prog_7_method_15_code
def yX5_plain : MethodName := ⟨RX5, "plain", "(J)J"⟩
abbrev cX5_alerts : ByteArray := prog_7_method_16_code
def yX5_alerts : MethodName := ⟨RX5, "alerts", "()Z"⟩
abbrev cX5_height : ByteArray := prog_7_method_17_code
def yX5_height : MethodName := ⟨RX5, "height", "(IZII)J"⟩
abbrev cX5_part : ByteArray := prog_7_method_18_code
def yX5_part : MethodName := ⟨RX5, "part", "(III)J"⟩
abbrev cX5_enough : ByteArray := prog_7_method_19_code
def yX5_enough : MethodName := ⟨RX5, "enough", "(III)I"⟩
abbrev cX5_chosen : ByteArray := prog_7_method_20_code
def yX5_chosen : MethodName := ⟨RX5, "chosen", "()I"⟩
abbrev cX5_bounded : ByteArray := prog_7_method_21_code
def yX5_bounded : MethodName := ⟨RX5, "bounded", "(II)I"⟩
abbrev cX5_move : ByteArray := prog_7_method_22_code
def yX5_move : MethodName := ⟨RX5, "move", "()V"⟩
abbrev cX5_obey : ByteArray := prog_7_method_23_code
def yX5_obey : MethodName := ⟨RX5, "obey", "(I)V"⟩
abbrev cX5_begin : ByteArray := prog_7_method_24_code
def yX5_begin : MethodName := ⟨RX5, "begin", "(II)V"⟩
abbrev cX5_advise : ByteArray := prog_7_method_25_code
def yX5_advise : MethodName := ⟨RX5, "advise", "(I)V"⟩
abbrev cX5_step : ByteArray := prog_7_method_26_code
def yX5_step : MethodName := ⟨RX5, "step", "(I)I"⟩
abbrev cX5_told : ByteArray := prog_7_method_27_code
def yX5_told : MethodName := ⟨RX5, "told", "(II)I"⟩
abbrev cX5_forFirst : ByteArray := prog_7_method_28_code
def yX5_forFirst : MethodName := ⟨RX5, "forFirst", "(IZ)I"⟩
abbrev cX5_pair : ByteArray := prog_7_method_29_code
def yX5_pair : MethodName := ⟨RX5, "pair", "(III)I"⟩
abbrev cX5_all : ByteArray := prog_7_method_30_code
def yX5_all : MethodName := ⟨RX5, "all", "(I)I"⟩
def RJx8e188 : String := "java/lang/Cloneable"
def TJx8e188 : u_T := fun k => match k with
  | _ => ("", "", "", false)
def tyJx8e188 : Nat → FieldType := fun k => match k with
  | _ => .int
abbrev wsJx8e1880 : List Cond := u_ws RJx8e188 TJx8e188 0
theorem nmJx8e188 : ∀ a, a < 0 → ∀ b, b < 0 → a ≠ b → (TJx8e188 a).2.1 ≠ (TJx8e188 b).2.1 := by decide +kernel
theorem tyJx8e188_ok : ∀ k, k < 0 → parseFieldDescriptor (TJx8e188 k).2.2.1 = some (tyJx8e188 k) := by decide +kernel
def RJ9 : String := "java/lang/Math"
def TJ9 : u_T := fun k => match k with
  | _ => ("", "", "", false)
def tyJ9 : Nat → FieldType := fun k => match k with
  | _ => .int
abbrev wsJ90 : List Cond := u_ws RJ9 TJ9 0
theorem nmJ9 : ∀ a, a < 0 → ∀ b, b < 0 → a ≠ b → (TJ9 a).2.1 ≠ (TJ9 b).2.1 := by decide +kernel
theorem tyJ9_ok : ∀ k, k < 0 → parseFieldDescriptor (TJ9 k).2.2.1 = some (tyJ9 k) := by decide +kernel
abbrev cJ9_abs_0f7a4 : ByteArray := prog_11_method_59_code
def yJ9_abs_0f7a4 : MethodName := ⟨RJ9, "abs", "(I)I"⟩
abbrev cJ9_max_7cf53 : ByteArray := prog_11_method_65_code
def yJ9_max_7cf53 : MethodName := ⟨RJ9, "max", "(II)I"⟩
abbrev cJ9_min_7cf53 : ByteArray := prog_11_method_69_code
def yJ9_min_7cf53 : MethodName := ⟨RJ9, "min", "(II)I"⟩
abbrev cJ9_min_f86c9 : ByteArray := prog_11_method_70_code
def yJ9_min_f86c9 : MethodName := ⟨RJ9, "min", "(JJ)J"⟩
def RJ0 : String := "java/lang/String"
def TJ0 : u_T := fun k => match k with
  | _ => ("", "", "", false)
def tyJ0 : Nat → FieldType := fun k => match k with
  | _ => .int
abbrev wsJ00 : List Cond := u_ws RJ0 TJ0 0
theorem nmJ0 : ∀ a, a < 0 → ∀ b, b < 0 → a ≠ b → (TJ0 a).2.1 ≠ (TJ0 b).2.1 := by decide +kernel
theorem tyJ0_ok : ∀ k, k < 0 → parseFieldDescriptor (TJ0 k).2.2.1 = some (tyJ0 k) := by decide +kernel
def RL : String := "SkyAdvisorLaw"
abbrev cL_set : ByteArray := method_3_code
def yL_set : MethodName := ⟨RL, "set", "(LSkyAdvisor;II[J)I"⟩
abbrev cL_place : ByteArray := method_4_code
def yL_place : MethodName := ⟨RL, "place", "(LSkyAdvisor;IIII)I"⟩
abbrev cL_speed : ByteArray := method_5_code
def yL_speed : MethodName := ⟨RL, "speed", "(LSkyAdvisor;IIII)I"⟩
abbrev cL_follow : ByteArray := method_6_code
def yL_follow : MethodName := ⟨RL, "follow", "(LSkyAdvisor;IZ)I"⟩
abbrev cL_leave : ByteArray := method_7_code
def yL_leave : MethodName := ⟨RL, "leave", "(LSkyAdvisor;I)I"⟩
abbrev cL_step : ByteArray := method_8_code
def yL_step : MethodName := ⟨RL, "step", "(LSkyAdvisor;I[J)I"⟩
abbrev cL_told : ByteArray := method_9_code
def yL_told : MethodName := ⟨RL, "told", "(LSkyAdvisor;II[J)I"⟩
abbrev cL_pair : ByteArray := method_10_code
def yL_pair : MethodName := ⟨RL, "pair", "(LSkyAdvisor;III[J)I"⟩
abbrev cL_all : ByteArray := method_11_code
def yL_all : MethodName := ⟨RL, "all", "(LSkyAdvisor;I[J)I"⟩
abbrev cL_law : ByteArray := code
def yL_law : MethodName := ⟨RL, "law", "([I)Z"⟩
abbrev vwCl : List vw_C := [(RX0, TX0, 8), (RX1, TX1, 11), (RX2, TX2, 1), (RX3, TX3, 5), (RX4, TX4, 4), (RX5, TX5, 22)]
end
section
theorem dX0_init_0 : decode cX0_init 0 = .ok (.aload_n 0, 1) := by decide +kernel
theorem dX0_init_1 : decode cX0_init 1 = .ok (.invokespecial 1, 3) := by decide +kernel
theorem dX0_init_4 : decode cX0_init 4 = .ok (.return_, 1) := by decide +kernel
theorem dX0_isPlace_0 : decode cX0_isPlace 0 = .ok (.iload_n 0, 1) := by decide +kernel
theorem dX0_isPlace_1 : decode cX0_isPlace 1 = .ok (.ldc 9, 2) := by decide +kernel
theorem dX0_isPlace_3 : decode cX0_isPlace 3 = .ok (.invokestatic 10, 3) := by decide +kernel
theorem dX0_isPlace_6 : decode cX0_isPlace 6 = .ok (.ifCond .eq 26, 3) := by decide +kernel
theorem dX0_isPlace_9 : decode cX0_isPlace 9 = .ok (.iload_n 1, 1) := by decide +kernel
theorem dX0_isPlace_10 : decode cX0_isPlace 10 = .ok (.ldc 9, 2) := by decide +kernel
theorem dX0_isPlace_12 : decode cX0_isPlace 12 = .ok (.invokestatic 10, 3) := by decide +kernel
theorem dX0_isPlace_15 : decode cX0_isPlace 15 = .ok (.ifCond .eq 17, 3) := by decide +kernel
theorem dX0_isPlace_18 : decode cX0_isPlace 18 = .ok (.iload_n 2, 1) := by decide +kernel
theorem dX0_isPlace_19 : decode cX0_isPlace 19 = .ok (.sipush 20000, 3) := by decide +kernel
theorem dX0_isPlace_22 : decode cX0_isPlace 22 = .ok (.invokestatic 10, 3) := by decide +kernel
theorem dX0_isPlace_25 : decode cX0_isPlace 25 = .ok (.ifCond .eq 7, 3) := by decide +kernel
theorem dX0_isPlace_28 : decode cX0_isPlace 28 = .ok (.iconst 1, 1) := by decide +kernel
theorem dX0_isPlace_29 : decode cX0_isPlace 29 = .ok (.goto 4, 3) := by decide +kernel
theorem dX0_isPlace_32 : decode cX0_isPlace 32 = .ok (.iconst 0, 1) := by decide +kernel
theorem dX0_isPlace_33 : decode cX0_isPlace 33 = .ok (.ireturn, 1) := by decide +kernel
theorem dX0_isSpeed_0 : decode cX0_isSpeed 0 = .ok (.iload_n 0, 1) := by decide +kernel
theorem dX0_isSpeed_1 : decode cX0_isSpeed 1 = .ok (.sipush 500, 3) := by decide +kernel
theorem dX0_isSpeed_4 : decode cX0_isSpeed 4 = .ok (.invokestatic 10, 3) := by decide +kernel
theorem dX0_isSpeed_7 : decode cX0_isSpeed 7 = .ok (.ifCond .eq 26, 3) := by decide +kernel
theorem dX0_isSpeed_10 : decode cX0_isSpeed 10 = .ok (.iload_n 1, 1) := by decide +kernel
theorem dX0_isSpeed_11 : decode cX0_isSpeed 11 = .ok (.sipush 500, 3) := by decide +kernel
theorem dX0_isSpeed_14 : decode cX0_isSpeed 14 = .ok (.invokestatic 10, 3) := by decide +kernel
theorem dX0_isSpeed_17 : decode cX0_isSpeed 17 = .ok (.ifCond .eq 16, 3) := by decide +kernel
theorem dX0_isSpeed_20 : decode cX0_isSpeed 20 = .ok (.iload_n 2, 1) := by decide +kernel
theorem dX0_isSpeed_21 : decode cX0_isSpeed 21 = .ok (.bipush 60, 2) := by decide +kernel
theorem dX0_isSpeed_23 : decode cX0_isSpeed 23 = .ok (.invokestatic 10, 3) := by decide +kernel
theorem dX0_isSpeed_26 : decode cX0_isSpeed 26 = .ok (.ifCond .eq 7, 3) := by decide +kernel
theorem dX0_isSpeed_29 : decode cX0_isSpeed 29 = .ok (.iconst 1, 1) := by decide +kernel
theorem dX0_isSpeed_30 : decode cX0_isSpeed 30 = .ok (.goto 4, 3) := by decide +kernel
theorem dX0_isSpeed_33 : decode cX0_isSpeed 33 = .ok (.iconst 0, 1) := by decide +kernel
theorem dX0_isSpeed_34 : decode cX0_isSpeed 34 = .ok (.ireturn, 1) := by decide +kernel
theorem dX0_isWithin_0 : decode cX0_isWithin 0 = .ok (.iload_n 0, 1) := by decide +kernel
theorem dX0_isWithin_1 : decode cX0_isWithin 1 = .ok (.iload_n 1, 1) := by decide +kernel
theorem dX0_isWithin_2 : decode cX0_isWithin 2 = .ok (.ineg, 1) := by decide +kernel
theorem dX0_isWithin_3 : decode cX0_isWithin 3 = .ok (.if_icmp .lt 12, 3) := by decide +kernel
theorem dX0_isWithin_6 : decode cX0_isWithin 6 = .ok (.iload_n 0, 1) := by decide +kernel
theorem dX0_isWithin_7 : decode cX0_isWithin 7 = .ok (.iload_n 1, 1) := by decide +kernel
theorem dX0_isWithin_8 : decode cX0_isWithin 8 = .ok (.if_icmp .gt 7, 3) := by decide +kernel
theorem dX0_isWithin_11 : decode cX0_isWithin 11 = .ok (.iconst 1, 1) := by decide +kernel
theorem dX0_isWithin_12 : decode cX0_isWithin 12 = .ok (.goto 4, 3) := by decide +kernel
theorem dX0_isWithin_15 : decode cX0_isWithin 15 = .ok (.iconst 0, 1) := by decide +kernel
theorem dX0_isWithin_16 : decode cX0_isWithin 16 = .ok (.ireturn, 1) := by decide +kernel
theorem dX0_stopAt_0 : decode cX0_stopAt 0 = .ok (.iload_n 1, 1) := by decide +kernel
theorem dX0_stopAt_1 : decode cX0_stopAt 1 = .ok (.ineg, 1) := by decide +kernel
theorem dX0_stopAt_2 : decode cX0_stopAt 2 = .ok (.iload_n 1, 1) := by decide +kernel
theorem dX0_stopAt_3 : decode cX0_stopAt 3 = .ok (.iload_n 0, 1) := by decide +kernel
theorem dX0_stopAt_4 : decode cX0_stopAt 4 = .ok (.invokestatic 14, 3) := by decide +kernel
theorem dX0_stopAt_7 : decode cX0_stopAt 7 = .ok (.invokestatic 20, 3) := by decide +kernel
theorem dX0_stopAt_10 : decode cX0_stopAt 10 = .ok (.ireturn, 1) := by decide +kernel
theorem dX0_putAt_0 : decode cX0_putAt 0 = .ok (.aload_n 0, 1) := by decide +kernel
theorem dX0_putAt_1 : decode cX0_putAt 1 = .ok (.getfield 23, 3) := by decide +kernel
theorem dX0_putAt_4 : decode cX0_putAt 4 = .ok (.ifCond .ne 20, 3) := by decide +kernel
theorem dX0_putAt_7 : decode cX0_putAt 7 = .ok (.aload_n 0, 1) := by decide +kernel
theorem dX0_putAt_8 : decode cX0_putAt 8 = .ok (.iconst 1, 1) := by decide +kernel
theorem dX0_putAt_9 : decode cX0_putAt 9 = .ok (.putfield 23, 3) := by decide +kernel
theorem dX0_putAt_12 : decode cX0_putAt 12 = .ok (.aload_n 0, 1) := by decide +kernel
theorem dX0_putAt_13 : decode cX0_putAt 13 = .ok (.iconst 1, 1) := by decide +kernel
theorem dX0_putAt_14 : decode cX0_putAt 14 = .ok (.putfield 27, 3) := by decide +kernel
theorem dX0_putAt_17 : decode cX0_putAt 17 = .ok (.aload_n 0, 1) := by decide +kernel
theorem dX0_putAt_18 : decode cX0_putAt 18 = .ok (.iconst 0, 1) := by decide +kernel
theorem dX0_putAt_19 : decode cX0_putAt 19 = .ok (.iconst 0, 1) := by decide +kernel
theorem dX0_putAt_20 : decode cX0_putAt 20 = .ok (.iconst 0, 1) := by decide +kernel
theorem dX0_putAt_21 : decode cX0_putAt 21 = .ok (.invokevirtual 30, 3) := by decide +kernel
theorem dX0_putAt_24 : decode cX0_putAt 24 = .ok (.aload_n 0, 1) := by decide +kernel
theorem dX0_putAt_25 : decode cX0_putAt 25 = .ok (.iload_n 1, 1) := by decide +kernel
theorem dX0_putAt_26 : decode cX0_putAt 26 = .ok (.putfield 34, 3) := by decide +kernel
theorem dX0_putAt_29 : decode cX0_putAt 29 = .ok (.aload_n 0, 1) := by decide +kernel
theorem dX0_putAt_30 : decode cX0_putAt 30 = .ok (.iload_n 2, 1) := by decide +kernel
theorem dX0_putAt_31 : decode cX0_putAt 31 = .ok (.putfield 38, 3) := by decide +kernel
theorem dX0_putAt_34 : decode cX0_putAt 34 = .ok (.aload_n 0, 1) := by decide +kernel
theorem dX0_putAt_35 : decode cX0_putAt 35 = .ok (.iload_n 3, 1) := by decide +kernel
theorem dX0_putAt_36 : decode cX0_putAt 36 = .ok (.putfield 41, 3) := by decide +kernel
theorem dX0_putAt_39 : decode cX0_putAt 39 = .ok (.return_, 1) := by decide +kernel
theorem dX0_flyWith_0 : decode cX0_flyWith 0 = .ok (.aload_n 0, 1) := by decide +kernel
theorem dX0_flyWith_1 : decode cX0_flyWith 1 = .ok (.iload_n 1, 1) := by decide +kernel
theorem dX0_flyWith_2 : decode cX0_flyWith 2 = .ok (.putfield 44, 3) := by decide +kernel
theorem dX0_flyWith_5 : decode cX0_flyWith 5 = .ok (.aload_n 0, 1) := by decide +kernel
theorem dX0_flyWith_6 : decode cX0_flyWith 6 = .ok (.iload_n 2, 1) := by decide +kernel
theorem dX0_flyWith_7 : decode cX0_flyWith 7 = .ok (.putfield 47, 3) := by decide +kernel
theorem dX0_flyWith_10 : decode cX0_flyWith 10 = .ok (.aload_n 0, 1) := by decide +kernel
theorem dX0_flyWith_11 : decode cX0_flyWith 11 = .ok (.iload_n 3, 1) := by decide +kernel
theorem dX0_flyWith_12 : decode cX0_flyWith 12 = .ok (.putfield 50, 3) := by decide +kernel
theorem dX0_flyWith_15 : decode cX0_flyWith 15 = .ok (.return_, 1) := by decide +kernel
theorem dX0_move_0 : decode cX0_move 0 = .ok (.aload_n 0, 1) := by decide +kernel
theorem dX0_move_1 : decode cX0_move 1 = .ok (.aload_n 0, 1) := by decide +kernel
theorem dX0_move_2 : decode cX0_move 2 = .ok (.getfield 34, 3) := by decide +kernel
theorem dX0_move_5 : decode cX0_move 5 = .ok (.aload_n 0, 1) := by decide +kernel
theorem dX0_move_6 : decode cX0_move 6 = .ok (.getfield 44, 3) := by decide +kernel
theorem dX0_move_9 : decode cX0_move 9 = .ok (.iadd, 1) := by decide +kernel
theorem dX0_move_10 : decode cX0_move 10 = .ok (.ldc 9, 2) := by decide +kernel
theorem dX0_move_12 : decode cX0_move 12 = .ok (.invokestatic 53, 3) := by decide +kernel
theorem dX0_move_15 : decode cX0_move 15 = .ok (.putfield 34, 3) := by decide +kernel
theorem dX0_move_18 : decode cX0_move 18 = .ok (.aload_n 0, 1) := by decide +kernel
theorem dX0_move_19 : decode cX0_move 19 = .ok (.aload_n 0, 1) := by decide +kernel
theorem dX0_move_20 : decode cX0_move 20 = .ok (.getfield 38, 3) := by decide +kernel
theorem dX0_move_23 : decode cX0_move 23 = .ok (.aload_n 0, 1) := by decide +kernel
theorem dX0_move_24 : decode cX0_move 24 = .ok (.getfield 47, 3) := by decide +kernel
theorem dX0_move_27 : decode cX0_move 27 = .ok (.iadd, 1) := by decide +kernel
theorem dX0_move_28 : decode cX0_move 28 = .ok (.ldc 9, 2) := by decide +kernel
theorem dX0_move_30 : decode cX0_move 30 = .ok (.invokestatic 53, 3) := by decide +kernel
theorem dX0_move_33 : decode cX0_move 33 = .ok (.putfield 38, 3) := by decide +kernel
theorem dX0_move_36 : decode cX0_move 36 = .ok (.aload_n 0, 1) := by decide +kernel
theorem dX0_move_37 : decode cX0_move 37 = .ok (.aload_n 0, 1) := by decide +kernel
theorem dX0_move_38 : decode cX0_move 38 = .ok (.getfield 41, 3) := by decide +kernel
theorem dX0_move_41 : decode cX0_move 41 = .ok (.aload_n 0, 1) := by decide +kernel
theorem dX0_move_42 : decode cX0_move 42 = .ok (.getfield 50, 3) := by decide +kernel
theorem dX0_move_45 : decode cX0_move 45 = .ok (.iadd, 1) := by decide +kernel
theorem dX0_move_46 : decode cX0_move 46 = .ok (.sipush 20000, 3) := by decide +kernel
theorem dX0_move_49 : decode cX0_move 49 = .ok (.invokestatic 53, 3) := by decide +kernel
theorem dX0_move_52 : decode cX0_move 52 = .ok (.putfield 41, 3) := by decide +kernel
theorem dX0_move_55 : decode cX0_move 55 = .ok (.return_, 1) := by decide +kernel
theorem dX0_pull_0 : decode cX0_pull 0 = .ok (.iload_n 1, 1) := by decide +kernel
theorem dX0_pull_1 : decode cX0_pull 1 = .ok (.ifCond .le 15, 3) := by decide +kernel
theorem dX0_pull_4 : decode cX0_pull 4 = .ok (.iload_n 2, 1) := by decide +kernel
theorem dX0_pull_5 : decode cX0_pull 5 = .ok (.ifCond .le 11, 3) := by decide +kernel
theorem dX0_pull_8 : decode cX0_pull 8 = .ok (.aload_n 0, 1) := by decide +kernel
theorem dX0_pull_9 : decode cX0_pull 9 = .ok (.iload_n 3, 1) := by decide +kernel
theorem dX0_pull_10 : decode cX0_pull 10 = .ok (.invokevirtual 56, 3) := by decide +kernel
theorem dX0_pull_13 : decode cX0_pull 13 = .ok (.goto 62, 3) := by decide +kernel
theorem dX0_pull_16 : decode cX0_pull 16 = .ok (.iload_n 1, 1) := by decide +kernel
theorem dX0_pull_17 : decode cX0_pull 17 = .ok (.ifCond .le 30, 3) := by decide +kernel
theorem dX0_pull_20 : decode cX0_pull 20 = .ok (.aload_n 0, 1) := by decide +kernel
theorem dX0_pull_21 : decode cX0_pull 21 = .ok (.aload_n 0, 1) := by decide +kernel
theorem dX0_pull_22 : decode cX0_pull 22 = .ok (.getfield 50, 3) := by decide +kernel
theorem dX0_pull_25 : decode cX0_pull 25 = .ok (.aload_n 0, 1) := by decide +kernel
theorem dX0_pull_26 : decode cX0_pull 26 = .ok (.getfield 50, 3) := by decide +kernel
theorem dX0_pull_29 : decode cX0_pull 29 = .ok (.iload_n 3, 1) := by decide +kernel
theorem dX0_pull_30 : decode cX0_pull 30 = .ok (.iadd, 1) := by decide +kernel
theorem dX0_pull_31 : decode cX0_pull 31 = .ok (.bipush 12, 2) := by decide +kernel
theorem dX0_pull_33 : decode cX0_pull 33 = .ok (.iload_n 1, 1) := by decide +kernel
theorem dX0_pull_34 : decode cX0_pull 34 = .ok (.imul, 1) := by decide +kernel
theorem dX0_pull_35 : decode cX0_pull 35 = .ok (.invokestatic 14, 3) := by decide +kernel
theorem dX0_pull_38 : decode cX0_pull 38 = .ok (.invokestatic 20, 3) := by decide +kernel
theorem dX0_pull_41 : decode cX0_pull 41 = .ok (.putfield 50, 3) := by decide +kernel
theorem dX0_pull_44 : decode cX0_pull 44 = .ok (.goto 31, 3) := by decide +kernel
theorem dX0_pull_47 : decode cX0_pull 47 = .ok (.iload_n 2, 1) := by decide +kernel
theorem dX0_pull_48 : decode cX0_pull 48 = .ok (.ifCond .le 27, 3) := by decide +kernel
theorem dX0_pull_51 : decode cX0_pull 51 = .ok (.aload_n 0, 1) := by decide +kernel
theorem dX0_pull_52 : decode cX0_pull 52 = .ok (.aload_n 0, 1) := by decide +kernel
theorem dX0_pull_53 : decode cX0_pull 53 = .ok (.getfield 50, 3) := by decide +kernel
theorem dX0_pull_56 : decode cX0_pull 56 = .ok (.aload_n 0, 1) := by decide +kernel
theorem dX0_pull_57 : decode cX0_pull 57 = .ok (.getfield 50, 3) := by decide +kernel
theorem dX0_pull_60 : decode cX0_pull 60 = .ok (.iload_n 3, 1) := by decide +kernel
theorem dX0_pull_61 : decode cX0_pull 61 = .ok (.isub, 1) := by decide +kernel
theorem dX0_pull_62 : decode cX0_pull 62 = .ok (.bipush (-12), 2) := by decide +kernel
theorem dX0_pull_64 : decode cX0_pull 64 = .ok (.iload_n 2, 1) := by decide +kernel
theorem dX0_pull_65 : decode cX0_pull 65 = .ok (.imul, 1) := by decide +kernel
theorem dX0_pull_66 : decode cX0_pull 66 = .ok (.invokestatic 20, 3) := by decide +kernel
theorem dX0_pull_69 : decode cX0_pull 69 = .ok (.invokestatic 14, 3) := by decide +kernel
theorem dX0_pull_72 : decode cX0_pull 72 = .ok (.putfield 50, 3) := by decide +kernel
theorem dX0_pull_75 : decode cX0_pull 75 = .ok (.return_, 1) := by decide +kernel
theorem dX0_levelOff_0 : decode cX0_levelOff 0 = .ok (.aload_n 0, 1) := by decide +kernel
theorem dX0_levelOff_1 : decode cX0_levelOff 1 = .ok (.getfield 50, 3) := by decide +kernel
theorem dX0_levelOff_4 : decode cX0_levelOff 4 = .ok (.ifCond .le 20, 3) := by decide +kernel
theorem dX0_levelOff_7 : decode cX0_levelOff 7 = .ok (.aload_n 0, 1) := by decide +kernel
theorem dX0_levelOff_8 : decode cX0_levelOff 8 = .ok (.iconst 0, 1) := by decide +kernel
theorem dX0_levelOff_9 : decode cX0_levelOff 9 = .ok (.aload_n 0, 1) := by decide +kernel
theorem dX0_levelOff_10 : decode cX0_levelOff 10 = .ok (.getfield 50, 3) := by decide +kernel
theorem dX0_levelOff_13 : decode cX0_levelOff 13 = .ok (.iload_n 1, 1) := by decide +kernel
theorem dX0_levelOff_14 : decode cX0_levelOff 14 = .ok (.isub, 1) := by decide +kernel
theorem dX0_levelOff_15 : decode cX0_levelOff 15 = .ok (.invokestatic 20, 3) := by decide +kernel
theorem dX0_levelOff_18 : decode cX0_levelOff 18 = .ok (.putfield 50, 3) := by decide +kernel
theorem dX0_levelOff_21 : decode cX0_levelOff 21 = .ok (.goto 17, 3) := by decide +kernel
theorem dX0_levelOff_24 : decode cX0_levelOff 24 = .ok (.aload_n 0, 1) := by decide +kernel
theorem dX0_levelOff_25 : decode cX0_levelOff 25 = .ok (.iconst 0, 1) := by decide +kernel
theorem dX0_levelOff_26 : decode cX0_levelOff 26 = .ok (.aload_n 0, 1) := by decide +kernel
theorem dX0_levelOff_27 : decode cX0_levelOff 27 = .ok (.getfield 50, 3) := by decide +kernel
theorem dX0_levelOff_30 : decode cX0_levelOff 30 = .ok (.iload_n 1, 1) := by decide +kernel
theorem dX0_levelOff_31 : decode cX0_levelOff 31 = .ok (.iadd, 1) := by decide +kernel
theorem dX0_levelOff_32 : decode cX0_levelOff 32 = .ok (.invokestatic 14, 3) := by decide +kernel
theorem dX0_levelOff_35 : decode cX0_levelOff 35 = .ok (.putfield 50, 3) := by decide +kernel
theorem dX0_levelOff_38 : decode cX0_levelOff 38 = .ok (.return_, 1) := by decide +kernel
theorem dX0_heightGoingUp_0 : decode cX0_heightGoingUp 0 = .ok (.bipush 12, 2) := by decide +kernel
theorem dX0_heightGoingUp_2 : decode cX0_heightGoingUp 2 = .ok (.iload_n 1, 1) := by decide +kernel
theorem dX0_heightGoingUp_3 : decode cX0_heightGoingUp 3 = .ok (.imul, 1) := by decide +kernel
theorem dX0_heightGoingUp_4 : decode cX0_heightGoingUp 4 = .ok (.istore 4, 2) := by decide +kernel
theorem dX0_heightGoingUp_6 : decode cX0_heightGoingUp 6 = .ok (.aload_n 0, 1) := by decide +kernel
theorem dX0_heightGoingUp_7 : decode cX0_heightGoingUp 7 = .ok (.getfield 41, 3) := by decide +kernel
theorem dX0_heightGoingUp_10 : decode cX0_heightGoingUp 10 = .ok (.aload_n 0, 1) := by decide +kernel
theorem dX0_heightGoingUp_11 : decode cX0_heightGoingUp 11 = .ok (.getfield 50, 3) := by decide +kernel
theorem dX0_heightGoingUp_14 : decode cX0_heightGoingUp 14 = .ok (.iload_n 2, 1) := by decide +kernel
theorem dX0_heightGoingUp_15 : decode cX0_heightGoingUp 15 = .ok (.imul, 1) := by decide +kernel
theorem dX0_heightGoingUp_16 : decode cX0_heightGoingUp 16 = .ok (.iadd, 1) := by decide +kernel
theorem dX0_heightGoingUp_17 : decode cX0_heightGoingUp 17 = .ok (.aload_n 0, 1) := by decide +kernel
theorem dX0_heightGoingUp_18 : decode cX0_heightGoingUp 18 = .ok (.getfield 50, 3) := by decide +kernel
theorem dX0_heightGoingUp_21 : decode cX0_heightGoingUp 21 = .ok (.iload 4, 2) := by decide +kernel
theorem dX0_heightGoingUp_23 : decode cX0_heightGoingUp 23 = .ok (.if_icmp .le 10, 3) := by decide +kernel
theorem dX0_heightGoingUp_26 : decode cX0_heightGoingUp 26 = .ok (.aload_n 0, 1) := by decide +kernel
theorem dX0_heightGoingUp_27 : decode cX0_heightGoingUp 27 = .ok (.getfield 50, 3) := by decide +kernel
theorem dX0_heightGoingUp_30 : decode cX0_heightGoingUp 30 = .ok (.goto 5, 3) := by decide +kernel
theorem dX0_heightGoingUp_33 : decode cX0_heightGoingUp 33 = .ok (.iload 4, 2) := by decide +kernel
theorem dX0_heightGoingUp_35 : decode cX0_heightGoingUp 35 = .ok (.iload_n 3, 1) := by decide +kernel
theorem dX0_heightGoingUp_36 : decode cX0_heightGoingUp 36 = .ok (.imul, 1) := by decide +kernel
theorem dX0_heightGoingUp_37 : decode cX0_heightGoingUp 37 = .ok (.iadd, 1) := by decide +kernel
theorem dX0_heightGoingUp_38 : decode cX0_heightGoingUp 38 = .ok (.ireturn, 1) := by decide +kernel
theorem dX0_heightGoingDown_0 : decode cX0_heightGoingDown 0 = .ok (.bipush (-12), 2) := by decide +kernel
theorem dX0_heightGoingDown_2 : decode cX0_heightGoingDown 2 = .ok (.iload_n 1, 1) := by decide +kernel
theorem dX0_heightGoingDown_3 : decode cX0_heightGoingDown 3 = .ok (.imul, 1) := by decide +kernel
theorem dX0_heightGoingDown_4 : decode cX0_heightGoingDown 4 = .ok (.istore 4, 2) := by decide +kernel
theorem dX0_heightGoingDown_6 : decode cX0_heightGoingDown 6 = .ok (.aload_n 0, 1) := by decide +kernel
theorem dX0_heightGoingDown_7 : decode cX0_heightGoingDown 7 = .ok (.getfield 41, 3) := by decide +kernel
theorem dX0_heightGoingDown_10 : decode cX0_heightGoingDown 10 = .ok (.aload_n 0, 1) := by decide +kernel
theorem dX0_heightGoingDown_11 : decode cX0_heightGoingDown 11 = .ok (.getfield 50, 3) := by decide +kernel
theorem dX0_heightGoingDown_14 : decode cX0_heightGoingDown 14 = .ok (.iload_n 2, 1) := by decide +kernel
theorem dX0_heightGoingDown_15 : decode cX0_heightGoingDown 15 = .ok (.imul, 1) := by decide +kernel
theorem dX0_heightGoingDown_16 : decode cX0_heightGoingDown 16 = .ok (.iadd, 1) := by decide +kernel
theorem dX0_heightGoingDown_17 : decode cX0_heightGoingDown 17 = .ok (.aload_n 0, 1) := by decide +kernel
theorem dX0_heightGoingDown_18 : decode cX0_heightGoingDown 18 = .ok (.getfield 50, 3) := by decide +kernel
theorem dX0_heightGoingDown_21 : decode cX0_heightGoingDown 21 = .ok (.iload 4, 2) := by decide +kernel
theorem dX0_heightGoingDown_23 : decode cX0_heightGoingDown 23 = .ok (.if_icmp .ge 10, 3) := by decide +kernel
theorem dX0_heightGoingDown_26 : decode cX0_heightGoingDown 26 = .ok (.aload_n 0, 1) := by decide +kernel
theorem dX0_heightGoingDown_27 : decode cX0_heightGoingDown 27 = .ok (.getfield 50, 3) := by decide +kernel
theorem dX0_heightGoingDown_30 : decode cX0_heightGoingDown 30 = .ok (.goto 5, 3) := by decide +kernel
theorem dX0_heightGoingDown_33 : decode cX0_heightGoingDown 33 = .ok (.iload 4, 2) := by decide +kernel
theorem dX0_heightGoingDown_35 : decode cX0_heightGoingDown 35 = .ok (.iload_n 3, 1) := by decide +kernel
theorem dX0_heightGoingDown_36 : decode cX0_heightGoingDown 36 = .ok (.imul, 1) := by decide +kernel
theorem dX0_heightGoingDown_37 : decode cX0_heightGoingDown 37 = .ok (.iadd, 1) := by decide +kernel
theorem dX0_heightGoingDown_38 : decode cX0_heightGoingDown 38 = .ok (.ireturn, 1) := by decide +kernel
theorem dX0_answer_0 : decode cX0_answer 0 = .ok (.iload_n 1, 1) := by decide +kernel
theorem dX0_answer_1 : decode cX0_answer 1 = .ok (.tableswitch 69 0 5 #[39, 44, 49, 54, 59, 64], 39) := by decide +kernel
theorem dX0_answer_40 : decode cX0_answer 40 = .ok (.aload_n 0, 1) := by decide +kernel
theorem dX0_answer_41 : decode cX0_answer 41 = .ok (.getfield 34, 3) := by decide +kernel
theorem dX0_answer_44 : decode cX0_answer 44 = .ok (.ireturn, 1) := by decide +kernel
theorem dX0_answer_45 : decode cX0_answer 45 = .ok (.aload_n 0, 1) := by decide +kernel
theorem dX0_answer_46 : decode cX0_answer 46 = .ok (.getfield 38, 3) := by decide +kernel
theorem dX0_answer_49 : decode cX0_answer 49 = .ok (.ireturn, 1) := by decide +kernel
theorem dX0_answer_50 : decode cX0_answer 50 = .ok (.aload_n 0, 1) := by decide +kernel
theorem dX0_answer_51 : decode cX0_answer 51 = .ok (.getfield 41, 3) := by decide +kernel
theorem dX0_answer_54 : decode cX0_answer 54 = .ok (.ireturn, 1) := by decide +kernel
theorem dX0_answer_55 : decode cX0_answer 55 = .ok (.aload_n 0, 1) := by decide +kernel
theorem dX0_answer_56 : decode cX0_answer 56 = .ok (.getfield 44, 3) := by decide +kernel
theorem dX0_answer_59 : decode cX0_answer 59 = .ok (.ireturn, 1) := by decide +kernel
theorem dX0_answer_60 : decode cX0_answer 60 = .ok (.aload_n 0, 1) := by decide +kernel
theorem dX0_answer_61 : decode cX0_answer 61 = .ok (.getfield 47, 3) := by decide +kernel
theorem dX0_answer_64 : decode cX0_answer 64 = .ok (.ireturn, 1) := by decide +kernel
theorem dX0_answer_65 : decode cX0_answer 65 = .ok (.aload_n 0, 1) := by decide +kernel
theorem dX0_answer_66 : decode cX0_answer 66 = .ok (.getfield 50, 3) := by decide +kernel
theorem dX0_answer_69 : decode cX0_answer 69 = .ok (.ireturn, 1) := by decide +kernel
theorem dX0_answer_70 : decode cX0_answer 70 = .ok (.aload_n 0, 1) := by decide +kernel
theorem dX0_answer_71 : decode cX0_answer 71 = .ok (.getfield 27, 3) := by decide +kernel
theorem dX0_answer_74 : decode cX0_answer 74 = .ok (.ifCond .eq 7, 3) := by decide +kernel
theorem dX0_answer_77 : decode cX0_answer 77 = .ok (.iconst 1, 1) := by decide +kernel
theorem dX0_answer_78 : decode cX0_answer 78 = .ok (.goto 4, 3) := by decide +kernel
theorem dX0_answer_81 : decode cX0_answer 81 = .ok (.iconst 0, 1) := by decide +kernel
theorem dX0_answer_82 : decode cX0_answer 82 = .ok (.ireturn, 1) := by decide +kernel
theorem dX1_init_0 : decode cX1_init 0 = .ok (.aload_n 0, 1) := by decide +kernel
theorem dX1_init_1 : decode cX1_init 1 = .ok (.invokespecial 1, 3) := by decide +kernel
theorem dX1_init_4 : decode cX1_init 4 = .ok (.aload_n 0, 1) := by decide +kernel
theorem dX1_init_5 : decode cX1_init 5 = .ok (.aload_n 1, 1) := by decide +kernel
theorem dX1_init_6 : decode cX1_init 6 = .ok (.putfield 7, 3) := by decide +kernel
theorem dX1_init_9 : decode cX1_init 9 = .ok (.aload_n 0, 1) := by decide +kernel
theorem dX1_init_10 : decode cX1_init 10 = .ok (.aload_n 2, 1) := by decide +kernel
theorem dX1_init_11 : decode cX1_init 11 = .ok (.putfield 13, 3) := by decide +kernel
theorem dX1_init_14 : decode cX1_init 14 = .ok (.aload_n 0, 1) := by decide +kernel
theorem dX1_init_15 : decode cX1_init 15 = .ok (.aload_n 3, 1) := by decide +kernel
theorem dX1_init_16 : decode cX1_init 16 = .ok (.putfield 16, 3) := by decide +kernel
theorem dX1_init_19 : decode cX1_init 19 = .ok (.aload_n 0, 1) := by decide +kernel
theorem dX1_init_20 : decode cX1_init 20 = .ok (.aload 4, 2) := by decide +kernel
theorem dX1_init_22 : decode cX1_init 22 = .ok (.putfield 20, 3) := by decide +kernel
theorem dX1_init_25 : decode cX1_init 25 = .ok (.return_, 1) := by decide +kernel
theorem dX1_isThere_0 : decode cX1_isThere 0 = .ok (.aload_n 0, 1) := by decide +kernel
theorem dX1_isThere_1 : decode cX1_isThere 1 = .ok (.getfield 7, 3) := by decide +kernel
theorem dX1_isThere_4 : decode cX1_isThere 4 = .ok (.getfield 24, 3) := by decide +kernel
theorem dX1_isThere_7 : decode cX1_isThere 7 = .ok (.ifCond .eq 17, 3) := by decide +kernel
theorem dX1_isThere_10 : decode cX1_isThere 10 = .ok (.aload_n 0, 1) := by decide +kernel
theorem dX1_isThere_11 : decode cX1_isThere 11 = .ok (.getfield 13, 3) := by decide +kernel
theorem dX1_isThere_14 : decode cX1_isThere 14 = .ok (.getfield 24, 3) := by decide +kernel
theorem dX1_isThere_17 : decode cX1_isThere 17 = .ok (.ifCond .eq 7, 3) := by decide +kernel
theorem dX1_isThere_20 : decode cX1_isThere 20 = .ok (.iconst 1, 1) := by decide +kernel
theorem dX1_isThere_21 : decode cX1_isThere 21 = .ok (.goto 4, 3) := by decide +kernel
theorem dX1_isThere_24 : decode cX1_isThere 24 = .ok (.iconst 0, 1) := by decide +kernel
theorem dX1_isThere_25 : decode cX1_isThere 25 = .ok (.ireturn, 1) := by decide +kernel
theorem dX1_has_0 : decode cX1_has 0 = .ok (.aload_n 0, 1) := by decide +kernel
theorem dX1_has_1 : decode cX1_has 1 = .ok (.getfield 7, 3) := by decide +kernel
theorem dX1_has_4 : decode cX1_has 4 = .ok (.aload_n 1, 1) := by decide +kernel
theorem dX1_has_5 : decode cX1_has 5 = .ok (.if_acmp .eq 11, 3) := by decide +kernel
theorem dX1_has_8 : decode cX1_has 8 = .ok (.aload_n 0, 1) := by decide +kernel
theorem dX1_has_9 : decode cX1_has 9 = .ok (.getfield 13, 3) := by decide +kernel
theorem dX1_has_12 : decode cX1_has 12 = .ok (.aload_n 1, 1) := by decide +kernel
theorem dX1_has_13 : decode cX1_has 13 = .ok (.if_acmp .ne 7, 3) := by decide +kernel
theorem dX1_has_16 : decode cX1_has 16 = .ok (.iconst 1, 1) := by decide +kernel
theorem dX1_has_17 : decode cX1_has 17 = .ok (.goto 4, 3) := by decide +kernel
theorem dX1_has_20 : decode cX1_has 20 = .ok (.iconst 0, 1) := by decide +kernel
theorem dX1_has_21 : decode cX1_has 21 = .ok (.ireturn, 1) := by decide +kernel
theorem dX1_isHeeded_0 : decode cX1_isHeeded 0 = .ok (.aload_n 0, 1) := by decide +kernel
theorem dX1_isHeeded_1 : decode cX1_isHeeded 1 = .ok (.getfield 30, 3) := by decide +kernel
theorem dX1_isHeeded_4 : decode cX1_isHeeded 4 = .ok (.ifCond .eq 21, 3) := by decide +kernel
theorem dX1_isHeeded_7 : decode cX1_isHeeded 7 = .ok (.aload_n 0, 1) := by decide +kernel
theorem dX1_isHeeded_8 : decode cX1_isHeeded 8 = .ok (.getfield 33, 3) := by decide +kernel
theorem dX1_isHeeded_11 : decode cX1_isHeeded 11 = .ok (.aload_n 0, 1) := by decide +kernel
theorem dX1_isHeeded_12 : decode cX1_isHeeded 12 = .ok (.getfield 16, 3) := by decide +kernel
theorem dX1_isHeeded_15 : decode cX1_isHeeded 15 = .ok (.invokevirtual 37, 3) := by decide +kernel
theorem dX1_isHeeded_18 : decode cX1_isHeeded 18 = .ok (.if_icmp .lt 7, 3) := by decide +kernel
theorem dX1_isHeeded_21 : decode cX1_isHeeded 21 = .ok (.iconst 1, 1) := by decide +kernel
theorem dX1_isHeeded_22 : decode cX1_isHeeded 22 = .ok (.goto 4, 3) := by decide +kernel
theorem dX1_isHeeded_25 : decode cX1_isHeeded 25 = .ok (.iconst 0, 1) := by decide +kernel
theorem dX1_isHeeded_26 : decode cX1_isHeeded 26 = .ok (.ireturn, 1) := by decide +kernel
theorem dX1_sendsUp_0 : decode cX1_sendsUp 0 = .ok (.aload_n 0, 1) := by decide +kernel
theorem dX1_sendsUp_1 : decode cX1_sendsUp 1 = .ok (.getfield 43, 3) := by decide +kernel
theorem dX1_sendsUp_4 : decode cX1_sendsUp 4 = .ok (.aload_n 0, 1) := by decide +kernel
theorem dX1_sendsUp_5 : decode cX1_sendsUp 5 = .ok (.getfield 7, 3) := by decide +kernel
theorem dX1_sendsUp_8 : decode cX1_sendsUp 8 = .ok (.aload_n 1, 1) := by decide +kernel
theorem dX1_sendsUp_9 : decode cX1_sendsUp 9 = .ok (.if_acmp .ne 7, 3) := by decide +kernel
theorem dX1_sendsUp_12 : decode cX1_sendsUp 12 = .ok (.iconst 1, 1) := by decide +kernel
theorem dX1_sendsUp_13 : decode cX1_sendsUp 13 = .ok (.goto 4, 3) := by decide +kernel
theorem dX1_sendsUp_16 : decode cX1_sendsUp 16 = .ok (.iconst 0, 1) := by decide +kernel
theorem dX1_sendsUp_17 : decode cX1_sendsUp 17 = .ok (.if_icmp .ne 7, 3) := by decide +kernel
theorem dX1_sendsUp_20 : decode cX1_sendsUp 20 = .ok (.iconst 1, 1) := by decide +kernel
theorem dX1_sendsUp_21 : decode cX1_sendsUp 21 = .ok (.goto 4, 3) := by decide +kernel
theorem dX1_sendsUp_24 : decode cX1_sendsUp 24 = .ok (.iconst 0, 1) := by decide +kernel
theorem dX1_sendsUp_25 : decode cX1_sendsUp 25 = .ok (.ireturn, 1) := by decide +kernel
theorem dX1_dropAdvice_0 : decode cX1_dropAdvice 0 = .ok (.aload_n 0, 1) := by decide +kernel
theorem dX1_dropAdvice_1 : decode cX1_dropAdvice 1 = .ok (.iconst 0, 1) := by decide +kernel
theorem dX1_dropAdvice_2 : decode cX1_dropAdvice 2 = .ok (.putfield 30, 3) := by decide +kernel
theorem dX1_dropAdvice_5 : decode cX1_dropAdvice 5 = .ok (.aload_n 0, 1) := by decide +kernel
theorem dX1_dropAdvice_6 : decode cX1_dropAdvice 6 = .ok (.iconst 0, 1) := by decide +kernel
theorem dX1_dropAdvice_7 : decode cX1_dropAdvice 7 = .ok (.putfield 43, 3) := by decide +kernel
theorem dX1_dropAdvice_10 : decode cX1_dropAdvice 10 = .ok (.aload_n 0, 1) := by decide +kernel
theorem dX1_dropAdvice_11 : decode cX1_dropAdvice 11 = .ok (.iconst 0, 1) := by decide +kernel
theorem dX1_dropAdvice_12 : decode cX1_dropAdvice 12 = .ok (.putfield 46, 3) := by decide +kernel
theorem dX1_dropAdvice_15 : decode cX1_dropAdvice 15 = .ok (.aload_n 0, 1) := by decide +kernel
theorem dX1_dropAdvice_16 : decode cX1_dropAdvice 16 = .ok (.iconst 0, 1) := by decide +kernel
theorem dX1_dropAdvice_17 : decode cX1_dropAdvice 17 = .ok (.putfield 33, 3) := by decide +kernel
theorem dX1_dropAdvice_20 : decode cX1_dropAdvice 20 = .ok (.aload_n 0, 1) := by decide +kernel
theorem dX1_dropAdvice_21 : decode cX1_dropAdvice 21 = .ok (.iconst 0, 1) := by decide +kernel
theorem dX1_dropAdvice_22 : decode cX1_dropAdvice 22 = .ok (.putfield 49, 3) := by decide +kernel
theorem dX1_dropAdvice_25 : decode cX1_dropAdvice 25 = .ok (.return_, 1) := by decide +kernel
theorem dX1_restartLeast_0 : decode cX1_restartLeast 0 = .ok (.aload_n 0, 1) := by decide +kernel
theorem dX1_restartLeast_1 : decode cX1_restartLeast 1 = .ok (.aload_n 0, 1) := by decide +kernel
theorem dX1_restartLeast_2 : decode cX1_restartLeast 2 = .ok (.invokevirtual 52, 3) := by decide +kernel
theorem dX1_restartLeast_5 : decode cX1_restartLeast 5 = .ok (.putfield 56, 3) := by decide +kernel
theorem dX1_restartLeast_8 : decode cX1_restartLeast 8 = .ok (.aload_n 0, 1) := by decide +kernel
theorem dX1_restartLeast_9 : decode cX1_restartLeast 9 = .ok (.aload_n 0, 1) := by decide +kernel
theorem dX1_restartLeast_10 : decode cX1_restartLeast 10 = .ok (.invokevirtual 60, 3) := by decide +kernel
theorem dX1_restartLeast_13 : decode cX1_restartLeast 13 = .ok (.putfield 63, 3) := by decide +kernel
theorem dX1_restartLeast_16 : decode cX1_restartLeast 16 = .ok (.return_, 1) := by decide +kernel
theorem dX1_lookAtLeast_0 : decode cX1_lookAtLeast 0 = .ok (.aload_n 0, 1) := by decide +kernel
theorem dX1_lookAtLeast_1 : decode cX1_lookAtLeast 1 = .ok (.aload_n 0, 1) := by decide +kernel
theorem dX1_lookAtLeast_2 : decode cX1_lookAtLeast 2 = .ok (.getfield 56, 3) := by decide +kernel
theorem dX1_lookAtLeast_5 : decode cX1_lookAtLeast 5 = .ok (.aload_n 0, 1) := by decide +kernel
theorem dX1_lookAtLeast_6 : decode cX1_lookAtLeast 6 = .ok (.invokevirtual 52, 3) := by decide +kernel
theorem dX1_lookAtLeast_9 : decode cX1_lookAtLeast 9 = .ok (.invokestatic 66, 3) := by decide +kernel
theorem dX1_lookAtLeast_12 : decode cX1_lookAtLeast 12 = .ok (.putfield 56, 3) := by decide +kernel
theorem dX1_lookAtLeast_15 : decode cX1_lookAtLeast 15 = .ok (.aload_n 0, 1) := by decide +kernel
theorem dX1_lookAtLeast_16 : decode cX1_lookAtLeast 16 = .ok (.aload_n 0, 1) := by decide +kernel
theorem dX1_lookAtLeast_17 : decode cX1_lookAtLeast 17 = .ok (.getfield 63, 3) := by decide +kernel
theorem dX1_lookAtLeast_20 : decode cX1_lookAtLeast 20 = .ok (.aload_n 0, 1) := by decide +kernel
theorem dX1_lookAtLeast_21 : decode cX1_lookAtLeast 21 = .ok (.invokevirtual 60, 3) := by decide +kernel
theorem dX1_lookAtLeast_24 : decode cX1_lookAtLeast 24 = .ok (.invokestatic 72, 3) := by decide +kernel
theorem dX1_lookAtLeast_27 : decode cX1_lookAtLeast 27 = .ok (.putfield 63, 3) := by decide +kernel
theorem dX1_lookAtLeast_30 : decode cX1_lookAtLeast 30 = .ok (.return_, 1) := by decide +kernel
theorem dX1_review_0 : decode cX1_review 0 = .ok (.aload_n 0, 1) := by decide +kernel
theorem dX1_review_1 : decode cX1_review 1 = .ok (.invokevirtual 75, 3) := by decide +kernel
theorem dX1_review_4 : decode cX1_review 4 = .ok (.istore_n 1, 1) := by decide +kernel
theorem dX1_review_5 : decode cX1_review 5 = .ok (.aload_n 0, 1) := by decide +kernel
theorem dX1_review_6 : decode cX1_review 6 = .ok (.invokevirtual 79, 3) := by decide +kernel
theorem dX1_review_9 : decode cX1_review 9 = .ok (.istore_n 2, 1) := by decide +kernel
theorem dX1_review_10 : decode cX1_review 10 = .ok (.aload_n 0, 1) := by decide +kernel
theorem dX1_review_11 : decode cX1_review 11 = .ok (.getfield 30, 3) := by decide +kernel
theorem dX1_review_14 : decode cX1_review 14 = .ok (.ifCond .ne 38, 3) := by decide +kernel
theorem dX1_review_17 : decode cX1_review 17 = .ok (.iload_n 1, 1) := by decide +kernel
theorem dX1_review_18 : decode cX1_review 18 = .ok (.ifCond .eq 128, 3) := by decide +kernel
theorem dX1_review_21 : decode cX1_review 21 = .ok (.aload_n 0, 1) := by decide +kernel
theorem dX1_review_22 : decode cX1_review 22 = .ok (.iconst 1, 1) := by decide +kernel
theorem dX1_review_23 : decode cX1_review 23 = .ok (.putfield 30, 3) := by decide +kernel
theorem dX1_review_26 : decode cX1_review 26 = .ok (.aload_n 0, 1) := by decide +kernel
theorem dX1_review_27 : decode cX1_review 27 = .ok (.aload_n 0, 1) := by decide +kernel
theorem dX1_review_28 : decode cX1_review 28 = .ok (.iload_n 2, 1) := by decide +kernel
theorem dX1_review_29 : decode cX1_review 29 = .ok (.invokevirtual 82, 3) := by decide +kernel
theorem dX1_review_32 : decode cX1_review 32 = .ok (.iload_n 2, 1) := by decide +kernel
theorem dX1_review_33 : decode cX1_review 33 = .ok (.invokevirtual 86, 3) := by decide +kernel
theorem dX1_review_36 : decode cX1_review 36 = .ok (.aload_n 0, 1) := by decide +kernel
theorem dX1_review_37 : decode cX1_review 37 = .ok (.getfield 20, 3) := by decide +kernel
theorem dX1_review_40 : decode cX1_review 40 = .ok (.dup, 1) := by decide +kernel
theorem dX1_review_41 : decode cX1_review 41 = .ok (.getfield 90, 3) := by decide +kernel
theorem dX1_review_44 : decode cX1_review 44 = .ok (.iconst 1, 1) := by decide +kernel
theorem dX1_review_45 : decode cX1_review 45 = .ok (.iadd, 1) := by decide +kernel
theorem dX1_review_46 : decode cX1_review 46 = .ok (.putfield 90, 3) := by decide +kernel
theorem dX1_review_49 : decode cX1_review 49 = .ok (.goto 97, 3) := by decide +kernel
theorem dX1_review_52 : decode cX1_review 52 = .ok (.iload_n 1, 1) := by decide +kernel
theorem dX1_review_53 : decode cX1_review 53 = .ok (.ifCond .ne 32, 3) := by decide +kernel
theorem dX1_review_56 : decode cX1_review 56 = .ok (.aload_n 0, 1) := by decide +kernel
theorem dX1_review_57 : decode cX1_review 57 = .ok (.invokevirtual 95, 3) := by decide +kernel
theorem dX1_review_60 : decode cX1_review 60 = .ok (.lconst 0, 1) := by decide +kernel
theorem dX1_review_61 : decode cX1_review 61 = .ok (.lcmp, 1) := by decide +kernel
theorem dX1_review_62 : decode cX1_review 62 = .ok (.ifCond .lt 23, 3) := by decide +kernel
theorem dX1_review_65 : decode cX1_review 65 = .ok (.aload_n 0, 1) := by decide +kernel
theorem dX1_review_66 : decode cX1_review 66 = .ok (.invokevirtual 98, 3) := by decide +kernel
theorem dX1_review_69 : decode cX1_review 69 = .ok (.aload_n 0, 1) := by decide +kernel
theorem dX1_review_70 : decode cX1_review 70 = .ok (.getfield 20, 3) := by decide +kernel
theorem dX1_review_73 : decode cX1_review 73 = .ok (.dup, 1) := by decide +kernel
theorem dX1_review_74 : decode cX1_review 74 = .ok (.getfield 101, 3) := by decide +kernel
theorem dX1_review_77 : decode cX1_review 77 = .ok (.iconst 1, 1) := by decide +kernel
theorem dX1_review_78 : decode cX1_review 78 = .ok (.iadd, 1) := by decide +kernel
theorem dX1_review_79 : decode cX1_review 79 = .ok (.putfield 101, 3) := by decide +kernel
theorem dX1_review_82 : decode cX1_review 82 = .ok (.goto 64, 3) := by decide +kernel
theorem dX1_review_85 : decode cX1_review 85 = .ok (.aload_n 0, 1) := by decide +kernel
theorem dX1_review_86 : decode cX1_review 86 = .ok (.dup, 1) := by decide +kernel
theorem dX1_review_87 : decode cX1_review 87 = .ok (.getfield 33, 3) := by decide +kernel
theorem dX1_review_90 : decode cX1_review 90 = .ok (.iconst 1, 1) := by decide +kernel
theorem dX1_review_91 : decode cX1_review 91 = .ok (.iadd, 1) := by decide +kernel
theorem dX1_review_92 : decode cX1_review 92 = .ok (.putfield 33, 3) := by decide +kernel
theorem dX1_review_95 : decode cX1_review 95 = .ok (.aload_n 0, 1) := by decide +kernel
theorem dX1_review_96 : decode cX1_review 96 = .ok (.iload_n 2, 1) := by decide +kernel
theorem dX1_review_97 : decode cX1_review 97 = .ok (.invokevirtual 104, 3) := by decide +kernel
theorem dX1_review_100 : decode cX1_review 100 = .ok (.ifCond .eq 41, 3) := by decide +kernel
theorem dX1_review_103 : decode cX1_review 103 = .ok (.aload_n 0, 1) := by decide +kernel
theorem dX1_review_104 : decode cX1_review 104 = .ok (.aload_n 0, 1) := by decide +kernel
theorem dX1_review_105 : decode cX1_review 105 = .ok (.getfield 43, 3) := by decide +kernel
theorem dX1_review_108 : decode cX1_review 108 = .ok (.ifCond .ne 7, 3) := by decide +kernel
theorem dX1_review_111 : decode cX1_review 111 = .ok (.iconst 1, 1) := by decide +kernel
theorem dX1_review_112 : decode cX1_review 112 = .ok (.goto 4, 3) := by decide +kernel
theorem dX1_review_115 : decode cX1_review 115 = .ok (.iconst 0, 1) := by decide +kernel
theorem dX1_review_116 : decode cX1_review 116 = .ok (.iload_n 2, 1) := by decide +kernel
theorem dX1_review_117 : decode cX1_review 117 = .ok (.invokevirtual 86, 3) := by decide +kernel
theorem dX1_review_120 : decode cX1_review 120 = .ok (.aload_n 0, 1) := by decide +kernel
theorem dX1_review_121 : decode cX1_review 121 = .ok (.iconst 1, 1) := by decide +kernel
theorem dX1_review_122 : decode cX1_review 122 = .ok (.putfield 49, 3) := by decide +kernel
theorem dX1_review_125 : decode cX1_review 125 = .ok (.aload_n 0, 1) := by decide +kernel
theorem dX1_review_126 : decode cX1_review 126 = .ok (.getfield 20, 3) := by decide +kernel
theorem dX1_review_129 : decode cX1_review 129 = .ok (.dup, 1) := by decide +kernel
theorem dX1_review_130 : decode cX1_review 130 = .ok (.getfield 107, 3) := by decide +kernel
theorem dX1_review_133 : decode cX1_review 133 = .ok (.iconst 1, 1) := by decide +kernel
theorem dX1_review_134 : decode cX1_review 134 = .ok (.iadd, 1) := by decide +kernel
theorem dX1_review_135 : decode cX1_review 135 = .ok (.putfield 107, 3) := by decide +kernel
theorem dX1_review_138 : decode cX1_review 138 = .ok (.goto 8, 3) := by decide +kernel
theorem dX1_review_141 : decode cX1_review 141 = .ok (.aload_n 0, 1) := by decide +kernel
theorem dX1_review_142 : decode cX1_review 142 = .ok (.iload_n 2, 1) := by decide +kernel
theorem dX1_review_143 : decode cX1_review 143 = .ok (.invokevirtual 109, 3) := by decide +kernel
theorem dX1_review_146 : decode cX1_review 146 = .ok (.return_, 1) := by decide +kernel
theorem dX1_takeSense_0 : decode cX1_takeSense 0 = .ok (.aload_n 0, 1) := by decide +kernel
theorem dX1_takeSense_1 : decode cX1_takeSense 1 = .ok (.iload_n 1, 1) := by decide +kernel
theorem dX1_takeSense_2 : decode cX1_takeSense 2 = .ok (.putfield 43, 3) := by decide +kernel
theorem dX1_takeSense_5 : decode cX1_takeSense 5 = .ok (.aload_n 0, 1) := by decide +kernel
theorem dX1_takeSense_6 : decode cX1_takeSense 6 = .ok (.iconst 0, 1) := by decide +kernel
theorem dX1_takeSense_7 : decode cX1_takeSense 7 = .ok (.putfield 33, 3) := by decide +kernel
theorem dX1_takeSense_10 : decode cX1_takeSense 10 = .ok (.aload_n 0, 1) := by decide +kernel
theorem dX1_takeSense_11 : decode cX1_takeSense 11 = .ok (.aload_n 0, 1) := by decide +kernel
theorem dX1_takeSense_12 : decode cX1_takeSense 12 = .ok (.iload_n 1, 1) := by decide +kernel
theorem dX1_takeSense_13 : decode cX1_takeSense 13 = .ok (.iconst 1, 1) := by decide +kernel
theorem dX1_takeSense_14 : decode cX1_takeSense 14 = .ok (.iconst 0, 1) := by decide +kernel
theorem dX1_takeSense_15 : decode cX1_takeSense 15 = .ok (.iload_n 2, 1) := by decide +kernel
theorem dX1_takeSense_16 : decode cX1_takeSense 16 = .ok (.invokevirtual 113, 3) := by decide +kernel
theorem dX1_takeSense_19 : decode cX1_takeSense 19 = .ok (.putfield 46, 3) := by decide +kernel
theorem dX1_takeSense_22 : decode cX1_takeSense 22 = .ok (.return_, 1) := by decide +kernel
theorem dX1_strengthen_0 : decode cX1_strengthen 0 = .ok (.aload_n 0, 1) := by decide +kernel
theorem dX1_strengthen_1 : decode cX1_strengthen 1 = .ok (.aload_n 0, 1) := by decide +kernel
theorem dX1_strengthen_2 : decode cX1_strengthen 2 = .ok (.getfield 43, 3) := by decide +kernel
theorem dX1_strengthen_5 : decode cX1_strengthen 5 = .ok (.aload_n 0, 1) := by decide +kernel
theorem dX1_strengthen_6 : decode cX1_strengthen 6 = .ok (.getfield 46, 3) := by decide +kernel
theorem dX1_strengthen_9 : decode cX1_strengthen 9 = .ok (.aload_n 0, 1) := by decide +kernel
theorem dX1_strengthen_10 : decode cX1_strengthen 10 = .ok (.getfield 33, 3) := by decide +kernel
theorem dX1_strengthen_13 : decode cX1_strengthen 13 = .ok (.iload_n 1, 1) := by decide +kernel
theorem dX1_strengthen_14 : decode cX1_strengthen 14 = .ok (.invokevirtual 113, 3) := by decide +kernel
theorem dX1_strengthen_17 : decode cX1_strengthen 17 = .ok (.istore_n 2, 1) := by decide +kernel
theorem dX1_strengthen_18 : decode cX1_strengthen 18 = .ok (.iload_n 2, 1) := by decide +kernel
theorem dX1_strengthen_19 : decode cX1_strengthen 19 = .ok (.aload_n 0, 1) := by decide +kernel
theorem dX1_strengthen_20 : decode cX1_strengthen 20 = .ok (.getfield 46, 3) := by decide +kernel
theorem dX1_strengthen_23 : decode cX1_strengthen 23 = .ok (.if_icmp .le 21, 3) := by decide +kernel
theorem dX1_strengthen_26 : decode cX1_strengthen 26 = .ok (.aload_n 0, 1) := by decide +kernel
theorem dX1_strengthen_27 : decode cX1_strengthen 27 = .ok (.iload_n 2, 1) := by decide +kernel
theorem dX1_strengthen_28 : decode cX1_strengthen 28 = .ok (.putfield 46, 3) := by decide +kernel
theorem dX1_strengthen_31 : decode cX1_strengthen 31 = .ok (.aload_n 0, 1) := by decide +kernel
theorem dX1_strengthen_32 : decode cX1_strengthen 32 = .ok (.getfield 20, 3) := by decide +kernel
theorem dX1_strengthen_35 : decode cX1_strengthen 35 = .ok (.dup, 1) := by decide +kernel
theorem dX1_strengthen_36 : decode cX1_strengthen 36 = .ok (.getfield 117, 3) := by decide +kernel
theorem dX1_strengthen_39 : decode cX1_strengthen 39 = .ok (.iconst 1, 1) := by decide +kernel
theorem dX1_strengthen_40 : decode cX1_strengthen 40 = .ok (.iadd, 1) := by decide +kernel
theorem dX1_strengthen_41 : decode cX1_strengthen 41 = .ok (.putfield 117, 3) := by decide +kernel
theorem dX1_strengthen_44 : decode cX1_strengthen 44 = .ok (.return_, 1) := by decide +kernel
theorem dX1_mustTurn_0 : decode cX1_mustTurn 0 = .ok (.aload_n 0, 1) := by decide +kernel
theorem dX1_mustTurn_1 : decode cX1_mustTurn 1 = .ok (.getfield 49, 3) := by decide +kernel
theorem dX1_mustTurn_4 : decode cX1_mustTurn 4 = .ok (.ifCond .ne 64, 3) := by decide +kernel
theorem dX1_mustTurn_7 : decode cX1_mustTurn 7 = .ok (.iload_n 1, 1) := by decide +kernel
theorem dX1_mustTurn_8 : decode cX1_mustTurn 8 = .ok (.aload_n 0, 1) := by decide +kernel
theorem dX1_mustTurn_9 : decode cX1_mustTurn 9 = .ok (.getfield 16, 3) := by decide +kernel
theorem dX1_mustTurn_12 : decode cX1_mustTurn 12 = .ok (.invokevirtual 37, 3) := by decide +kernel
theorem dX1_mustTurn_15 : decode cX1_mustTurn 15 = .ok (.if_icmp .le 53, 3) := by decide +kernel
theorem dX1_mustTurn_18 : decode cX1_mustTurn 18 = .ok (.aload_n 0, 1) := by decide +kernel
theorem dX1_mustTurn_19 : decode cX1_mustTurn 19 = .ok (.aload_n 0, 1) := by decide +kernel
theorem dX1_mustTurn_20 : decode cX1_mustTurn 20 = .ok (.getfield 43, 3) := by decide +kernel
theorem dX1_mustTurn_23 : decode cX1_mustTurn 23 = .ok (.iconst 4, 1) := by decide +kernel
theorem dX1_mustTurn_24 : decode cX1_mustTurn 24 = .ok (.aload_n 0, 1) := by decide +kernel
theorem dX1_mustTurn_25 : decode cX1_mustTurn 25 = .ok (.getfield 33, 3) := by decide +kernel
theorem dX1_mustTurn_28 : decode cX1_mustTurn 28 = .ok (.iload_n 1, 1) := by decide +kernel
theorem dX1_mustTurn_29 : decode cX1_mustTurn 29 = .ok (.invokevirtual 120, 3) := by decide +kernel
theorem dX1_mustTurn_32 : decode cX1_mustTurn 32 = .ok (.ifCond .ge 36, 3) := by decide +kernel
theorem dX1_mustTurn_35 : decode cX1_mustTurn 35 = .ok (.aload_n 0, 1) := by decide +kernel
theorem dX1_mustTurn_36 : decode cX1_mustTurn 36 = .ok (.aload_n 0, 1) := by decide +kernel
theorem dX1_mustTurn_37 : decode cX1_mustTurn 37 = .ok (.getfield 43, 3) := by decide +kernel
theorem dX1_mustTurn_40 : decode cX1_mustTurn 40 = .ok (.ifCond .ne 7, 3) := by decide +kernel
theorem dX1_mustTurn_43 : decode cX1_mustTurn 43 = .ok (.iconst 1, 1) := by decide +kernel
theorem dX1_mustTurn_44 : decode cX1_mustTurn 44 = .ok (.goto 4, 3) := by decide +kernel
theorem dX1_mustTurn_47 : decode cX1_mustTurn 47 = .ok (.iconst 0, 1) := by decide +kernel
theorem dX1_mustTurn_48 : decode cX1_mustTurn 48 = .ok (.iconst 4, 1) := by decide +kernel
theorem dX1_mustTurn_49 : decode cX1_mustTurn 49 = .ok (.iconst 0, 1) := by decide +kernel
theorem dX1_mustTurn_50 : decode cX1_mustTurn 50 = .ok (.iload_n 1, 1) := by decide +kernel
theorem dX1_mustTurn_51 : decode cX1_mustTurn 51 = .ok (.invokevirtual 120, 3) := by decide +kernel
theorem dX1_mustTurn_54 : decode cX1_mustTurn 54 = .ok (.aload_n 0, 1) := by decide +kernel
theorem dX1_mustTurn_55 : decode cX1_mustTurn 55 = .ok (.getfield 16, 3) := by decide +kernel
theorem dX1_mustTurn_58 : decode cX1_mustTurn 58 = .ok (.invokevirtual 123, 3) := by decide +kernel
theorem dX1_mustTurn_61 : decode cX1_mustTurn 61 = .ok (.if_icmp .lt 7, 3) := by decide +kernel
theorem dX1_mustTurn_64 : decode cX1_mustTurn 64 = .ok (.iconst 1, 1) := by decide +kernel
theorem dX1_mustTurn_65 : decode cX1_mustTurn 65 = .ok (.goto 4, 3) := by decide +kernel
theorem dX1_mustTurn_68 : decode cX1_mustTurn 68 = .ok (.iconst 0, 1) := by decide +kernel
theorem dX1_mustTurn_69 : decode cX1_mustTurn 69 = .ok (.ireturn, 1) := by decide +kernel
theorem dX1_answer_0 : decode cX1_answer 0 = .ok (.iload_n 1, 1) := by decide +kernel
theorem dX1_answer_1 : decode cX1_answer 1 = .ok (.tableswitch 182 0 9 #[55, 68, 73, 93, 98, 103, 116, 148, 157, 170], 55) := by decide +kernel
theorem dX1_answer_56 : decode cX1_answer 56 = .ok (.aload_n 0, 1) := by decide +kernel
theorem dX1_answer_57 : decode cX1_answer 57 = .ok (.invokevirtual 75, 3) := by decide +kernel
theorem dX1_answer_60 : decode cX1_answer 60 = .ok (.ifCond .eq 7, 3) := by decide +kernel
theorem dX1_answer_63 : decode cX1_answer 63 = .ok (.iconst 1, 1) := by decide +kernel
theorem dX1_answer_64 : decode cX1_answer 64 = .ok (.goto 4, 3) := by decide +kernel
theorem dX1_answer_67 : decode cX1_answer 67 = .ok (.iconst 0, 1) := by decide +kernel
theorem dX1_answer_68 : decode cX1_answer 68 = .ok (.ireturn, 1) := by decide +kernel
theorem dX1_answer_69 : decode cX1_answer 69 = .ok (.aload_n 0, 1) := by decide +kernel
theorem dX1_answer_70 : decode cX1_answer 70 = .ok (.invokevirtual 79, 3) := by decide +kernel
theorem dX1_answer_73 : decode cX1_answer 73 = .ok (.ireturn, 1) := by decide +kernel
theorem dX1_answer_74 : decode cX1_answer 74 = .ok (.aload_n 0, 1) := by decide +kernel
theorem dX1_answer_75 : decode cX1_answer 75 = .ok (.getfield 30, 3) := by decide +kernel
theorem dX1_answer_78 : decode cX1_answer 78 = .ok (.ifCond .eq 14, 3) := by decide +kernel
theorem dX1_answer_81 : decode cX1_answer 81 = .ok (.aload_n 0, 1) := by decide +kernel
theorem dX1_answer_82 : decode cX1_answer 82 = .ok (.getfield 43, 3) := by decide +kernel
theorem dX1_answer_85 : decode cX1_answer 85 = .ok (.iload_n 2, 1) := by decide +kernel
theorem dX1_answer_86 : decode cX1_answer 86 = .ok (.invokestatic 126, 3) := by decide +kernel
theorem dX1_answer_89 : decode cX1_answer 89 = .ok (.goto 4, 3) := by decide +kernel
theorem dX1_answer_92 : decode cX1_answer 92 = .ok (.iconst 0, 1) := by decide +kernel
theorem dX1_answer_93 : decode cX1_answer 93 = .ok (.ireturn, 1) := by decide +kernel
theorem dX1_answer_94 : decode cX1_answer 94 = .ok (.aload_n 0, 1) := by decide +kernel
theorem dX1_answer_95 : decode cX1_answer 95 = .ok (.getfield 46, 3) := by decide +kernel
theorem dX1_answer_98 : decode cX1_answer 98 = .ok (.ireturn, 1) := by decide +kernel
theorem dX1_answer_99 : decode cX1_answer 99 = .ok (.aload_n 0, 1) := by decide +kernel
theorem dX1_answer_100 : decode cX1_answer 100 = .ok (.getfield 33, 3) := by decide +kernel
theorem dX1_answer_103 : decode cX1_answer 103 = .ok (.ireturn, 1) := by decide +kernel
theorem dX1_answer_104 : decode cX1_answer 104 = .ok (.aload_n 0, 1) := by decide +kernel
theorem dX1_answer_105 : decode cX1_answer 105 = .ok (.getfield 49, 3) := by decide +kernel
theorem dX1_answer_108 : decode cX1_answer 108 = .ok (.ifCond .eq 7, 3) := by decide +kernel
theorem dX1_answer_111 : decode cX1_answer 111 = .ok (.iconst 1, 1) := by decide +kernel
theorem dX1_answer_112 : decode cX1_answer 112 = .ok (.goto 4, 3) := by decide +kernel
theorem dX1_answer_115 : decode cX1_answer 115 = .ok (.iconst 0, 1) := by decide +kernel
theorem dX1_answer_116 : decode cX1_answer 116 = .ok (.ireturn, 1) := by decide +kernel
theorem dX1_answer_117 : decode cX1_answer 117 = .ok (.aload_n 0, 1) := by decide +kernel
theorem dX1_answer_118 : decode cX1_answer 118 = .ok (.getfield 30, 3) := by decide +kernel
theorem dX1_answer_121 : decode cX1_answer 121 = .ok (.ifCond .eq 26, 3) := by decide +kernel
theorem dX1_answer_124 : decode cX1_answer 124 = .ok (.aload_n 0, 1) := by decide +kernel
theorem dX1_answer_125 : decode cX1_answer 125 = .ok (.aload_n 0, 1) := by decide +kernel
theorem dX1_answer_126 : decode cX1_answer 126 = .ok (.getfield 43, 3) := by decide +kernel
theorem dX1_answer_129 : decode cX1_answer 129 = .ok (.aload_n 0, 1) := by decide +kernel
theorem dX1_answer_130 : decode cX1_answer 130 = .ok (.getfield 46, 3) := by decide +kernel
theorem dX1_answer_133 : decode cX1_answer 133 = .ok (.aload_n 0, 1) := by decide +kernel
theorem dX1_answer_134 : decode cX1_answer 134 = .ok (.getfield 33, 3) := by decide +kernel
theorem dX1_answer_137 : decode cX1_answer 137 = .ok (.aload_n 0, 1) := by decide +kernel
theorem dX1_answer_138 : decode cX1_answer 138 = .ok (.invokevirtual 79, 3) := by decide +kernel
theorem dX1_answer_141 : decode cX1_answer 141 = .ok (.invokevirtual 120, 3) := by decide +kernel
theorem dX1_answer_144 : decode cX1_answer 144 = .ok (.goto 4, 3) := by decide +kernel
theorem dX1_answer_147 : decode cX1_answer 147 = .ok (.iconst 0, 1) := by decide +kernel
theorem dX1_answer_148 : decode cX1_answer 148 = .ok (.ireturn, 1) := by decide +kernel
theorem dX1_answer_149 : decode cX1_answer 149 = .ok (.aload_n 0, 1) := by decide +kernel
theorem dX1_answer_150 : decode cX1_answer 150 = .ok (.aload_n 0, 1) := by decide +kernel
theorem dX1_answer_151 : decode cX1_answer 151 = .ok (.invokevirtual 79, 3) := by decide +kernel
theorem dX1_answer_154 : decode cX1_answer 154 = .ok (.invokevirtual 130, 3) := by decide +kernel
theorem dX1_answer_157 : decode cX1_answer 157 = .ok (.ireturn, 1) := by decide +kernel
theorem dX1_answer_158 : decode cX1_answer 158 = .ok (.aload_n 0, 1) := by decide +kernel
theorem dX1_answer_159 : decode cX1_answer 159 = .ok (.aload_n 0, 1) := by decide +kernel
theorem dX1_answer_160 : decode cX1_answer 160 = .ok (.invokevirtual 79, 3) := by decide +kernel
theorem dX1_answer_163 : decode cX1_answer 163 = .ok (.invokevirtual 82, 3) := by decide +kernel
theorem dX1_answer_166 : decode cX1_answer 166 = .ok (.iload_n 2, 1) := by decide +kernel
theorem dX1_answer_167 : decode cX1_answer 167 = .ok (.invokestatic 126, 3) := by decide +kernel
theorem dX1_answer_170 : decode cX1_answer 170 = .ok (.ireturn, 1) := by decide +kernel
theorem dX1_answer_171 : decode cX1_answer 171 = .ok (.aload_n 0, 1) := by decide +kernel
theorem dX1_answer_172 : decode cX1_answer 172 = .ok (.getfield 56, 3) := by decide +kernel
theorem dX1_answer_175 : decode cX1_answer 175 = .ok (.ldc2_w 134, 3) := by decide +kernel
theorem dX1_answer_178 : decode cX1_answer 178 = .ok (.invokestatic 66, 3) := by decide +kernel
theorem dX1_answer_181 : decode cX1_answer 181 = .ok (.l2i, 1) := by decide +kernel
theorem dX1_answer_182 : decode cX1_answer 182 = .ok (.ireturn, 1) := by decide +kernel
theorem dX1_answer_183 : decode cX1_answer 183 = .ok (.aload_n 0, 1) := by decide +kernel
theorem dX1_answer_184 : decode cX1_answer 184 = .ok (.getfield 63, 3) := by decide +kernel
theorem dX1_answer_187 : decode cX1_answer 187 = .ok (.ireturn, 1) := by decide +kernel
theorem dX1_senseFor_0 : decode cX1_senseFor 0 = .ok (.iload_n 0, 1) := by decide +kernel
theorem dX1_senseFor_1 : decode cX1_senseFor 1 = .ok (.iload_n 1, 1) := by decide +kernel
theorem dX1_senseFor_2 : decode cX1_senseFor 2 = .ok (.if_icmp .ne 7, 3) := by decide +kernel
theorem dX1_senseFor_5 : decode cX1_senseFor 5 = .ok (.iconst 1, 1) := by decide +kernel
theorem dX1_senseFor_6 : decode cX1_senseFor 6 = .ok (.goto 4, 3) := by decide +kernel
theorem dX1_senseFor_9 : decode cX1_senseFor 9 = .ok (.iconst 2, 1) := by decide +kernel
theorem dX1_senseFor_10 : decode cX1_senseFor 10 = .ok (.ireturn, 1) := by decide +kernel
theorem dX1_alerts_0 : decode cX1_alerts 0 = .ok (.aload_n 0, 1) := by decide +kernel
theorem dX1_alerts_1 : decode cX1_alerts 1 = .ok (.invokevirtual 136, 3) := by decide +kernel
theorem dX1_alerts_4 : decode cX1_alerts 4 = .ok (.ifCond .ne 17, 3) := by decide +kernel
theorem dX1_alerts_7 : decode cX1_alerts 7 = .ok (.aload_n 0, 1) := by decide +kernel
theorem dX1_alerts_8 : decode cX1_alerts 8 = .ok (.invokevirtual 139, 3) := by decide +kernel
theorem dX1_alerts_11 : decode cX1_alerts 11 = .ok (.ifCond .eq 21, 3) := by decide +kernel
theorem dX1_alerts_14 : decode cX1_alerts 14 = .ok (.aload_n 0, 1) := by decide +kernel
theorem dX1_alerts_15 : decode cX1_alerts 15 = .ok (.invokevirtual 142, 3) := by decide +kernel
theorem dX1_alerts_18 : decode cX1_alerts 18 = .ok (.ifCond .eq 14, 3) := by decide +kernel
theorem dX1_alerts_21 : decode cX1_alerts 21 = .ok (.aload_n 0, 1) := by decide +kernel
theorem dX1_alerts_22 : decode cX1_alerts 22 = .ok (.invokevirtual 145, 3) := by decide +kernel
theorem dX1_alerts_25 : decode cX1_alerts 25 = .ok (.ifCond .eq 7, 3) := by decide +kernel
theorem dX1_alerts_28 : decode cX1_alerts 28 = .ok (.iconst 1, 1) := by decide +kernel
theorem dX1_alerts_29 : decode cX1_alerts 29 = .ok (.goto 4, 3) := by decide +kernel
theorem dX1_alerts_32 : decode cX1_alerts 32 = .ok (.iconst 0, 1) := by decide +kernel
theorem dX1_alerts_33 : decode cX1_alerts 33 = .ok (.ireturn, 1) := by decide +kernel
theorem dX1_isNear_0 : decode cX1_isNear 0 = .ok (.aload_n 0, 1) := by decide +kernel
theorem dX1_isNear_1 : decode cX1_isNear 1 = .ok (.invokevirtual 52, 3) := by decide +kernel
theorem dX1_isNear_4 : decode cX1_isNear 4 = .ok (.aload_n 0, 1) := by decide +kernel
theorem dX1_isNear_5 : decode cX1_isNear 5 = .ok (.invokevirtual 148, 3) := by decide +kernel
theorem dX1_isNear_8 : decode cX1_isNear 8 = .ok (.lcmp, 1) := by decide +kernel
theorem dX1_isNear_9 : decode cX1_isNear 9 = .ok (.ifCond .gt 7, 3) := by decide +kernel
theorem dX1_isNear_12 : decode cX1_isNear 12 = .ok (.iconst 1, 1) := by decide +kernel
theorem dX1_isNear_13 : decode cX1_isNear 13 = .ok (.goto 4, 3) := by decide +kernel
theorem dX1_isNear_16 : decode cX1_isNear 16 = .ok (.iconst 0, 1) := by decide +kernel
theorem dX1_isNear_17 : decode cX1_isNear 17 = .ok (.ireturn, 1) := by decide +kernel
theorem dX1_comesNearInTime_0 : decode cX1_comesNearInTime 0 = .ok (.aload_n 0, 1) := by decide +kernel
theorem dX1_comesNearInTime_1 : decode cX1_comesNearInTime 1 = .ok (.invokevirtual 95, 3) := by decide +kernel
theorem dX1_comesNearInTime_4 : decode cX1_comesNearInTime 4 = .ok (.lstore_n 1, 1) := by decide +kernel
theorem dX1_comesNearInTime_5 : decode cX1_comesNearInTime 5 = .ok (.lload_n 1, 1) := by decide +kernel
theorem dX1_comesNearInTime_6 : decode cX1_comesNearInTime 6 = .ok (.lconst 0, 1) := by decide +kernel
theorem dX1_comesNearInTime_7 : decode cX1_comesNearInTime 7 = .ok (.lcmp, 1) := by decide +kernel
theorem dX1_comesNearInTime_8 : decode cX1_comesNearInTime 8 = .ok (.ifCond .ge 31, 3) := by decide +kernel
theorem dX1_comesNearInTime_11 : decode cX1_comesNearInTime 11 = .ok (.aload_n 0, 1) := by decide +kernel
theorem dX1_comesNearInTime_12 : decode cX1_comesNearInTime 12 = .ok (.invokevirtual 52, 3) := by decide +kernel
theorem dX1_comesNearInTime_15 : decode cX1_comesNearInTime 15 = .ok (.aload_n 0, 1) := by decide +kernel
theorem dX1_comesNearInTime_16 : decode cX1_comesNearInTime 16 = .ok (.invokevirtual 148, 3) := by decide +kernel
theorem dX1_comesNearInTime_19 : decode cX1_comesNearInTime 19 = .ok (.lsub, 1) := by decide +kernel
theorem dX1_comesNearInTime_20 : decode cX1_comesNearInTime 20 = .ok (.aload_n 0, 1) := by decide +kernel
theorem dX1_comesNearInTime_21 : decode cX1_comesNearInTime 21 = .ok (.getfield 16, 3) := by decide +kernel
theorem dX1_comesNearInTime_24 : decode cX1_comesNearInTime 24 = .ok (.invokevirtual 151, 3) := by decide +kernel
theorem dX1_comesNearInTime_27 : decode cX1_comesNearInTime 27 = .ok (.i2l, 1) := by decide +kernel
theorem dX1_comesNearInTime_28 : decode cX1_comesNearInTime 28 = .ok (.lload_n 1, 1) := by decide +kernel
theorem dX1_comesNearInTime_29 : decode cX1_comesNearInTime 29 = .ok (.lneg, 1) := by decide +kernel
theorem dX1_comesNearInTime_30 : decode cX1_comesNearInTime 30 = .ok (.lmul, 1) := by decide +kernel
theorem dX1_comesNearInTime_31 : decode cX1_comesNearInTime 31 = .ok (.lcmp, 1) := by decide +kernel
theorem dX1_comesNearInTime_32 : decode cX1_comesNearInTime 32 = .ok (.ifCond .gt 7, 3) := by decide +kernel
theorem dX1_comesNearInTime_35 : decode cX1_comesNearInTime 35 = .ok (.iconst 1, 1) := by decide +kernel
theorem dX1_comesNearInTime_36 : decode cX1_comesNearInTime 36 = .ok (.goto 4, 3) := by decide +kernel
theorem dX1_comesNearInTime_39 : decode cX1_comesNearInTime 39 = .ok (.iconst 0, 1) := by decide +kernel
theorem dX1_comesNearInTime_40 : decode cX1_comesNearInTime 40 = .ok (.ireturn, 1) := by decide +kernel
theorem dX1_passesNear_0 : decode cX1_passesNear 0 = .ok (.aload_n 0, 1) := by decide +kernel
theorem dX1_passesNear_1 : decode cX1_passesNear 1 = .ok (.getfield 13, 3) := by decide +kernel
theorem dX1_passesNear_4 : decode cX1_passesNear 4 = .ok (.getfield 154, 3) := by decide +kernel
theorem dX1_passesNear_7 : decode cX1_passesNear 7 = .ok (.aload_n 0, 1) := by decide +kernel
theorem dX1_passesNear_8 : decode cX1_passesNear 8 = .ok (.getfield 7, 3) := by decide +kernel
theorem dX1_passesNear_11 : decode cX1_passesNear 11 = .ok (.getfield 154, 3) := by decide +kernel
theorem dX1_passesNear_14 : decode cX1_passesNear 14 = .ok (.isub, 1) := by decide +kernel
theorem dX1_passesNear_15 : decode cX1_passesNear 15 = .ok (.i2l, 1) := by decide +kernel
theorem dX1_passesNear_16 : decode cX1_passesNear 16 = .ok (.lstore_n 1, 1) := by decide +kernel
theorem dX1_passesNear_17 : decode cX1_passesNear 17 = .ok (.aload_n 0, 1) := by decide +kernel
theorem dX1_passesNear_18 : decode cX1_passesNear 18 = .ok (.getfield 13, 3) := by decide +kernel
theorem dX1_passesNear_21 : decode cX1_passesNear 21 = .ok (.getfield 157, 3) := by decide +kernel
theorem dX1_passesNear_24 : decode cX1_passesNear 24 = .ok (.aload_n 0, 1) := by decide +kernel
theorem dX1_passesNear_25 : decode cX1_passesNear 25 = .ok (.getfield 7, 3) := by decide +kernel
theorem dX1_passesNear_28 : decode cX1_passesNear 28 = .ok (.getfield 157, 3) := by decide +kernel
theorem dX1_passesNear_31 : decode cX1_passesNear 31 = .ok (.isub, 1) := by decide +kernel
theorem dX1_passesNear_32 : decode cX1_passesNear 32 = .ok (.i2l, 1) := by decide +kernel
theorem dX1_passesNear_33 : decode cX1_passesNear 33 = .ok (.lstore_n 3, 1) := by decide +kernel
theorem dX1_passesNear_34 : decode cX1_passesNear 34 = .ok (.aload_n 0, 1) := by decide +kernel
theorem dX1_passesNear_35 : decode cX1_passesNear 35 = .ok (.getfield 13, 3) := by decide +kernel
theorem dX1_passesNear_38 : decode cX1_passesNear 38 = .ok (.getfield 160, 3) := by decide +kernel
theorem dX1_passesNear_41 : decode cX1_passesNear 41 = .ok (.aload_n 0, 1) := by decide +kernel
theorem dX1_passesNear_42 : decode cX1_passesNear 42 = .ok (.getfield 7, 3) := by decide +kernel
theorem dX1_passesNear_45 : decode cX1_passesNear 45 = .ok (.getfield 160, 3) := by decide +kernel
theorem dX1_passesNear_48 : decode cX1_passesNear 48 = .ok (.isub, 1) := by decide +kernel
theorem dX1_passesNear_49 : decode cX1_passesNear 49 = .ok (.i2l, 1) := by decide +kernel
theorem dX1_passesNear_50 : decode cX1_passesNear 50 = .ok (.lstore 5, 2) := by decide +kernel
theorem dX1_passesNear_52 : decode cX1_passesNear 52 = .ok (.aload_n 0, 1) := by decide +kernel
theorem dX1_passesNear_53 : decode cX1_passesNear 53 = .ok (.getfield 13, 3) := by decide +kernel
theorem dX1_passesNear_56 : decode cX1_passesNear 56 = .ok (.getfield 163, 3) := by decide +kernel
theorem dX1_passesNear_59 : decode cX1_passesNear 59 = .ok (.aload_n 0, 1) := by decide +kernel
theorem dX1_passesNear_60 : decode cX1_passesNear 60 = .ok (.getfield 7, 3) := by decide +kernel
theorem dX1_passesNear_63 : decode cX1_passesNear 63 = .ok (.getfield 163, 3) := by decide +kernel
theorem dX1_passesNear_66 : decode cX1_passesNear 66 = .ok (.isub, 1) := by decide +kernel
theorem dX1_passesNear_67 : decode cX1_passesNear 67 = .ok (.i2l, 1) := by decide +kernel
theorem dX1_passesNear_68 : decode cX1_passesNear 68 = .ok (.lstore 7, 2) := by decide +kernel
theorem dX1_passesNear_70 : decode cX1_passesNear 70 = .ok (.lload_n 1, 1) := by decide +kernel
theorem dX1_passesNear_71 : decode cX1_passesNear 71 = .ok (.lload 7, 2) := by decide +kernel
theorem dX1_passesNear_73 : decode cX1_passesNear 73 = .ok (.lmul, 1) := by decide +kernel
theorem dX1_passesNear_74 : decode cX1_passesNear 74 = .ok (.lload_n 3, 1) := by decide +kernel
theorem dX1_passesNear_75 : decode cX1_passesNear 75 = .ok (.lload 5, 2) := by decide +kernel
theorem dX1_passesNear_77 : decode cX1_passesNear 77 = .ok (.lmul, 1) := by decide +kernel
theorem dX1_passesNear_78 : decode cX1_passesNear 78 = .ok (.lsub, 1) := by decide +kernel
theorem dX1_passesNear_79 : decode cX1_passesNear 79 = .ok (.lstore 9, 2) := by decide +kernel
theorem dX1_passesNear_81 : decode cX1_passesNear 81 = .ok (.aload_n 0, 1) := by decide +kernel
theorem dX1_passesNear_82 : decode cX1_passesNear 82 = .ok (.getfield 16, 3) := by decide +kernel
theorem dX1_passesNear_85 : decode cX1_passesNear 85 = .ok (.invokevirtual 166, 3) := by decide +kernel
theorem dX1_passesNear_88 : decode cX1_passesNear 88 = .ok (.i2l, 1) := by decide +kernel
theorem dX1_passesNear_89 : decode cX1_passesNear 89 = .ok (.lstore 11, 2) := by decide +kernel
theorem dX1_passesNear_91 : decode cX1_passesNear 91 = .ok (.lload 9, 2) := by decide +kernel
theorem dX1_passesNear_93 : decode cX1_passesNear 93 = .ok (.lload 9, 2) := by decide +kernel
theorem dX1_passesNear_95 : decode cX1_passesNear 95 = .ok (.lmul, 1) := by decide +kernel
theorem dX1_passesNear_96 : decode cX1_passesNear 96 = .ok (.lload 11, 2) := by decide +kernel
theorem dX1_passesNear_98 : decode cX1_passesNear 98 = .ok (.lload 11, 2) := by decide +kernel
theorem dX1_passesNear_100 : decode cX1_passesNear 100 = .ok (.lmul, 1) := by decide +kernel
theorem dX1_passesNear_101 : decode cX1_passesNear 101 = .ok (.lload 5, 2) := by decide +kernel
theorem dX1_passesNear_103 : decode cX1_passesNear 103 = .ok (.lload 5, 2) := by decide +kernel
theorem dX1_passesNear_105 : decode cX1_passesNear 105 = .ok (.lmul, 1) := by decide +kernel
theorem dX1_passesNear_106 : decode cX1_passesNear 106 = .ok (.lload 7, 2) := by decide +kernel
theorem dX1_passesNear_108 : decode cX1_passesNear 108 = .ok (.lload 7, 2) := by decide +kernel
theorem dX1_passesNear_110 : decode cX1_passesNear 110 = .ok (.lmul, 1) := by decide +kernel
theorem dX1_passesNear_111 : decode cX1_passesNear 111 = .ok (.ladd, 1) := by decide +kernel
theorem dX1_passesNear_112 : decode cX1_passesNear 112 = .ok (.lmul, 1) := by decide +kernel
theorem dX1_passesNear_113 : decode cX1_passesNear 113 = .ok (.lcmp, 1) := by decide +kernel
theorem dX1_passesNear_114 : decode cX1_passesNear 114 = .ok (.ifCond .gt 7, 3) := by decide +kernel
theorem dX1_passesNear_117 : decode cX1_passesNear 117 = .ok (.iconst 1, 1) := by decide +kernel
theorem dX1_passesNear_118 : decode cX1_passesNear 118 = .ok (.goto 4, 3) := by decide +kernel
theorem dX1_passesNear_121 : decode cX1_passesNear 121 = .ok (.iconst 0, 1) := by decide +kernel
theorem dX1_passesNear_122 : decode cX1_passesNear 122 = .ok (.ireturn, 1) := by decide +kernel
theorem dX1_meetsInHeight_0 : decode cX1_meetsInHeight 0 = .ok (.aload_n 0, 1) := by decide +kernel
theorem dX1_meetsInHeight_1 : decode cX1_meetsInHeight 1 = .ok (.getfield 13, 3) := by decide +kernel
theorem dX1_meetsInHeight_4 : decode cX1_meetsInHeight 4 = .ok (.getfield 169, 3) := by decide +kernel
theorem dX1_meetsInHeight_7 : decode cX1_meetsInHeight 7 = .ok (.aload_n 0, 1) := by decide +kernel
theorem dX1_meetsInHeight_8 : decode cX1_meetsInHeight 8 = .ok (.getfield 7, 3) := by decide +kernel
theorem dX1_meetsInHeight_11 : decode cX1_meetsInHeight 11 = .ok (.getfield 169, 3) := by decide +kernel
theorem dX1_meetsInHeight_14 : decode cX1_meetsInHeight 14 = .ok (.isub, 1) := by decide +kernel
theorem dX1_meetsInHeight_15 : decode cX1_meetsInHeight 15 = .ok (.istore_n 1, 1) := by decide +kernel
theorem dX1_meetsInHeight_16 : decode cX1_meetsInHeight 16 = .ok (.aload_n 0, 1) := by decide +kernel
theorem dX1_meetsInHeight_17 : decode cX1_meetsInHeight 17 = .ok (.getfield 13, 3) := by decide +kernel
theorem dX1_meetsInHeight_20 : decode cX1_meetsInHeight 20 = .ok (.getfield 172, 3) := by decide +kernel
theorem dX1_meetsInHeight_23 : decode cX1_meetsInHeight 23 = .ok (.aload_n 0, 1) := by decide +kernel
theorem dX1_meetsInHeight_24 : decode cX1_meetsInHeight 24 = .ok (.getfield 7, 3) := by decide +kernel
theorem dX1_meetsInHeight_27 : decode cX1_meetsInHeight 27 = .ok (.getfield 172, 3) := by decide +kernel
theorem dX1_meetsInHeight_30 : decode cX1_meetsInHeight 30 = .ok (.isub, 1) := by decide +kernel
theorem dX1_meetsInHeight_31 : decode cX1_meetsInHeight 31 = .ok (.istore_n 2, 1) := by decide +kernel
theorem dX1_meetsInHeight_32 : decode cX1_meetsInHeight 32 = .ok (.iload_n 1, 1) := by decide +kernel
theorem dX1_meetsInHeight_33 : decode cX1_meetsInHeight 33 = .ok (.invokestatic 175, 3) := by decide +kernel
theorem dX1_meetsInHeight_36 : decode cX1_meetsInHeight 36 = .ok (.aload_n 0, 1) := by decide +kernel
theorem dX1_meetsInHeight_37 : decode cX1_meetsInHeight 37 = .ok (.getfield 16, 3) := by decide +kernel
theorem dX1_meetsInHeight_40 : decode cX1_meetsInHeight 40 = .ok (.invokevirtual 178, 3) := by decide +kernel
theorem dX1_meetsInHeight_43 : decode cX1_meetsInHeight 43 = .ok (.if_icmp .le 28, 3) := by decide +kernel
theorem dX1_meetsInHeight_46 : decode cX1_meetsInHeight 46 = .ok (.iload_n 1, 1) := by decide +kernel
theorem dX1_meetsInHeight_47 : decode cX1_meetsInHeight 47 = .ok (.iload_n 2, 1) := by decide +kernel
theorem dX1_meetsInHeight_48 : decode cX1_meetsInHeight 48 = .ok (.imul, 1) := by decide +kernel
theorem dX1_meetsInHeight_49 : decode cX1_meetsInHeight 49 = .ok (.ifCond .ge 26, 3) := by decide +kernel
theorem dX1_meetsInHeight_52 : decode cX1_meetsInHeight 52 = .ok (.iload_n 1, 1) := by decide +kernel
theorem dX1_meetsInHeight_53 : decode cX1_meetsInHeight 53 = .ok (.invokestatic 175, 3) := by decide +kernel
theorem dX1_meetsInHeight_56 : decode cX1_meetsInHeight 56 = .ok (.aload_n 0, 1) := by decide +kernel
theorem dX1_meetsInHeight_57 : decode cX1_meetsInHeight 57 = .ok (.getfield 16, 3) := by decide +kernel
theorem dX1_meetsInHeight_60 : decode cX1_meetsInHeight 60 = .ok (.invokevirtual 151, 3) := by decide +kernel
theorem dX1_meetsInHeight_63 : decode cX1_meetsInHeight 63 = .ok (.iload_n 2, 1) := by decide +kernel
theorem dX1_meetsInHeight_64 : decode cX1_meetsInHeight 64 = .ok (.invokestatic 175, 3) := by decide +kernel
theorem dX1_meetsInHeight_67 : decode cX1_meetsInHeight 67 = .ok (.imul, 1) := by decide +kernel
theorem dX1_meetsInHeight_68 : decode cX1_meetsInHeight 68 = .ok (.if_icmp .gt 7, 3) := by decide +kernel
theorem dX1_meetsInHeight_71 : decode cX1_meetsInHeight 71 = .ok (.iconst 1, 1) := by decide +kernel
theorem dX1_meetsInHeight_72 : decode cX1_meetsInHeight 72 = .ok (.goto 4, 3) := by decide +kernel
theorem dX1_meetsInHeight_75 : decode cX1_meetsInHeight 75 = .ok (.iconst 0, 1) := by decide +kernel
theorem dX1_meetsInHeight_76 : decode cX1_meetsInHeight 76 = .ok (.ireturn, 1) := by decide +kernel
theorem dX1_nearSquared_0 : decode cX1_nearSquared 0 = .ok (.aload_n 0, 1) := by decide +kernel
theorem dX1_nearSquared_1 : decode cX1_nearSquared 1 = .ok (.getfield 16, 3) := by decide +kernel
theorem dX1_nearSquared_4 : decode cX1_nearSquared 4 = .ok (.invokevirtual 181, 3) := by decide +kernel
theorem dX1_nearSquared_7 : decode cX1_nearSquared 7 = .ok (.i2l, 1) := by decide +kernel
theorem dX1_nearSquared_8 : decode cX1_nearSquared 8 = .ok (.lstore_n 1, 1) := by decide +kernel
theorem dX1_nearSquared_9 : decode cX1_nearSquared 9 = .ok (.lload_n 1, 1) := by decide +kernel
theorem dX1_nearSquared_10 : decode cX1_nearSquared 10 = .ok (.lload_n 1, 1) := by decide +kernel
theorem dX1_nearSquared_11 : decode cX1_nearSquared 11 = .ok (.lmul, 1) := by decide +kernel
theorem dX1_nearSquared_12 : decode cX1_nearSquared 12 = .ok (.lreturn, 1) := by decide +kernel
theorem dX1_distanceSquared_0 : decode cX1_distanceSquared 0 = .ok (.aload_n 0, 1) := by decide +kernel
theorem dX1_distanceSquared_1 : decode cX1_distanceSquared 1 = .ok (.getfield 13, 3) := by decide +kernel
theorem dX1_distanceSquared_4 : decode cX1_distanceSquared 4 = .ok (.getfield 154, 3) := by decide +kernel
theorem dX1_distanceSquared_7 : decode cX1_distanceSquared 7 = .ok (.aload_n 0, 1) := by decide +kernel
theorem dX1_distanceSquared_8 : decode cX1_distanceSquared 8 = .ok (.getfield 7, 3) := by decide +kernel
theorem dX1_distanceSquared_11 : decode cX1_distanceSquared 11 = .ok (.getfield 154, 3) := by decide +kernel
theorem dX1_distanceSquared_14 : decode cX1_distanceSquared 14 = .ok (.isub, 1) := by decide +kernel
theorem dX1_distanceSquared_15 : decode cX1_distanceSquared 15 = .ok (.i2l, 1) := by decide +kernel
theorem dX1_distanceSquared_16 : decode cX1_distanceSquared 16 = .ok (.lstore_n 1, 1) := by decide +kernel
theorem dX1_distanceSquared_17 : decode cX1_distanceSquared 17 = .ok (.aload_n 0, 1) := by decide +kernel
theorem dX1_distanceSquared_18 : decode cX1_distanceSquared 18 = .ok (.getfield 13, 3) := by decide +kernel
theorem dX1_distanceSquared_21 : decode cX1_distanceSquared 21 = .ok (.getfield 157, 3) := by decide +kernel
theorem dX1_distanceSquared_24 : decode cX1_distanceSquared 24 = .ok (.aload_n 0, 1) := by decide +kernel
theorem dX1_distanceSquared_25 : decode cX1_distanceSquared 25 = .ok (.getfield 7, 3) := by decide +kernel
theorem dX1_distanceSquared_28 : decode cX1_distanceSquared 28 = .ok (.getfield 157, 3) := by decide +kernel
theorem dX1_distanceSquared_31 : decode cX1_distanceSquared 31 = .ok (.isub, 1) := by decide +kernel
theorem dX1_distanceSquared_32 : decode cX1_distanceSquared 32 = .ok (.i2l, 1) := by decide +kernel
theorem dX1_distanceSquared_33 : decode cX1_distanceSquared 33 = .ok (.lstore_n 3, 1) := by decide +kernel
theorem dX1_distanceSquared_34 : decode cX1_distanceSquared 34 = .ok (.lload_n 1, 1) := by decide +kernel
theorem dX1_distanceSquared_35 : decode cX1_distanceSquared 35 = .ok (.lload_n 1, 1) := by decide +kernel
theorem dX1_distanceSquared_36 : decode cX1_distanceSquared 36 = .ok (.lmul, 1) := by decide +kernel
theorem dX1_distanceSquared_37 : decode cX1_distanceSquared 37 = .ok (.lload_n 3, 1) := by decide +kernel
theorem dX1_distanceSquared_38 : decode cX1_distanceSquared 38 = .ok (.lload_n 3, 1) := by decide +kernel
theorem dX1_distanceSquared_39 : decode cX1_distanceSquared 39 = .ok (.lmul, 1) := by decide +kernel
theorem dX1_distanceSquared_40 : decode cX1_distanceSquared 40 = .ok (.ladd, 1) := by decide +kernel
theorem dX1_distanceSquared_41 : decode cX1_distanceSquared 41 = .ok (.lreturn, 1) := by decide +kernel
theorem dX1_heightBetween_0 : decode cX1_heightBetween 0 = .ok (.aload_n 0, 1) := by decide +kernel
theorem dX1_heightBetween_1 : decode cX1_heightBetween 1 = .ok (.getfield 13, 3) := by decide +kernel
theorem dX1_heightBetween_4 : decode cX1_heightBetween 4 = .ok (.getfield 169, 3) := by decide +kernel
theorem dX1_heightBetween_7 : decode cX1_heightBetween 7 = .ok (.aload_n 0, 1) := by decide +kernel
theorem dX1_heightBetween_8 : decode cX1_heightBetween 8 = .ok (.getfield 7, 3) := by decide +kernel
theorem dX1_heightBetween_11 : decode cX1_heightBetween 11 = .ok (.getfield 169, 3) := by decide +kernel
theorem dX1_heightBetween_14 : decode cX1_heightBetween 14 = .ok (.isub, 1) := by decide +kernel
theorem dX1_heightBetween_15 : decode cX1_heightBetween 15 = .ok (.invokestatic 175, 3) := by decide +kernel
theorem dX1_heightBetween_18 : decode cX1_heightBetween 18 = .ok (.ireturn, 1) := by decide +kernel
theorem dX1_closing_0 : decode cX1_closing 0 = .ok (.aload_n 0, 1) := by decide +kernel
theorem dX1_closing_1 : decode cX1_closing 1 = .ok (.getfield 13, 3) := by decide +kernel
theorem dX1_closing_4 : decode cX1_closing 4 = .ok (.getfield 154, 3) := by decide +kernel
theorem dX1_closing_7 : decode cX1_closing 7 = .ok (.aload_n 0, 1) := by decide +kernel
theorem dX1_closing_8 : decode cX1_closing 8 = .ok (.getfield 7, 3) := by decide +kernel
theorem dX1_closing_11 : decode cX1_closing 11 = .ok (.getfield 154, 3) := by decide +kernel
theorem dX1_closing_14 : decode cX1_closing 14 = .ok (.isub, 1) := by decide +kernel
theorem dX1_closing_15 : decode cX1_closing 15 = .ok (.i2l, 1) := by decide +kernel
theorem dX1_closing_16 : decode cX1_closing 16 = .ok (.lstore_n 1, 1) := by decide +kernel
theorem dX1_closing_17 : decode cX1_closing 17 = .ok (.aload_n 0, 1) := by decide +kernel
theorem dX1_closing_18 : decode cX1_closing 18 = .ok (.getfield 13, 3) := by decide +kernel
theorem dX1_closing_21 : decode cX1_closing 21 = .ok (.getfield 157, 3) := by decide +kernel
theorem dX1_closing_24 : decode cX1_closing 24 = .ok (.aload_n 0, 1) := by decide +kernel
theorem dX1_closing_25 : decode cX1_closing 25 = .ok (.getfield 7, 3) := by decide +kernel
theorem dX1_closing_28 : decode cX1_closing 28 = .ok (.getfield 157, 3) := by decide +kernel
theorem dX1_closing_31 : decode cX1_closing 31 = .ok (.isub, 1) := by decide +kernel
theorem dX1_closing_32 : decode cX1_closing 32 = .ok (.i2l, 1) := by decide +kernel
theorem dX1_closing_33 : decode cX1_closing 33 = .ok (.lstore_n 3, 1) := by decide +kernel
theorem dX1_closing_34 : decode cX1_closing 34 = .ok (.aload_n 0, 1) := by decide +kernel
theorem dX1_closing_35 : decode cX1_closing 35 = .ok (.getfield 13, 3) := by decide +kernel
theorem dX1_closing_38 : decode cX1_closing 38 = .ok (.getfield 160, 3) := by decide +kernel
theorem dX1_closing_41 : decode cX1_closing 41 = .ok (.aload_n 0, 1) := by decide +kernel
theorem dX1_closing_42 : decode cX1_closing 42 = .ok (.getfield 7, 3) := by decide +kernel
theorem dX1_closing_45 : decode cX1_closing 45 = .ok (.getfield 160, 3) := by decide +kernel
theorem dX1_closing_48 : decode cX1_closing 48 = .ok (.isub, 1) := by decide +kernel
theorem dX1_closing_49 : decode cX1_closing 49 = .ok (.i2l, 1) := by decide +kernel
theorem dX1_closing_50 : decode cX1_closing 50 = .ok (.lstore 5, 2) := by decide +kernel
theorem dX1_closing_52 : decode cX1_closing 52 = .ok (.aload_n 0, 1) := by decide +kernel
theorem dX1_closing_53 : decode cX1_closing 53 = .ok (.getfield 13, 3) := by decide +kernel
theorem dX1_closing_56 : decode cX1_closing 56 = .ok (.getfield 163, 3) := by decide +kernel
theorem dX1_closing_59 : decode cX1_closing 59 = .ok (.aload_n 0, 1) := by decide +kernel
theorem dX1_closing_60 : decode cX1_closing 60 = .ok (.getfield 7, 3) := by decide +kernel
theorem dX1_closing_63 : decode cX1_closing 63 = .ok (.getfield 163, 3) := by decide +kernel
theorem dX1_closing_66 : decode cX1_closing 66 = .ok (.isub, 1) := by decide +kernel
theorem dX1_closing_67 : decode cX1_closing 67 = .ok (.i2l, 1) := by decide +kernel
theorem dX1_closing_68 : decode cX1_closing 68 = .ok (.lstore 7, 2) := by decide +kernel
theorem dX1_closing_70 : decode cX1_closing 70 = .ok (.lload_n 1, 1) := by decide +kernel
theorem dX1_closing_71 : decode cX1_closing 71 = .ok (.lload 5, 2) := by decide +kernel
theorem dX1_closing_73 : decode cX1_closing 73 = .ok (.lmul, 1) := by decide +kernel
theorem dX1_closing_74 : decode cX1_closing 74 = .ok (.lload_n 3, 1) := by decide +kernel
theorem dX1_closing_75 : decode cX1_closing 75 = .ok (.lload 7, 2) := by decide +kernel
theorem dX1_closing_77 : decode cX1_closing 77 = .ok (.lmul, 1) := by decide +kernel
theorem dX1_closing_78 : decode cX1_closing 78 = .ok (.ladd, 1) := by decide +kernel
theorem dX1_closing_79 : decode cX1_closing 79 = .ok (.lreturn, 1) := by decide +kernel
theorem dX1_timeLeft_0 : decode cX1_timeLeft 0 = .ok (.aload_n 0, 1) := by decide +kernel
theorem dX1_timeLeft_1 : decode cX1_timeLeft 1 = .ok (.getfield 13, 3) := by decide +kernel
theorem dX1_timeLeft_4 : decode cX1_timeLeft 4 = .ok (.getfield 160, 3) := by decide +kernel
theorem dX1_timeLeft_7 : decode cX1_timeLeft 7 = .ok (.aload_n 0, 1) := by decide +kernel
theorem dX1_timeLeft_8 : decode cX1_timeLeft 8 = .ok (.getfield 7, 3) := by decide +kernel
theorem dX1_timeLeft_11 : decode cX1_timeLeft 11 = .ok (.getfield 160, 3) := by decide +kernel
theorem dX1_timeLeft_14 : decode cX1_timeLeft 14 = .ok (.isub, 1) := by decide +kernel
theorem dX1_timeLeft_15 : decode cX1_timeLeft 15 = .ok (.i2l, 1) := by decide +kernel
theorem dX1_timeLeft_16 : decode cX1_timeLeft 16 = .ok (.lstore_n 1, 1) := by decide +kernel
theorem dX1_timeLeft_17 : decode cX1_timeLeft 17 = .ok (.aload_n 0, 1) := by decide +kernel
theorem dX1_timeLeft_18 : decode cX1_timeLeft 18 = .ok (.getfield 13, 3) := by decide +kernel
theorem dX1_timeLeft_21 : decode cX1_timeLeft 21 = .ok (.getfield 163, 3) := by decide +kernel
theorem dX1_timeLeft_24 : decode cX1_timeLeft 24 = .ok (.aload_n 0, 1) := by decide +kernel
theorem dX1_timeLeft_25 : decode cX1_timeLeft 25 = .ok (.getfield 7, 3) := by decide +kernel
theorem dX1_timeLeft_28 : decode cX1_timeLeft 28 = .ok (.getfield 163, 3) := by decide +kernel
theorem dX1_timeLeft_31 : decode cX1_timeLeft 31 = .ok (.isub, 1) := by decide +kernel
theorem dX1_timeLeft_32 : decode cX1_timeLeft 32 = .ok (.i2l, 1) := by decide +kernel
theorem dX1_timeLeft_33 : decode cX1_timeLeft 33 = .ok (.lstore_n 3, 1) := by decide +kernel
theorem dX1_timeLeft_34 : decode cX1_timeLeft 34 = .ok (.lload_n 1, 1) := by decide +kernel
theorem dX1_timeLeft_35 : decode cX1_timeLeft 35 = .ok (.lload_n 1, 1) := by decide +kernel
theorem dX1_timeLeft_36 : decode cX1_timeLeft 36 = .ok (.lmul, 1) := by decide +kernel
theorem dX1_timeLeft_37 : decode cX1_timeLeft 37 = .ok (.lload_n 3, 1) := by decide +kernel
theorem dX1_timeLeft_38 : decode cX1_timeLeft 38 = .ok (.lload_n 3, 1) := by decide +kernel
theorem dX1_timeLeft_39 : decode cX1_timeLeft 39 = .ok (.lmul, 1) := by decide +kernel
theorem dX1_timeLeft_40 : decode cX1_timeLeft 40 = .ok (.ladd, 1) := by decide +kernel
theorem dX1_timeLeft_41 : decode cX1_timeLeft 41 = .ok (.lstore 5, 2) := by decide +kernel
theorem dX1_timeLeft_43 : decode cX1_timeLeft 43 = .ok (.aload_n 0, 1) := by decide +kernel
theorem dX1_timeLeft_44 : decode cX1_timeLeft 44 = .ok (.invokevirtual 95, 3) := by decide +kernel
theorem dX1_timeLeft_47 : decode cX1_timeLeft 47 = .ok (.lstore 7, 2) := by decide +kernel
theorem dX1_timeLeft_49 : decode cX1_timeLeft 49 = .ok (.lload 7, 2) := by decide +kernel
theorem dX1_timeLeft_51 : decode cX1_timeLeft 51 = .ok (.lconst 0, 1) := by decide +kernel
theorem dX1_timeLeft_52 : decode cX1_timeLeft 52 = .ok (.lcmp, 1) := by decide +kernel
theorem dX1_timeLeft_53 : decode cX1_timeLeft 53 = .ok (.ifCond .ge 10, 3) := by decide +kernel
theorem dX1_timeLeft_56 : decode cX1_timeLeft 56 = .ok (.lload 5, 2) := by decide +kernel
theorem dX1_timeLeft_58 : decode cX1_timeLeft 58 = .ok (.lconst 0, 1) := by decide +kernel
theorem dX1_timeLeft_59 : decode cX1_timeLeft 59 = .ok (.lcmp, 1) := by decide +kernel
theorem dX1_timeLeft_60 : decode cX1_timeLeft 60 = .ok (.ifCond .ne 5, 3) := by decide +kernel
theorem dX1_timeLeft_63 : decode cX1_timeLeft 63 = .ok (.iconst 0, 1) := by decide +kernel
theorem dX1_timeLeft_64 : decode cX1_timeLeft 64 = .ok (.ireturn, 1) := by decide +kernel
theorem dX1_timeLeft_65 : decode cX1_timeLeft 65 = .ok (.lload 7, 2) := by decide +kernel
theorem dX1_timeLeft_67 : decode cX1_timeLeft 67 = .ok (.lneg, 1) := by decide +kernel
theorem dX1_timeLeft_68 : decode cX1_timeLeft 68 = .ok (.lload 5, 2) := by decide +kernel
theorem dX1_timeLeft_70 : decode cX1_timeLeft 70 = .ok (.ldiv, 1) := by decide +kernel
theorem dX1_timeLeft_71 : decode cX1_timeLeft 71 = .ok (.aload_n 0, 1) := by decide +kernel
theorem dX1_timeLeft_72 : decode cX1_timeLeft 72 = .ok (.getfield 16, 3) := by decide +kernel
theorem dX1_timeLeft_75 : decode cX1_timeLeft 75 = .ok (.invokevirtual 151, 3) := by decide +kernel
theorem dX1_timeLeft_78 : decode cX1_timeLeft 78 = .ok (.i2l, 1) := by decide +kernel
theorem dX1_timeLeft_79 : decode cX1_timeLeft 79 = .ok (.invokestatic 66, 3) := by decide +kernel
theorem dX1_timeLeft_82 : decode cX1_timeLeft 82 = .ok (.l2i, 1) := by decide +kernel
theorem dX1_timeLeft_83 : decode cX1_timeLeft 83 = .ok (.ireturn, 1) := by decide +kernel
theorem dX1_parting_0 : decode cX1_parting 0 = .ok (.iconst 0, 1) := by decide +kernel
theorem dX1_parting_1 : decode cX1_parting 1 = .ok (.iload 4, 2) := by decide +kernel
theorem dX1_parting_3 : decode cX1_parting 3 = .ok (.aload_n 0, 1) := by decide +kernel
theorem dX1_parting_4 : decode cX1_parting 4 = .ok (.getfield 16, 3) := by decide +kernel
theorem dX1_parting_7 : decode cX1_parting 7 = .ok (.invokevirtual 37, 3) := by decide +kernel
theorem dX1_parting_10 : decode cX1_parting 10 = .ok (.invokestatic 72, 3) := by decide +kernel
theorem dX1_parting_13 : decode cX1_parting 13 = .ok (.iload_n 3, 1) := by decide +kernel
theorem dX1_parting_14 : decode cX1_parting 14 = .ok (.isub, 1) := by decide +kernel
theorem dX1_parting_15 : decode cX1_parting 15 = .ok (.invokestatic 184, 3) := by decide +kernel
theorem dX1_parting_18 : decode cX1_parting 18 = .ok (.istore 5, 2) := by decide +kernel
theorem dX1_parting_20 : decode cX1_parting 20 = .ok (.iload 4, 2) := by decide +kernel
theorem dX1_parting_22 : decode cX1_parting 22 = .ok (.iload 5, 2) := by decide +kernel
theorem dX1_parting_24 : decode cX1_parting 24 = .ok (.isub, 1) := by decide +kernel
theorem dX1_parting_25 : decode cX1_parting 25 = .ok (.istore 6, 2) := by decide +kernel
theorem dX1_parting_27 : decode cX1_parting 27 = .ok (.iload_n 1, 1) := by decide +kernel
theorem dX1_parting_28 : decode cX1_parting 28 = .ok (.ifCond .eq 10, 3) := by decide +kernel
theorem dX1_parting_31 : decode cX1_parting 31 = .ok (.aload_n 0, 1) := by decide +kernel
theorem dX1_parting_32 : decode cX1_parting 32 = .ok (.getfield 7, 3) := by decide +kernel
theorem dX1_parting_35 : decode cX1_parting 35 = .ok (.goto 7, 3) := by decide +kernel
theorem dX1_parting_38 : decode cX1_parting 38 = .ok (.aload_n 0, 1) := by decide +kernel
theorem dX1_parting_39 : decode cX1_parting 39 = .ok (.getfield 13, 3) := by decide +kernel
theorem dX1_parting_42 : decode cX1_parting 42 = .ok (.astore 7, 2) := by decide +kernel
theorem dX1_parting_44 : decode cX1_parting 44 = .ok (.iload_n 1, 1) := by decide +kernel
theorem dX1_parting_45 : decode cX1_parting 45 = .ok (.ifCond .eq 10, 3) := by decide +kernel
theorem dX1_parting_48 : decode cX1_parting 48 = .ok (.aload_n 0, 1) := by decide +kernel
theorem dX1_parting_49 : decode cX1_parting 49 = .ok (.getfield 13, 3) := by decide +kernel
theorem dX1_parting_52 : decode cX1_parting 52 = .ok (.goto 7, 3) := by decide +kernel
theorem dX1_parting_55 : decode cX1_parting 55 = .ok (.aload_n 0, 1) := by decide +kernel
theorem dX1_parting_56 : decode cX1_parting 56 = .ok (.getfield 7, 3) := by decide +kernel
theorem dX1_parting_59 : decode cX1_parting 59 = .ok (.astore 8, 2) := by decide +kernel
theorem dX1_parting_61 : decode cX1_parting 61 = .ok (.aload 7, 2) := by decide +kernel
theorem dX1_parting_63 : decode cX1_parting 63 = .ok (.iload_n 2, 1) := by decide +kernel
theorem dX1_parting_64 : decode cX1_parting 64 = .ok (.iload 5, 2) := by decide +kernel
theorem dX1_parting_66 : decode cX1_parting 66 = .ok (.iload 6, 2) := by decide +kernel
theorem dX1_parting_68 : decode cX1_parting 68 = .ok (.invokevirtual 187, 3) := by decide +kernel
theorem dX1_parting_71 : decode cX1_parting 71 = .ok (.aload 8, 2) := by decide +kernel
theorem dX1_parting_73 : decode cX1_parting 73 = .ok (.iload_n 2, 1) := by decide +kernel
theorem dX1_parting_74 : decode cX1_parting 74 = .ok (.iload 5, 2) := by decide +kernel
theorem dX1_parting_76 : decode cX1_parting 76 = .ok (.iload 6, 2) := by decide +kernel
theorem dX1_parting_78 : decode cX1_parting 78 = .ok (.invokevirtual 191, 3) := by decide +kernel
theorem dX1_parting_81 : decode cX1_parting 81 = .ok (.isub, 1) := by decide +kernel
theorem dX1_parting_82 : decode cX1_parting 82 = .ok (.ireturn, 1) := by decide +kernel
theorem dX1_enough_0 : decode cX1_enough 0 = .ok (.iload_n 2, 1) := by decide +kernel
theorem dX1_enough_1 : decode cX1_enough 1 = .ok (.istore 5, 2) := by decide +kernel
theorem dX1_enough_3 : decode cX1_enough 3 = .ok (.iload 5, 2) := by decide +kernel
theorem dX1_enough_5 : decode cX1_enough 5 = .ok (.iconst 4, 1) := by decide +kernel
theorem dX1_enough_6 : decode cX1_enough 6 = .ok (.if_icmp .ge 32, 3) := by decide +kernel
theorem dX1_enough_9 : decode cX1_enough 9 = .ok (.aload_n 0, 1) := by decide +kernel
theorem dX1_enough_10 : decode cX1_enough 10 = .ok (.iload_n 1, 1) := by decide +kernel
theorem dX1_enough_11 : decode cX1_enough 11 = .ok (.iload 5, 2) := by decide +kernel
theorem dX1_enough_13 : decode cX1_enough 13 = .ok (.iload_n 3, 1) := by decide +kernel
theorem dX1_enough_14 : decode cX1_enough 14 = .ok (.iload 4, 2) := by decide +kernel
theorem dX1_enough_16 : decode cX1_enough 16 = .ok (.invokevirtual 120, 3) := by decide +kernel
theorem dX1_enough_19 : decode cX1_enough 19 = .ok (.aload_n 0, 1) := by decide +kernel
theorem dX1_enough_20 : decode cX1_enough 20 = .ok (.getfield 16, 3) := by decide +kernel
theorem dX1_enough_23 : decode cX1_enough 23 = .ok (.invokevirtual 123, 3) := by decide +kernel
theorem dX1_enough_26 : decode cX1_enough 26 = .ok (.if_icmp .lt 6, 3) := by decide +kernel
theorem dX1_enough_29 : decode cX1_enough 29 = .ok (.iload 5, 2) := by decide +kernel
theorem dX1_enough_31 : decode cX1_enough 31 = .ok (.ireturn, 1) := by decide +kernel
theorem dX1_enough_32 : decode cX1_enough 32 = .ok (.iinc 5 1, 3) := by decide +kernel
theorem dX1_enough_35 : decode cX1_enough 35 = .ok (.goto (-32), 3) := by decide +kernel
theorem dX1_enough_38 : decode cX1_enough 38 = .ok (.iconst 4, 1) := by decide +kernel
theorem dX1_enough_39 : decode cX1_enough 39 = .ok (.ireturn, 1) := by decide +kernel
theorem dX1_chosenSense_0 : decode cX1_chosenSense 0 = .ok (.aload_n 0, 1) := by decide +kernel
theorem dX1_chosenSense_1 : decode cX1_chosenSense 1 = .ok (.iconst 1, 1) := by decide +kernel
theorem dX1_chosenSense_2 : decode cX1_chosenSense 2 = .ok (.iconst 1, 1) := by decide +kernel
theorem dX1_chosenSense_3 : decode cX1_chosenSense 3 = .ok (.iconst 0, 1) := by decide +kernel
theorem dX1_chosenSense_4 : decode cX1_chosenSense 4 = .ok (.iload_n 1, 1) := by decide +kernel
theorem dX1_chosenSense_5 : decode cX1_chosenSense 5 = .ok (.invokevirtual 113, 3) := by decide +kernel
theorem dX1_chosenSense_8 : decode cX1_chosenSense 8 = .ok (.istore_n 2, 1) := by decide +kernel
theorem dX1_chosenSense_9 : decode cX1_chosenSense 9 = .ok (.aload_n 0, 1) := by decide +kernel
theorem dX1_chosenSense_10 : decode cX1_chosenSense 10 = .ok (.iconst 0, 1) := by decide +kernel
theorem dX1_chosenSense_11 : decode cX1_chosenSense 11 = .ok (.iconst 1, 1) := by decide +kernel
theorem dX1_chosenSense_12 : decode cX1_chosenSense 12 = .ok (.iconst 0, 1) := by decide +kernel
theorem dX1_chosenSense_13 : decode cX1_chosenSense 13 = .ok (.iload_n 1, 1) := by decide +kernel
theorem dX1_chosenSense_14 : decode cX1_chosenSense 14 = .ok (.invokevirtual 113, 3) := by decide +kernel
theorem dX1_chosenSense_17 : decode cX1_chosenSense 17 = .ok (.istore_n 3, 1) := by decide +kernel
theorem dX1_chosenSense_18 : decode cX1_chosenSense 18 = .ok (.iload_n 2, 1) := by decide +kernel
theorem dX1_chosenSense_19 : decode cX1_chosenSense 19 = .ok (.iload_n 3, 1) := by decide +kernel
theorem dX1_chosenSense_20 : decode cX1_chosenSense 20 = .ok (.if_icmp .eq 14, 3) := by decide +kernel
theorem dX1_chosenSense_23 : decode cX1_chosenSense 23 = .ok (.iload_n 2, 1) := by decide +kernel
theorem dX1_chosenSense_24 : decode cX1_chosenSense 24 = .ok (.iload_n 3, 1) := by decide +kernel
theorem dX1_chosenSense_25 : decode cX1_chosenSense 25 = .ok (.if_icmp .ge 7, 3) := by decide +kernel
theorem dX1_chosenSense_28 : decode cX1_chosenSense 28 = .ok (.iconst 1, 1) := by decide +kernel
theorem dX1_chosenSense_29 : decode cX1_chosenSense 29 = .ok (.goto 4, 3) := by decide +kernel
theorem dX1_chosenSense_32 : decode cX1_chosenSense 32 = .ok (.iconst 0, 1) := by decide +kernel
theorem dX1_chosenSense_33 : decode cX1_chosenSense 33 = .ok (.ireturn, 1) := by decide +kernel
theorem dX1_chosenSense_34 : decode cX1_chosenSense 34 = .ok (.aload_n 0, 1) := by decide +kernel
theorem dX1_chosenSense_35 : decode cX1_chosenSense 35 = .ok (.iconst 1, 1) := by decide +kernel
theorem dX1_chosenSense_36 : decode cX1_chosenSense 36 = .ok (.iload_n 2, 1) := by decide +kernel
theorem dX1_chosenSense_37 : decode cX1_chosenSense 37 = .ok (.iconst 0, 1) := by decide +kernel
theorem dX1_chosenSense_38 : decode cX1_chosenSense 38 = .ok (.iload_n 1, 1) := by decide +kernel
theorem dX1_chosenSense_39 : decode cX1_chosenSense 39 = .ok (.invokevirtual 120, 3) := by decide +kernel
theorem dX1_chosenSense_42 : decode cX1_chosenSense 42 = .ok (.istore 4, 2) := by decide +kernel
theorem dX1_chosenSense_44 : decode cX1_chosenSense 44 = .ok (.aload_n 0, 1) := by decide +kernel
theorem dX1_chosenSense_45 : decode cX1_chosenSense 45 = .ok (.iconst 0, 1) := by decide +kernel
theorem dX1_chosenSense_46 : decode cX1_chosenSense 46 = .ok (.iload_n 3, 1) := by decide +kernel
theorem dX1_chosenSense_47 : decode cX1_chosenSense 47 = .ok (.iconst 0, 1) := by decide +kernel
theorem dX1_chosenSense_48 : decode cX1_chosenSense 48 = .ok (.iload_n 1, 1) := by decide +kernel
theorem dX1_chosenSense_49 : decode cX1_chosenSense 49 = .ok (.invokevirtual 120, 3) := by decide +kernel
theorem dX1_chosenSense_52 : decode cX1_chosenSense 52 = .ok (.istore 5, 2) := by decide +kernel
theorem dX1_chosenSense_54 : decode cX1_chosenSense 54 = .ok (.iload 4, 2) := by decide +kernel
theorem dX1_chosenSense_56 : decode cX1_chosenSense 56 = .ok (.iload 5, 2) := by decide +kernel
theorem dX1_chosenSense_58 : decode cX1_chosenSense 58 = .ok (.if_icmp .eq 16, 3) := by decide +kernel
theorem dX1_chosenSense_61 : decode cX1_chosenSense 61 = .ok (.iload 4, 2) := by decide +kernel
theorem dX1_chosenSense_63 : decode cX1_chosenSense 63 = .ok (.iload 5, 2) := by decide +kernel
theorem dX1_chosenSense_65 : decode cX1_chosenSense 65 = .ok (.if_icmp .le 7, 3) := by decide +kernel
theorem dX1_chosenSense_68 : decode cX1_chosenSense 68 = .ok (.iconst 1, 1) := by decide +kernel
theorem dX1_chosenSense_69 : decode cX1_chosenSense 69 = .ok (.goto 4, 3) := by decide +kernel
theorem dX1_chosenSense_72 : decode cX1_chosenSense 72 = .ok (.iconst 0, 1) := by decide +kernel
theorem dX1_chosenSense_73 : decode cX1_chosenSense 73 = .ok (.ireturn, 1) := by decide +kernel
theorem dX1_chosenSense_74 : decode cX1_chosenSense 74 = .ok (.aload_n 0, 1) := by decide +kernel
theorem dX1_chosenSense_75 : decode cX1_chosenSense 75 = .ok (.getfield 7, 3) := by decide +kernel
theorem dX1_chosenSense_78 : decode cX1_chosenSense 78 = .ok (.getfield 169, 3) := by decide +kernel
theorem dX1_chosenSense_81 : decode cX1_chosenSense 81 = .ok (.aload_n 0, 1) := by decide +kernel
theorem dX1_chosenSense_82 : decode cX1_chosenSense 82 = .ok (.getfield 13, 3) := by decide +kernel
theorem dX1_chosenSense_85 : decode cX1_chosenSense 85 = .ok (.getfield 169, 3) := by decide +kernel
theorem dX1_chosenSense_88 : decode cX1_chosenSense 88 = .ok (.if_icmp .lt 7, 3) := by decide +kernel
theorem dX1_chosenSense_91 : decode cX1_chosenSense 91 = .ok (.iconst 1, 1) := by decide +kernel
theorem dX1_chosenSense_92 : decode cX1_chosenSense 92 = .ok (.goto 4, 3) := by decide +kernel
theorem dX1_chosenSense_95 : decode cX1_chosenSense 95 = .ok (.iconst 0, 1) := by decide +kernel
theorem dX1_chosenSense_96 : decode cX1_chosenSense 96 = .ok (.ireturn, 1) := by decide +kernel
theorem dX1_chosenParting_0 : decode cX1_chosenParting 0 = .ok (.aload_n 0, 1) := by decide +kernel
theorem dX1_chosenParting_1 : decode cX1_chosenParting 1 = .ok (.iload_n 1, 1) := by decide +kernel
theorem dX1_chosenParting_2 : decode cX1_chosenParting 2 = .ok (.invokevirtual 82, 3) := by decide +kernel
theorem dX1_chosenParting_5 : decode cX1_chosenParting 5 = .ok (.istore_n 2, 1) := by decide +kernel
theorem dX1_chosenParting_6 : decode cX1_chosenParting 6 = .ok (.aload_n 0, 1) := by decide +kernel
theorem dX1_chosenParting_7 : decode cX1_chosenParting 7 = .ok (.iload_n 2, 1) := by decide +kernel
theorem dX1_chosenParting_8 : decode cX1_chosenParting 8 = .ok (.aload_n 0, 1) := by decide +kernel
theorem dX1_chosenParting_9 : decode cX1_chosenParting 9 = .ok (.iload_n 2, 1) := by decide +kernel
theorem dX1_chosenParting_10 : decode cX1_chosenParting 10 = .ok (.iconst 1, 1) := by decide +kernel
theorem dX1_chosenParting_11 : decode cX1_chosenParting 11 = .ok (.iconst 0, 1) := by decide +kernel
theorem dX1_chosenParting_12 : decode cX1_chosenParting 12 = .ok (.iload_n 1, 1) := by decide +kernel
theorem dX1_chosenParting_13 : decode cX1_chosenParting 13 = .ok (.invokevirtual 113, 3) := by decide +kernel
theorem dX1_chosenParting_16 : decode cX1_chosenParting 16 = .ok (.iconst 0, 1) := by decide +kernel
theorem dX1_chosenParting_17 : decode cX1_chosenParting 17 = .ok (.iload_n 1, 1) := by decide +kernel
theorem dX1_chosenParting_18 : decode cX1_chosenParting 18 = .ok (.invokevirtual 120, 3) := by decide +kernel
theorem dX1_chosenParting_21 : decode cX1_chosenParting 21 = .ok (.ireturn, 1) := by decide +kernel
theorem dX2_init_0 : decode cX2_init 0 = .ok (.aload_n 0, 1) := by decide +kernel
theorem dX2_init_1 : decode cX2_init 1 = .ok (.invokespecial 1, 3) := by decide +kernel
theorem dX2_init_4 : decode cX2_init 4 = .ok (.aload_n 0, 1) := by decide +kernel
theorem dX2_init_5 : decode cX2_init 5 = .ok (.getstatic 7, 3) := by decide +kernel
theorem dX2_init_8 : decode cX2_init 8 = .ok (.invokevirtual 13, 3) := by decide +kernel
theorem dX2_init_11 : decode cX2_init 11 = .ok (.checkcast 14, 3) := by decide +kernel
theorem dX2_init_14 : decode cX2_init 14 = .ok (.putfield 18, 3) := by decide +kernel
theorem dX2_init_17 : decode cX2_init 17 = .ok (.return_, 1) := by decide +kernel
theorem dX2_allows_0 : decode cX2_allows 0 = .ok (.iload_n 0, 1) := by decide +kernel
theorem dX2_allows_1 : decode cX2_allows 1 = .ok (.ifCond .lt 33, 3) := by decide +kernel
theorem dX2_allows_4 : decode cX2_allows 4 = .ok (.iload_n 0, 1) := by decide +kernel
theorem dX2_allows_5 : decode cX2_allows 5 = .ok (.getstatic 21, 3) := by decide +kernel
theorem dX2_allows_8 : decode cX2_allows 8 = .ok (.arraylength, 1) := by decide +kernel
theorem dX2_allows_9 : decode cX2_allows 9 = .ok (.if_icmp .ge 25, 3) := by decide +kernel
theorem dX2_allows_12 : decode cX2_allows 12 = .ok (.iload_n 1, 1) := by decide +kernel
theorem dX2_allows_13 : decode cX2_allows 13 = .ok (.getstatic 21, 3) := by decide +kernel
theorem dX2_allows_16 : decode cX2_allows 16 = .ok (.iload_n 0, 1) := by decide +kernel
theorem dX2_allows_17 : decode cX2_allows 17 = .ok (.iaload, 1) := by decide +kernel
theorem dX2_allows_18 : decode cX2_allows 18 = .ok (.if_icmp .lt 16, 3) := by decide +kernel
theorem dX2_allows_21 : decode cX2_allows 21 = .ok (.iload_n 1, 1) := by decide +kernel
theorem dX2_allows_22 : decode cX2_allows 22 = .ok (.getstatic 24, 3) := by decide +kernel
theorem dX2_allows_25 : decode cX2_allows 25 = .ok (.iload_n 0, 1) := by decide +kernel
theorem dX2_allows_26 : decode cX2_allows 26 = .ok (.iaload, 1) := by decide +kernel
theorem dX2_allows_27 : decode cX2_allows 27 = .ok (.if_icmp .gt 7, 3) := by decide +kernel
theorem dX2_allows_30 : decode cX2_allows 30 = .ok (.iconst 1, 1) := by decide +kernel
theorem dX2_allows_31 : decode cX2_allows 31 = .ok (.goto 4, 3) := by decide +kernel
end
section
theorem dX2_allows_34 : decode cX2_allows 34 = .ok (.iconst 0, 1) := by decide +kernel
theorem dX2_allows_35 : decode cX2_allows 35 = .ok (.ireturn, 1) := by decide +kernel
theorem dX2_exchange_0 : decode cX2_exchange 0 = .ok (.aload_n 0, 1) := by decide +kernel
theorem dX2_exchange_1 : decode cX2_exchange 1 = .ok (.getfield 18, 3) := by decide +kernel
theorem dX2_exchange_4 : decode cX2_exchange 4 = .ok (.iload_n 1, 1) := by decide +kernel
theorem dX2_exchange_5 : decode cX2_exchange 5 = .ok (.iaload, 1) := by decide +kernel
theorem dX2_exchange_6 : decode cX2_exchange 6 = .ok (.istore_n 3, 1) := by decide +kernel
theorem dX2_exchange_7 : decode cX2_exchange 7 = .ok (.aload_n 0, 1) := by decide +kernel
theorem dX2_exchange_8 : decode cX2_exchange 8 = .ok (.getfield 18, 3) := by decide +kernel
theorem dX2_exchange_11 : decode cX2_exchange 11 = .ok (.iload_n 1, 1) := by decide +kernel
theorem dX2_exchange_12 : decode cX2_exchange 12 = .ok (.iload_n 2, 1) := by decide +kernel
theorem dX2_exchange_13 : decode cX2_exchange 13 = .ok (.iastore, 1) := by decide +kernel
theorem dX2_exchange_14 : decode cX2_exchange 14 = .ok (.iload_n 3, 1) := by decide +kernel
theorem dX2_exchange_15 : decode cX2_exchange 15 = .ok (.ireturn, 1) := by decide +kernel
theorem dX2_time_0 : decode cX2_time 0 = .ok (.aload_n 0, 1) := by decide +kernel
theorem dX2_time_1 : decode cX2_time 1 = .ok (.getfield 18, 3) := by decide +kernel
theorem dX2_time_4 : decode cX2_time 4 = .ok (.iconst 0, 1) := by decide +kernel
theorem dX2_time_5 : decode cX2_time 5 = .ok (.iaload, 1) := by decide +kernel
theorem dX2_time_6 : decode cX2_time 6 = .ok (.ireturn, 1) := by decide +kernel
theorem dX2_near_0 : decode cX2_near 0 = .ok (.aload_n 0, 1) := by decide +kernel
theorem dX2_near_1 : decode cX2_near 1 = .ok (.getfield 18, 3) := by decide +kernel
theorem dX2_near_4 : decode cX2_near 4 = .ok (.iconst 1, 1) := by decide +kernel
theorem dX2_near_5 : decode cX2_near 5 = .ok (.iaload, 1) := by decide +kernel
theorem dX2_near_6 : decode cX2_near 6 = .ok (.ireturn, 1) := by decide +kernel
theorem dX2_miss_0 : decode cX2_miss 0 = .ok (.aload_n 0, 1) := by decide +kernel
theorem dX2_miss_1 : decode cX2_miss 1 = .ok (.getfield 18, 3) := by decide +kernel
theorem dX2_miss_4 : decode cX2_miss 4 = .ok (.iconst 2, 1) := by decide +kernel
theorem dX2_miss_5 : decode cX2_miss 5 = .ok (.iaload, 1) := by decide +kernel
theorem dX2_miss_6 : decode cX2_miss 6 = .ok (.ireturn, 1) := by decide +kernel
theorem dX2_high_0 : decode cX2_high 0 = .ok (.aload_n 0, 1) := by decide +kernel
theorem dX2_high_1 : decode cX2_high 1 = .ok (.getfield 18, 3) := by decide +kernel
theorem dX2_high_4 : decode cX2_high 4 = .ok (.iconst 3, 1) := by decide +kernel
theorem dX2_high_5 : decode cX2_high 5 = .ok (.iaload, 1) := by decide +kernel
theorem dX2_high_6 : decode cX2_high 6 = .ok (.ireturn, 1) := by decide +kernel
theorem dX2_wanted_0 : decode cX2_wanted 0 = .ok (.aload_n 0, 1) := by decide +kernel
theorem dX2_wanted_1 : decode cX2_wanted 1 = .ok (.getfield 18, 3) := by decide +kernel
theorem dX2_wanted_4 : decode cX2_wanted 4 = .ok (.iconst 4, 1) := by decide +kernel
theorem dX2_wanted_5 : decode cX2_wanted 5 = .ok (.iaload, 1) := by decide +kernel
theorem dX2_wanted_6 : decode cX2_wanted 6 = .ok (.ireturn, 1) := by decide +kernel
theorem dX2_delay_0 : decode cX2_delay 0 = .ok (.aload_n 0, 1) := by decide +kernel
theorem dX2_delay_1 : decode cX2_delay 1 = .ok (.getfield 18, 3) := by decide +kernel
theorem dX2_delay_4 : decode cX2_delay 4 = .ok (.iconst 5, 1) := by decide +kernel
theorem dX2_delay_5 : decode cX2_delay 5 = .ok (.iaload, 1) := by decide +kernel
theorem dX2_delay_6 : decode cX2_delay 6 = .ok (.ireturn, 1) := by decide +kernel
theorem dX2_pull_0 : decode cX2_pull 0 = .ok (.aload_n 0, 1) := by decide +kernel
theorem dX2_pull_1 : decode cX2_pull 1 = .ok (.getfield 18, 3) := by decide +kernel
theorem dX2_pull_4 : decode cX2_pull 4 = .ok (.bipush 6, 2) := by decide +kernel
theorem dX2_pull_6 : decode cX2_pull 6 = .ok (.iaload, 1) := by decide +kernel
theorem dX2_pull_7 : decode cX2_pull 7 = .ok (.ireturn, 1) := by decide +kernel
theorem dX3_init_0 : decode cX3_init 0 = .ok (.aload_n 0, 1) := by decide +kernel
theorem dX3_init_1 : decode cX3_init 1 = .ok (.invokespecial 1, 3) := by decide +kernel
theorem dX3_init_4 : decode cX3_init 4 = .ok (.return_, 1) := by decide +kernel
theorem dX3_answer_0 : decode cX3_answer 0 = .ok (.iload_n 1, 1) := by decide +kernel
theorem dX3_answer_1 : decode cX3_answer 1 = .ok (.tableswitch 51 0 3 #[31, 36, 41, 46], 31) := by decide +kernel
theorem dX3_answer_32 : decode cX3_answer 32 = .ok (.aload_n 0, 1) := by decide +kernel
theorem dX3_answer_33 : decode cX3_answer 33 = .ok (.getfield 7, 3) := by decide +kernel
theorem dX3_answer_36 : decode cX3_answer 36 = .ok (.ireturn, 1) := by decide +kernel
theorem dX3_answer_37 : decode cX3_answer 37 = .ok (.aload_n 0, 1) := by decide +kernel
theorem dX3_answer_38 : decode cX3_answer 38 = .ok (.getfield 13, 3) := by decide +kernel
theorem dX3_answer_41 : decode cX3_answer 41 = .ok (.ireturn, 1) := by decide +kernel
theorem dX3_answer_42 : decode cX3_answer 42 = .ok (.aload_n 0, 1) := by decide +kernel
theorem dX3_answer_43 : decode cX3_answer 43 = .ok (.getfield 16, 3) := by decide +kernel
theorem dX3_answer_46 : decode cX3_answer 46 = .ok (.ireturn, 1) := by decide +kernel
theorem dX3_answer_47 : decode cX3_answer 47 = .ok (.aload_n 0, 1) := by decide +kernel
theorem dX3_answer_48 : decode cX3_answer 48 = .ok (.getfield 19, 3) := by decide +kernel
theorem dX3_answer_51 : decode cX3_answer 51 = .ok (.ireturn, 1) := by decide +kernel
theorem dX3_answer_52 : decode cX3_answer 52 = .ok (.aload_n 0, 1) := by decide +kernel
theorem dX3_answer_53 : decode cX3_answer 53 = .ok (.getfield 22, 3) := by decide +kernel
theorem dX3_answer_56 : decode cX3_answer 56 = .ok (.ireturn, 1) := by decide +kernel
theorem dX4_init_0 : decode cX4_init 0 = .ok (.aload_n 0, 1) := by decide +kernel
theorem dX4_init_1 : decode cX4_init 1 = .ok (.invokespecial 1, 3) := by decide +kernel
theorem dX4_init_4 : decode cX4_init 4 = .ok (.aload_n 0, 1) := by decide +kernel
theorem dX4_init_5 : decode cX4_init 5 = .ok (.new 7, 3) := by decide +kernel
theorem dX4_init_8 : decode cX4_init 8 = .ok (.dup, 1) := by decide +kernel
theorem dX4_init_9 : decode cX4_init 9 = .ok (.invokespecial 9, 3) := by decide +kernel
theorem dX4_init_12 : decode cX4_init 12 = .ok (.putfield 10, 3) := by decide +kernel
theorem dX4_init_15 : decode cX4_init 15 = .ok (.aload_n 0, 1) := by decide +kernel
theorem dX4_init_16 : decode cX4_init 16 = .ok (.new 16, 3) := by decide +kernel
theorem dX4_init_19 : decode cX4_init 19 = .ok (.dup, 1) := by decide +kernel
theorem dX4_init_20 : decode cX4_init 20 = .ok (.invokespecial 18, 3) := by decide +kernel
theorem dX4_init_23 : decode cX4_init 23 = .ok (.putfield 19, 3) := by decide +kernel
theorem dX4_init_26 : decode cX4_init 26 = .ok (.aload_n 0, 1) := by decide +kernel
theorem dX4_init_27 : decode cX4_init 27 = .ok (.bipush 6, 2) := by decide +kernel
theorem dX4_init_29 : decode cX4_init 29 = .ok (.anewarray 23, 3) := by decide +kernel
theorem dX4_init_32 : decode cX4_init 32 = .ok (.putfield 25, 3) := by decide +kernel
theorem dX4_init_35 : decode cX4_init 35 = .ok (.iconst 0, 1) := by decide +kernel
theorem dX4_init_36 : decode cX4_init 36 = .ok (.istore_n 1, 1) := by decide +kernel
theorem dX4_init_37 : decode cX4_init 37 = .ok (.iload_n 1, 1) := by decide +kernel
theorem dX4_init_38 : decode cX4_init 38 = .ok (.bipush 6, 2) := by decide +kernel
theorem dX4_init_40 : decode cX4_init 40 = .ok (.if_icmp .ge 22, 3) := by decide +kernel
theorem dX4_init_43 : decode cX4_init 43 = .ok (.aload_n 0, 1) := by decide +kernel
theorem dX4_init_44 : decode cX4_init 44 = .ok (.getfield 25, 3) := by decide +kernel
theorem dX4_init_47 : decode cX4_init 47 = .ok (.iload_n 1, 1) := by decide +kernel
theorem dX4_init_48 : decode cX4_init 48 = .ok (.new 23, 3) := by decide +kernel
theorem dX4_init_51 : decode cX4_init 51 = .ok (.dup, 1) := by decide +kernel
theorem dX4_init_52 : decode cX4_init 52 = .ok (.invokespecial 29, 3) := by decide +kernel
theorem dX4_init_55 : decode cX4_init 55 = .ok (.aastore, 1) := by decide +kernel
theorem dX4_init_56 : decode cX4_init 56 = .ok (.iinc 1 1, 3) := by decide +kernel
theorem dX4_init_59 : decode cX4_init 59 = .ok (.goto (-22), 3) := by decide +kernel
theorem dX4_init_62 : decode cX4_init 62 = .ok (.aload_n 0, 1) := by decide +kernel
theorem dX4_init_63 : decode cX4_init 63 = .ok (.bipush 15, 2) := by decide +kernel
theorem dX4_init_65 : decode cX4_init 65 = .ok (.anewarray 30, 3) := by decide +kernel
theorem dX4_init_68 : decode cX4_init 68 = .ok (.putfield 32, 3) := by decide +kernel
theorem dX4_init_71 : decode cX4_init 71 = .ok (.iconst 0, 1) := by decide +kernel
theorem dX4_init_72 : decode cX4_init 72 = .ok (.istore_n 1, 1) := by decide +kernel
theorem dX4_init_73 : decode cX4_init 73 = .ok (.iconst 0, 1) := by decide +kernel
theorem dX4_init_74 : decode cX4_init 74 = .ok (.istore_n 2, 1) := by decide +kernel
theorem dX4_init_75 : decode cX4_init 75 = .ok (.iload_n 2, 1) := by decide +kernel
theorem dX4_init_76 : decode cX4_init 76 = .ok (.bipush 6, 2) := by decide +kernel
theorem dX4_init_78 : decode cX4_init 78 = .ok (.if_icmp .ge 61, 3) := by decide +kernel
theorem dX4_init_81 : decode cX4_init 81 = .ok (.iload_n 2, 1) := by decide +kernel
theorem dX4_init_82 : decode cX4_init 82 = .ok (.iconst 1, 1) := by decide +kernel
theorem dX4_init_83 : decode cX4_init 83 = .ok (.iadd, 1) := by decide +kernel
theorem dX4_init_84 : decode cX4_init 84 = .ok (.istore_n 3, 1) := by decide +kernel
theorem dX4_init_85 : decode cX4_init 85 = .ok (.iload_n 3, 1) := by decide +kernel
theorem dX4_init_86 : decode cX4_init 86 = .ok (.bipush 6, 2) := by decide +kernel
theorem dX4_init_88 : decode cX4_init 88 = .ok (.if_icmp .ge 45, 3) := by decide +kernel
theorem dX4_init_91 : decode cX4_init 91 = .ok (.aload_n 0, 1) := by decide +kernel
theorem dX4_init_92 : decode cX4_init 92 = .ok (.getfield 32, 3) := by decide +kernel
theorem dX4_init_95 : decode cX4_init 95 = .ok (.iload_n 1, 1) := by decide +kernel
theorem dX4_init_96 : decode cX4_init 96 = .ok (.new 30, 3) := by decide +kernel
theorem dX4_init_99 : decode cX4_init 99 = .ok (.dup, 1) := by decide +kernel
theorem dX4_init_100 : decode cX4_init 100 = .ok (.aload_n 0, 1) := by decide +kernel
theorem dX4_init_101 : decode cX4_init 101 = .ok (.getfield 25, 3) := by decide +kernel
theorem dX4_init_104 : decode cX4_init 104 = .ok (.iload_n 2, 1) := by decide +kernel
theorem dX4_init_105 : decode cX4_init 105 = .ok (.aaload, 1) := by decide +kernel
theorem dX4_init_106 : decode cX4_init 106 = .ok (.aload_n 0, 1) := by decide +kernel
theorem dX4_init_107 : decode cX4_init 107 = .ok (.getfield 25, 3) := by decide +kernel
theorem dX4_init_110 : decode cX4_init 110 = .ok (.iload_n 3, 1) := by decide +kernel
theorem dX4_init_111 : decode cX4_init 111 = .ok (.aaload, 1) := by decide +kernel
theorem dX4_init_112 : decode cX4_init 112 = .ok (.aload_n 0, 1) := by decide +kernel
theorem dX4_init_113 : decode cX4_init 113 = .ok (.getfield 10, 3) := by decide +kernel
theorem dX4_init_116 : decode cX4_init 116 = .ok (.aload_n 0, 1) := by decide +kernel
theorem dX4_init_117 : decode cX4_init 117 = .ok (.getfield 19, 3) := by decide +kernel
theorem dX4_init_120 : decode cX4_init 120 = .ok (.invokespecial 36, 3) := by decide +kernel
theorem dX4_init_123 : decode cX4_init 123 = .ok (.aastore, 1) := by decide +kernel
theorem dX4_init_124 : decode cX4_init 124 = .ok (.iinc 1 1, 3) := by decide +kernel
theorem dX4_init_127 : decode cX4_init 127 = .ok (.iinc 3 1, 3) := by decide +kernel
theorem dX4_init_130 : decode cX4_init 130 = .ok (.goto (-45), 3) := by decide +kernel
theorem dX4_init_133 : decode cX4_init 133 = .ok (.iinc 2 1, 3) := by decide +kernel
theorem dX4_init_136 : decode cX4_init 136 = .ok (.goto (-61), 3) := by decide +kernel
theorem dX4_init_139 : decode cX4_init 139 = .ok (.return_, 1) := by decide +kernel
theorem dX4_set_0 : decode cX4_set 0 = .ok (.iload_n 1, 1) := by decide +kernel
theorem dX4_set_1 : decode cX4_set 1 = .ok (.iload_n 2, 1) := by decide +kernel
theorem dX4_set_2 : decode cX4_set 2 = .ok (.invokestatic 39, 3) := by decide +kernel
theorem dX4_set_5 : decode cX4_set 5 = .ok (.ifCond .ne 13, 3) := by decide +kernel
theorem dX4_set_8 : decode cX4_set 8 = .ok (.new 43, 3) := by decide +kernel
theorem dX4_set_11 : decode cX4_set 11 = .ok (.dup, 1) := by decide +kernel
theorem dX4_set_12 : decode cX4_set 12 = .ok (.ldc 45, 2) := by decide +kernel
theorem dX4_set_14 : decode cX4_set 14 = .ok (.invokespecial 47, 3) := by decide +kernel
theorem dX4_set_17 : decode cX4_set 17 = .ok (.athrow, 1) := by decide +kernel
theorem dX4_set_18 : decode cX4_set 18 = .ok (.aload_n 0, 1) := by decide +kernel
theorem dX4_set_19 : decode cX4_set 19 = .ok (.getfield 10, 3) := by decide +kernel
theorem dX4_set_22 : decode cX4_set 22 = .ok (.iload_n 1, 1) := by decide +kernel
theorem dX4_set_23 : decode cX4_set 23 = .ok (.iload_n 2, 1) := by decide +kernel
theorem dX4_set_24 : decode cX4_set 24 = .ok (.invokevirtual 50, 3) := by decide +kernel
theorem dX4_set_27 : decode cX4_set 27 = .ok (.ireturn, 1) := by decide +kernel
theorem dX4_place_0 : decode cX4_place 0 = .ok (.iload_n 1, 1) := by decide +kernel
theorem dX4_place_1 : decode cX4_place 1 = .ok (.invokestatic 54, 3) := by decide +kernel
theorem dX4_place_4 : decode cX4_place 4 = .ok (.ifCond .eq 13, 3) := by decide +kernel
theorem dX4_place_7 : decode cX4_place 7 = .ok (.iload_n 2, 1) := by decide +kernel
theorem dX4_place_8 : decode cX4_place 8 = .ok (.iload_n 3, 1) := by decide +kernel
theorem dX4_place_9 : decode cX4_place 9 = .ok (.iload 4, 2) := by decide +kernel
theorem dX4_place_11 : decode cX4_place 11 = .ok (.invokestatic 58, 3) := by decide +kernel
theorem dX4_place_14 : decode cX4_place 14 = .ok (.ifCond .ne 13, 3) := by decide +kernel
theorem dX4_place_17 : decode cX4_place 17 = .ok (.new 43, 3) := by decide +kernel
theorem dX4_place_20 : decode cX4_place 20 = .ok (.dup, 1) := by decide +kernel
theorem dX4_place_21 : decode cX4_place 21 = .ok (.ldc 62, 2) := by decide +kernel
theorem dX4_place_23 : decode cX4_place 23 = .ok (.invokespecial 47, 3) := by decide +kernel
theorem dX4_place_26 : decode cX4_place 26 = .ok (.athrow, 1) := by decide +kernel
theorem dX4_place_27 : decode cX4_place 27 = .ok (.aload_n 0, 1) := by decide +kernel
theorem dX4_place_28 : decode cX4_place 28 = .ok (.getfield 25, 3) := by decide +kernel
theorem dX4_place_31 : decode cX4_place 31 = .ok (.iload_n 1, 1) := by decide +kernel
theorem dX4_place_32 : decode cX4_place 32 = .ok (.aaload, 1) := by decide +kernel
theorem dX4_place_33 : decode cX4_place 33 = .ok (.astore 5, 2) := by decide +kernel
theorem dX4_place_35 : decode cX4_place 35 = .ok (.aload 5, 2) := by decide +kernel
theorem dX4_place_37 : decode cX4_place 37 = .ok (.iload_n 2, 1) := by decide +kernel
theorem dX4_place_38 : decode cX4_place 38 = .ok (.iload_n 3, 1) := by decide +kernel
theorem dX4_place_39 : decode cX4_place 39 = .ok (.iload 4, 2) := by decide +kernel
theorem dX4_place_41 : decode cX4_place 41 = .ok (.invokevirtual 64, 3) := by decide +kernel
theorem dX4_place_44 : decode cX4_place 44 = .ok (.aload_n 0, 1) := by decide +kernel
theorem dX4_place_45 : decode cX4_place 45 = .ok (.aload 5, 2) := by decide +kernel
theorem dX4_place_47 : decode cX4_place 47 = .ok (.invokevirtual 68, 3) := by decide +kernel
theorem dX4_place_50 : decode cX4_place 50 = .ok (.aload_n 0, 1) := by decide +kernel
theorem dX4_place_51 : decode cX4_place 51 = .ok (.aload 5, 2) := by decide +kernel
theorem dX4_place_53 : decode cX4_place 53 = .ok (.invokevirtual 72, 3) := by decide +kernel
theorem dX4_place_56 : decode cX4_place 56 = .ok (.return_, 1) := by decide +kernel
theorem dX4_speed_0 : decode cX4_speed 0 = .ok (.aload_n 0, 1) := by decide +kernel
theorem dX4_speed_1 : decode cX4_speed 1 = .ok (.iload_n 1, 1) := by decide +kernel
theorem dX4_speed_2 : decode cX4_speed 2 = .ok (.invokevirtual 75, 3) := by decide +kernel
theorem dX4_speed_5 : decode cX4_speed 5 = .ok (.ifCond .eq 13, 3) := by decide +kernel
theorem dX4_speed_8 : decode cX4_speed 8 = .ok (.iload_n 2, 1) := by decide +kernel
theorem dX4_speed_9 : decode cX4_speed 9 = .ok (.iload_n 3, 1) := by decide +kernel
theorem dX4_speed_10 : decode cX4_speed 10 = .ok (.iload 4, 2) := by decide +kernel
theorem dX4_speed_12 : decode cX4_speed 12 = .ok (.invokestatic 78, 3) := by decide +kernel
theorem dX4_speed_15 : decode cX4_speed 15 = .ok (.ifCond .ne 13, 3) := by decide +kernel
theorem dX4_speed_18 : decode cX4_speed 18 = .ok (.new 43, 3) := by decide +kernel
theorem dX4_speed_21 : decode cX4_speed 21 = .ok (.dup, 1) := by decide +kernel
theorem dX4_speed_22 : decode cX4_speed 22 = .ok (.ldc 81, 2) := by decide +kernel
theorem dX4_speed_24 : decode cX4_speed 24 = .ok (.invokespecial 47, 3) := by decide +kernel
theorem dX4_speed_27 : decode cX4_speed 27 = .ok (.athrow, 1) := by decide +kernel
theorem dX4_speed_28 : decode cX4_speed 28 = .ok (.aload_n 0, 1) := by decide +kernel
theorem dX4_speed_29 : decode cX4_speed 29 = .ok (.getfield 25, 3) := by decide +kernel
theorem dX4_speed_32 : decode cX4_speed 32 = .ok (.iload_n 1, 1) := by decide +kernel
theorem dX4_speed_33 : decode cX4_speed 33 = .ok (.aaload, 1) := by decide +kernel
theorem dX4_speed_34 : decode cX4_speed 34 = .ok (.astore 5, 2) := by decide +kernel
theorem dX4_speed_36 : decode cX4_speed 36 = .ok (.aload 5, 2) := by decide +kernel
theorem dX4_speed_38 : decode cX4_speed 38 = .ok (.iload_n 2, 1) := by decide +kernel
theorem dX4_speed_39 : decode cX4_speed 39 = .ok (.iload_n 3, 1) := by decide +kernel
theorem dX4_speed_40 : decode cX4_speed 40 = .ok (.iload 4, 2) := by decide +kernel
theorem dX4_speed_42 : decode cX4_speed 42 = .ok (.invokevirtual 83, 3) := by decide +kernel
theorem dX4_speed_45 : decode cX4_speed 45 = .ok (.aload_n 0, 1) := by decide +kernel
theorem dX4_speed_46 : decode cX4_speed 46 = .ok (.aload 5, 2) := by decide +kernel
theorem dX4_speed_48 : decode cX4_speed 48 = .ok (.invokevirtual 68, 3) := by decide +kernel
theorem dX4_speed_51 : decode cX4_speed 51 = .ok (.return_, 1) := by decide +kernel
theorem dX4_follow_0 : decode cX4_follow 0 = .ok (.aload_n 0, 1) := by decide +kernel
theorem dX4_follow_1 : decode cX4_follow 1 = .ok (.iload_n 1, 1) := by decide +kernel
theorem dX4_follow_2 : decode cX4_follow 2 = .ok (.invokevirtual 75, 3) := by decide +kernel
theorem dX4_follow_5 : decode cX4_follow 5 = .ok (.ifCond .ne 13, 3) := by decide +kernel
theorem dX4_follow_8 : decode cX4_follow 8 = .ok (.new 43, 3) := by decide +kernel
theorem dX4_follow_11 : decode cX4_follow 11 = .ok (.dup, 1) := by decide +kernel
theorem dX4_follow_12 : decode cX4_follow 12 = .ok (.ldc 86, 2) := by decide +kernel
theorem dX4_follow_14 : decode cX4_follow 14 = .ok (.invokespecial 47, 3) := by decide +kernel
theorem dX4_follow_17 : decode cX4_follow 17 = .ok (.athrow, 1) := by decide +kernel
theorem dX4_follow_18 : decode cX4_follow 18 = .ok (.aload_n 0, 1) := by decide +kernel
theorem dX4_follow_19 : decode cX4_follow 19 = .ok (.getfield 25, 3) := by decide +kernel
theorem dX4_follow_22 : decode cX4_follow 22 = .ok (.iload_n 1, 1) := by decide +kernel
theorem dX4_follow_23 : decode cX4_follow 23 = .ok (.aaload, 1) := by decide +kernel
theorem dX4_follow_24 : decode cX4_follow 24 = .ok (.iload_n 2, 1) := by decide +kernel
theorem dX4_follow_25 : decode cX4_follow 25 = .ok (.putfield 88, 3) := by decide +kernel
theorem dX4_follow_28 : decode cX4_follow 28 = .ok (.return_, 1) := by decide +kernel
theorem dX4_leave_0 : decode cX4_leave 0 = .ok (.aload_n 0, 1) := by decide +kernel
theorem dX4_leave_1 : decode cX4_leave 1 = .ok (.iload_n 1, 1) := by decide +kernel
theorem dX4_leave_2 : decode cX4_leave 2 = .ok (.invokevirtual 75, 3) := by decide +kernel
theorem dX4_leave_5 : decode cX4_leave 5 = .ok (.ifCond .ne 13, 3) := by decide +kernel
theorem dX4_leave_8 : decode cX4_leave 8 = .ok (.new 43, 3) := by decide +kernel
theorem dX4_leave_11 : decode cX4_leave 11 = .ok (.dup, 1) := by decide +kernel
theorem dX4_leave_12 : decode cX4_leave 12 = .ok (.ldc 86, 2) := by decide +kernel
theorem dX4_leave_14 : decode cX4_leave 14 = .ok (.invokespecial 47, 3) := by decide +kernel
theorem dX4_leave_17 : decode cX4_leave 17 = .ok (.athrow, 1) := by decide +kernel
theorem dX4_leave_18 : decode cX4_leave 18 = .ok (.aload_n 0, 1) := by decide +kernel
theorem dX4_leave_19 : decode cX4_leave 19 = .ok (.getfield 25, 3) := by decide +kernel
theorem dX4_leave_22 : decode cX4_leave 22 = .ok (.iload_n 1, 1) := by decide +kernel
theorem dX4_leave_23 : decode cX4_leave 23 = .ok (.aaload, 1) := by decide +kernel
theorem dX4_leave_24 : decode cX4_leave 24 = .ok (.astore_n 2, 1) := by decide +kernel
theorem dX4_leave_25 : decode cX4_leave 25 = .ok (.aload_n 2, 1) := by decide +kernel
theorem dX4_leave_26 : decode cX4_leave 26 = .ok (.iconst 0, 1) := by decide +kernel
theorem dX4_leave_27 : decode cX4_leave 27 = .ok (.putfield 92, 3) := by decide +kernel
theorem dX4_leave_30 : decode cX4_leave 30 = .ok (.aload_n 0, 1) := by decide +kernel
theorem dX4_leave_31 : decode cX4_leave 31 = .ok (.aload_n 2, 1) := by decide +kernel
theorem dX4_leave_32 : decode cX4_leave 32 = .ok (.invokevirtual 68, 3) := by decide +kernel
theorem dX4_leave_35 : decode cX4_leave 35 = .ok (.return_, 1) := by decide +kernel
theorem dX4_step_0 : decode cX4_step 0 = .ok (.iload_n 1, 1) := by decide +kernel
theorem dX4_step_1 : decode cX4_step 1 = .ok (.ifCond .lt 10, 3) := by decide +kernel
theorem dX4_step_4 : decode cX4_step 4 = .ok (.iload_n 1, 1) := by decide +kernel
theorem dX4_step_5 : decode cX4_step 5 = .ok (.sipush 300, 3) := by decide +kernel
theorem dX4_step_8 : decode cX4_step 8 = .ok (.if_icmp .le 13, 3) := by decide +kernel
theorem dX4_step_11 : decode cX4_step 11 = .ok (.new 43, 3) := by decide +kernel
theorem dX4_step_14 : decode cX4_step 14 = .ok (.dup, 1) := by decide +kernel
theorem dX4_step_15 : decode cX4_step 15 = .ok (.ldc 95, 2) := by decide +kernel
theorem dX4_step_17 : decode cX4_step 17 = .ok (.invokespecial 47, 3) := by decide +kernel
theorem dX4_step_20 : decode cX4_step 20 = .ok (.athrow, 1) := by decide +kernel
theorem dX4_step_21 : decode cX4_step 21 = .ok (.iconst 0, 1) := by decide +kernel
theorem dX4_step_22 : decode cX4_step 22 = .ok (.istore_n 2, 1) := by decide +kernel
theorem dX4_step_23 : decode cX4_step 23 = .ok (.iload_n 2, 1) := by decide +kernel
theorem dX4_step_24 : decode cX4_step 24 = .ok (.iload_n 1, 1) := by decide +kernel
theorem dX4_step_25 : decode cX4_step 25 = .ok (.if_icmp .ge 13, 3) := by decide +kernel
theorem dX4_step_28 : decode cX4_step 28 = .ok (.aload_n 0, 1) := by decide +kernel
theorem dX4_step_29 : decode cX4_step 29 = .ok (.invokevirtual 97, 3) := by decide +kernel
theorem dX4_step_32 : decode cX4_step 32 = .ok (.iinc 2 1, 3) := by decide +kernel
theorem dX4_step_35 : decode cX4_step 35 = .ok (.goto (-12), 3) := by decide +kernel
theorem dX4_step_38 : decode cX4_step 38 = .ok (.aload_n 0, 1) := by decide +kernel
theorem dX4_step_39 : decode cX4_step 39 = .ok (.invokevirtual 100, 3) := by decide +kernel
theorem dX4_step_42 : decode cX4_step 42 = .ok (.ireturn, 1) := by decide +kernel
theorem dX4_told_0 : decode cX4_told 0 = .ok (.aload_n 0, 1) := by decide +kernel
theorem dX4_told_1 : decode cX4_told 1 = .ok (.iload_n 1, 1) := by decide +kernel
theorem dX4_told_2 : decode cX4_told 2 = .ok (.invokevirtual 75, 3) := by decide +kernel
theorem dX4_told_5 : decode cX4_told 5 = .ok (.ifCond .eq 13, 3) := by decide +kernel
theorem dX4_told_8 : decode cX4_told 8 = .ok (.iload_n 2, 1) := by decide +kernel
theorem dX4_told_9 : decode cX4_told 9 = .ok (.ifCond .lt 9, 3) := by decide +kernel
theorem dX4_told_12 : decode cX4_told 12 = .ok (.iload_n 2, 1) := by decide +kernel
theorem dX4_told_13 : decode cX4_told 13 = .ok (.bipush 6, 2) := by decide +kernel
theorem dX4_told_15 : decode cX4_told 15 = .ok (.if_icmp .le 13, 3) := by decide +kernel
theorem dX4_told_18 : decode cX4_told 18 = .ok (.new 43, 3) := by decide +kernel
theorem dX4_told_21 : decode cX4_told 21 = .ok (.dup, 1) := by decide +kernel
theorem dX4_told_22 : decode cX4_told 22 = .ok (.ldc 104, 2) := by decide +kernel
theorem dX4_told_24 : decode cX4_told 24 = .ok (.invokespecial 47, 3) := by decide +kernel
theorem dX4_told_27 : decode cX4_told 27 = .ok (.athrow, 1) := by decide +kernel
theorem dX4_told_28 : decode cX4_told 28 = .ok (.aload_n 0, 1) := by decide +kernel
theorem dX4_told_29 : decode cX4_told 29 = .ok (.getfield 25, 3) := by decide +kernel
theorem dX4_told_32 : decode cX4_told 32 = .ok (.iload_n 1, 1) := by decide +kernel
theorem dX4_told_33 : decode cX4_told 33 = .ok (.aaload, 1) := by decide +kernel
theorem dX4_told_34 : decode cX4_told 34 = .ok (.iload_n 2, 1) := by decide +kernel
theorem dX4_told_35 : decode cX4_told 35 = .ok (.invokevirtual 106, 3) := by decide +kernel
theorem dX4_told_38 : decode cX4_told 38 = .ok (.ireturn, 1) := by decide +kernel
theorem dX4_pair_0 : decode cX4_pair 0 = .ok (.iload_n 1, 1) := by decide +kernel
theorem dX4_pair_1 : decode cX4_pair 1 = .ok (.iload_n 2, 1) := by decide +kernel
theorem dX4_pair_2 : decode cX4_pair 2 = .ok (.if_icmp .eq 29, 3) := by decide +kernel
theorem dX4_pair_5 : decode cX4_pair 5 = .ok (.aload_n 0, 1) := by decide +kernel
theorem dX4_pair_6 : decode cX4_pair 6 = .ok (.iload_n 1, 1) := by decide +kernel
theorem dX4_pair_7 : decode cX4_pair 7 = .ok (.invokevirtual 75, 3) := by decide +kernel
theorem dX4_pair_10 : decode cX4_pair 10 = .ok (.ifCond .eq 21, 3) := by decide +kernel
theorem dX4_pair_13 : decode cX4_pair 13 = .ok (.aload_n 0, 1) := by decide +kernel
theorem dX4_pair_14 : decode cX4_pair 14 = .ok (.iload_n 2, 1) := by decide +kernel
theorem dX4_pair_15 : decode cX4_pair 15 = .ok (.invokevirtual 75, 3) := by decide +kernel
theorem dX4_pair_18 : decode cX4_pair 18 = .ok (.ifCond .eq 13, 3) := by decide +kernel
theorem dX4_pair_21 : decode cX4_pair 21 = .ok (.iload_n 3, 1) := by decide +kernel
theorem dX4_pair_22 : decode cX4_pair 22 = .ok (.ifCond .lt 9, 3) := by decide +kernel
theorem dX4_pair_25 : decode cX4_pair 25 = .ok (.iload_n 3, 1) := by decide +kernel
theorem dX4_pair_26 : decode cX4_pair 26 = .ok (.bipush 10, 2) := by decide +kernel
theorem dX4_pair_28 : decode cX4_pair 28 = .ok (.if_icmp .le 13, 3) := by decide +kernel
theorem dX4_pair_31 : decode cX4_pair 31 = .ok (.new 43, 3) := by decide +kernel
theorem dX4_pair_34 : decode cX4_pair 34 = .ok (.dup, 1) := by decide +kernel
theorem dX4_pair_35 : decode cX4_pair 35 = .ok (.ldc 110, 2) := by decide +kernel
theorem dX4_pair_37 : decode cX4_pair 37 = .ok (.invokespecial 47, 3) := by decide +kernel
theorem dX4_pair_40 : decode cX4_pair 40 = .ok (.athrow, 1) := by decide +kernel
theorem dX4_pair_41 : decode cX4_pair 41 = .ok (.aload_n 0, 1) := by decide +kernel
theorem dX4_pair_42 : decode cX4_pair 42 = .ok (.getfield 32, 3) := by decide +kernel
theorem dX4_pair_45 : decode cX4_pair 45 = .ok (.iload_n 1, 1) := by decide +kernel
theorem dX4_pair_46 : decode cX4_pair 46 = .ok (.iload_n 2, 1) := by decide +kernel
theorem dX4_pair_47 : decode cX4_pair 47 = .ok (.invokestatic 112, 3) := by decide +kernel
theorem dX4_pair_50 : decode cX4_pair 50 = .ok (.iload_n 1, 1) := by decide +kernel
theorem dX4_pair_51 : decode cX4_pair 51 = .ok (.iload_n 2, 1) := by decide +kernel
theorem dX4_pair_52 : decode cX4_pair 52 = .ok (.invokestatic 117, 3) := by decide +kernel
theorem dX4_pair_55 : decode cX4_pair 55 = .ok (.invokestatic 120, 3) := by decide +kernel
theorem dX4_pair_58 : decode cX4_pair 58 = .ok (.aaload, 1) := by decide +kernel
theorem dX4_pair_59 : decode cX4_pair 59 = .ok (.iload_n 3, 1) := by decide +kernel
theorem dX4_pair_60 : decode cX4_pair 60 = .ok (.iload_n 1, 1) := by decide +kernel
theorem dX4_pair_61 : decode cX4_pair 61 = .ok (.iload_n 2, 1) := by decide +kernel
theorem dX4_pair_62 : decode cX4_pair 62 = .ok (.if_icmp .ge 7, 3) := by decide +kernel
theorem dX4_pair_65 : decode cX4_pair 65 = .ok (.iconst 1, 1) := by decide +kernel
theorem dX4_pair_66 : decode cX4_pair 66 = .ok (.goto 4, 3) := by decide +kernel
theorem dX4_pair_69 : decode cX4_pair 69 = .ok (.iconst 0, 1) := by decide +kernel
theorem dX4_pair_70 : decode cX4_pair 70 = .ok (.invokevirtual 123, 3) := by decide +kernel
theorem dX4_pair_73 : decode cX4_pair 73 = .ok (.ireturn, 1) := by decide +kernel
theorem dX4_all_0 : decode cX4_all 0 = .ok (.iload_n 1, 1) := by decide +kernel
theorem dX4_all_1 : decode cX4_all 1 = .ok (.ifCond .lt 8, 3) := by decide +kernel
theorem dX4_all_4 : decode cX4_all 4 = .ok (.iload_n 1, 1) := by decide +kernel
theorem dX4_all_5 : decode cX4_all 5 = .ok (.iconst 4, 1) := by decide +kernel
theorem dX4_all_6 : decode cX4_all 6 = .ok (.if_icmp .le 13, 3) := by decide +kernel
theorem dX4_all_9 : decode cX4_all 9 = .ok (.new 43, 3) := by decide +kernel
theorem dX4_all_12 : decode cX4_all 12 = .ok (.dup, 1) := by decide +kernel
theorem dX4_all_13 : decode cX4_all 13 = .ok (.ldc 126, 2) := by decide +kernel
theorem dX4_all_15 : decode cX4_all 15 = .ok (.invokespecial 47, 3) := by decide +kernel
theorem dX4_all_18 : decode cX4_all 18 = .ok (.athrow, 1) := by decide +kernel
theorem dX4_all_19 : decode cX4_all 19 = .ok (.aload_n 0, 1) := by decide +kernel
theorem dX4_all_20 : decode cX4_all 20 = .ok (.getfield 19, 3) := by decide +kernel
theorem dX4_all_23 : decode cX4_all 23 = .ok (.iload_n 1, 1) := by decide +kernel
theorem dX4_all_24 : decode cX4_all 24 = .ok (.invokevirtual 128, 3) := by decide +kernel
theorem dX4_all_27 : decode cX4_all 27 = .ok (.ireturn, 1) := by decide +kernel
theorem dX4_isNumber_0 : decode cX4_isNumber 0 = .ok (.iload_n 0, 1) := by decide +kernel
theorem dX4_isNumber_1 : decode cX4_isNumber 1 = .ok (.ifCond .lt 13, 3) := by decide +kernel
theorem dX4_isNumber_4 : decode cX4_isNumber 4 = .ok (.iload_n 0, 1) := by decide +kernel
theorem dX4_isNumber_5 : decode cX4_isNumber 5 = .ok (.bipush 6, 2) := by decide +kernel
theorem dX4_isNumber_7 : decode cX4_isNumber 7 = .ok (.if_icmp .ge 7, 3) := by decide +kernel
theorem dX4_isNumber_10 : decode cX4_isNumber 10 = .ok (.iconst 1, 1) := by decide +kernel
theorem dX4_isNumber_11 : decode cX4_isNumber 11 = .ok (.goto 4, 3) := by decide +kernel
theorem dX4_isNumber_14 : decode cX4_isNumber 14 = .ok (.iconst 0, 1) := by decide +kernel
theorem dX4_isNumber_15 : decode cX4_isNumber 15 = .ok (.ireturn, 1) := by decide +kernel
theorem dX4_isThere_0 : decode cX4_isThere 0 = .ok (.iload_n 1, 1) := by decide +kernel
theorem dX4_isThere_1 : decode cX4_isThere 1 = .ok (.invokestatic 54, 3) := by decide +kernel
theorem dX4_isThere_4 : decode cX4_isThere 4 = .ok (.ifCond .eq 19, 3) := by decide +kernel
theorem dX4_isThere_7 : decode cX4_isThere 7 = .ok (.aload_n 0, 1) := by decide +kernel
theorem dX4_isThere_8 : decode cX4_isThere 8 = .ok (.getfield 25, 3) := by decide +kernel
theorem dX4_isThere_11 : decode cX4_isThere 11 = .ok (.iload_n 1, 1) := by decide +kernel
theorem dX4_isThere_12 : decode cX4_isThere 12 = .ok (.aaload, 1) := by decide +kernel
theorem dX4_isThere_13 : decode cX4_isThere 13 = .ok (.getfield 92, 3) := by decide +kernel
theorem dX4_isThere_16 : decode cX4_isThere 16 = .ok (.ifCond .eq 7, 3) := by decide +kernel
theorem dX4_isThere_19 : decode cX4_isThere 19 = .ok (.iconst 1, 1) := by decide +kernel
theorem dX4_isThere_20 : decode cX4_isThere 20 = .ok (.goto 4, 3) := by decide +kernel
theorem dX4_isThere_23 : decode cX4_isThere 23 = .ok (.iconst 0, 1) := by decide +kernel
theorem dX4_isThere_24 : decode cX4_isThere 24 = .ok (.ireturn, 1) := by decide +kernel
theorem dX4_pairNumber_0 : decode cX4_pairNumber 0 = .ok (.iload_n 0, 1) := by decide +kernel
theorem dX4_pairNumber_1 : decode cX4_pairNumber 1 = .ok (.bipush 11, 2) := by decide +kernel
theorem dX4_pairNumber_3 : decode cX4_pairNumber 3 = .ok (.iload_n 0, 1) := by decide +kernel
theorem dX4_pairNumber_4 : decode cX4_pairNumber 4 = .ok (.isub, 1) := by decide +kernel
theorem dX4_pairNumber_5 : decode cX4_pairNumber 5 = .ok (.imul, 1) := by decide +kernel
theorem dX4_pairNumber_6 : decode cX4_pairNumber 6 = .ok (.iconst 2, 1) := by decide +kernel
theorem dX4_pairNumber_7 : decode cX4_pairNumber 7 = .ok (.idiv, 1) := by decide +kernel
theorem dX4_pairNumber_8 : decode cX4_pairNumber 8 = .ok (.iload_n 1, 1) := by decide +kernel
theorem dX4_pairNumber_9 : decode cX4_pairNumber 9 = .ok (.iadd, 1) := by decide +kernel
theorem dX4_pairNumber_10 : decode cX4_pairNumber 10 = .ok (.iload_n 0, 1) := by decide +kernel
theorem dX4_pairNumber_11 : decode cX4_pairNumber 11 = .ok (.isub, 1) := by decide +kernel
theorem dX4_pairNumber_12 : decode cX4_pairNumber 12 = .ok (.iconst 1, 1) := by decide +kernel
theorem dX4_pairNumber_13 : decode cX4_pairNumber 13 = .ok (.isub, 1) := by decide +kernel
theorem dX4_pairNumber_14 : decode cX4_pairNumber 14 = .ok (.ireturn, 1) := by decide +kernel
theorem dX4_dropAdviceOf_0 : decode cX4_dropAdviceOf 0 = .ok (.aload_n 0, 1) := by decide +kernel
theorem dX4_dropAdviceOf_1 : decode cX4_dropAdviceOf 1 = .ok (.getfield 32, 3) := by decide +kernel
theorem dX4_dropAdviceOf_4 : decode cX4_dropAdviceOf 4 = .ok (.astore_n 2, 1) := by decide +kernel
theorem dX4_dropAdviceOf_5 : decode cX4_dropAdviceOf 5 = .ok (.aload_n 2, 1) := by decide +kernel
theorem dX4_dropAdviceOf_6 : decode cX4_dropAdviceOf 6 = .ok (.arraylength, 1) := by decide +kernel
theorem dX4_dropAdviceOf_7 : decode cX4_dropAdviceOf 7 = .ok (.istore_n 3, 1) := by decide +kernel
theorem dX4_dropAdviceOf_8 : decode cX4_dropAdviceOf 8 = .ok (.iconst 0, 1) := by decide +kernel
theorem dX4_dropAdviceOf_9 : decode cX4_dropAdviceOf 9 = .ok (.istore 4, 2) := by decide +kernel
theorem dX4_dropAdviceOf_11 : decode cX4_dropAdviceOf 11 = .ok (.iload 4, 2) := by decide +kernel
theorem dX4_dropAdviceOf_13 : decode cX4_dropAdviceOf 13 = .ok (.iload_n 3, 1) := by decide +kernel
theorem dX4_dropAdviceOf_14 : decode cX4_dropAdviceOf 14 = .ok (.if_icmp .ge 29, 3) := by decide +kernel
theorem dX4_dropAdviceOf_17 : decode cX4_dropAdviceOf 17 = .ok (.aload_n 2, 1) := by decide +kernel
theorem dX4_dropAdviceOf_18 : decode cX4_dropAdviceOf 18 = .ok (.iload 4, 2) := by decide +kernel
theorem dX4_dropAdviceOf_20 : decode cX4_dropAdviceOf 20 = .ok (.aaload, 1) := by decide +kernel
theorem dX4_dropAdviceOf_21 : decode cX4_dropAdviceOf 21 = .ok (.astore 5, 2) := by decide +kernel
theorem dX4_dropAdviceOf_23 : decode cX4_dropAdviceOf 23 = .ok (.aload 5, 2) := by decide +kernel
theorem dX4_dropAdviceOf_25 : decode cX4_dropAdviceOf 25 = .ok (.aload_n 1, 1) := by decide +kernel
theorem dX4_dropAdviceOf_26 : decode cX4_dropAdviceOf 26 = .ok (.invokevirtual 129, 3) := by decide +kernel
theorem dX4_dropAdviceOf_29 : decode cX4_dropAdviceOf 29 = .ok (.ifCond .eq 8, 3) := by decide +kernel
theorem dX4_dropAdviceOf_32 : decode cX4_dropAdviceOf 32 = .ok (.aload 5, 2) := by decide +kernel
theorem dX4_dropAdviceOf_34 : decode cX4_dropAdviceOf 34 = .ok (.invokevirtual 133, 3) := by decide +kernel
theorem dX4_dropAdviceOf_37 : decode cX4_dropAdviceOf 37 = .ok (.iinc 4 1, 3) := by decide +kernel
theorem dX4_dropAdviceOf_40 : decode cX4_dropAdviceOf 40 = .ok (.goto (-29), 3) := by decide +kernel
theorem dX4_dropAdviceOf_43 : decode cX4_dropAdviceOf 43 = .ok (.return_, 1) := by decide +kernel
theorem dX4_restartLeastOf_0 : decode cX4_restartLeastOf 0 = .ok (.aload_n 0, 1) := by decide +kernel
theorem dX4_restartLeastOf_1 : decode cX4_restartLeastOf 1 = .ok (.getfield 32, 3) := by decide +kernel
theorem dX4_restartLeastOf_4 : decode cX4_restartLeastOf 4 = .ok (.astore_n 2, 1) := by decide +kernel
theorem dX4_restartLeastOf_5 : decode cX4_restartLeastOf 5 = .ok (.aload_n 2, 1) := by decide +kernel
theorem dX4_restartLeastOf_6 : decode cX4_restartLeastOf 6 = .ok (.arraylength, 1) := by decide +kernel
theorem dX4_restartLeastOf_7 : decode cX4_restartLeastOf 7 = .ok (.istore_n 3, 1) := by decide +kernel
theorem dX4_restartLeastOf_8 : decode cX4_restartLeastOf 8 = .ok (.iconst 0, 1) := by decide +kernel
theorem dX4_restartLeastOf_9 : decode cX4_restartLeastOf 9 = .ok (.istore 4, 2) := by decide +kernel
theorem dX4_restartLeastOf_11 : decode cX4_restartLeastOf 11 = .ok (.iload 4, 2) := by decide +kernel
theorem dX4_restartLeastOf_13 : decode cX4_restartLeastOf 13 = .ok (.iload_n 3, 1) := by decide +kernel
theorem dX4_restartLeastOf_14 : decode cX4_restartLeastOf 14 = .ok (.if_icmp .ge 29, 3) := by decide +kernel
theorem dX4_restartLeastOf_17 : decode cX4_restartLeastOf 17 = .ok (.aload_n 2, 1) := by decide +kernel
theorem dX4_restartLeastOf_18 : decode cX4_restartLeastOf 18 = .ok (.iload 4, 2) := by decide +kernel
theorem dX4_restartLeastOf_20 : decode cX4_restartLeastOf 20 = .ok (.aaload, 1) := by decide +kernel
theorem dX4_restartLeastOf_21 : decode cX4_restartLeastOf 21 = .ok (.astore 5, 2) := by decide +kernel
theorem dX4_restartLeastOf_23 : decode cX4_restartLeastOf 23 = .ok (.aload 5, 2) := by decide +kernel
theorem dX4_restartLeastOf_25 : decode cX4_restartLeastOf 25 = .ok (.aload_n 1, 1) := by decide +kernel
theorem dX4_restartLeastOf_26 : decode cX4_restartLeastOf 26 = .ok (.invokevirtual 129, 3) := by decide +kernel
theorem dX4_restartLeastOf_29 : decode cX4_restartLeastOf 29 = .ok (.ifCond .eq 8, 3) := by decide +kernel
theorem dX4_restartLeastOf_32 : decode cX4_restartLeastOf 32 = .ok (.aload 5, 2) := by decide +kernel
theorem dX4_restartLeastOf_34 : decode cX4_restartLeastOf 34 = .ok (.invokevirtual 136, 3) := by decide +kernel
theorem dX4_restartLeastOf_37 : decode cX4_restartLeastOf 37 = .ok (.iinc 4 1, 3) := by decide +kernel
theorem dX4_restartLeastOf_40 : decode cX4_restartLeastOf 40 = .ok (.goto (-29), 3) := by decide +kernel
theorem dX4_restartLeastOf_43 : decode cX4_restartLeastOf 43 = .ok (.return_, 1) := by decide +kernel
theorem dX4_passSecond_0 : decode cX4_passSecond 0 = .ok (.aload_n 0, 1) := by decide +kernel
theorem dX4_passSecond_1 : decode cX4_passSecond 1 = .ok (.getfield 25, 3) := by decide +kernel
theorem dX4_passSecond_4 : decode cX4_passSecond 4 = .ok (.astore_n 1, 1) := by decide +kernel
theorem dX4_passSecond_5 : decode cX4_passSecond 5 = .ok (.aload_n 1, 1) := by decide +kernel
theorem dX4_passSecond_6 : decode cX4_passSecond 6 = .ok (.arraylength, 1) := by decide +kernel
theorem dX4_passSecond_7 : decode cX4_passSecond 7 = .ok (.istore_n 2, 1) := by decide +kernel
theorem dX4_passSecond_8 : decode cX4_passSecond 8 = .ok (.iconst 0, 1) := by decide +kernel
theorem dX4_passSecond_9 : decode cX4_passSecond 9 = .ok (.istore_n 3, 1) := by decide +kernel
theorem dX4_passSecond_10 : decode cX4_passSecond 10 = .ok (.iload_n 3, 1) := by decide +kernel
theorem dX4_passSecond_11 : decode cX4_passSecond 11 = .ok (.iload_n 2, 1) := by decide +kernel
theorem dX4_passSecond_12 : decode cX4_passSecond 12 = .ok (.if_icmp .ge 27, 3) := by decide +kernel
theorem dX4_passSecond_15 : decode cX4_passSecond 15 = .ok (.aload_n 1, 1) := by decide +kernel
theorem dX4_passSecond_16 : decode cX4_passSecond 16 = .ok (.iload_n 3, 1) := by decide +kernel
theorem dX4_passSecond_17 : decode cX4_passSecond 17 = .ok (.aaload, 1) := by decide +kernel
theorem dX4_passSecond_18 : decode cX4_passSecond 18 = .ok (.astore 4, 2) := by decide +kernel
theorem dX4_passSecond_20 : decode cX4_passSecond 20 = .ok (.aload 4, 2) := by decide +kernel
theorem dX4_passSecond_22 : decode cX4_passSecond 22 = .ok (.getfield 92, 3) := by decide +kernel
theorem dX4_passSecond_25 : decode cX4_passSecond 25 = .ok (.ifCond .eq 8, 3) := by decide +kernel
theorem dX4_passSecond_28 : decode cX4_passSecond 28 = .ok (.aload 4, 2) := by decide +kernel
theorem dX4_passSecond_30 : decode cX4_passSecond 30 = .ok (.invokevirtual 139, 3) := by decide +kernel
theorem dX4_passSecond_33 : decode cX4_passSecond 33 = .ok (.iinc 3 1, 3) := by decide +kernel
theorem dX4_passSecond_36 : decode cX4_passSecond 36 = .ok (.goto (-26), 3) := by decide +kernel
theorem dX4_passSecond_39 : decode cX4_passSecond 39 = .ok (.aload_n 0, 1) := by decide +kernel
theorem dX4_passSecond_40 : decode cX4_passSecond 40 = .ok (.getfield 25, 3) := by decide +kernel
theorem dX4_passSecond_43 : decode cX4_passSecond 43 = .ok (.astore_n 1, 1) := by decide +kernel
theorem dX4_passSecond_44 : decode cX4_passSecond 44 = .ok (.aload_n 1, 1) := by decide +kernel
theorem dX4_passSecond_45 : decode cX4_passSecond 45 = .ok (.arraylength, 1) := by decide +kernel
theorem dX4_passSecond_46 : decode cX4_passSecond 46 = .ok (.istore_n 2, 1) := by decide +kernel
theorem dX4_passSecond_47 : decode cX4_passSecond 47 = .ok (.iconst 0, 1) := by decide +kernel
theorem dX4_passSecond_48 : decode cX4_passSecond 48 = .ok (.istore_n 3, 1) := by decide +kernel
theorem dX4_passSecond_49 : decode cX4_passSecond 49 = .ok (.iload_n 3, 1) := by decide +kernel
theorem dX4_passSecond_50 : decode cX4_passSecond 50 = .ok (.iload_n 2, 1) := by decide +kernel
theorem dX4_passSecond_51 : decode cX4_passSecond 51 = .ok (.if_icmp .ge 36, 3) := by decide +kernel
theorem dX4_passSecond_54 : decode cX4_passSecond 54 = .ok (.aload_n 1, 1) := by decide +kernel
theorem dX4_passSecond_55 : decode cX4_passSecond 55 = .ok (.iload_n 3, 1) := by decide +kernel
theorem dX4_passSecond_56 : decode cX4_passSecond 56 = .ok (.aaload, 1) := by decide +kernel
theorem dX4_passSecond_57 : decode cX4_passSecond 57 = .ok (.astore 4, 2) := by decide +kernel
theorem dX4_passSecond_59 : decode cX4_passSecond 59 = .ok (.aload 4, 2) := by decide +kernel
theorem dX4_passSecond_61 : decode cX4_passSecond 61 = .ok (.getfield 92, 3) := by decide +kernel
theorem dX4_passSecond_64 : decode cX4_passSecond 64 = .ok (.ifCond .eq 17, 3) := by decide +kernel
theorem dX4_passSecond_67 : decode cX4_passSecond 67 = .ok (.aload 4, 2) := by decide +kernel
theorem dX4_passSecond_69 : decode cX4_passSecond 69 = .ok (.getfield 88, 3) := by decide +kernel
theorem dX4_passSecond_72 : decode cX4_passSecond 72 = .ok (.ifCond .eq 9, 3) := by decide +kernel
theorem dX4_passSecond_75 : decode cX4_passSecond 75 = .ok (.aload_n 0, 1) := by decide +kernel
theorem dX4_passSecond_76 : decode cX4_passSecond 76 = .ok (.aload 4, 2) := by decide +kernel
theorem dX4_passSecond_78 : decode cX4_passSecond 78 = .ok (.invokevirtual 142, 3) := by decide +kernel
theorem dX4_passSecond_81 : decode cX4_passSecond 81 = .ok (.iinc 3 1, 3) := by decide +kernel
theorem dX4_passSecond_84 : decode cX4_passSecond 84 = .ok (.goto (-35), 3) := by decide +kernel
theorem dX4_passSecond_87 : decode cX4_passSecond 87 = .ok (.aload_n 0, 1) := by decide +kernel
theorem dX4_passSecond_88 : decode cX4_passSecond 88 = .ok (.getfield 32, 3) := by decide +kernel
theorem dX4_passSecond_91 : decode cX4_passSecond 91 = .ok (.astore_n 1, 1) := by decide +kernel
theorem dX4_passSecond_92 : decode cX4_passSecond 92 = .ok (.aload_n 1, 1) := by decide +kernel
theorem dX4_passSecond_93 : decode cX4_passSecond 93 = .ok (.arraylength, 1) := by decide +kernel
theorem dX4_passSecond_94 : decode cX4_passSecond 94 = .ok (.istore_n 2, 1) := by decide +kernel
theorem dX4_passSecond_95 : decode cX4_passSecond 95 = .ok (.iconst 0, 1) := by decide +kernel
theorem dX4_passSecond_96 : decode cX4_passSecond 96 = .ok (.istore_n 3, 1) := by decide +kernel
theorem dX4_passSecond_97 : decode cX4_passSecond 97 = .ok (.iload_n 3, 1) := by decide +kernel
theorem dX4_passSecond_98 : decode cX4_passSecond 98 = .ok (.iload_n 2, 1) := by decide +kernel
theorem dX4_passSecond_99 : decode cX4_passSecond 99 = .ok (.if_icmp .ge 32, 3) := by decide +kernel
theorem dX4_passSecond_102 : decode cX4_passSecond 102 = .ok (.aload_n 1, 1) := by decide +kernel
theorem dX4_passSecond_103 : decode cX4_passSecond 103 = .ok (.iload_n 3, 1) := by decide +kernel
theorem dX4_passSecond_104 : decode cX4_passSecond 104 = .ok (.aaload, 1) := by decide +kernel
theorem dX4_passSecond_105 : decode cX4_passSecond 105 = .ok (.astore 4, 2) := by decide +kernel
theorem dX4_passSecond_107 : decode cX4_passSecond 107 = .ok (.aload 4, 2) := by decide +kernel
theorem dX4_passSecond_109 : decode cX4_passSecond 109 = .ok (.invokevirtual 145, 3) := by decide +kernel
theorem dX4_passSecond_112 : decode cX4_passSecond 112 = .ok (.ifCond .eq 13, 3) := by decide +kernel
theorem dX4_passSecond_115 : decode cX4_passSecond 115 = .ok (.aload 4, 2) := by decide +kernel
theorem dX4_passSecond_117 : decode cX4_passSecond 117 = .ok (.invokevirtual 148, 3) := by decide +kernel
theorem dX4_passSecond_120 : decode cX4_passSecond 120 = .ok (.aload 4, 2) := by decide +kernel
theorem dX4_passSecond_122 : decode cX4_passSecond 122 = .ok (.invokevirtual 151, 3) := by decide +kernel
theorem dX4_passSecond_125 : decode cX4_passSecond 125 = .ok (.iinc 3 1, 3) := by decide +kernel
theorem dX4_passSecond_128 : decode cX4_passSecond 128 = .ok (.goto (-31), 3) := by decide +kernel
theorem dX4_passSecond_131 : decode cX4_passSecond 131 = .ok (.aload_n 0, 1) := by decide +kernel
theorem dX4_passSecond_132 : decode cX4_passSecond 132 = .ok (.getfield 19, 3) := by decide +kernel
theorem dX4_passSecond_135 : decode cX4_passSecond 135 = .ok (.dup, 1) := by decide +kernel
theorem dX4_passSecond_136 : decode cX4_passSecond 136 = .ok (.getfield 154, 3) := by decide +kernel
theorem dX4_passSecond_139 : decode cX4_passSecond 139 = .ok (.iconst 1, 1) := by decide +kernel
theorem dX4_passSecond_140 : decode cX4_passSecond 140 = .ok (.iadd, 1) := by decide +kernel
theorem dX4_passSecond_141 : decode cX4_passSecond 141 = .ok (.putfield 154, 3) := by decide +kernel
theorem dX4_passSecond_144 : decode cX4_passSecond 144 = .ok (.return_, 1) := by decide +kernel
theorem dX4_heedAdvice_0 : decode cX4_heedAdvice 0 = .ok (.iconst 0, 1) := by decide +kernel
theorem dX4_heedAdvice_1 : decode cX4_heedAdvice 1 = .ok (.istore_n 2, 1) := by decide +kernel
theorem dX4_heedAdvice_2 : decode cX4_heedAdvice 2 = .ok (.iconst 0, 1) := by decide +kernel
theorem dX4_heedAdvice_3 : decode cX4_heedAdvice 3 = .ok (.istore_n 3, 1) := by decide +kernel
theorem dX4_heedAdvice_4 : decode cX4_heedAdvice 4 = .ok (.aload_n 0, 1) := by decide +kernel
theorem dX4_heedAdvice_5 : decode cX4_heedAdvice 5 = .ok (.getfield 32, 3) := by decide +kernel
theorem dX4_heedAdvice_8 : decode cX4_heedAdvice 8 = .ok (.astore 4, 2) := by decide +kernel
theorem dX4_heedAdvice_10 : decode cX4_heedAdvice 10 = .ok (.aload 4, 2) := by decide +kernel
theorem dX4_heedAdvice_12 : decode cX4_heedAdvice 12 = .ok (.arraylength, 1) := by decide +kernel
theorem dX4_heedAdvice_13 : decode cX4_heedAdvice 13 = .ok (.istore 5, 2) := by decide +kernel
theorem dX4_heedAdvice_15 : decode cX4_heedAdvice 15 = .ok (.iconst 0, 1) := by decide +kernel
theorem dX4_heedAdvice_16 : decode cX4_heedAdvice 16 = .ok (.istore 6, 2) := by decide +kernel
theorem dX4_heedAdvice_18 : decode cX4_heedAdvice 18 = .ok (.iload 6, 2) := by decide +kernel
theorem dX4_heedAdvice_20 : decode cX4_heedAdvice 20 = .ok (.iload 5, 2) := by decide +kernel
theorem dX4_heedAdvice_22 : decode cX4_heedAdvice 22 = .ok (.if_icmp .ge 65, 3) := by decide +kernel
theorem dX4_heedAdvice_25 : decode cX4_heedAdvice 25 = .ok (.aload 4, 2) := by decide +kernel
theorem dX4_heedAdvice_27 : decode cX4_heedAdvice 27 = .ok (.iload 6, 2) := by decide +kernel
theorem dX4_heedAdvice_29 : decode cX4_heedAdvice 29 = .ok (.aaload, 1) := by decide +kernel
theorem dX4_heedAdvice_30 : decode cX4_heedAdvice 30 = .ok (.astore 7, 2) := by decide +kernel
theorem dX4_heedAdvice_32 : decode cX4_heedAdvice 32 = .ok (.aload 7, 2) := by decide +kernel
theorem dX4_heedAdvice_34 : decode cX4_heedAdvice 34 = .ok (.aload_n 1, 1) := by decide +kernel
theorem dX4_heedAdvice_35 : decode cX4_heedAdvice 35 = .ok (.invokevirtual 129, 3) := by decide +kernel
theorem dX4_heedAdvice_38 : decode cX4_heedAdvice 38 = .ok (.ifCond .eq 43, 3) := by decide +kernel
theorem dX4_heedAdvice_41 : decode cX4_heedAdvice 41 = .ok (.aload 7, 2) := by decide +kernel
theorem dX4_heedAdvice_43 : decode cX4_heedAdvice 43 = .ok (.invokevirtual 158, 3) := by decide +kernel
theorem dX4_heedAdvice_46 : decode cX4_heedAdvice 46 = .ok (.ifCond .eq 35, 3) := by decide +kernel
theorem dX4_heedAdvice_49 : decode cX4_heedAdvice 49 = .ok (.aload 7, 2) := by decide +kernel
theorem dX4_heedAdvice_51 : decode cX4_heedAdvice 51 = .ok (.aload_n 1, 1) := by decide +kernel
theorem dX4_heedAdvice_52 : decode cX4_heedAdvice 52 = .ok (.invokevirtual 161, 3) := by decide +kernel
theorem dX4_heedAdvice_55 : decode cX4_heedAdvice 55 = .ok (.ifCond .eq 16, 3) := by decide +kernel
theorem dX4_heedAdvice_58 : decode cX4_heedAdvice 58 = .ok (.iload_n 2, 1) := by decide +kernel
theorem dX4_heedAdvice_59 : decode cX4_heedAdvice 59 = .ok (.aload 7, 2) := by decide +kernel
theorem dX4_heedAdvice_61 : decode cX4_heedAdvice 61 = .ok (.getfield 164, 3) := by decide +kernel
theorem dX4_heedAdvice_64 : decode cX4_heedAdvice 64 = .ok (.invokestatic 117, 3) := by decide +kernel
theorem dX4_heedAdvice_67 : decode cX4_heedAdvice 67 = .ok (.istore_n 2, 1) := by decide +kernel
theorem dX4_heedAdvice_68 : decode cX4_heedAdvice 68 = .ok (.goto 13, 3) := by decide +kernel
theorem dX4_heedAdvice_71 : decode cX4_heedAdvice 71 = .ok (.iload_n 3, 1) := by decide +kernel
theorem dX4_heedAdvice_72 : decode cX4_heedAdvice 72 = .ok (.aload 7, 2) := by decide +kernel
theorem dX4_heedAdvice_74 : decode cX4_heedAdvice 74 = .ok (.getfield 164, 3) := by decide +kernel
theorem dX4_heedAdvice_77 : decode cX4_heedAdvice 77 = .ok (.invokestatic 117, 3) := by decide +kernel
theorem dX4_heedAdvice_80 : decode cX4_heedAdvice 80 = .ok (.istore_n 3, 1) := by decide +kernel
theorem dX4_heedAdvice_81 : decode cX4_heedAdvice 81 = .ok (.iinc 6 1, 3) := by decide +kernel
theorem dX4_heedAdvice_84 : decode cX4_heedAdvice 84 = .ok (.goto (-66), 3) := by decide +kernel
theorem dX4_heedAdvice_87 : decode cX4_heedAdvice 87 = .ok (.aload_n 1, 1) := by decide +kernel
theorem dX4_heedAdvice_88 : decode cX4_heedAdvice 88 = .ok (.iload_n 2, 1) := by decide +kernel
theorem dX4_heedAdvice_89 : decode cX4_heedAdvice 89 = .ok (.iload_n 3, 1) := by decide +kernel
theorem dX4_heedAdvice_90 : decode cX4_heedAdvice 90 = .ok (.aload_n 0, 1) := by decide +kernel
theorem dX4_heedAdvice_91 : decode cX4_heedAdvice 91 = .ok (.getfield 10, 3) := by decide +kernel
theorem dX4_heedAdvice_94 : decode cX4_heedAdvice 94 = .ok (.invokevirtual 167, 3) := by decide +kernel
theorem dX4_heedAdvice_97 : decode cX4_heedAdvice 97 = .ok (.invokevirtual 170, 3) := by decide +kernel
theorem dX4_heedAdvice_100 : decode cX4_heedAdvice 100 = .ok (.return_, 1) := by decide +kernel
theorem dX4_countAdvised_0 : decode cX4_countAdvised 0 = .ok (.iconst 0, 1) := by decide +kernel
theorem dX4_countAdvised_1 : decode cX4_countAdvised 1 = .ok (.istore_n 1, 1) := by decide +kernel
theorem dX4_countAdvised_2 : decode cX4_countAdvised 2 = .ok (.aload_n 0, 1) := by decide +kernel
theorem dX4_countAdvised_3 : decode cX4_countAdvised 3 = .ok (.getfield 32, 3) := by decide +kernel
theorem dX4_countAdvised_6 : decode cX4_countAdvised 6 = .ok (.astore_n 2, 1) := by decide +kernel
theorem dX4_countAdvised_7 : decode cX4_countAdvised 7 = .ok (.aload_n 2, 1) := by decide +kernel
theorem dX4_countAdvised_8 : decode cX4_countAdvised 8 = .ok (.arraylength, 1) := by decide +kernel
theorem dX4_countAdvised_9 : decode cX4_countAdvised 9 = .ok (.istore_n 3, 1) := by decide +kernel
theorem dX4_countAdvised_10 : decode cX4_countAdvised 10 = .ok (.iconst 0, 1) := by decide +kernel
theorem dX4_countAdvised_11 : decode cX4_countAdvised 11 = .ok (.istore 4, 2) := by decide +kernel
theorem dX4_countAdvised_13 : decode cX4_countAdvised 13 = .ok (.iload 4, 2) := by decide +kernel
theorem dX4_countAdvised_15 : decode cX4_countAdvised 15 = .ok (.iload_n 3, 1) := by decide +kernel
theorem dX4_countAdvised_16 : decode cX4_countAdvised 16 = .ok (.if_icmp .ge 26, 3) := by decide +kernel
theorem dX4_countAdvised_19 : decode cX4_countAdvised 19 = .ok (.aload_n 2, 1) := by decide +kernel
theorem dX4_countAdvised_20 : decode cX4_countAdvised 20 = .ok (.iload 4, 2) := by decide +kernel
theorem dX4_countAdvised_22 : decode cX4_countAdvised 22 = .ok (.aaload, 1) := by decide +kernel
theorem dX4_countAdvised_23 : decode cX4_countAdvised 23 = .ok (.astore 5, 2) := by decide +kernel
theorem dX4_countAdvised_25 : decode cX4_countAdvised 25 = .ok (.aload 5, 2) := by decide +kernel
theorem dX4_countAdvised_27 : decode cX4_countAdvised 27 = .ok (.getfield 172, 3) := by decide +kernel
theorem dX4_countAdvised_30 : decode cX4_countAdvised 30 = .ok (.ifCond .eq 6, 3) := by decide +kernel
theorem dX4_countAdvised_33 : decode cX4_countAdvised 33 = .ok (.iinc 1 1, 3) := by decide +kernel
theorem dX4_countAdvised_36 : decode cX4_countAdvised 36 = .ok (.iinc 4 1, 3) := by decide +kernel
theorem dX4_countAdvised_39 : decode cX4_countAdvised 39 = .ok (.goto (-26), 3) := by decide +kernel
theorem dX4_countAdvised_42 : decode cX4_countAdvised 42 = .ok (.iload_n 1, 1) := by decide +kernel
theorem dX4_countAdvised_43 : decode cX4_countAdvised 43 = .ok (.ireturn, 1) := by decide +kernel
theorem dX5_init_0 : decode cX5_init 0 = .ok (.aload_n 0, 1) := by decide +kernel
theorem dX5_init_1 : decode cX5_init 1 = .ok (.invokespecial 1, 3) := by decide +kernel
theorem dX5_init_4 : decode cX5_init 4 = .ok (.aload_n 0, 1) := by decide +kernel
theorem dX5_init_5 : decode cX5_init 5 = .ok (.bipush 7, 2) := by decide +kernel
theorem dX5_init_7 : decode cX5_init 7 = .ok (.newarray .int, 2) := by decide +kernel
theorem dX5_init_9 : decode cX5_init 9 = .ok (.putfield 7, 3) := by decide +kernel
theorem dX5_init_12 : decode cX5_init 12 = .ok (.aload_n 0, 1) := by decide +kernel
theorem dX5_init_13 : decode cX5_init 13 = .ok (.bipush 6, 2) := by decide +kernel
theorem dX5_init_15 : decode cX5_init 15 = .ok (.newarray .boolean, 2) := by decide +kernel
theorem dX5_init_17 : decode cX5_init 17 = .ok (.putfield 13, 3) := by decide +kernel
theorem dX5_init_20 : decode cX5_init 20 = .ok (.aload_n 0, 1) := by decide +kernel
theorem dX5_init_21 : decode cX5_init 21 = .ok (.bipush 6, 2) := by decide +kernel
theorem dX5_init_23 : decode cX5_init 23 = .ok (.newarray .boolean, 2) := by decide +kernel
theorem dX5_init_25 : decode cX5_init 25 = .ok (.putfield 17, 3) := by decide +kernel
theorem dX5_init_28 : decode cX5_init 28 = .ok (.aload_n 0, 1) := by decide +kernel
theorem dX5_init_29 : decode cX5_init 29 = .ok (.bipush 36, 2) := by decide +kernel
theorem dX5_init_31 : decode cX5_init 31 = .ok (.newarray .int, 2) := by decide +kernel
theorem dX5_init_33 : decode cX5_init 33 = .ok (.putfield 20, 3) := by decide +kernel
theorem dX5_init_36 : decode cX5_init 36 = .ok (.aload_n 0, 1) := by decide +kernel
theorem dX5_init_37 : decode cX5_init 37 = .ok (.bipush 36, 2) := by decide +kernel
theorem dX5_init_39 : decode cX5_init 39 = .ok (.newarray .int, 2) := by decide +kernel
theorem dX5_init_41 : decode cX5_init 41 = .ok (.putfield 23, 3) := by decide +kernel
theorem dX5_init_44 : decode cX5_init 44 = .ok (.aload_n 0, 1) := by decide +kernel
theorem dX5_init_45 : decode cX5_init 45 = .ok (.bipush 36, 2) := by decide +kernel
theorem dX5_init_47 : decode cX5_init 47 = .ok (.newarray .int, 2) := by decide +kernel
theorem dX5_init_49 : decode cX5_init 49 = .ok (.putfield 26, 3) := by decide +kernel
theorem dX5_init_52 : decode cX5_init 52 = .ok (.aload_n 0, 1) := by decide +kernel
theorem dX5_init_53 : decode cX5_init 53 = .ok (.bipush 36, 2) := by decide +kernel
theorem dX5_init_55 : decode cX5_init 55 = .ok (.newarray .int, 2) := by decide +kernel
theorem dX5_init_57 : decode cX5_init 57 = .ok (.putfield 29, 3) := by decide +kernel
theorem dX5_init_60 : decode cX5_init 60 = .ok (.aload_n 0, 1) := by decide +kernel
theorem dX5_init_61 : decode cX5_init 61 = .ok (.bipush 36, 2) := by decide +kernel
theorem dX5_init_63 : decode cX5_init 63 = .ok (.newarray .boolean, 2) := by decide +kernel
theorem dX5_init_65 : decode cX5_init 65 = .ok (.putfield 32, 3) := by decide +kernel
theorem dX5_init_68 : decode cX5_init 68 = .ok (.aload_n 0, 1) := by decide +kernel
theorem dX5_init_69 : decode cX5_init 69 = .ok (.bipush 36, 2) := by decide +kernel
theorem dX5_init_71 : decode cX5_init 71 = .ok (.newarray .long, 2) := by decide +kernel
theorem dX5_init_73 : decode cX5_init 73 = .ok (.putfield 35, 3) := by decide +kernel
theorem dX5_init_76 : decode cX5_init 76 = .ok (.aload_n 0, 1) := by decide +kernel
theorem dX5_init_77 : decode cX5_init 77 = .ok (.bipush 36, 2) := by decide +kernel
theorem dX5_init_79 : decode cX5_init 79 = .ok (.newarray .int, 2) := by decide +kernel
theorem dX5_init_81 : decode cX5_init 81 = .ok (.putfield 39, 3) := by decide +kernel
theorem dX5_init_84 : decode cX5_init 84 = .ok (.aload_n 0, 1) := by decide +kernel
theorem dX5_init_85 : decode cX5_init 85 = .ok (.iconst 5, 1) := by decide +kernel
theorem dX5_init_86 : decode cX5_init 86 = .ok (.newarray .int, 2) := by decide +kernel
theorem dX5_init_88 : decode cX5_init 88 = .ok (.putfield 42, 3) := by decide +kernel
theorem dX5_init_91 : decode cX5_init 91 = .ok (.aload_n 0, 1) := by decide +kernel
theorem dX5_init_92 : decode cX5_init 92 = .ok (.getfield 7, 3) := by decide +kernel
theorem dX5_init_95 : decode cX5_init 95 = .ok (.iconst 0, 1) := by decide +kernel
theorem dX5_init_96 : decode cX5_init 96 = .ok (.bipush 30, 2) := by decide +kernel
theorem dX5_init_98 : decode cX5_init 98 = .ok (.iastore, 1) := by decide +kernel
theorem dX5_init_99 : decode cX5_init 99 = .ok (.aload_n 0, 1) := by decide +kernel
theorem dX5_init_100 : decode cX5_init 100 = .ok (.getfield 7, 3) := by decide +kernel
theorem dX5_init_103 : decode cX5_init 103 = .ok (.iconst 1, 1) := by decide +kernel
theorem dX5_init_104 : decode cX5_init 104 = .ok (.sipush 1000, 3) := by decide +kernel
theorem dX5_init_107 : decode cX5_init 107 = .ok (.iastore, 1) := by decide +kernel
theorem dX5_init_108 : decode cX5_init 108 = .ok (.aload_n 0, 1) := by decide +kernel
theorem dX5_init_109 : decode cX5_init 109 = .ok (.getfield 7, 3) := by decide +kernel
theorem dX5_init_112 : decode cX5_init 112 = .ok (.iconst 2, 1) := by decide +kernel
theorem dX5_init_113 : decode cX5_init 113 = .ok (.sipush 2000, 3) := by decide +kernel
theorem dX5_init_116 : decode cX5_init 116 = .ok (.iastore, 1) := by decide +kernel
theorem dX5_init_117 : decode cX5_init 117 = .ok (.aload_n 0, 1) := by decide +kernel
theorem dX5_init_118 : decode cX5_init 118 = .ok (.getfield 7, 3) := by decide +kernel
theorem dX5_init_121 : decode cX5_init 121 = .ok (.iconst 3, 1) := by decide +kernel
theorem dX5_init_122 : decode cX5_init 122 = .ok (.sipush 250, 3) := by decide +kernel
theorem dX5_init_125 : decode cX5_init 125 = .ok (.iastore, 1) := by decide +kernel
theorem dX5_init_126 : decode cX5_init 126 = .ok (.aload_n 0, 1) := by decide +kernel
theorem dX5_init_127 : decode cX5_init 127 = .ok (.getfield 7, 3) := by decide +kernel
theorem dX5_init_130 : decode cX5_init 130 = .ok (.iconst 4, 1) := by decide +kernel
theorem dX5_init_131 : decode cX5_init 131 = .ok (.sipush 200, 3) := by decide +kernel
theorem dX5_init_134 : decode cX5_init 134 = .ok (.iastore, 1) := by decide +kernel
theorem dX5_init_135 : decode cX5_init 135 = .ok (.aload_n 0, 1) := by decide +kernel
theorem dX5_init_136 : decode cX5_init 136 = .ok (.getfield 7, 3) := by decide +kernel
theorem dX5_init_139 : decode cX5_init 139 = .ok (.iconst 5, 1) := by decide +kernel
theorem dX5_init_140 : decode cX5_init 140 = .ok (.iconst 5, 1) := by decide +kernel
theorem dX5_init_141 : decode cX5_init 141 = .ok (.iastore, 1) := by decide +kernel
theorem dX5_init_142 : decode cX5_init 142 = .ok (.aload_n 0, 1) := by decide +kernel
theorem dX5_init_143 : decode cX5_init 143 = .ok (.getfield 7, 3) := by decide +kernel
theorem dX5_init_146 : decode cX5_init 146 = .ok (.bipush 6, 2) := by decide +kernel
theorem dX5_init_148 : decode cX5_init 148 = .ok (.bipush 8, 2) := by decide +kernel
theorem dX5_init_150 : decode cX5_init 150 = .ok (.iastore, 1) := by decide +kernel
theorem dX5_init_151 : decode cX5_init 151 = .ok (.return_, 1) := by decide +kernel
theorem dX5_thrown_0 : decode cX5_thrown 0 = .ok (.aload_n 0, 1) := by decide +kernel
theorem dX5_thrown_1 : decode cX5_thrown 1 = .ok (.getfield 45, 3) := by decide +kernel
theorem dX5_thrown_4 : decode cX5_thrown 4 = .ok (.ireturn, 1) := by decide +kernel
theorem dX5_set_0 : decode cX5_set 0 = .ok (.iload_n 1, 1) := by decide +kernel
theorem dX5_set_1 : decode cX5_set 1 = .ok (.ifCond .eq 9, 3) := by decide +kernel
theorem dX5_set_4 : decode cX5_set 4 = .ok (.iload_n 1, 1) := by decide +kernel
theorem dX5_set_5 : decode cX5_set 5 = .ok (.bipush 6, 2) := by decide +kernel
theorem dX5_set_7 : decode cX5_set 7 = .ok (.if_icmp .ne 7, 3) := by decide +kernel
theorem dX5_set_10 : decode cX5_set 10 = .ok (.iconst 1, 1) := by decide +kernel
theorem dX5_set_11 : decode cX5_set 11 = .ok (.goto 4, 3) := by decide +kernel
theorem dX5_set_14 : decode cX5_set 14 = .ok (.iconst 0, 1) := by decide +kernel
theorem dX5_set_15 : decode cX5_set 15 = .ok (.istore_n 3, 1) := by decide +kernel
theorem dX5_set_16 : decode cX5_set 16 = .ok (.iload_n 1, 1) := by decide +kernel
theorem dX5_set_17 : decode cX5_set 17 = .ok (.ifCond .ne 8, 3) := by decide +kernel
theorem dX5_set_20 : decode cX5_set 20 = .ok (.bipush 100, 2) := by decide +kernel
theorem dX5_set_22 : decode cX5_set 22 = .ok (.goto 47, 3) := by decide +kernel
theorem dX5_set_25 : decode cX5_set 25 = .ok (.iload_n 1, 1) := by decide +kernel
theorem dX5_set_26 : decode cX5_set 26 = .ok (.iconst 1, 1) := by decide +kernel
theorem dX5_set_27 : decode cX5_set 27 = .ok (.if_icmp .eq 8, 3) := by decide +kernel
theorem dX5_set_30 : decode cX5_set 30 = .ok (.iload_n 1, 1) := by decide +kernel
theorem dX5_set_31 : decode cX5_set 31 = .ok (.iconst 2, 1) := by decide +kernel
theorem dX5_set_32 : decode cX5_set 32 = .ok (.if_icmp .ne 9, 3) := by decide +kernel
theorem dX5_set_35 : decode cX5_set 35 = .ok (.sipush 5000, 3) := by decide +kernel
theorem dX5_set_38 : decode cX5_set 38 = .ok (.goto 31, 3) := by decide +kernel
theorem dX5_set_41 : decode cX5_set 41 = .ok (.iload_n 1, 1) := by decide +kernel
theorem dX5_set_42 : decode cX5_set 42 = .ok (.iconst 3, 1) := by decide +kernel
theorem dX5_set_43 : decode cX5_set 43 = .ok (.if_icmp .eq 8, 3) := by decide +kernel
theorem dX5_set_46 : decode cX5_set 46 = .ok (.iload_n 1, 1) := by decide +kernel
theorem dX5_set_47 : decode cX5_set 47 = .ok (.iconst 4, 1) := by decide +kernel
theorem dX5_set_48 : decode cX5_set 48 = .ok (.if_icmp .ne 9, 3) := by decide +kernel
theorem dX5_set_51 : decode cX5_set 51 = .ok (.sipush 2000, 3) := by decide +kernel
theorem dX5_set_54 : decode cX5_set 54 = .ok (.goto 15, 3) := by decide +kernel
theorem dX5_set_57 : decode cX5_set 57 = .ok (.iload_n 1, 1) := by decide +kernel
theorem dX5_set_58 : decode cX5_set 58 = .ok (.iconst 5, 1) := by decide +kernel
theorem dX5_set_59 : decode cX5_set 59 = .ok (.if_icmp .ne 8, 3) := by decide +kernel
theorem dX5_set_62 : decode cX5_set 62 = .ok (.bipush 20, 2) := by decide +kernel
theorem dX5_set_64 : decode cX5_set 64 = .ok (.goto 5, 3) := by decide +kernel
theorem dX5_set_67 : decode cX5_set 67 = .ok (.bipush 60, 2) := by decide +kernel
theorem dX5_set_69 : decode cX5_set 69 = .ok (.istore 4, 2) := by decide +kernel
theorem dX5_set_71 : decode cX5_set 71 = .ok (.aload_n 0, 1) := by decide +kernel
theorem dX5_set_72 : decode cX5_set 72 = .ok (.iload_n 1, 1) := by decide +kernel
theorem dX5_set_73 : decode cX5_set 73 = .ok (.ifCond .lt 20, 3) := by decide +kernel
theorem dX5_set_76 : decode cX5_set 76 = .ok (.iload_n 1, 1) := by decide +kernel
theorem dX5_set_77 : decode cX5_set 77 = .ok (.bipush 6, 2) := by decide +kernel
theorem dX5_set_79 : decode cX5_set 79 = .ok (.if_icmp .gt 14, 3) := by decide +kernel
theorem dX5_set_82 : decode cX5_set 82 = .ok (.iload_n 2, 1) := by decide +kernel
theorem dX5_set_83 : decode cX5_set 83 = .ok (.iload_n 3, 1) := by decide +kernel
theorem dX5_set_84 : decode cX5_set 84 = .ok (.if_icmp .lt 9, 3) := by decide +kernel
theorem dX5_set_87 : decode cX5_set 87 = .ok (.iload_n 2, 1) := by decide +kernel
theorem dX5_set_88 : decode cX5_set 88 = .ok (.iload 4, 2) := by decide +kernel
theorem dX5_set_90 : decode cX5_set 90 = .ok (.if_icmp .le 7, 3) := by decide +kernel
theorem dX5_set_93 : decode cX5_set 93 = .ok (.iconst 1, 1) := by decide +kernel
theorem dX5_set_94 : decode cX5_set 94 = .ok (.goto 4, 3) := by decide +kernel
theorem dX5_set_97 : decode cX5_set 97 = .ok (.iconst 0, 1) := by decide +kernel
theorem dX5_set_98 : decode cX5_set 98 = .ok (.putfield 45, 3) := by decide +kernel
theorem dX5_set_101 : decode cX5_set 101 = .ok (.aload_n 0, 1) := by decide +kernel
theorem dX5_set_102 : decode cX5_set 102 = .ok (.getfield 45, 3) := by decide +kernel
theorem dX5_set_105 : decode cX5_set 105 = .ok (.ifCond .le 5, 3) := by decide +kernel
theorem dX5_set_108 : decode cX5_set 108 = .ok (.iconst 0, 1) := by decide +kernel
theorem dX5_set_109 : decode cX5_set 109 = .ok (.ireturn, 1) := by decide +kernel
theorem dX5_set_110 : decode cX5_set 110 = .ok (.aload_n 0, 1) := by decide +kernel
theorem dX5_set_111 : decode cX5_set 111 = .ok (.getfield 7, 3) := by decide +kernel
theorem dX5_set_114 : decode cX5_set 114 = .ok (.iload_n 1, 1) := by decide +kernel
theorem dX5_set_115 : decode cX5_set 115 = .ok (.iaload, 1) := by decide +kernel
theorem dX5_set_116 : decode cX5_set 116 = .ok (.istore 5, 2) := by decide +kernel
theorem dX5_set_118 : decode cX5_set 118 = .ok (.aload_n 0, 1) := by decide +kernel
theorem dX5_set_119 : decode cX5_set 119 = .ok (.getfield 7, 3) := by decide +kernel
theorem dX5_set_122 : decode cX5_set 122 = .ok (.iload_n 1, 1) := by decide +kernel
theorem dX5_set_123 : decode cX5_set 123 = .ok (.iload_n 2, 1) := by decide +kernel
theorem dX5_set_124 : decode cX5_set 124 = .ok (.iastore, 1) := by decide +kernel
theorem dX5_set_125 : decode cX5_set 125 = .ok (.iload 5, 2) := by decide +kernel
theorem dX5_set_127 : decode cX5_set 127 = .ok (.ireturn, 1) := by decide +kernel
theorem dX5_isNumber_0 : decode cX5_isNumber 0 = .ok (.iload_n 0, 1) := by decide +kernel
theorem dX5_isNumber_1 : decode cX5_isNumber 1 = .ok (.ifCond .lt 13, 3) := by decide +kernel
theorem dX5_isNumber_4 : decode cX5_isNumber 4 = .ok (.iload_n 0, 1) := by decide +kernel
theorem dX5_isNumber_5 : decode cX5_isNumber 5 = .ok (.bipush 6, 2) := by decide +kernel
theorem dX5_isNumber_7 : decode cX5_isNumber 7 = .ok (.if_icmp .ge 7, 3) := by decide +kernel
theorem dX5_isNumber_10 : decode cX5_isNumber 10 = .ok (.iconst 1, 1) := by decide +kernel
theorem dX5_isNumber_11 : decode cX5_isNumber 11 = .ok (.goto 4, 3) := by decide +kernel
theorem dX5_isNumber_14 : decode cX5_isNumber 14 = .ok (.iconst 0, 1) := by decide +kernel
theorem dX5_isNumber_15 : decode cX5_isNumber 15 = .ok (.ireturn, 1) := by decide +kernel
theorem dX5_isThere_0 : decode cX5_isThere 0 = .ok (.iload_n 1, 1) := by decide +kernel
theorem dX5_isThere_1 : decode cX5_isThere 1 = .ok (.invokestatic 49, 3) := by decide +kernel
theorem dX5_isThere_4 : decode cX5_isThere 4 = .ok (.ifCond .eq 16, 3) := by decide +kernel
theorem dX5_isThere_7 : decode cX5_isThere 7 = .ok (.aload_n 0, 1) := by decide +kernel
theorem dX5_isThere_8 : decode cX5_isThere 8 = .ok (.getfield 13, 3) := by decide +kernel
theorem dX5_isThere_11 : decode cX5_isThere 11 = .ok (.iload_n 1, 1) := by decide +kernel
theorem dX5_isThere_12 : decode cX5_isThere 12 = .ok (.baload, 1) := by decide +kernel
theorem dX5_isThere_13 : decode cX5_isThere 13 = .ok (.ifCond .eq 7, 3) := by decide +kernel
theorem dX5_isThere_16 : decode cX5_isThere 16 = .ok (.iconst 1, 1) := by decide +kernel
theorem dX5_isThere_17 : decode cX5_isThere 17 = .ok (.goto 4, 3) := by decide +kernel
theorem dX5_isThere_20 : decode cX5_isThere 20 = .ok (.iconst 0, 1) := by decide +kernel
theorem dX5_isThere_21 : decode cX5_isThere 21 = .ok (.ireturn, 1) := by decide +kernel
theorem dX5_within_0 : decode cX5_within 0 = .ok (.iload_n 0, 1) := by decide +kernel
theorem dX5_within_1 : decode cX5_within 1 = .ok (.iload_n 1, 1) := by decide +kernel
theorem dX5_within_2 : decode cX5_within 2 = .ok (.ineg, 1) := by decide +kernel
theorem dX5_within_3 : decode cX5_within 3 = .ok (.if_icmp .lt 12, 3) := by decide +kernel
theorem dX5_within_6 : decode cX5_within 6 = .ok (.iload_n 0, 1) := by decide +kernel
theorem dX5_within_7 : decode cX5_within 7 = .ok (.iload_n 1, 1) := by decide +kernel
theorem dX5_within_8 : decode cX5_within 8 = .ok (.if_icmp .gt 7, 3) := by decide +kernel
theorem dX5_within_11 : decode cX5_within 11 = .ok (.iconst 1, 1) := by decide +kernel
theorem dX5_within_12 : decode cX5_within 12 = .ok (.goto 4, 3) := by decide +kernel
theorem dX5_within_15 : decode cX5_within 15 = .ok (.iconst 0, 1) := by decide +kernel
theorem dX5_within_16 : decode cX5_within 16 = .ok (.ireturn, 1) := by decide +kernel
theorem dX5_pairOf_0 : decode cX5_pairOf 0 = .ok (.iload_n 0, 1) := by decide +kernel
theorem dX5_pairOf_1 : decode cX5_pairOf 1 = .ok (.iload_n 1, 1) := by decide +kernel
theorem dX5_pairOf_2 : decode cX5_pairOf 2 = .ok (.if_icmp .ge 12, 3) := by decide +kernel
theorem dX5_pairOf_5 : decode cX5_pairOf 5 = .ok (.bipush 6, 2) := by decide +kernel
theorem dX5_pairOf_7 : decode cX5_pairOf 7 = .ok (.iload_n 0, 1) := by decide +kernel
theorem dX5_pairOf_8 : decode cX5_pairOf 8 = .ok (.imul, 1) := by decide +kernel
theorem dX5_pairOf_9 : decode cX5_pairOf 9 = .ok (.iload_n 1, 1) := by decide +kernel
theorem dX5_pairOf_10 : decode cX5_pairOf 10 = .ok (.iadd, 1) := by decide +kernel
theorem dX5_pairOf_11 : decode cX5_pairOf 11 = .ok (.goto 9, 3) := by decide +kernel
theorem dX5_pairOf_14 : decode cX5_pairOf 14 = .ok (.bipush 6, 2) := by decide +kernel
theorem dX5_pairOf_16 : decode cX5_pairOf 16 = .ok (.iload_n 1, 1) := by decide +kernel
theorem dX5_pairOf_17 : decode cX5_pairOf 17 = .ok (.imul, 1) := by decide +kernel
theorem dX5_pairOf_18 : decode cX5_pairOf 18 = .ok (.iload_n 0, 1) := by decide +kernel
theorem dX5_pairOf_19 : decode cX5_pairOf 19 = .ok (.iadd, 1) := by decide +kernel
theorem dX5_pairOf_20 : decode cX5_pairOf 20 = .ok (.ireturn, 1) := by decide +kernel
theorem dX5_endAll_0 : decode cX5_endAll 0 = .ok (.iconst 0, 1) := by decide +kernel
theorem dX5_endAll_1 : decode cX5_endAll 1 = .ok (.istore_n 2, 1) := by decide +kernel
theorem dX5_endAll_2 : decode cX5_endAll 2 = .ok (.iload_n 2, 1) := by decide +kernel
theorem dX5_endAll_3 : decode cX5_endAll 3 = .ok (.bipush 6, 2) := by decide +kernel
theorem dX5_endAll_5 : decode cX5_endAll 5 = .ok (.if_icmp .ge 48, 3) := by decide +kernel
theorem dX5_endAll_8 : decode cX5_endAll 8 = .ok (.iload_n 2, 1) := by decide +kernel
theorem dX5_endAll_9 : decode cX5_endAll 9 = .ok (.iload_n 1, 1) := by decide +kernel
theorem dX5_endAll_10 : decode cX5_endAll 10 = .ok (.if_icmp .eq 37, 3) := by decide +kernel
theorem dX5_endAll_13 : decode cX5_endAll 13 = .ok (.iload_n 1, 1) := by decide +kernel
theorem dX5_endAll_14 : decode cX5_endAll 14 = .ok (.iload_n 2, 1) := by decide +kernel
theorem dX5_endAll_15 : decode cX5_endAll 15 = .ok (.invokestatic 53, 3) := by decide +kernel
theorem dX5_endAll_18 : decode cX5_endAll 18 = .ok (.istore_n 3, 1) := by decide +kernel
theorem dX5_endAll_19 : decode cX5_endAll 19 = .ok (.aload_n 0, 1) := by decide +kernel
theorem dX5_endAll_20 : decode cX5_endAll 20 = .ok (.getfield 23, 3) := by decide +kernel
theorem dX5_endAll_23 : decode cX5_endAll 23 = .ok (.iload_n 3, 1) := by decide +kernel
theorem dX5_endAll_24 : decode cX5_endAll 24 = .ok (.iconst 0, 1) := by decide +kernel
theorem dX5_endAll_25 : decode cX5_endAll 25 = .ok (.iastore, 1) := by decide +kernel
theorem dX5_endAll_26 : decode cX5_endAll 26 = .ok (.aload_n 0, 1) := by decide +kernel
theorem dX5_endAll_27 : decode cX5_endAll 27 = .ok (.getfield 26, 3) := by decide +kernel
theorem dX5_endAll_30 : decode cX5_endAll 30 = .ok (.iload_n 3, 1) := by decide +kernel
theorem dX5_endAll_31 : decode cX5_endAll 31 = .ok (.iconst 0, 1) := by decide +kernel
theorem dX5_endAll_32 : decode cX5_endAll 32 = .ok (.iastore, 1) := by decide +kernel
theorem dX5_endAll_33 : decode cX5_endAll 33 = .ok (.aload_n 0, 1) := by decide +kernel
theorem dX5_endAll_34 : decode cX5_endAll 34 = .ok (.getfield 29, 3) := by decide +kernel
theorem dX5_endAll_37 : decode cX5_endAll 37 = .ok (.iload_n 3, 1) := by decide +kernel
theorem dX5_endAll_38 : decode cX5_endAll 38 = .ok (.iconst 0, 1) := by decide +kernel
theorem dX5_endAll_39 : decode cX5_endAll 39 = .ok (.iastore, 1) := by decide +kernel
theorem dX5_endAll_40 : decode cX5_endAll 40 = .ok (.aload_n 0, 1) := by decide +kernel
theorem dX5_endAll_41 : decode cX5_endAll 41 = .ok (.getfield 32, 3) := by decide +kernel
theorem dX5_endAll_44 : decode cX5_endAll 44 = .ok (.iload_n 3, 1) := by decide +kernel
theorem dX5_endAll_45 : decode cX5_endAll 45 = .ok (.iconst 0, 1) := by decide +kernel
theorem dX5_endAll_46 : decode cX5_endAll 46 = .ok (.bastore, 1) := by decide +kernel
theorem dX5_endAll_47 : decode cX5_endAll 47 = .ok (.iinc 2 1, 3) := by decide +kernel
theorem dX5_endAll_50 : decode cX5_endAll 50 = .ok (.goto (-48), 3) := by decide +kernel
theorem dX5_endAll_53 : decode cX5_endAll 53 = .ok (.return_, 1) := by decide +kernel
theorem dX5_measure_0 : decode cX5_measure 0 = .ok (.iload_n 1, 1) := by decide +kernel
theorem dX5_measure_1 : decode cX5_measure 1 = .ok (.iload_n 2, 1) := by decide +kernel
theorem dX5_measure_2 : decode cX5_measure 2 = .ok (.invokestatic 53, 3) := by decide +kernel
theorem dX5_measure_5 : decode cX5_measure 5 = .ok (.istore_n 3, 1) := by decide +kernel
theorem dX5_measure_6 : decode cX5_measure 6 = .ok (.aload_n 0, 1) := by decide +kernel
theorem dX5_measure_7 : decode cX5_measure 7 = .ok (.getfield 20, 3) := by decide +kernel
theorem dX5_measure_10 : decode cX5_measure 10 = .ok (.bipush 6, 2) := by decide +kernel
theorem dX5_measure_12 : decode cX5_measure 12 = .ok (.iload_n 2, 1) := by decide +kernel
theorem dX5_measure_13 : decode cX5_measure 13 = .ok (.imul, 1) := by decide +kernel
theorem dX5_measure_14 : decode cX5_measure 14 = .ok (.iaload, 1) := by decide +kernel
theorem dX5_measure_15 : decode cX5_measure 15 = .ok (.aload_n 0, 1) := by decide +kernel
theorem dX5_measure_16 : decode cX5_measure 16 = .ok (.getfield 20, 3) := by decide +kernel
theorem dX5_measure_19 : decode cX5_measure 19 = .ok (.bipush 6, 2) := by decide +kernel
theorem dX5_measure_21 : decode cX5_measure 21 = .ok (.iload_n 1, 1) := by decide +kernel
theorem dX5_measure_22 : decode cX5_measure 22 = .ok (.imul, 1) := by decide +kernel
theorem dX5_measure_23 : decode cX5_measure 23 = .ok (.iaload, 1) := by decide +kernel
theorem dX5_measure_24 : decode cX5_measure 24 = .ok (.isub, 1) := by decide +kernel
theorem dX5_measure_25 : decode cX5_measure 25 = .ok (.i2l, 1) := by decide +kernel
theorem dX5_measure_26 : decode cX5_measure 26 = .ok (.lstore 4, 2) := by decide +kernel
theorem dX5_measure_28 : decode cX5_measure 28 = .ok (.aload_n 0, 1) := by decide +kernel
theorem dX5_measure_29 : decode cX5_measure 29 = .ok (.getfield 20, 3) := by decide +kernel
theorem dX5_measure_32 : decode cX5_measure 32 = .ok (.bipush 6, 2) := by decide +kernel
theorem dX5_measure_34 : decode cX5_measure 34 = .ok (.iload_n 2, 1) := by decide +kernel
theorem dX5_measure_35 : decode cX5_measure 35 = .ok (.imul, 1) := by decide +kernel
theorem dX5_measure_36 : decode cX5_measure 36 = .ok (.iconst 1, 1) := by decide +kernel
theorem dX5_measure_37 : decode cX5_measure 37 = .ok (.iadd, 1) := by decide +kernel
theorem dX5_measure_38 : decode cX5_measure 38 = .ok (.iaload, 1) := by decide +kernel
theorem dX5_measure_39 : decode cX5_measure 39 = .ok (.aload_n 0, 1) := by decide +kernel
theorem dX5_measure_40 : decode cX5_measure 40 = .ok (.getfield 20, 3) := by decide +kernel
theorem dX5_measure_43 : decode cX5_measure 43 = .ok (.bipush 6, 2) := by decide +kernel
theorem dX5_measure_45 : decode cX5_measure 45 = .ok (.iload_n 1, 1) := by decide +kernel
theorem dX5_measure_46 : decode cX5_measure 46 = .ok (.imul, 1) := by decide +kernel
theorem dX5_measure_47 : decode cX5_measure 47 = .ok (.iconst 1, 1) := by decide +kernel
theorem dX5_measure_48 : decode cX5_measure 48 = .ok (.iadd, 1) := by decide +kernel
theorem dX5_measure_49 : decode cX5_measure 49 = .ok (.iaload, 1) := by decide +kernel
theorem dX5_measure_50 : decode cX5_measure 50 = .ok (.isub, 1) := by decide +kernel
theorem dX5_measure_51 : decode cX5_measure 51 = .ok (.i2l, 1) := by decide +kernel
theorem dX5_measure_52 : decode cX5_measure 52 = .ok (.lstore 6, 2) := by decide +kernel
theorem dX5_measure_54 : decode cX5_measure 54 = .ok (.aload_n 0, 1) := by decide +kernel
theorem dX5_measure_55 : decode cX5_measure 55 = .ok (.getfield 20, 3) := by decide +kernel
theorem dX5_measure_58 : decode cX5_measure 58 = .ok (.bipush 6, 2) := by decide +kernel
theorem dX5_measure_60 : decode cX5_measure 60 = .ok (.iload_n 2, 1) := by decide +kernel
theorem dX5_measure_61 : decode cX5_measure 61 = .ok (.imul, 1) := by decide +kernel
theorem dX5_measure_62 : decode cX5_measure 62 = .ok (.iconst 2, 1) := by decide +kernel
theorem dX5_measure_63 : decode cX5_measure 63 = .ok (.iadd, 1) := by decide +kernel
theorem dX5_measure_64 : decode cX5_measure 64 = .ok (.iaload, 1) := by decide +kernel
theorem dX5_measure_65 : decode cX5_measure 65 = .ok (.aload_n 0, 1) := by decide +kernel
theorem dX5_measure_66 : decode cX5_measure 66 = .ok (.getfield 20, 3) := by decide +kernel
theorem dX5_measure_69 : decode cX5_measure 69 = .ok (.bipush 6, 2) := by decide +kernel
theorem dX5_measure_71 : decode cX5_measure 71 = .ok (.iload_n 1, 1) := by decide +kernel
theorem dX5_measure_72 : decode cX5_measure 72 = .ok (.imul, 1) := by decide +kernel
theorem dX5_measure_73 : decode cX5_measure 73 = .ok (.iconst 2, 1) := by decide +kernel
theorem dX5_measure_74 : decode cX5_measure 74 = .ok (.iadd, 1) := by decide +kernel
theorem dX5_measure_75 : decode cX5_measure 75 = .ok (.iaload, 1) := by decide +kernel
theorem dX5_measure_76 : decode cX5_measure 76 = .ok (.isub, 1) := by decide +kernel
theorem dX5_measure_77 : decode cX5_measure 77 = .ok (.istore 8, 2) := by decide +kernel
theorem dX5_measure_79 : decode cX5_measure 79 = .ok (.iload 8, 2) := by decide +kernel
theorem dX5_measure_81 : decode cX5_measure 81 = .ok (.ifCond .ge 9, 3) := by decide +kernel
theorem dX5_measure_84 : decode cX5_measure 84 = .ok (.iload 8, 2) := by decide +kernel
theorem dX5_measure_86 : decode cX5_measure 86 = .ok (.ineg, 1) := by decide +kernel
theorem dX5_measure_87 : decode cX5_measure 87 = .ok (.goto 5, 3) := by decide +kernel
theorem dX5_measure_90 : decode cX5_measure 90 = .ok (.iload 8, 2) := by decide +kernel
theorem dX5_measure_92 : decode cX5_measure 92 = .ok (.istore 9, 2) := by decide +kernel
theorem dX5_measure_94 : decode cX5_measure 94 = .ok (.lload 4, 2) := by decide +kernel
theorem dX5_measure_96 : decode cX5_measure 96 = .ok (.lload 4, 2) := by decide +kernel
theorem dX5_measure_98 : decode cX5_measure 98 = .ok (.lmul, 1) := by decide +kernel
theorem dX5_measure_99 : decode cX5_measure 99 = .ok (.lload 6, 2) := by decide +kernel
theorem dX5_measure_101 : decode cX5_measure 101 = .ok (.lload 6, 2) := by decide +kernel
theorem dX5_measure_103 : decode cX5_measure 103 = .ok (.lmul, 1) := by decide +kernel
theorem dX5_measure_104 : decode cX5_measure 104 = .ok (.ladd, 1) := by decide +kernel
theorem dX5_measure_105 : decode cX5_measure 105 = .ok (.lstore 10, 2) := by decide +kernel
theorem dX5_measure_107 : decode cX5_measure 107 = .ok (.aload_n 0, 1) := by decide +kernel
theorem dX5_measure_108 : decode cX5_measure 108 = .ok (.getfield 35, 3) := by decide +kernel
theorem dX5_measure_111 : decode cX5_measure 111 = .ok (.iload_n 3, 1) := by decide +kernel
theorem dX5_measure_112 : decode cX5_measure 112 = .ok (.lload 10, 2) := by decide +kernel
theorem dX5_measure_114 : decode cX5_measure 114 = .ok (.aload_n 0, 1) := by decide +kernel
theorem dX5_measure_115 : decode cX5_measure 115 = .ok (.getfield 35, 3) := by decide +kernel
theorem dX5_measure_118 : decode cX5_measure 118 = .ok (.iload_n 3, 1) := by decide +kernel
theorem dX5_measure_119 : decode cX5_measure 119 = .ok (.laload, 1) := by decide +kernel
theorem dX5_measure_120 : decode cX5_measure 120 = .ok (.lcmp, 1) := by decide +kernel
theorem dX5_measure_121 : decode cX5_measure 121 = .ok (.ifCond .ge 8, 3) := by decide +kernel
theorem dX5_measure_124 : decode cX5_measure 124 = .ok (.lload 10, 2) := by decide +kernel
theorem dX5_measure_126 : decode cX5_measure 126 = .ok (.goto 9, 3) := by decide +kernel
theorem dX5_measure_129 : decode cX5_measure 129 = .ok (.aload_n 0, 1) := by decide +kernel
theorem dX5_measure_130 : decode cX5_measure 130 = .ok (.getfield 35, 3) := by decide +kernel
theorem dX5_measure_133 : decode cX5_measure 133 = .ok (.iload_n 3, 1) := by decide +kernel
theorem dX5_measure_134 : decode cX5_measure 134 = .ok (.laload, 1) := by decide +kernel
theorem dX5_measure_135 : decode cX5_measure 135 = .ok (.lastore, 1) := by decide +kernel
theorem dX5_measure_136 : decode cX5_measure 136 = .ok (.aload_n 0, 1) := by decide +kernel
theorem dX5_measure_137 : decode cX5_measure 137 = .ok (.getfield 39, 3) := by decide +kernel
theorem dX5_measure_140 : decode cX5_measure 140 = .ok (.iload_n 3, 1) := by decide +kernel
theorem dX5_measure_141 : decode cX5_measure 141 = .ok (.iload 9, 2) := by decide +kernel
theorem dX5_measure_143 : decode cX5_measure 143 = .ok (.aload_n 0, 1) := by decide +kernel
theorem dX5_measure_144 : decode cX5_measure 144 = .ok (.getfield 39, 3) := by decide +kernel
theorem dX5_measure_147 : decode cX5_measure 147 = .ok (.iload_n 3, 1) := by decide +kernel
theorem dX5_measure_148 : decode cX5_measure 148 = .ok (.iaload, 1) := by decide +kernel
theorem dX5_measure_149 : decode cX5_measure 149 = .ok (.if_icmp .ge 8, 3) := by decide +kernel
theorem dX5_measure_152 : decode cX5_measure 152 = .ok (.iload 9, 2) := by decide +kernel
theorem dX5_measure_154 : decode cX5_measure 154 = .ok (.goto 9, 3) := by decide +kernel
theorem dX5_measure_157 : decode cX5_measure 157 = .ok (.aload_n 0, 1) := by decide +kernel
theorem dX5_measure_158 : decode cX5_measure 158 = .ok (.getfield 39, 3) := by decide +kernel
theorem dX5_measure_161 : decode cX5_measure 161 = .ok (.iload_n 3, 1) := by decide +kernel
theorem dX5_measure_162 : decode cX5_measure 162 = .ok (.iaload, 1) := by decide +kernel
theorem dX5_measure_163 : decode cX5_measure 163 = .ok (.iastore, 1) := by decide +kernel
theorem dX5_measure_164 : decode cX5_measure 164 = .ok (.return_, 1) := by decide +kernel
theorem dX5_place_0 : decode cX5_place 0 = .ok (.aload_n 0, 1) := by decide +kernel
theorem dX5_place_1 : decode cX5_place 1 = .ok (.iload_n 1, 1) := by decide +kernel
theorem dX5_place_2 : decode cX5_place 2 = .ok (.invokestatic 49, 3) := by decide +kernel
theorem dX5_place_5 : decode cX5_place 5 = .ok (.ifCond .eq 32, 3) := by decide +kernel
theorem dX5_place_8 : decode cX5_place 8 = .ok (.iload_n 2, 1) := by decide +kernel
theorem dX5_place_9 : decode cX5_place 9 = .ok (.ldc 57, 2) := by decide +kernel
theorem dX5_place_11 : decode cX5_place 11 = .ok (.invokestatic 58, 3) := by decide +kernel
theorem dX5_place_14 : decode cX5_place 14 = .ok (.ifCond .eq 23, 3) := by decide +kernel
theorem dX5_place_17 : decode cX5_place 17 = .ok (.iload_n 3, 1) := by decide +kernel
theorem dX5_place_18 : decode cX5_place 18 = .ok (.ldc 57, 2) := by decide +kernel
theorem dX5_place_20 : decode cX5_place 20 = .ok (.invokestatic 58, 3) := by decide +kernel
theorem dX5_place_23 : decode cX5_place 23 = .ok (.ifCond .eq 14, 3) := by decide +kernel
theorem dX5_place_26 : decode cX5_place 26 = .ok (.iload 4, 2) := by decide +kernel
theorem dX5_place_28 : decode cX5_place 28 = .ok (.sipush 20000, 3) := by decide +kernel
theorem dX5_place_31 : decode cX5_place 31 = .ok (.invokestatic 58, 3) := by decide +kernel
theorem dX5_place_34 : decode cX5_place 34 = .ok (.ifCond .ne 7, 3) := by decide +kernel
theorem dX5_place_37 : decode cX5_place 37 = .ok (.iconst 1, 1) := by decide +kernel
theorem dX5_place_38 : decode cX5_place 38 = .ok (.goto 4, 3) := by decide +kernel
theorem dX5_place_41 : decode cX5_place 41 = .ok (.iconst 0, 1) := by decide +kernel
theorem dX5_place_42 : decode cX5_place 42 = .ok (.putfield 45, 3) := by decide +kernel
theorem dX5_place_45 : decode cX5_place 45 = .ok (.aload_n 0, 1) := by decide +kernel
theorem dX5_place_46 : decode cX5_place 46 = .ok (.getfield 45, 3) := by decide +kernel
theorem dX5_place_49 : decode cX5_place 49 = .ok (.ifCond .le 4, 3) := by decide +kernel
theorem dX5_place_52 : decode cX5_place 52 = .ok (.return_, 1) := by decide +kernel
theorem dX5_place_53 : decode cX5_place 53 = .ok (.aload_n 0, 1) := by decide +kernel
theorem dX5_place_54 : decode cX5_place 54 = .ok (.getfield 13, 3) := by decide +kernel
theorem dX5_place_57 : decode cX5_place 57 = .ok (.iload_n 1, 1) := by decide +kernel
theorem dX5_place_58 : decode cX5_place 58 = .ok (.baload, 1) := by decide +kernel
theorem dX5_place_59 : decode cX5_place 59 = .ok (.ifCond .ne 53, 3) := by decide +kernel
theorem dX5_place_62 : decode cX5_place 62 = .ok (.aload_n 0, 1) := by decide +kernel
theorem dX5_place_63 : decode cX5_place 63 = .ok (.getfield 13, 3) := by decide +kernel
theorem dX5_place_66 : decode cX5_place 66 = .ok (.iload_n 1, 1) := by decide +kernel
theorem dX5_place_67 : decode cX5_place 67 = .ok (.iconst 1, 1) := by decide +kernel
theorem dX5_place_68 : decode cX5_place 68 = .ok (.bastore, 1) := by decide +kernel
theorem dX5_place_69 : decode cX5_place 69 = .ok (.aload_n 0, 1) := by decide +kernel
theorem dX5_place_70 : decode cX5_place 70 = .ok (.getfield 17, 3) := by decide +kernel
theorem dX5_place_73 : decode cX5_place 73 = .ok (.iload_n 1, 1) := by decide +kernel
theorem dX5_place_74 : decode cX5_place 74 = .ok (.iconst 1, 1) := by decide +kernel
theorem dX5_place_75 : decode cX5_place 75 = .ok (.bastore, 1) := by decide +kernel
theorem dX5_place_76 : decode cX5_place 76 = .ok (.aload_n 0, 1) := by decide +kernel
theorem dX5_place_77 : decode cX5_place 77 = .ok (.getfield 20, 3) := by decide +kernel
theorem dX5_place_80 : decode cX5_place 80 = .ok (.bipush 6, 2) := by decide +kernel
theorem dX5_place_82 : decode cX5_place 82 = .ok (.iload_n 1, 1) := by decide +kernel
theorem dX5_place_83 : decode cX5_place 83 = .ok (.imul, 1) := by decide +kernel
theorem dX5_place_84 : decode cX5_place 84 = .ok (.iconst 3, 1) := by decide +kernel
theorem dX5_place_85 : decode cX5_place 85 = .ok (.iadd, 1) := by decide +kernel
theorem dX5_place_86 : decode cX5_place 86 = .ok (.iconst 0, 1) := by decide +kernel
theorem dX5_place_87 : decode cX5_place 87 = .ok (.iastore, 1) := by decide +kernel
theorem dX5_place_88 : decode cX5_place 88 = .ok (.aload_n 0, 1) := by decide +kernel
theorem dX5_place_89 : decode cX5_place 89 = .ok (.getfield 20, 3) := by decide +kernel
theorem dX5_place_92 : decode cX5_place 92 = .ok (.bipush 6, 2) := by decide +kernel
theorem dX5_place_94 : decode cX5_place 94 = .ok (.iload_n 1, 1) := by decide +kernel
theorem dX5_place_95 : decode cX5_place 95 = .ok (.imul, 1) := by decide +kernel
theorem dX5_place_96 : decode cX5_place 96 = .ok (.iconst 4, 1) := by decide +kernel
theorem dX5_place_97 : decode cX5_place 97 = .ok (.iadd, 1) := by decide +kernel
theorem dX5_place_98 : decode cX5_place 98 = .ok (.iconst 0, 1) := by decide +kernel
theorem dX5_place_99 : decode cX5_place 99 = .ok (.iastore, 1) := by decide +kernel
theorem dX5_place_100 : decode cX5_place 100 = .ok (.aload_n 0, 1) := by decide +kernel
theorem dX5_place_101 : decode cX5_place 101 = .ok (.getfield 20, 3) := by decide +kernel
theorem dX5_place_104 : decode cX5_place 104 = .ok (.bipush 6, 2) := by decide +kernel
theorem dX5_place_106 : decode cX5_place 106 = .ok (.iload_n 1, 1) := by decide +kernel
theorem dX5_place_107 : decode cX5_place 107 = .ok (.imul, 1) := by decide +kernel
theorem dX5_place_108 : decode cX5_place 108 = .ok (.iconst 5, 1) := by decide +kernel
theorem dX5_place_109 : decode cX5_place 109 = .ok (.iadd, 1) := by decide +kernel
theorem dX5_place_110 : decode cX5_place 110 = .ok (.iconst 0, 1) := by decide +kernel
theorem dX5_place_111 : decode cX5_place 111 = .ok (.iastore, 1) := by decide +kernel
theorem dX5_place_112 : decode cX5_place 112 = .ok (.aload_n 0, 1) := by decide +kernel
theorem dX5_place_113 : decode cX5_place 113 = .ok (.getfield 20, 3) := by decide +kernel
theorem dX5_place_116 : decode cX5_place 116 = .ok (.bipush 6, 2) := by decide +kernel
theorem dX5_place_118 : decode cX5_place 118 = .ok (.iload_n 1, 1) := by decide +kernel
theorem dX5_place_119 : decode cX5_place 119 = .ok (.imul, 1) := by decide +kernel
theorem dX5_place_120 : decode cX5_place 120 = .ok (.iload_n 2, 1) := by decide +kernel
theorem dX5_place_121 : decode cX5_place 121 = .ok (.iastore, 1) := by decide +kernel
theorem dX5_place_122 : decode cX5_place 122 = .ok (.aload_n 0, 1) := by decide +kernel
theorem dX5_place_123 : decode cX5_place 123 = .ok (.getfield 20, 3) := by decide +kernel
theorem dX5_place_126 : decode cX5_place 126 = .ok (.bipush 6, 2) := by decide +kernel
theorem dX5_place_128 : decode cX5_place 128 = .ok (.iload_n 1, 1) := by decide +kernel
theorem dX5_place_129 : decode cX5_place 129 = .ok (.imul, 1) := by decide +kernel
theorem dX5_place_130 : decode cX5_place 130 = .ok (.iconst 1, 1) := by decide +kernel
theorem dX5_place_131 : decode cX5_place 131 = .ok (.iadd, 1) := by decide +kernel
theorem dX5_place_132 : decode cX5_place 132 = .ok (.iload_n 3, 1) := by decide +kernel
theorem dX5_place_133 : decode cX5_place 133 = .ok (.iastore, 1) := by decide +kernel
theorem dX5_place_134 : decode cX5_place 134 = .ok (.aload_n 0, 1) := by decide +kernel
theorem dX5_place_135 : decode cX5_place 135 = .ok (.getfield 20, 3) := by decide +kernel
theorem dX5_place_138 : decode cX5_place 138 = .ok (.bipush 6, 2) := by decide +kernel
theorem dX5_place_140 : decode cX5_place 140 = .ok (.iload_n 1, 1) := by decide +kernel
theorem dX5_place_141 : decode cX5_place 141 = .ok (.imul, 1) := by decide +kernel
theorem dX5_place_142 : decode cX5_place 142 = .ok (.iconst 2, 1) := by decide +kernel
theorem dX5_place_143 : decode cX5_place 143 = .ok (.iadd, 1) := by decide +kernel
theorem dX5_place_144 : decode cX5_place 144 = .ok (.iload 4, 2) := by decide +kernel
theorem dX5_place_146 : decode cX5_place 146 = .ok (.iastore, 1) := by decide +kernel
theorem dX5_place_147 : decode cX5_place 147 = .ok (.aload_n 0, 1) := by decide +kernel
theorem dX5_place_148 : decode cX5_place 148 = .ok (.iload_n 1, 1) := by decide +kernel
theorem dX5_place_149 : decode cX5_place 149 = .ok (.invokevirtual 62, 3) := by decide +kernel
theorem dX5_place_152 : decode cX5_place 152 = .ok (.iconst 0, 1) := by decide +kernel
theorem dX5_place_153 : decode cX5_place 153 = .ok (.istore 5, 2) := by decide +kernel
theorem dX5_place_155 : decode cX5_place 155 = .ok (.iload 5, 2) := by decide +kernel
theorem dX5_place_157 : decode cX5_place 157 = .ok (.bipush 6, 2) := by decide +kernel
theorem dX5_place_159 : decode cX5_place 159 = .ok (.if_icmp .ge 59, 3) := by decide +kernel
theorem dX5_place_162 : decode cX5_place 162 = .ok (.iload 5, 2) := by decide +kernel
theorem dX5_place_164 : decode cX5_place 164 = .ok (.iload_n 1, 1) := by decide +kernel
theorem dX5_place_165 : decode cX5_place 165 = .ok (.if_icmp .eq 47, 3) := by decide +kernel
theorem dX5_place_168 : decode cX5_place 168 = .ok (.aload_n 0, 1) := by decide +kernel
theorem dX5_place_169 : decode cX5_place 169 = .ok (.getfield 13, 3) := by decide +kernel
theorem dX5_place_172 : decode cX5_place 172 = .ok (.iload 5, 2) := by decide +kernel
theorem dX5_place_174 : decode cX5_place 174 = .ok (.baload, 1) := by decide +kernel
theorem dX5_place_175 : decode cX5_place 175 = .ok (.ifCond .eq 37, 3) := by decide +kernel
theorem dX5_place_178 : decode cX5_place 178 = .ok (.aload_n 0, 1) := by decide +kernel
theorem dX5_place_179 : decode cX5_place 179 = .ok (.getfield 35, 3) := by decide +kernel
theorem dX5_place_182 : decode cX5_place 182 = .ok (.iload_n 1, 1) := by decide +kernel
theorem dX5_place_183 : decode cX5_place 183 = .ok (.iload 5, 2) := by decide +kernel
theorem dX5_place_185 : decode cX5_place 185 = .ok (.invokestatic 53, 3) := by decide +kernel
theorem dX5_place_188 : decode cX5_place 188 = .ok (.ldc2_w 66, 3) := by decide +kernel
theorem dX5_place_191 : decode cX5_place 191 = .ok (.lastore, 1) := by decide +kernel
theorem dX5_place_192 : decode cX5_place 192 = .ok (.aload_n 0, 1) := by decide +kernel
theorem dX5_place_193 : decode cX5_place 193 = .ok (.getfield 39, 3) := by decide +kernel
theorem dX5_place_196 : decode cX5_place 196 = .ok (.iload_n 1, 1) := by decide +kernel
theorem dX5_place_197 : decode cX5_place 197 = .ok (.iload 5, 2) := by decide +kernel
theorem dX5_place_199 : decode cX5_place 199 = .ok (.invokestatic 53, 3) := by decide +kernel
end
section
theorem dX5_place_202 : decode cX5_place 202 = .ok (.ldc 68, 2) := by decide +kernel
theorem dX5_place_204 : decode cX5_place 204 = .ok (.iastore, 1) := by decide +kernel
theorem dX5_place_205 : decode cX5_place 205 = .ok (.aload_n 0, 1) := by decide +kernel
theorem dX5_place_206 : decode cX5_place 206 = .ok (.iload_n 1, 1) := by decide +kernel
theorem dX5_place_207 : decode cX5_place 207 = .ok (.iload 5, 2) := by decide +kernel
theorem dX5_place_209 : decode cX5_place 209 = .ok (.invokevirtual 69, 3) := by decide +kernel
theorem dX5_place_212 : decode cX5_place 212 = .ok (.iinc 5 1, 3) := by decide +kernel
theorem dX5_place_215 : decode cX5_place 215 = .ok (.goto (-60), 3) := by decide +kernel
theorem dX5_place_218 : decode cX5_place 218 = .ok (.return_, 1) := by decide +kernel
theorem dX5_speed_0 : decode cX5_speed 0 = .ok (.aload_n 0, 1) := by decide +kernel
theorem dX5_speed_1 : decode cX5_speed 1 = .ok (.aload_n 0, 1) := by decide +kernel
theorem dX5_speed_2 : decode cX5_speed 2 = .ok (.iload_n 1, 1) := by decide +kernel
theorem dX5_speed_3 : decode cX5_speed 3 = .ok (.invokevirtual 73, 3) := by decide +kernel
theorem dX5_speed_6 : decode cX5_speed 6 = .ok (.ifCond .eq 33, 3) := by decide +kernel
theorem dX5_speed_9 : decode cX5_speed 9 = .ok (.iload_n 2, 1) := by decide +kernel
theorem dX5_speed_10 : decode cX5_speed 10 = .ok (.sipush 500, 3) := by decide +kernel
theorem dX5_speed_13 : decode cX5_speed 13 = .ok (.invokestatic 58, 3) := by decide +kernel
theorem dX5_speed_16 : decode cX5_speed 16 = .ok (.ifCond .eq 23, 3) := by decide +kernel
theorem dX5_speed_19 : decode cX5_speed 19 = .ok (.iload_n 3, 1) := by decide +kernel
theorem dX5_speed_20 : decode cX5_speed 20 = .ok (.sipush 500, 3) := by decide +kernel
theorem dX5_speed_23 : decode cX5_speed 23 = .ok (.invokestatic 58, 3) := by decide +kernel
theorem dX5_speed_26 : decode cX5_speed 26 = .ok (.ifCond .eq 13, 3) := by decide +kernel
theorem dX5_speed_29 : decode cX5_speed 29 = .ok (.iload 4, 2) := by decide +kernel
theorem dX5_speed_31 : decode cX5_speed 31 = .ok (.bipush 60, 2) := by decide +kernel
theorem dX5_speed_33 : decode cX5_speed 33 = .ok (.invokestatic 58, 3) := by decide +kernel
theorem dX5_speed_36 : decode cX5_speed 36 = .ok (.ifCond .ne 7, 3) := by decide +kernel
theorem dX5_speed_39 : decode cX5_speed 39 = .ok (.iconst 1, 1) := by decide +kernel
theorem dX5_speed_40 : decode cX5_speed 40 = .ok (.goto 4, 3) := by decide +kernel
theorem dX5_speed_43 : decode cX5_speed 43 = .ok (.iconst 0, 1) := by decide +kernel
theorem dX5_speed_44 : decode cX5_speed 44 = .ok (.putfield 45, 3) := by decide +kernel
theorem dX5_speed_47 : decode cX5_speed 47 = .ok (.aload_n 0, 1) := by decide +kernel
theorem dX5_speed_48 : decode cX5_speed 48 = .ok (.getfield 45, 3) := by decide +kernel
theorem dX5_speed_51 : decode cX5_speed 51 = .ok (.ifCond .ne 45, 3) := by decide +kernel
theorem dX5_speed_54 : decode cX5_speed 54 = .ok (.aload_n 0, 1) := by decide +kernel
theorem dX5_speed_55 : decode cX5_speed 55 = .ok (.getfield 20, 3) := by decide +kernel
theorem dX5_speed_58 : decode cX5_speed 58 = .ok (.bipush 6, 2) := by decide +kernel
theorem dX5_speed_60 : decode cX5_speed 60 = .ok (.iload_n 1, 1) := by decide +kernel
theorem dX5_speed_61 : decode cX5_speed 61 = .ok (.imul, 1) := by decide +kernel
theorem dX5_speed_62 : decode cX5_speed 62 = .ok (.iconst 3, 1) := by decide +kernel
theorem dX5_speed_63 : decode cX5_speed 63 = .ok (.iadd, 1) := by decide +kernel
theorem dX5_speed_64 : decode cX5_speed 64 = .ok (.iload_n 2, 1) := by decide +kernel
theorem dX5_speed_65 : decode cX5_speed 65 = .ok (.iastore, 1) := by decide +kernel
theorem dX5_speed_66 : decode cX5_speed 66 = .ok (.aload_n 0, 1) := by decide +kernel
theorem dX5_speed_67 : decode cX5_speed 67 = .ok (.getfield 20, 3) := by decide +kernel
theorem dX5_speed_70 : decode cX5_speed 70 = .ok (.bipush 6, 2) := by decide +kernel
theorem dX5_speed_72 : decode cX5_speed 72 = .ok (.iload_n 1, 1) := by decide +kernel
theorem dX5_speed_73 : decode cX5_speed 73 = .ok (.imul, 1) := by decide +kernel
theorem dX5_speed_74 : decode cX5_speed 74 = .ok (.iconst 4, 1) := by decide +kernel
theorem dX5_speed_75 : decode cX5_speed 75 = .ok (.iadd, 1) := by decide +kernel
theorem dX5_speed_76 : decode cX5_speed 76 = .ok (.iload_n 3, 1) := by decide +kernel
theorem dX5_speed_77 : decode cX5_speed 77 = .ok (.iastore, 1) := by decide +kernel
theorem dX5_speed_78 : decode cX5_speed 78 = .ok (.aload_n 0, 1) := by decide +kernel
theorem dX5_speed_79 : decode cX5_speed 79 = .ok (.getfield 20, 3) := by decide +kernel
theorem dX5_speed_82 : decode cX5_speed 82 = .ok (.bipush 6, 2) := by decide +kernel
theorem dX5_speed_84 : decode cX5_speed 84 = .ok (.iload_n 1, 1) := by decide +kernel
theorem dX5_speed_85 : decode cX5_speed 85 = .ok (.imul, 1) := by decide +kernel
theorem dX5_speed_86 : decode cX5_speed 86 = .ok (.iconst 5, 1) := by decide +kernel
theorem dX5_speed_87 : decode cX5_speed 87 = .ok (.iadd, 1) := by decide +kernel
theorem dX5_speed_88 : decode cX5_speed 88 = .ok (.iload 4, 2) := by decide +kernel
theorem dX5_speed_90 : decode cX5_speed 90 = .ok (.iastore, 1) := by decide +kernel
theorem dX5_speed_91 : decode cX5_speed 91 = .ok (.aload_n 0, 1) := by decide +kernel
theorem dX5_speed_92 : decode cX5_speed 92 = .ok (.iload_n 1, 1) := by decide +kernel
theorem dX5_speed_93 : decode cX5_speed 93 = .ok (.invokevirtual 62, 3) := by decide +kernel
theorem dX5_speed_96 : decode cX5_speed 96 = .ok (.return_, 1) := by decide +kernel
theorem dX5_follow_0 : decode cX5_follow 0 = .ok (.aload_n 0, 1) := by decide +kernel
theorem dX5_follow_1 : decode cX5_follow 1 = .ok (.aload_n 0, 1) := by decide +kernel
theorem dX5_follow_2 : decode cX5_follow 2 = .ok (.iload_n 1, 1) := by decide +kernel
theorem dX5_follow_3 : decode cX5_follow 3 = .ok (.invokevirtual 73, 3) := by decide +kernel
theorem dX5_follow_6 : decode cX5_follow 6 = .ok (.ifCond .eq 7, 3) := by decide +kernel
theorem dX5_follow_9 : decode cX5_follow 9 = .ok (.iconst 0, 1) := by decide +kernel
theorem dX5_follow_10 : decode cX5_follow 10 = .ok (.goto 4, 3) := by decide +kernel
theorem dX5_follow_13 : decode cX5_follow 13 = .ok (.iconst 1, 1) := by decide +kernel
theorem dX5_follow_14 : decode cX5_follow 14 = .ok (.putfield 45, 3) := by decide +kernel
theorem dX5_follow_17 : decode cX5_follow 17 = .ok (.aload_n 0, 1) := by decide +kernel
theorem dX5_follow_18 : decode cX5_follow 18 = .ok (.getfield 45, 3) := by decide +kernel
theorem dX5_follow_21 : decode cX5_follow 21 = .ok (.ifCond .ne 10, 3) := by decide +kernel
theorem dX5_follow_24 : decode cX5_follow 24 = .ok (.aload_n 0, 1) := by decide +kernel
theorem dX5_follow_25 : decode cX5_follow 25 = .ok (.getfield 17, 3) := by decide +kernel
theorem dX5_follow_28 : decode cX5_follow 28 = .ok (.iload_n 1, 1) := by decide +kernel
theorem dX5_follow_29 : decode cX5_follow 29 = .ok (.iload_n 2, 1) := by decide +kernel
theorem dX5_follow_30 : decode cX5_follow 30 = .ok (.bastore, 1) := by decide +kernel
theorem dX5_follow_31 : decode cX5_follow 31 = .ok (.return_, 1) := by decide +kernel
theorem dX5_leave_0 : decode cX5_leave 0 = .ok (.aload_n 0, 1) := by decide +kernel
theorem dX5_leave_1 : decode cX5_leave 1 = .ok (.aload_n 0, 1) := by decide +kernel
theorem dX5_leave_2 : decode cX5_leave 2 = .ok (.iload_n 1, 1) := by decide +kernel
theorem dX5_leave_3 : decode cX5_leave 3 = .ok (.invokevirtual 73, 3) := by decide +kernel
theorem dX5_leave_6 : decode cX5_leave 6 = .ok (.ifCond .eq 7, 3) := by decide +kernel
theorem dX5_leave_9 : decode cX5_leave 9 = .ok (.iconst 0, 1) := by decide +kernel
theorem dX5_leave_10 : decode cX5_leave 10 = .ok (.goto 4, 3) := by decide +kernel
theorem dX5_leave_13 : decode cX5_leave 13 = .ok (.iconst 1, 1) := by decide +kernel
theorem dX5_leave_14 : decode cX5_leave 14 = .ok (.putfield 45, 3) := by decide +kernel
theorem dX5_leave_17 : decode cX5_leave 17 = .ok (.aload_n 0, 1) := by decide +kernel
theorem dX5_leave_18 : decode cX5_leave 18 = .ok (.getfield 45, 3) := by decide +kernel
theorem dX5_leave_21 : decode cX5_leave 21 = .ok (.ifCond .ne 15, 3) := by decide +kernel
theorem dX5_leave_24 : decode cX5_leave 24 = .ok (.aload_n 0, 1) := by decide +kernel
theorem dX5_leave_25 : decode cX5_leave 25 = .ok (.getfield 13, 3) := by decide +kernel
theorem dX5_leave_28 : decode cX5_leave 28 = .ok (.iload_n 1, 1) := by decide +kernel
theorem dX5_leave_29 : decode cX5_leave 29 = .ok (.iconst 0, 1) := by decide +kernel
theorem dX5_leave_30 : decode cX5_leave 30 = .ok (.bastore, 1) := by decide +kernel
theorem dX5_leave_31 : decode cX5_leave 31 = .ok (.aload_n 0, 1) := by decide +kernel
theorem dX5_leave_32 : decode cX5_leave 32 = .ok (.iload_n 1, 1) := by decide +kernel
theorem dX5_leave_33 : decode cX5_leave 33 = .ok (.invokevirtual 62, 3) := by decide +kernel
theorem dX5_leave_36 : decode cX5_leave 36 = .ok (.return_, 1) := by decide +kernel
theorem dX5_look_0 : decode cX5_look 0 = .ok (.aload_n 0, 1) := by decide +kernel
theorem dX5_look_1 : decode cX5_look 1 = .ok (.iload_n 1, 1) := by decide +kernel
theorem dX5_look_2 : decode cX5_look 2 = .ok (.iload_n 2, 1) := by decide +kernel
theorem dX5_look_3 : decode cX5_look 3 = .ok (.if_icmp .ge 7, 3) := by decide +kernel
theorem dX5_look_6 : decode cX5_look 6 = .ok (.iload_n 1, 1) := by decide +kernel
theorem dX5_look_7 : decode cX5_look 7 = .ok (.goto 4, 3) := by decide +kernel
theorem dX5_look_10 : decode cX5_look 10 = .ok (.iload_n 2, 1) := by decide +kernel
theorem dX5_look_11 : decode cX5_look 11 = .ok (.putfield 76, 3) := by decide +kernel
theorem dX5_look_14 : decode cX5_look 14 = .ok (.aload_n 0, 1) := by decide +kernel
theorem dX5_look_15 : decode cX5_look 15 = .ok (.iload_n 1, 1) := by decide +kernel
theorem dX5_look_16 : decode cX5_look 16 = .ok (.iload_n 2, 1) := by decide +kernel
theorem dX5_look_17 : decode cX5_look 17 = .ok (.if_icmp .ge 7, 3) := by decide +kernel
theorem dX5_look_20 : decode cX5_look 20 = .ok (.iload_n 2, 1) := by decide +kernel
theorem dX5_look_21 : decode cX5_look 21 = .ok (.goto 4, 3) := by decide +kernel
theorem dX5_look_24 : decode cX5_look 24 = .ok (.iload_n 1, 1) := by decide +kernel
theorem dX5_look_25 : decode cX5_look 25 = .ok (.putfield 79, 3) := by decide +kernel
theorem dX5_look_28 : decode cX5_look 28 = .ok (.bipush 6, 2) := by decide +kernel
theorem dX5_look_30 : decode cX5_look 30 = .ok (.aload_n 0, 1) := by decide +kernel
theorem dX5_look_31 : decode cX5_look 31 = .ok (.getfield 76, 3) := by decide +kernel
theorem dX5_look_34 : decode cX5_look 34 = .ok (.imul, 1) := by decide +kernel
theorem dX5_look_35 : decode cX5_look 35 = .ok (.istore_n 3, 1) := by decide +kernel
theorem dX5_look_36 : decode cX5_look 36 = .ok (.bipush 6, 2) := by decide +kernel
theorem dX5_look_38 : decode cX5_look 38 = .ok (.aload_n 0, 1) := by decide +kernel
theorem dX5_look_39 : decode cX5_look 39 = .ok (.getfield 79, 3) := by decide +kernel
theorem dX5_look_42 : decode cX5_look 42 = .ok (.imul, 1) := by decide +kernel
theorem dX5_look_43 : decode cX5_look 43 = .ok (.istore 4, 2) := by decide +kernel
theorem dX5_look_45 : decode cX5_look 45 = .ok (.aload_n 0, 1) := by decide +kernel
theorem dX5_look_46 : decode cX5_look 46 = .ok (.aload_n 0, 1) := by decide +kernel
theorem dX5_look_47 : decode cX5_look 47 = .ok (.getfield 20, 3) := by decide +kernel
theorem dX5_look_50 : decode cX5_look 50 = .ok (.iload 4, 2) := by decide +kernel
theorem dX5_look_52 : decode cX5_look 52 = .ok (.iaload, 1) := by decide +kernel
theorem dX5_look_53 : decode cX5_look 53 = .ok (.aload_n 0, 1) := by decide +kernel
theorem dX5_look_54 : decode cX5_look 54 = .ok (.getfield 20, 3) := by decide +kernel
theorem dX5_look_57 : decode cX5_look 57 = .ok (.iload_n 3, 1) := by decide +kernel
theorem dX5_look_58 : decode cX5_look 58 = .ok (.iaload, 1) := by decide +kernel
theorem dX5_look_59 : decode cX5_look 59 = .ok (.isub, 1) := by decide +kernel
theorem dX5_look_60 : decode cX5_look 60 = .ok (.i2l, 1) := by decide +kernel
theorem dX5_look_61 : decode cX5_look 61 = .ok (.putfield 82, 3) := by decide +kernel
theorem dX5_look_64 : decode cX5_look 64 = .ok (.aload_n 0, 1) := by decide +kernel
theorem dX5_look_65 : decode cX5_look 65 = .ok (.aload_n 0, 1) := by decide +kernel
theorem dX5_look_66 : decode cX5_look 66 = .ok (.getfield 20, 3) := by decide +kernel
theorem dX5_look_69 : decode cX5_look 69 = .ok (.iload 4, 2) := by decide +kernel
theorem dX5_look_71 : decode cX5_look 71 = .ok (.iconst 1, 1) := by decide +kernel
theorem dX5_look_72 : decode cX5_look 72 = .ok (.iadd, 1) := by decide +kernel
theorem dX5_look_73 : decode cX5_look 73 = .ok (.iaload, 1) := by decide +kernel
theorem dX5_look_74 : decode cX5_look 74 = .ok (.aload_n 0, 1) := by decide +kernel
theorem dX5_look_75 : decode cX5_look 75 = .ok (.getfield 20, 3) := by decide +kernel
theorem dX5_look_78 : decode cX5_look 78 = .ok (.iload_n 3, 1) := by decide +kernel
theorem dX5_look_79 : decode cX5_look 79 = .ok (.iconst 1, 1) := by decide +kernel
theorem dX5_look_80 : decode cX5_look 80 = .ok (.iadd, 1) := by decide +kernel
theorem dX5_look_81 : decode cX5_look 81 = .ok (.iaload, 1) := by decide +kernel
theorem dX5_look_82 : decode cX5_look 82 = .ok (.isub, 1) := by decide +kernel
theorem dX5_look_83 : decode cX5_look 83 = .ok (.i2l, 1) := by decide +kernel
theorem dX5_look_84 : decode cX5_look 84 = .ok (.putfield 86, 3) := by decide +kernel
theorem dX5_look_87 : decode cX5_look 87 = .ok (.aload_n 0, 1) := by decide +kernel
theorem dX5_look_88 : decode cX5_look 88 = .ok (.aload_n 0, 1) := by decide +kernel
theorem dX5_look_89 : decode cX5_look 89 = .ok (.getfield 20, 3) := by decide +kernel
theorem dX5_look_92 : decode cX5_look 92 = .ok (.iload 4, 2) := by decide +kernel
theorem dX5_look_94 : decode cX5_look 94 = .ok (.iconst 2, 1) := by decide +kernel
theorem dX5_look_95 : decode cX5_look 95 = .ok (.iadd, 1) := by decide +kernel
theorem dX5_look_96 : decode cX5_look 96 = .ok (.iaload, 1) := by decide +kernel
theorem dX5_look_97 : decode cX5_look 97 = .ok (.aload_n 0, 1) := by decide +kernel
theorem dX5_look_98 : decode cX5_look 98 = .ok (.getfield 20, 3) := by decide +kernel
theorem dX5_look_101 : decode cX5_look 101 = .ok (.iload_n 3, 1) := by decide +kernel
theorem dX5_look_102 : decode cX5_look 102 = .ok (.iconst 2, 1) := by decide +kernel
theorem dX5_look_103 : decode cX5_look 103 = .ok (.iadd, 1) := by decide +kernel
theorem dX5_look_104 : decode cX5_look 104 = .ok (.iaload, 1) := by decide +kernel
theorem dX5_look_105 : decode cX5_look 105 = .ok (.isub, 1) := by decide +kernel
theorem dX5_look_106 : decode cX5_look 106 = .ok (.i2l, 1) := by decide +kernel
theorem dX5_look_107 : decode cX5_look 107 = .ok (.putfield 89, 3) := by decide +kernel
theorem dX5_look_110 : decode cX5_look 110 = .ok (.aload_n 0, 1) := by decide +kernel
theorem dX5_look_111 : decode cX5_look 111 = .ok (.aload_n 0, 1) := by decide +kernel
theorem dX5_look_112 : decode cX5_look 112 = .ok (.getfield 20, 3) := by decide +kernel
theorem dX5_look_115 : decode cX5_look 115 = .ok (.iload 4, 2) := by decide +kernel
theorem dX5_look_117 : decode cX5_look 117 = .ok (.iconst 3, 1) := by decide +kernel
theorem dX5_look_118 : decode cX5_look 118 = .ok (.iadd, 1) := by decide +kernel
theorem dX5_look_119 : decode cX5_look 119 = .ok (.iaload, 1) := by decide +kernel
theorem dX5_look_120 : decode cX5_look 120 = .ok (.aload_n 0, 1) := by decide +kernel
theorem dX5_look_121 : decode cX5_look 121 = .ok (.getfield 20, 3) := by decide +kernel
theorem dX5_look_124 : decode cX5_look 124 = .ok (.iload_n 3, 1) := by decide +kernel
theorem dX5_look_125 : decode cX5_look 125 = .ok (.iconst 3, 1) := by decide +kernel
theorem dX5_look_126 : decode cX5_look 126 = .ok (.iadd, 1) := by decide +kernel
theorem dX5_look_127 : decode cX5_look 127 = .ok (.iaload, 1) := by decide +kernel
theorem dX5_look_128 : decode cX5_look 128 = .ok (.isub, 1) := by decide +kernel
theorem dX5_look_129 : decode cX5_look 129 = .ok (.i2l, 1) := by decide +kernel
theorem dX5_look_130 : decode cX5_look 130 = .ok (.putfield 92, 3) := by decide +kernel
theorem dX5_look_133 : decode cX5_look 133 = .ok (.aload_n 0, 1) := by decide +kernel
theorem dX5_look_134 : decode cX5_look 134 = .ok (.aload_n 0, 1) := by decide +kernel
theorem dX5_look_135 : decode cX5_look 135 = .ok (.getfield 20, 3) := by decide +kernel
theorem dX5_look_138 : decode cX5_look 138 = .ok (.iload 4, 2) := by decide +kernel
theorem dX5_look_140 : decode cX5_look 140 = .ok (.iconst 4, 1) := by decide +kernel
theorem dX5_look_141 : decode cX5_look 141 = .ok (.iadd, 1) := by decide +kernel
theorem dX5_look_142 : decode cX5_look 142 = .ok (.iaload, 1) := by decide +kernel
theorem dX5_look_143 : decode cX5_look 143 = .ok (.aload_n 0, 1) := by decide +kernel
theorem dX5_look_144 : decode cX5_look 144 = .ok (.getfield 20, 3) := by decide +kernel
theorem dX5_look_147 : decode cX5_look 147 = .ok (.iload_n 3, 1) := by decide +kernel
theorem dX5_look_148 : decode cX5_look 148 = .ok (.iconst 4, 1) := by decide +kernel
theorem dX5_look_149 : decode cX5_look 149 = .ok (.iadd, 1) := by decide +kernel
theorem dX5_look_150 : decode cX5_look 150 = .ok (.iaload, 1) := by decide +kernel
theorem dX5_look_151 : decode cX5_look 151 = .ok (.isub, 1) := by decide +kernel
theorem dX5_look_152 : decode cX5_look 152 = .ok (.i2l, 1) := by decide +kernel
theorem dX5_look_153 : decode cX5_look 153 = .ok (.putfield 95, 3) := by decide +kernel
theorem dX5_look_156 : decode cX5_look 156 = .ok (.aload_n 0, 1) := by decide +kernel
theorem dX5_look_157 : decode cX5_look 157 = .ok (.aload_n 0, 1) := by decide +kernel
theorem dX5_look_158 : decode cX5_look 158 = .ok (.getfield 20, 3) := by decide +kernel
theorem dX5_look_161 : decode cX5_look 161 = .ok (.iload 4, 2) := by decide +kernel
theorem dX5_look_163 : decode cX5_look 163 = .ok (.iconst 5, 1) := by decide +kernel
theorem dX5_look_164 : decode cX5_look 164 = .ok (.iadd, 1) := by decide +kernel
theorem dX5_look_165 : decode cX5_look 165 = .ok (.iaload, 1) := by decide +kernel
theorem dX5_look_166 : decode cX5_look 166 = .ok (.aload_n 0, 1) := by decide +kernel
theorem dX5_look_167 : decode cX5_look 167 = .ok (.getfield 20, 3) := by decide +kernel
theorem dX5_look_170 : decode cX5_look 170 = .ok (.iload_n 3, 1) := by decide +kernel
theorem dX5_look_171 : decode cX5_look 171 = .ok (.iconst 5, 1) := by decide +kernel
theorem dX5_look_172 : decode cX5_look 172 = .ok (.iadd, 1) := by decide +kernel
theorem dX5_look_173 : decode cX5_look 173 = .ok (.iaload, 1) := by decide +kernel
theorem dX5_look_174 : decode cX5_look 174 = .ok (.isub, 1) := by decide +kernel
theorem dX5_look_175 : decode cX5_look 175 = .ok (.i2l, 1) := by decide +kernel
theorem dX5_look_176 : decode cX5_look 176 = .ok (.putfield 98, 3) := by decide +kernel
theorem dX5_look_179 : decode cX5_look 179 = .ok (.aload_n 0, 1) := by decide +kernel
theorem dX5_look_180 : decode cX5_look 180 = .ok (.aload_n 0, 1) := by decide +kernel
theorem dX5_look_181 : decode cX5_look 181 = .ok (.getfield 82, 3) := by decide +kernel
theorem dX5_look_184 : decode cX5_look 184 = .ok (.aload_n 0, 1) := by decide +kernel
theorem dX5_look_185 : decode cX5_look 185 = .ok (.getfield 92, 3) := by decide +kernel
theorem dX5_look_188 : decode cX5_look 188 = .ok (.lmul, 1) := by decide +kernel
theorem dX5_look_189 : decode cX5_look 189 = .ok (.aload_n 0, 1) := by decide +kernel
theorem dX5_look_190 : decode cX5_look 190 = .ok (.getfield 86, 3) := by decide +kernel
theorem dX5_look_193 : decode cX5_look 193 = .ok (.aload_n 0, 1) := by decide +kernel
theorem dX5_look_194 : decode cX5_look 194 = .ok (.getfield 95, 3) := by decide +kernel
theorem dX5_look_197 : decode cX5_look 197 = .ok (.lmul, 1) := by decide +kernel
theorem dX5_look_198 : decode cX5_look 198 = .ok (.ladd, 1) := by decide +kernel
theorem dX5_look_199 : decode cX5_look 199 = .ok (.putfield 101, 3) := by decide +kernel
theorem dX5_look_202 : decode cX5_look 202 = .ok (.aload_n 0, 1) := by decide +kernel
theorem dX5_look_203 : decode cX5_look 203 = .ok (.aload_n 0, 1) := by decide +kernel
theorem dX5_look_204 : decode cX5_look 204 = .ok (.getfield 101, 3) := by decide +kernel
theorem dX5_look_207 : decode cX5_look 207 = .ok (.lconst 0, 1) := by decide +kernel
theorem dX5_look_208 : decode cX5_look 208 = .ok (.lcmp, 1) := by decide +kernel
theorem dX5_look_209 : decode cX5_look 209 = .ok (.ifCond .lt 7, 3) := by decide +kernel
theorem dX5_look_212 : decode cX5_look 212 = .ok (.lconst 0, 1) := by decide +kernel
theorem dX5_look_213 : decode cX5_look 213 = .ok (.goto 28, 3) := by decide +kernel
theorem dX5_look_216 : decode cX5_look 216 = .ok (.aload_n 0, 1) := by decide +kernel
theorem dX5_look_217 : decode cX5_look 217 = .ok (.getfield 101, 3) := by decide +kernel
theorem dX5_look_220 : decode cX5_look 220 = .ok (.lneg, 1) := by decide +kernel
theorem dX5_look_221 : decode cX5_look 221 = .ok (.aload_n 0, 1) := by decide +kernel
theorem dX5_look_222 : decode cX5_look 222 = .ok (.getfield 92, 3) := by decide +kernel
theorem dX5_look_225 : decode cX5_look 225 = .ok (.aload_n 0, 1) := by decide +kernel
theorem dX5_look_226 : decode cX5_look 226 = .ok (.getfield 92, 3) := by decide +kernel
theorem dX5_look_229 : decode cX5_look 229 = .ok (.lmul, 1) := by decide +kernel
theorem dX5_look_230 : decode cX5_look 230 = .ok (.aload_n 0, 1) := by decide +kernel
theorem dX5_look_231 : decode cX5_look 231 = .ok (.getfield 95, 3) := by decide +kernel
theorem dX5_look_234 : decode cX5_look 234 = .ok (.aload_n 0, 1) := by decide +kernel
theorem dX5_look_235 : decode cX5_look 235 = .ok (.getfield 95, 3) := by decide +kernel
theorem dX5_look_238 : decode cX5_look 238 = .ok (.lmul, 1) := by decide +kernel
theorem dX5_look_239 : decode cX5_look 239 = .ok (.ladd, 1) := by decide +kernel
theorem dX5_look_240 : decode cX5_look 240 = .ok (.ldiv, 1) := by decide +kernel
theorem dX5_look_241 : decode cX5_look 241 = .ok (.putfield 104, 3) := by decide +kernel
theorem dX5_look_244 : decode cX5_look 244 = .ok (.aload_n 0, 1) := by decide +kernel
theorem dX5_look_245 : decode cX5_look 245 = .ok (.aload_n 0, 1) := by decide +kernel
theorem dX5_look_246 : decode cX5_look 246 = .ok (.getfield 104, 3) := by decide +kernel
theorem dX5_look_249 : decode cX5_look 249 = .ok (.aload_n 0, 1) := by decide +kernel
theorem dX5_look_250 : decode cX5_look 250 = .ok (.getfield 7, 3) := by decide +kernel
theorem dX5_look_253 : decode cX5_look 253 = .ok (.iconst 0, 1) := by decide +kernel
theorem dX5_look_254 : decode cX5_look 254 = .ok (.iaload, 1) := by decide +kernel
theorem dX5_look_255 : decode cX5_look 255 = .ok (.i2l, 1) := by decide +kernel
theorem dX5_look_256 : decode cX5_look 256 = .ok (.lcmp, 1) := by decide +kernel
theorem dX5_look_257 : decode cX5_look 257 = .ok (.ifCond .le 13, 3) := by decide +kernel
theorem dX5_look_260 : decode cX5_look 260 = .ok (.aload_n 0, 1) := by decide +kernel
theorem dX5_look_261 : decode cX5_look 261 = .ok (.getfield 7, 3) := by decide +kernel
theorem dX5_look_264 : decode cX5_look 264 = .ok (.iconst 0, 1) := by decide +kernel
theorem dX5_look_265 : decode cX5_look 265 = .ok (.iaload, 1) := by decide +kernel
theorem dX5_look_266 : decode cX5_look 266 = .ok (.i2l, 1) := by decide +kernel
theorem dX5_look_267 : decode cX5_look 267 = .ok (.goto 7, 3) := by decide +kernel
theorem dX5_look_270 : decode cX5_look 270 = .ok (.aload_n 0, 1) := by decide +kernel
theorem dX5_look_271 : decode cX5_look 271 = .ok (.getfield 104, 3) := by decide +kernel
theorem dX5_look_274 : decode cX5_look 274 = .ok (.putfield 104, 3) := by decide +kernel
theorem dX5_look_277 : decode cX5_look 277 = .ok (.return_, 1) := by decide +kernel
theorem dX5_plain_0 : decode cX5_plain 0 = .ok (.lload_n 0, 1) := by decide +kernel
theorem dX5_plain_1 : decode cX5_plain 1 = .ok (.lconst 0, 1) := by decide +kernel
theorem dX5_plain_2 : decode cX5_plain 2 = .ok (.lcmp, 1) := by decide +kernel
theorem dX5_plain_3 : decode cX5_plain 3 = .ok (.ifCond .ge 8, 3) := by decide +kernel
theorem dX5_plain_6 : decode cX5_plain 6 = .ok (.lload_n 0, 1) := by decide +kernel
theorem dX5_plain_7 : decode cX5_plain 7 = .ok (.lneg, 1) := by decide +kernel
theorem dX5_plain_8 : decode cX5_plain 8 = .ok (.goto 4, 3) := by decide +kernel
theorem dX5_plain_11 : decode cX5_plain 11 = .ok (.lload_n 0, 1) := by decide +kernel
theorem dX5_plain_12 : decode cX5_plain 12 = .ok (.lreturn, 1) := by decide +kernel
theorem dX5_alerts_0 : decode cX5_alerts 0 = .ok (.aload_n 0, 1) := by decide +kernel
theorem dX5_alerts_1 : decode cX5_alerts 1 = .ok (.getfield 82, 3) := by decide +kernel
theorem dX5_alerts_4 : decode cX5_alerts 4 = .ok (.aload_n 0, 1) := by decide +kernel
theorem dX5_alerts_5 : decode cX5_alerts 5 = .ok (.getfield 82, 3) := by decide +kernel
theorem dX5_alerts_8 : decode cX5_alerts 8 = .ok (.lmul, 1) := by decide +kernel
theorem dX5_alerts_9 : decode cX5_alerts 9 = .ok (.aload_n 0, 1) := by decide +kernel
theorem dX5_alerts_10 : decode cX5_alerts 10 = .ok (.getfield 86, 3) := by decide +kernel
theorem dX5_alerts_13 : decode cX5_alerts 13 = .ok (.aload_n 0, 1) := by decide +kernel
theorem dX5_alerts_14 : decode cX5_alerts 14 = .ok (.getfield 86, 3) := by decide +kernel
theorem dX5_alerts_17 : decode cX5_alerts 17 = .ok (.lmul, 1) := by decide +kernel
theorem dX5_alerts_18 : decode cX5_alerts 18 = .ok (.ladd, 1) := by decide +kernel
theorem dX5_alerts_19 : decode cX5_alerts 19 = .ok (.lstore_n 1, 1) := by decide +kernel
theorem dX5_alerts_20 : decode cX5_alerts 20 = .ok (.aload_n 0, 1) := by decide +kernel
theorem dX5_alerts_21 : decode cX5_alerts 21 = .ok (.getfield 7, 3) := by decide +kernel
theorem dX5_alerts_24 : decode cX5_alerts 24 = .ok (.iconst 1, 1) := by decide +kernel
theorem dX5_alerts_25 : decode cX5_alerts 25 = .ok (.iaload, 1) := by decide +kernel
theorem dX5_alerts_26 : decode cX5_alerts 26 = .ok (.i2l, 1) := by decide +kernel
theorem dX5_alerts_27 : decode cX5_alerts 27 = .ok (.aload_n 0, 1) := by decide +kernel
theorem dX5_alerts_28 : decode cX5_alerts 28 = .ok (.getfield 7, 3) := by decide +kernel
theorem dX5_alerts_31 : decode cX5_alerts 31 = .ok (.iconst 1, 1) := by decide +kernel
theorem dX5_alerts_32 : decode cX5_alerts 32 = .ok (.iaload, 1) := by decide +kernel
theorem dX5_alerts_33 : decode cX5_alerts 33 = .ok (.i2l, 1) := by decide +kernel
theorem dX5_alerts_34 : decode cX5_alerts 34 = .ok (.lmul, 1) := by decide +kernel
theorem dX5_alerts_35 : decode cX5_alerts 35 = .ok (.lstore_n 3, 1) := by decide +kernel
theorem dX5_alerts_36 : decode cX5_alerts 36 = .ok (.lload_n 1, 1) := by decide +kernel
theorem dX5_alerts_37 : decode cX5_alerts 37 = .ok (.lload_n 3, 1) := by decide +kernel
theorem dX5_alerts_38 : decode cX5_alerts 38 = .ok (.lcmp, 1) := by decide +kernel
theorem dX5_alerts_39 : decode cX5_alerts 39 = .ok (.ifCond .le 101, 3) := by decide +kernel
theorem dX5_alerts_42 : decode cX5_alerts 42 = .ok (.aload_n 0, 1) := by decide +kernel
theorem dX5_alerts_43 : decode cX5_alerts 43 = .ok (.getfield 101, 3) := by decide +kernel
theorem dX5_alerts_46 : decode cX5_alerts 46 = .ok (.lconst 0, 1) := by decide +kernel
theorem dX5_alerts_47 : decode cX5_alerts 47 = .ok (.lcmp, 1) := by decide +kernel
theorem dX5_alerts_48 : decode cX5_alerts 48 = .ok (.ifCond .ge 23, 3) := by decide +kernel
theorem dX5_alerts_51 : decode cX5_alerts 51 = .ok (.lload_n 1, 1) := by decide +kernel
theorem dX5_alerts_52 : decode cX5_alerts 52 = .ok (.lload_n 3, 1) := by decide +kernel
theorem dX5_alerts_53 : decode cX5_alerts 53 = .ok (.lsub, 1) := by decide +kernel
theorem dX5_alerts_54 : decode cX5_alerts 54 = .ok (.aload_n 0, 1) := by decide +kernel
theorem dX5_alerts_55 : decode cX5_alerts 55 = .ok (.getfield 7, 3) := by decide +kernel
theorem dX5_alerts_58 : decode cX5_alerts 58 = .ok (.iconst 0, 1) := by decide +kernel
theorem dX5_alerts_59 : decode cX5_alerts 59 = .ok (.iaload, 1) := by decide +kernel
theorem dX5_alerts_60 : decode cX5_alerts 60 = .ok (.i2l, 1) := by decide +kernel
theorem dX5_alerts_61 : decode cX5_alerts 61 = .ok (.aload_n 0, 1) := by decide +kernel
theorem dX5_alerts_62 : decode cX5_alerts 62 = .ok (.getfield 101, 3) := by decide +kernel
theorem dX5_alerts_65 : decode cX5_alerts 65 = .ok (.lneg, 1) := by decide +kernel
theorem dX5_alerts_66 : decode cX5_alerts 66 = .ok (.lmul, 1) := by decide +kernel
theorem dX5_alerts_67 : decode cX5_alerts 67 = .ok (.lcmp, 1) := by decide +kernel
theorem dX5_alerts_68 : decode cX5_alerts 68 = .ok (.ifCond .le 5, 3) := by decide +kernel
theorem dX5_alerts_71 : decode cX5_alerts 71 = .ok (.iconst 0, 1) := by decide +kernel
theorem dX5_alerts_72 : decode cX5_alerts 72 = .ok (.ireturn, 1) := by decide +kernel
theorem dX5_alerts_73 : decode cX5_alerts 73 = .ok (.aload_n 0, 1) := by decide +kernel
theorem dX5_alerts_74 : decode cX5_alerts 74 = .ok (.getfield 82, 3) := by decide +kernel
theorem dX5_alerts_77 : decode cX5_alerts 77 = .ok (.aload_n 0, 1) := by decide +kernel
theorem dX5_alerts_78 : decode cX5_alerts 78 = .ok (.getfield 95, 3) := by decide +kernel
theorem dX5_alerts_81 : decode cX5_alerts 81 = .ok (.lmul, 1) := by decide +kernel
theorem dX5_alerts_82 : decode cX5_alerts 82 = .ok (.aload_n 0, 1) := by decide +kernel
theorem dX5_alerts_83 : decode cX5_alerts 83 = .ok (.getfield 86, 3) := by decide +kernel
theorem dX5_alerts_86 : decode cX5_alerts 86 = .ok (.aload_n 0, 1) := by decide +kernel
theorem dX5_alerts_87 : decode cX5_alerts 87 = .ok (.getfield 92, 3) := by decide +kernel
theorem dX5_alerts_90 : decode cX5_alerts 90 = .ok (.lmul, 1) := by decide +kernel
theorem dX5_alerts_91 : decode cX5_alerts 91 = .ok (.lsub, 1) := by decide +kernel
theorem dX5_alerts_92 : decode cX5_alerts 92 = .ok (.lstore 5, 2) := by decide +kernel
theorem dX5_alerts_94 : decode cX5_alerts 94 = .ok (.lload 5, 2) := by decide +kernel
theorem dX5_alerts_96 : decode cX5_alerts 96 = .ok (.lload 5, 2) := by decide +kernel
theorem dX5_alerts_98 : decode cX5_alerts 98 = .ok (.lmul, 1) := by decide +kernel
theorem dX5_alerts_99 : decode cX5_alerts 99 = .ok (.aload_n 0, 1) := by decide +kernel
theorem dX5_alerts_100 : decode cX5_alerts 100 = .ok (.getfield 7, 3) := by decide +kernel
theorem dX5_alerts_103 : decode cX5_alerts 103 = .ok (.iconst 2, 1) := by decide +kernel
theorem dX5_alerts_104 : decode cX5_alerts 104 = .ok (.iaload, 1) := by decide +kernel
theorem dX5_alerts_105 : decode cX5_alerts 105 = .ok (.i2l, 1) := by decide +kernel
theorem dX5_alerts_106 : decode cX5_alerts 106 = .ok (.aload_n 0, 1) := by decide +kernel
theorem dX5_alerts_107 : decode cX5_alerts 107 = .ok (.getfield 7, 3) := by decide +kernel
theorem dX5_alerts_110 : decode cX5_alerts 110 = .ok (.iconst 2, 1) := by decide +kernel
theorem dX5_alerts_111 : decode cX5_alerts 111 = .ok (.iaload, 1) := by decide +kernel
theorem dX5_alerts_112 : decode cX5_alerts 112 = .ok (.i2l, 1) := by decide +kernel
theorem dX5_alerts_113 : decode cX5_alerts 113 = .ok (.lmul, 1) := by decide +kernel
theorem dX5_alerts_114 : decode cX5_alerts 114 = .ok (.aload_n 0, 1) := by decide +kernel
theorem dX5_alerts_115 : decode cX5_alerts 115 = .ok (.getfield 92, 3) := by decide +kernel
theorem dX5_alerts_118 : decode cX5_alerts 118 = .ok (.aload_n 0, 1) := by decide +kernel
theorem dX5_alerts_119 : decode cX5_alerts 119 = .ok (.getfield 92, 3) := by decide +kernel
theorem dX5_alerts_122 : decode cX5_alerts 122 = .ok (.lmul, 1) := by decide +kernel
theorem dX5_alerts_123 : decode cX5_alerts 123 = .ok (.aload_n 0, 1) := by decide +kernel
theorem dX5_alerts_124 : decode cX5_alerts 124 = .ok (.getfield 95, 3) := by decide +kernel
theorem dX5_alerts_127 : decode cX5_alerts 127 = .ok (.aload_n 0, 1) := by decide +kernel
theorem dX5_alerts_128 : decode cX5_alerts 128 = .ok (.getfield 95, 3) := by decide +kernel
theorem dX5_alerts_131 : decode cX5_alerts 131 = .ok (.lmul, 1) := by decide +kernel
theorem dX5_alerts_132 : decode cX5_alerts 132 = .ok (.ladd, 1) := by decide +kernel
theorem dX5_alerts_133 : decode cX5_alerts 133 = .ok (.lmul, 1) := by decide +kernel
theorem dX5_alerts_134 : decode cX5_alerts 134 = .ok (.lcmp, 1) := by decide +kernel
theorem dX5_alerts_135 : decode cX5_alerts 135 = .ok (.ifCond .le 5, 3) := by decide +kernel
theorem dX5_alerts_138 : decode cX5_alerts 138 = .ok (.iconst 0, 1) := by decide +kernel
theorem dX5_alerts_139 : decode cX5_alerts 139 = .ok (.ireturn, 1) := by decide +kernel
theorem dX5_alerts_140 : decode cX5_alerts 140 = .ok (.aload_n 0, 1) := by decide +kernel
theorem dX5_alerts_141 : decode cX5_alerts 141 = .ok (.getfield 89, 3) := by decide +kernel
theorem dX5_alerts_144 : decode cX5_alerts 144 = .ok (.lconst 0, 1) := by decide +kernel
theorem dX5_alerts_145 : decode cX5_alerts 145 = .ok (.lcmp, 1) := by decide +kernel
theorem dX5_alerts_146 : decode cX5_alerts 146 = .ok (.ifCond .le 12, 3) := by decide +kernel
theorem dX5_alerts_149 : decode cX5_alerts 149 = .ok (.aload_n 0, 1) := by decide +kernel
theorem dX5_alerts_150 : decode cX5_alerts 150 = .ok (.getfield 98, 3) := by decide +kernel
theorem dX5_alerts_153 : decode cX5_alerts 153 = .ok (.lconst 0, 1) := by decide +kernel
theorem dX5_alerts_154 : decode cX5_alerts 154 = .ok (.lcmp, 1) := by decide +kernel
theorem dX5_alerts_155 : decode cX5_alerts 155 = .ok (.ifCond .lt 21, 3) := by decide +kernel
theorem dX5_alerts_158 : decode cX5_alerts 158 = .ok (.aload_n 0, 1) := by decide +kernel
theorem dX5_alerts_159 : decode cX5_alerts 159 = .ok (.getfield 89, 3) := by decide +kernel
theorem dX5_alerts_162 : decode cX5_alerts 162 = .ok (.lconst 0, 1) := by decide +kernel
theorem dX5_alerts_163 : decode cX5_alerts 163 = .ok (.lcmp, 1) := by decide +kernel
theorem dX5_alerts_164 : decode cX5_alerts 164 = .ok (.ifCond .ge 16, 3) := by decide +kernel
theorem dX5_alerts_167 : decode cX5_alerts 167 = .ok (.aload_n 0, 1) := by decide +kernel
theorem dX5_alerts_168 : decode cX5_alerts 168 = .ok (.getfield 98, 3) := by decide +kernel
theorem dX5_alerts_171 : decode cX5_alerts 171 = .ok (.lconst 0, 1) := by decide +kernel
theorem dX5_alerts_172 : decode cX5_alerts 172 = .ok (.lcmp, 1) := by decide +kernel
theorem dX5_alerts_173 : decode cX5_alerts 173 = .ok (.ifCond .le 7, 3) := by decide +kernel
theorem dX5_alerts_176 : decode cX5_alerts 176 = .ok (.iconst 1, 1) := by decide +kernel
theorem dX5_alerts_177 : decode cX5_alerts 177 = .ok (.goto 4, 3) := by decide +kernel
theorem dX5_alerts_180 : decode cX5_alerts 180 = .ok (.iconst 0, 1) := by decide +kernel
theorem dX5_alerts_181 : decode cX5_alerts 181 = .ok (.istore 5, 2) := by decide +kernel
theorem dX5_alerts_183 : decode cX5_alerts 183 = .ok (.aload_n 0, 1) := by decide +kernel
theorem dX5_alerts_184 : decode cX5_alerts 184 = .ok (.getfield 89, 3) := by decide +kernel
theorem dX5_alerts_187 : decode cX5_alerts 187 = .ok (.invokestatic 107, 3) := by decide +kernel
theorem dX5_alerts_190 : decode cX5_alerts 190 = .ok (.aload_n 0, 1) := by decide +kernel
theorem dX5_alerts_191 : decode cX5_alerts 191 = .ok (.getfield 7, 3) := by decide +kernel
theorem dX5_alerts_194 : decode cX5_alerts 194 = .ok (.iconst 3, 1) := by decide +kernel
theorem dX5_alerts_195 : decode cX5_alerts 195 = .ok (.iaload, 1) := by decide +kernel
theorem dX5_alerts_196 : decode cX5_alerts 196 = .ok (.i2l, 1) := by decide +kernel
theorem dX5_alerts_197 : decode cX5_alerts 197 = .ok (.lcmp, 1) := by decide +kernel
theorem dX5_alerts_198 : decode cX5_alerts 198 = .ok (.ifCond .le 34, 3) := by decide +kernel
theorem dX5_alerts_201 : decode cX5_alerts 201 = .ok (.iload 5, 2) := by decide +kernel
theorem dX5_alerts_203 : decode cX5_alerts 203 = .ok (.ifCond .eq 33, 3) := by decide +kernel
theorem dX5_alerts_206 : decode cX5_alerts 206 = .ok (.aload_n 0, 1) := by decide +kernel
theorem dX5_alerts_207 : decode cX5_alerts 207 = .ok (.getfield 89, 3) := by decide +kernel
theorem dX5_alerts_210 : decode cX5_alerts 210 = .ok (.invokestatic 107, 3) := by decide +kernel
theorem dX5_alerts_213 : decode cX5_alerts 213 = .ok (.aload_n 0, 1) := by decide +kernel
theorem dX5_alerts_214 : decode cX5_alerts 214 = .ok (.getfield 7, 3) := by decide +kernel
theorem dX5_alerts_217 : decode cX5_alerts 217 = .ok (.iconst 0, 1) := by decide +kernel
theorem dX5_alerts_218 : decode cX5_alerts 218 = .ok (.iaload, 1) := by decide +kernel
theorem dX5_alerts_219 : decode cX5_alerts 219 = .ok (.i2l, 1) := by decide +kernel
theorem dX5_alerts_220 : decode cX5_alerts 220 = .ok (.aload_n 0, 1) := by decide +kernel
theorem dX5_alerts_221 : decode cX5_alerts 221 = .ok (.getfield 98, 3) := by decide +kernel
theorem dX5_alerts_224 : decode cX5_alerts 224 = .ok (.invokestatic 107, 3) := by decide +kernel
theorem dX5_alerts_227 : decode cX5_alerts 227 = .ok (.lmul, 1) := by decide +kernel
theorem dX5_alerts_228 : decode cX5_alerts 228 = .ok (.lcmp, 1) := by decide +kernel
theorem dX5_alerts_229 : decode cX5_alerts 229 = .ok (.ifCond .gt 7, 3) := by decide +kernel
theorem dX5_alerts_232 : decode cX5_alerts 232 = .ok (.iconst 1, 1) := by decide +kernel
theorem dX5_alerts_233 : decode cX5_alerts 233 = .ok (.goto 4, 3) := by decide +kernel
theorem dX5_alerts_236 : decode cX5_alerts 236 = .ok (.iconst 0, 1) := by decide +kernel
theorem dX5_alerts_237 : decode cX5_alerts 237 = .ok (.ireturn, 1) := by decide +kernel
theorem dX5_height_0 : decode cX5_height 0 = .ok (.aload_n 0, 1) := by decide +kernel
theorem dX5_height_1 : decode cX5_height 1 = .ok (.getfield 104, 3) := by decide +kernel
theorem dX5_height_4 : decode cX5_height 4 = .ok (.aload_n 0, 1) := by decide +kernel
theorem dX5_height_5 : decode cX5_height 5 = .ok (.getfield 7, 3) := by decide +kernel
theorem dX5_height_8 : decode cX5_height 8 = .ok (.iconst 5, 1) := by decide +kernel
theorem dX5_height_9 : decode cX5_height 9 = .ok (.iaload, 1) := by decide +kernel
theorem dX5_height_10 : decode cX5_height 10 = .ok (.i2l, 1) := by decide +kernel
theorem dX5_height_11 : decode cX5_height 11 = .ok (.lcmp, 1) := by decide +kernel
theorem dX5_height_12 : decode cX5_height 12 = .ok (.ifCond .ge 10, 3) := by decide +kernel
theorem dX5_height_15 : decode cX5_height 15 = .ok (.aload_n 0, 1) := by decide +kernel
theorem dX5_height_16 : decode cX5_height 16 = .ok (.getfield 104, 3) := by decide +kernel
theorem dX5_height_19 : decode cX5_height 19 = .ok (.goto 10, 3) := by decide +kernel
theorem dX5_height_22 : decode cX5_height 22 = .ok (.aload_n 0, 1) := by decide +kernel
theorem dX5_height_23 : decode cX5_height 23 = .ok (.getfield 7, 3) := by decide +kernel
theorem dX5_height_26 : decode cX5_height 26 = .ok (.iconst 5, 1) := by decide +kernel
theorem dX5_height_27 : decode cX5_height 27 = .ok (.iaload, 1) := by decide +kernel
theorem dX5_height_28 : decode cX5_height 28 = .ok (.i2l, 1) := by decide +kernel
theorem dX5_height_29 : decode cX5_height 29 = .ok (.iload 4, 2) := by decide +kernel
theorem dX5_height_31 : decode cX5_height 31 = .ok (.i2l, 1) := by decide +kernel
theorem dX5_height_32 : decode cX5_height 32 = .ok (.lsub, 1) := by decide +kernel
theorem dX5_height_33 : decode cX5_height 33 = .ok (.lstore 5, 2) := by decide +kernel
theorem dX5_height_35 : decode cX5_height 35 = .ok (.lload 5, 2) := by decide +kernel
theorem dX5_height_37 : decode cX5_height 37 = .ok (.lconst 0, 1) := by decide +kernel
theorem dX5_height_38 : decode cX5_height 38 = .ok (.lcmp, 1) := by decide +kernel
theorem dX5_height_39 : decode cX5_height 39 = .ok (.ifCond .ge 7, 3) := by decide +kernel
theorem dX5_height_42 : decode cX5_height 42 = .ok (.lconst 0, 1) := by decide +kernel
theorem dX5_height_43 : decode cX5_height 43 = .ok (.goto 5, 3) := by decide +kernel
theorem dX5_height_46 : decode cX5_height 46 = .ok (.lload 5, 2) := by decide +kernel
theorem dX5_height_48 : decode cX5_height 48 = .ok (.lstore 5, 2) := by decide +kernel
theorem dX5_height_50 : decode cX5_height 50 = .ok (.aload_n 0, 1) := by decide +kernel
theorem dX5_height_51 : decode cX5_height 51 = .ok (.getfield 20, 3) := by decide +kernel
theorem dX5_height_54 : decode cX5_height 54 = .ok (.bipush 6, 2) := by decide +kernel
theorem dX5_height_56 : decode cX5_height 56 = .ok (.iload_n 1, 1) := by decide +kernel
theorem dX5_height_57 : decode cX5_height 57 = .ok (.imul, 1) := by decide +kernel
theorem dX5_height_58 : decode cX5_height 58 = .ok (.iconst 5, 1) := by decide +kernel
theorem dX5_height_59 : decode cX5_height 59 = .ok (.iadd, 1) := by decide +kernel
theorem dX5_height_60 : decode cX5_height 60 = .ok (.iaload, 1) := by decide +kernel
theorem dX5_height_61 : decode cX5_height 61 = .ok (.i2l, 1) := by decide +kernel
theorem dX5_height_62 : decode cX5_height 62 = .ok (.lstore 7, 2) := by decide +kernel
theorem dX5_height_64 : decode cX5_height 64 = .ok (.iload_n 2, 1) := by decide +kernel
theorem dX5_height_65 : decode cX5_height 65 = .ok (.ifCond .eq 12, 3) := by decide +kernel
theorem dX5_height_68 : decode cX5_height 68 = .ok (.ldc2_w 111, 3) := by decide +kernel
theorem dX5_height_71 : decode cX5_height 71 = .ok (.iload_n 3, 1) := by decide +kernel
theorem dX5_height_72 : decode cX5_height 72 = .ok (.i2l, 1) := by decide +kernel
theorem dX5_height_73 : decode cX5_height 73 = .ok (.lmul, 1) := by decide +kernel
theorem dX5_height_74 : decode cX5_height 74 = .ok (.goto 9, 3) := by decide +kernel
theorem dX5_height_77 : decode cX5_height 77 = .ok (.ldc2_w 113, 3) := by decide +kernel
theorem dX5_height_80 : decode cX5_height 80 = .ok (.iload_n 3, 1) := by decide +kernel
theorem dX5_height_81 : decode cX5_height 81 = .ok (.i2l, 1) := by decide +kernel
theorem dX5_height_82 : decode cX5_height 82 = .ok (.lmul, 1) := by decide +kernel
theorem dX5_height_83 : decode cX5_height 83 = .ok (.lstore 9, 2) := by decide +kernel
theorem dX5_height_85 : decode cX5_height 85 = .ok (.iload_n 2, 1) := by decide +kernel
theorem dX5_height_86 : decode cX5_height 86 = .ok (.ifCond .eq 21, 3) := by decide +kernel
theorem dX5_height_89 : decode cX5_height 89 = .ok (.lload 7, 2) := by decide +kernel
theorem dX5_height_91 : decode cX5_height 91 = .ok (.lload 9, 2) := by decide +kernel
theorem dX5_height_93 : decode cX5_height 93 = .ok (.lcmp, 1) := by decide +kernel
theorem dX5_height_94 : decode cX5_height 94 = .ok (.ifCond .le 8, 3) := by decide +kernel
theorem dX5_height_97 : decode cX5_height 97 = .ok (.lload 7, 2) := by decide +kernel
theorem dX5_height_99 : decode cX5_height 99 = .ok (.goto 23, 3) := by decide +kernel
theorem dX5_height_102 : decode cX5_height 102 = .ok (.lload 9, 2) := by decide +kernel
theorem dX5_height_104 : decode cX5_height 104 = .ok (.goto 18, 3) := by decide +kernel
theorem dX5_height_107 : decode cX5_height 107 = .ok (.lload 7, 2) := by decide +kernel
theorem dX5_height_109 : decode cX5_height 109 = .ok (.lload 9, 2) := by decide +kernel
theorem dX5_height_111 : decode cX5_height 111 = .ok (.lcmp, 1) := by decide +kernel
theorem dX5_height_112 : decode cX5_height 112 = .ok (.ifCond .ge 8, 3) := by decide +kernel
theorem dX5_height_115 : decode cX5_height 115 = .ok (.lload 7, 2) := by decide +kernel
theorem dX5_height_117 : decode cX5_height 117 = .ok (.goto 5, 3) := by decide +kernel
theorem dX5_height_120 : decode cX5_height 120 = .ok (.lload 9, 2) := by decide +kernel
theorem dX5_height_122 : decode cX5_height 122 = .ok (.lstore 11, 2) := by decide +kernel
theorem dX5_height_124 : decode cX5_height 124 = .ok (.aload_n 0, 1) := by decide +kernel
theorem dX5_height_125 : decode cX5_height 125 = .ok (.getfield 20, 3) := by decide +kernel
theorem dX5_height_128 : decode cX5_height 128 = .ok (.bipush 6, 2) := by decide +kernel
theorem dX5_height_130 : decode cX5_height 130 = .ok (.iload_n 1, 1) := by decide +kernel
theorem dX5_height_131 : decode cX5_height 131 = .ok (.imul, 1) := by decide +kernel
theorem dX5_height_132 : decode cX5_height 132 = .ok (.iconst 2, 1) := by decide +kernel
theorem dX5_height_133 : decode cX5_height 133 = .ok (.iadd, 1) := by decide +kernel
theorem dX5_height_134 : decode cX5_height 134 = .ok (.iaload, 1) := by decide +kernel
theorem dX5_height_135 : decode cX5_height 135 = .ok (.i2l, 1) := by decide +kernel
theorem dX5_height_136 : decode cX5_height 136 = .ok (.lload 7, 2) := by decide +kernel
theorem dX5_height_138 : decode cX5_height 138 = .ok (.lload 5, 2) := by decide +kernel
theorem dX5_height_140 : decode cX5_height 140 = .ok (.lmul, 1) := by decide +kernel
theorem dX5_height_141 : decode cX5_height 141 = .ok (.ladd, 1) := by decide +kernel
theorem dX5_height_142 : decode cX5_height 142 = .ok (.lload 11, 2) := by decide +kernel
theorem dX5_height_144 : decode cX5_height 144 = .ok (.aload_n 0, 1) := by decide +kernel
theorem dX5_height_145 : decode cX5_height 145 = .ok (.getfield 104, 3) := by decide +kernel
theorem dX5_height_148 : decode cX5_height 148 = .ok (.lload 5, 2) := by decide +kernel
theorem dX5_height_150 : decode cX5_height 150 = .ok (.lsub, 1) := by decide +kernel
theorem dX5_height_151 : decode cX5_height 151 = .ok (.lmul, 1) := by decide +kernel
theorem dX5_height_152 : decode cX5_height 152 = .ok (.ladd, 1) := by decide +kernel
theorem dX5_height_153 : decode cX5_height 153 = .ok (.lreturn, 1) := by decide +kernel
theorem dX5_part_0 : decode cX5_part 0 = .ok (.aload_n 0, 1) := by decide +kernel
theorem dX5_part_1 : decode cX5_part 1 = .ok (.aload_n 0, 1) := by decide +kernel
theorem dX5_part_2 : decode cX5_part 2 = .ok (.getfield 76, 3) := by decide +kernel
theorem dX5_part_5 : decode cX5_part 5 = .ok (.iload_n 1, 1) := by decide +kernel
theorem dX5_part_6 : decode cX5_part 6 = .ok (.iconst 1, 1) := by decide +kernel
theorem dX5_part_7 : decode cX5_part 7 = .ok (.if_icmp .ne 7, 3) := by decide +kernel
theorem dX5_part_10 : decode cX5_part 10 = .ok (.iconst 1, 1) := by decide +kernel
theorem dX5_part_11 : decode cX5_part 11 = .ok (.goto 4, 3) := by decide +kernel
theorem dX5_part_14 : decode cX5_part 14 = .ok (.iconst 0, 1) := by decide +kernel
theorem dX5_part_15 : decode cX5_part 15 = .ok (.iload_n 2, 1) := by decide +kernel
theorem dX5_part_16 : decode cX5_part 16 = .ok (.iload_n 3, 1) := by decide +kernel
theorem dX5_part_17 : decode cX5_part 17 = .ok (.invokevirtual 115, 3) := by decide +kernel
theorem dX5_part_20 : decode cX5_part 20 = .ok (.lstore 4, 2) := by decide +kernel
theorem dX5_part_22 : decode cX5_part 22 = .ok (.aload_n 0, 1) := by decide +kernel
theorem dX5_part_23 : decode cX5_part 23 = .ok (.aload_n 0, 1) := by decide +kernel
theorem dX5_part_24 : decode cX5_part 24 = .ok (.getfield 79, 3) := by decide +kernel
theorem dX5_part_27 : decode cX5_part 27 = .ok (.iload_n 1, 1) := by decide +kernel
theorem dX5_part_28 : decode cX5_part 28 = .ok (.iconst 2, 1) := by decide +kernel
theorem dX5_part_29 : decode cX5_part 29 = .ok (.if_icmp .ne 7, 3) := by decide +kernel
theorem dX5_part_32 : decode cX5_part 32 = .ok (.iconst 1, 1) := by decide +kernel
theorem dX5_part_33 : decode cX5_part 33 = .ok (.goto 4, 3) := by decide +kernel
theorem dX5_part_36 : decode cX5_part 36 = .ok (.iconst 0, 1) := by decide +kernel
theorem dX5_part_37 : decode cX5_part 37 = .ok (.iload_n 2, 1) := by decide +kernel
theorem dX5_part_38 : decode cX5_part 38 = .ok (.iload_n 3, 1) := by decide +kernel
theorem dX5_part_39 : decode cX5_part 39 = .ok (.invokevirtual 115, 3) := by decide +kernel
theorem dX5_part_42 : decode cX5_part 42 = .ok (.lstore 6, 2) := by decide +kernel
theorem dX5_part_44 : decode cX5_part 44 = .ok (.iload_n 1, 1) := by decide +kernel
theorem dX5_part_45 : decode cX5_part 45 = .ok (.iconst 1, 1) := by decide +kernel
theorem dX5_part_46 : decode cX5_part 46 = .ok (.if_icmp .ne 11, 3) := by decide +kernel
theorem dX5_part_49 : decode cX5_part 49 = .ok (.lload 4, 2) := by decide +kernel
theorem dX5_part_51 : decode cX5_part 51 = .ok (.lload 6, 2) := by decide +kernel
theorem dX5_part_53 : decode cX5_part 53 = .ok (.lsub, 1) := by decide +kernel
theorem dX5_part_54 : decode cX5_part 54 = .ok (.goto 8, 3) := by decide +kernel
theorem dX5_part_57 : decode cX5_part 57 = .ok (.lload 6, 2) := by decide +kernel
theorem dX5_part_59 : decode cX5_part 59 = .ok (.lload 4, 2) := by decide +kernel
theorem dX5_part_61 : decode cX5_part 61 = .ok (.lsub, 1) := by decide +kernel
theorem dX5_part_62 : decode cX5_part 62 = .ok (.lreturn, 1) := by decide +kernel
theorem dX5_enough_0 : decode cX5_enough 0 = .ok (.iload_n 2, 1) := by decide +kernel
theorem dX5_enough_1 : decode cX5_enough 1 = .ok (.istore 4, 2) := by decide +kernel
theorem dX5_enough_3 : decode cX5_enough 3 = .ok (.iload 4, 2) := by decide +kernel
theorem dX5_enough_5 : decode cX5_enough 5 = .ok (.iconst 4, 1) := by decide +kernel
theorem dX5_enough_6 : decode cX5_enough 6 = .ok (.if_icmp .ge 28, 3) := by decide +kernel
theorem dX5_enough_9 : decode cX5_enough 9 = .ok (.aload_n 0, 1) := by decide +kernel
theorem dX5_enough_10 : decode cX5_enough 10 = .ok (.iload_n 1, 1) := by decide +kernel
theorem dX5_enough_11 : decode cX5_enough 11 = .ok (.iload 4, 2) := by decide +kernel
theorem dX5_enough_13 : decode cX5_enough 13 = .ok (.iload_n 3, 1) := by decide +kernel
theorem dX5_enough_14 : decode cX5_enough 14 = .ok (.invokevirtual 119, 3) := by decide +kernel
theorem dX5_enough_17 : decode cX5_enough 17 = .ok (.aload_n 0, 1) := by decide +kernel
theorem dX5_enough_18 : decode cX5_enough 18 = .ok (.getfield 7, 3) := by decide +kernel
theorem dX5_enough_21 : decode cX5_enough 21 = .ok (.iconst 4, 1) := by decide +kernel
theorem dX5_enough_22 : decode cX5_enough 22 = .ok (.iaload, 1) := by decide +kernel
theorem dX5_enough_23 : decode cX5_enough 23 = .ok (.i2l, 1) := by decide +kernel
theorem dX5_enough_24 : decode cX5_enough 24 = .ok (.lcmp, 1) := by decide +kernel
theorem dX5_enough_25 : decode cX5_enough 25 = .ok (.ifCond .ge 9, 3) := by decide +kernel
theorem dX5_enough_28 : decode cX5_enough 28 = .ok (.iinc 4 1, 3) := by decide +kernel
theorem dX5_enough_31 : decode cX5_enough 31 = .ok (.goto (-28), 3) := by decide +kernel
theorem dX5_enough_34 : decode cX5_enough 34 = .ok (.iload 4, 2) := by decide +kernel
theorem dX5_enough_36 : decode cX5_enough 36 = .ok (.ireturn, 1) := by decide +kernel
theorem dX5_chosen_0 : decode cX5_chosen 0 = .ok (.aload_n 0, 1) := by decide +kernel
theorem dX5_chosen_1 : decode cX5_chosen 1 = .ok (.iconst 1, 1) := by decide +kernel
theorem dX5_chosen_2 : decode cX5_chosen 2 = .ok (.iconst 1, 1) := by decide +kernel
theorem dX5_chosen_3 : decode cX5_chosen 3 = .ok (.iconst 0, 1) := by decide +kernel
theorem dX5_chosen_4 : decode cX5_chosen 4 = .ok (.invokevirtual 123, 3) := by decide +kernel
theorem dX5_chosen_7 : decode cX5_chosen 7 = .ok (.istore_n 1, 1) := by decide +kernel
theorem dX5_chosen_8 : decode cX5_chosen 8 = .ok (.aload_n 0, 1) := by decide +kernel
theorem dX5_chosen_9 : decode cX5_chosen 9 = .ok (.iconst 2, 1) := by decide +kernel
theorem dX5_chosen_10 : decode cX5_chosen 10 = .ok (.iconst 1, 1) := by decide +kernel
theorem dX5_chosen_11 : decode cX5_chosen 11 = .ok (.iconst 0, 1) := by decide +kernel
theorem dX5_chosen_12 : decode cX5_chosen 12 = .ok (.invokevirtual 123, 3) := by decide +kernel
theorem dX5_chosen_15 : decode cX5_chosen 15 = .ok (.istore_n 2, 1) := by decide +kernel
theorem dX5_chosen_16 : decode cX5_chosen 16 = .ok (.iload_n 1, 1) := by decide +kernel
theorem dX5_chosen_17 : decode cX5_chosen 17 = .ok (.iload_n 2, 1) := by decide +kernel
theorem dX5_chosen_18 : decode cX5_chosen 18 = .ok (.if_icmp .eq 14, 3) := by decide +kernel
theorem dX5_chosen_21 : decode cX5_chosen 21 = .ok (.iload_n 1, 1) := by decide +kernel
theorem dX5_chosen_22 : decode cX5_chosen 22 = .ok (.iload_n 2, 1) := by decide +kernel
theorem dX5_chosen_23 : decode cX5_chosen 23 = .ok (.if_icmp .ge 7, 3) := by decide +kernel
theorem dX5_chosen_26 : decode cX5_chosen 26 = .ok (.iconst 1, 1) := by decide +kernel
theorem dX5_chosen_27 : decode cX5_chosen 27 = .ok (.goto 4, 3) := by decide +kernel
theorem dX5_chosen_30 : decode cX5_chosen 30 = .ok (.iconst 2, 1) := by decide +kernel
theorem dX5_chosen_31 : decode cX5_chosen 31 = .ok (.ireturn, 1) := by decide +kernel
theorem dX5_chosen_32 : decode cX5_chosen 32 = .ok (.aload_n 0, 1) := by decide +kernel
theorem dX5_chosen_33 : decode cX5_chosen 33 = .ok (.iconst 1, 1) := by decide +kernel
theorem dX5_chosen_34 : decode cX5_chosen 34 = .ok (.iload_n 1, 1) := by decide +kernel
theorem dX5_chosen_35 : decode cX5_chosen 35 = .ok (.iconst 0, 1) := by decide +kernel
theorem dX5_chosen_36 : decode cX5_chosen 36 = .ok (.invokevirtual 119, 3) := by decide +kernel
theorem dX5_chosen_39 : decode cX5_chosen 39 = .ok (.lstore_n 3, 1) := by decide +kernel
theorem dX5_chosen_40 : decode cX5_chosen 40 = .ok (.aload_n 0, 1) := by decide +kernel
theorem dX5_chosen_41 : decode cX5_chosen 41 = .ok (.iconst 2, 1) := by decide +kernel
theorem dX5_chosen_42 : decode cX5_chosen 42 = .ok (.iload_n 2, 1) := by decide +kernel
theorem dX5_chosen_43 : decode cX5_chosen 43 = .ok (.iconst 0, 1) := by decide +kernel
theorem dX5_chosen_44 : decode cX5_chosen 44 = .ok (.invokevirtual 119, 3) := by decide +kernel
theorem dX5_chosen_47 : decode cX5_chosen 47 = .ok (.lstore 5, 2) := by decide +kernel
theorem dX5_chosen_49 : decode cX5_chosen 49 = .ok (.lload_n 3, 1) := by decide +kernel
theorem dX5_chosen_50 : decode cX5_chosen 50 = .ok (.lload 5, 2) := by decide +kernel
theorem dX5_chosen_52 : decode cX5_chosen 52 = .ok (.lcmp, 1) := by decide +kernel
theorem dX5_chosen_53 : decode cX5_chosen 53 = .ok (.ifCond .eq 16, 3) := by decide +kernel
theorem dX5_chosen_56 : decode cX5_chosen 56 = .ok (.lload_n 3, 1) := by decide +kernel
theorem dX5_chosen_57 : decode cX5_chosen 57 = .ok (.lload 5, 2) := by decide +kernel
theorem dX5_chosen_59 : decode cX5_chosen 59 = .ok (.lcmp, 1) := by decide +kernel
theorem dX5_chosen_60 : decode cX5_chosen 60 = .ok (.ifCond .le 7, 3) := by decide +kernel
theorem dX5_chosen_63 : decode cX5_chosen 63 = .ok (.iconst 1, 1) := by decide +kernel
theorem dX5_chosen_64 : decode cX5_chosen 64 = .ok (.goto 4, 3) := by decide +kernel
theorem dX5_chosen_67 : decode cX5_chosen 67 = .ok (.iconst 2, 1) := by decide +kernel
theorem dX5_chosen_68 : decode cX5_chosen 68 = .ok (.ireturn, 1) := by decide +kernel
theorem dX5_chosen_69 : decode cX5_chosen 69 = .ok (.aload_n 0, 1) := by decide +kernel
theorem dX5_chosen_70 : decode cX5_chosen 70 = .ok (.getfield 89, 3) := by decide +kernel
theorem dX5_chosen_73 : decode cX5_chosen 73 = .ok (.lconst 0, 1) := by decide +kernel
theorem dX5_chosen_74 : decode cX5_chosen 74 = .ok (.lcmp, 1) := by decide +kernel
theorem dX5_chosen_75 : decode cX5_chosen 75 = .ok (.ifCond .gt 7, 3) := by decide +kernel
theorem dX5_chosen_78 : decode cX5_chosen 78 = .ok (.iconst 1, 1) := by decide +kernel
theorem dX5_chosen_79 : decode cX5_chosen 79 = .ok (.goto 4, 3) := by decide +kernel
theorem dX5_chosen_82 : decode cX5_chosen 82 = .ok (.iconst 2, 1) := by decide +kernel
theorem dX5_chosen_83 : decode cX5_chosen 83 = .ok (.ireturn, 1) := by decide +kernel
theorem dX5_bounded_0 : decode cX5_bounded 0 = .ok (.iload_n 0, 1) := by decide +kernel
theorem dX5_bounded_1 : decode cX5_bounded 1 = .ok (.iload_n 1, 1) := by decide +kernel
theorem dX5_bounded_2 : decode cX5_bounded 2 = .ok (.ineg, 1) := by decide +kernel
theorem dX5_bounded_3 : decode cX5_bounded 3 = .ok (.if_icmp .ge 8, 3) := by decide +kernel
theorem dX5_bounded_6 : decode cX5_bounded 6 = .ok (.iload_n 1, 1) := by decide +kernel
theorem dX5_bounded_7 : decode cX5_bounded 7 = .ok (.ineg, 1) := by decide +kernel
theorem dX5_bounded_8 : decode cX5_bounded 8 = .ok (.goto 13, 3) := by decide +kernel
theorem dX5_bounded_11 : decode cX5_bounded 11 = .ok (.iload_n 0, 1) := by decide +kernel
theorem dX5_bounded_12 : decode cX5_bounded 12 = .ok (.iload_n 1, 1) := by decide +kernel
theorem dX5_bounded_13 : decode cX5_bounded 13 = .ok (.if_icmp .le 7, 3) := by decide +kernel
theorem dX5_bounded_16 : decode cX5_bounded 16 = .ok (.iload_n 1, 1) := by decide +kernel
theorem dX5_bounded_17 : decode cX5_bounded 17 = .ok (.goto 4, 3) := by decide +kernel
theorem dX5_bounded_20 : decode cX5_bounded 20 = .ok (.iload_n 0, 1) := by decide +kernel
theorem dX5_bounded_21 : decode cX5_bounded 21 = .ok (.ireturn, 1) := by decide +kernel
theorem dX5_move_0 : decode cX5_move 0 = .ok (.iconst 0, 1) := by decide +kernel
theorem dX5_move_1 : decode cX5_move 1 = .ok (.istore_n 1, 1) := by decide +kernel
theorem dX5_move_2 : decode cX5_move 2 = .ok (.iload_n 1, 1) := by decide +kernel
theorem dX5_move_3 : decode cX5_move 3 = .ok (.bipush 6, 2) := by decide +kernel
theorem dX5_move_5 : decode cX5_move 5 = .ok (.if_icmp .ge 132, 3) := by decide +kernel
theorem dX5_move_8 : decode cX5_move 8 = .ok (.aload_n 0, 1) := by decide +kernel
theorem dX5_move_9 : decode cX5_move 9 = .ok (.getfield 13, 3) := by decide +kernel
theorem dX5_move_12 : decode cX5_move 12 = .ok (.iload_n 1, 1) := by decide +kernel
theorem dX5_move_13 : decode cX5_move 13 = .ok (.baload, 1) := by decide +kernel
theorem dX5_move_14 : decode cX5_move 14 = .ok (.ifCond .eq 117, 3) := by decide +kernel
theorem dX5_move_17 : decode cX5_move 17 = .ok (.aload_n 0, 1) := by decide +kernel
theorem dX5_move_18 : decode cX5_move 18 = .ok (.getfield 20, 3) := by decide +kernel
theorem dX5_move_21 : decode cX5_move 21 = .ok (.bipush 6, 2) := by decide +kernel
theorem dX5_move_23 : decode cX5_move 23 = .ok (.iload_n 1, 1) := by decide +kernel
theorem dX5_move_24 : decode cX5_move 24 = .ok (.imul, 1) := by decide +kernel
theorem dX5_move_25 : decode cX5_move 25 = .ok (.aload_n 0, 1) := by decide +kernel
theorem dX5_move_26 : decode cX5_move 26 = .ok (.getfield 20, 3) := by decide +kernel
theorem dX5_move_29 : decode cX5_move 29 = .ok (.bipush 6, 2) := by decide +kernel
theorem dX5_move_31 : decode cX5_move 31 = .ok (.iload_n 1, 1) := by decide +kernel
theorem dX5_move_32 : decode cX5_move 32 = .ok (.imul, 1) := by decide +kernel
theorem dX5_move_33 : decode cX5_move 33 = .ok (.iaload, 1) := by decide +kernel
theorem dX5_move_34 : decode cX5_move 34 = .ok (.aload_n 0, 1) := by decide +kernel
theorem dX5_move_35 : decode cX5_move 35 = .ok (.getfield 20, 3) := by decide +kernel
theorem dX5_move_38 : decode cX5_move 38 = .ok (.bipush 6, 2) := by decide +kernel
theorem dX5_move_40 : decode cX5_move 40 = .ok (.iload_n 1, 1) := by decide +kernel
theorem dX5_move_41 : decode cX5_move 41 = .ok (.imul, 1) := by decide +kernel
theorem dX5_move_42 : decode cX5_move 42 = .ok (.iconst 3, 1) := by decide +kernel
theorem dX5_move_43 : decode cX5_move 43 = .ok (.iadd, 1) := by decide +kernel
theorem dX5_move_44 : decode cX5_move 44 = .ok (.iaload, 1) := by decide +kernel
theorem dX5_move_45 : decode cX5_move 45 = .ok (.iadd, 1) := by decide +kernel
theorem dX5_move_46 : decode cX5_move 46 = .ok (.ldc 57, 2) := by decide +kernel
theorem dX5_move_48 : decode cX5_move 48 = .ok (.invokestatic 127, 3) := by decide +kernel
theorem dX5_move_51 : decode cX5_move 51 = .ok (.iastore, 1) := by decide +kernel
theorem dX5_move_52 : decode cX5_move 52 = .ok (.aload_n 0, 1) := by decide +kernel
theorem dX5_move_53 : decode cX5_move 53 = .ok (.getfield 20, 3) := by decide +kernel
theorem dX5_move_56 : decode cX5_move 56 = .ok (.bipush 6, 2) := by decide +kernel
theorem dX5_move_58 : decode cX5_move 58 = .ok (.iload_n 1, 1) := by decide +kernel
theorem dX5_move_59 : decode cX5_move 59 = .ok (.imul, 1) := by decide +kernel
theorem dX5_move_60 : decode cX5_move 60 = .ok (.iconst 1, 1) := by decide +kernel
theorem dX5_move_61 : decode cX5_move 61 = .ok (.iadd, 1) := by decide +kernel
theorem dX5_move_62 : decode cX5_move 62 = .ok (.aload_n 0, 1) := by decide +kernel
theorem dX5_move_63 : decode cX5_move 63 = .ok (.getfield 20, 3) := by decide +kernel
theorem dX5_move_66 : decode cX5_move 66 = .ok (.bipush 6, 2) := by decide +kernel
theorem dX5_move_68 : decode cX5_move 68 = .ok (.iload_n 1, 1) := by decide +kernel
theorem dX5_move_69 : decode cX5_move 69 = .ok (.imul, 1) := by decide +kernel
theorem dX5_move_70 : decode cX5_move 70 = .ok (.iconst 1, 1) := by decide +kernel
theorem dX5_move_71 : decode cX5_move 71 = .ok (.iadd, 1) := by decide +kernel
theorem dX5_move_72 : decode cX5_move 72 = .ok (.iaload, 1) := by decide +kernel
theorem dX5_move_73 : decode cX5_move 73 = .ok (.aload_n 0, 1) := by decide +kernel
theorem dX5_move_74 : decode cX5_move 74 = .ok (.getfield 20, 3) := by decide +kernel
theorem dX5_move_77 : decode cX5_move 77 = .ok (.bipush 6, 2) := by decide +kernel
theorem dX5_move_79 : decode cX5_move 79 = .ok (.iload_n 1, 1) := by decide +kernel
theorem dX5_move_80 : decode cX5_move 80 = .ok (.imul, 1) := by decide +kernel
theorem dX5_move_81 : decode cX5_move 81 = .ok (.iconst 4, 1) := by decide +kernel
theorem dX5_move_82 : decode cX5_move 82 = .ok (.iadd, 1) := by decide +kernel
theorem dX5_move_83 : decode cX5_move 83 = .ok (.iaload, 1) := by decide +kernel
theorem dX5_move_84 : decode cX5_move 84 = .ok (.iadd, 1) := by decide +kernel
theorem dX5_move_85 : decode cX5_move 85 = .ok (.ldc 57, 2) := by decide +kernel
theorem dX5_move_87 : decode cX5_move 87 = .ok (.invokestatic 127, 3) := by decide +kernel
theorem dX5_move_90 : decode cX5_move 90 = .ok (.iastore, 1) := by decide +kernel
theorem dX5_move_91 : decode cX5_move 91 = .ok (.aload_n 0, 1) := by decide +kernel
theorem dX5_move_92 : decode cX5_move 92 = .ok (.getfield 20, 3) := by decide +kernel
theorem dX5_move_95 : decode cX5_move 95 = .ok (.bipush 6, 2) := by decide +kernel
theorem dX5_move_97 : decode cX5_move 97 = .ok (.iload_n 1, 1) := by decide +kernel
theorem dX5_move_98 : decode cX5_move 98 = .ok (.imul, 1) := by decide +kernel
theorem dX5_move_99 : decode cX5_move 99 = .ok (.iconst 2, 1) := by decide +kernel
theorem dX5_move_100 : decode cX5_move 100 = .ok (.iadd, 1) := by decide +kernel
theorem dX5_move_101 : decode cX5_move 101 = .ok (.aload_n 0, 1) := by decide +kernel
theorem dX5_move_102 : decode cX5_move 102 = .ok (.getfield 20, 3) := by decide +kernel
theorem dX5_move_105 : decode cX5_move 105 = .ok (.bipush 6, 2) := by decide +kernel
theorem dX5_move_107 : decode cX5_move 107 = .ok (.iload_n 1, 1) := by decide +kernel
theorem dX5_move_108 : decode cX5_move 108 = .ok (.imul, 1) := by decide +kernel
theorem dX5_move_109 : decode cX5_move 109 = .ok (.iconst 2, 1) := by decide +kernel
theorem dX5_move_110 : decode cX5_move 110 = .ok (.iadd, 1) := by decide +kernel
theorem dX5_move_111 : decode cX5_move 111 = .ok (.iaload, 1) := by decide +kernel
theorem dX5_move_112 : decode cX5_move 112 = .ok (.aload_n 0, 1) := by decide +kernel
theorem dX5_move_113 : decode cX5_move 113 = .ok (.getfield 20, 3) := by decide +kernel
theorem dX5_move_116 : decode cX5_move 116 = .ok (.bipush 6, 2) := by decide +kernel
theorem dX5_move_118 : decode cX5_move 118 = .ok (.iload_n 1, 1) := by decide +kernel
theorem dX5_move_119 : decode cX5_move 119 = .ok (.imul, 1) := by decide +kernel
theorem dX5_move_120 : decode cX5_move 120 = .ok (.iconst 5, 1) := by decide +kernel
theorem dX5_move_121 : decode cX5_move 121 = .ok (.iadd, 1) := by decide +kernel
theorem dX5_move_122 : decode cX5_move 122 = .ok (.iaload, 1) := by decide +kernel
theorem dX5_move_123 : decode cX5_move 123 = .ok (.iadd, 1) := by decide +kernel
theorem dX5_move_124 : decode cX5_move 124 = .ok (.sipush 20000, 3) := by decide +kernel
theorem dX5_move_127 : decode cX5_move 127 = .ok (.invokestatic 127, 3) := by decide +kernel
theorem dX5_move_130 : decode cX5_move 130 = .ok (.iastore, 1) := by decide +kernel
theorem dX5_move_131 : decode cX5_move 131 = .ok (.iinc 1 1, 3) := by decide +kernel
theorem dX5_move_134 : decode cX5_move 134 = .ok (.goto (-132), 3) := by decide +kernel
theorem dX5_move_137 : decode cX5_move 137 = .ok (.iconst 0, 1) := by decide +kernel
theorem dX5_move_138 : decode cX5_move 138 = .ok (.istore_n 1, 1) := by decide +kernel
theorem dX5_move_139 : decode cX5_move 139 = .ok (.iload_n 1, 1) := by decide +kernel
theorem dX5_move_140 : decode cX5_move 140 = .ok (.bipush 6, 2) := by decide +kernel
theorem dX5_move_142 : decode cX5_move 142 = .ok (.if_icmp .ge 49, 3) := by decide +kernel
theorem dX5_move_145 : decode cX5_move 145 = .ok (.iload_n 1, 1) := by decide +kernel
theorem dX5_move_146 : decode cX5_move 146 = .ok (.iconst 1, 1) := by decide +kernel
theorem dX5_move_147 : decode cX5_move 147 = .ok (.iadd, 1) := by decide +kernel
theorem dX5_move_148 : decode cX5_move 148 = .ok (.istore_n 2, 1) := by decide +kernel
theorem dX5_move_149 : decode cX5_move 149 = .ok (.iload_n 2, 1) := by decide +kernel
theorem dX5_move_150 : decode cX5_move 150 = .ok (.bipush 6, 2) := by decide +kernel
theorem dX5_move_152 : decode cX5_move 152 = .ok (.if_icmp .ge 33, 3) := by decide +kernel
theorem dX5_move_155 : decode cX5_move 155 = .ok (.aload_n 0, 1) := by decide +kernel
theorem dX5_move_156 : decode cX5_move 156 = .ok (.getfield 13, 3) := by decide +kernel
theorem dX5_move_159 : decode cX5_move 159 = .ok (.iload_n 1, 1) := by decide +kernel
theorem dX5_move_160 : decode cX5_move 160 = .ok (.baload, 1) := by decide +kernel
theorem dX5_move_161 : decode cX5_move 161 = .ok (.ifCond .eq 18, 3) := by decide +kernel
theorem dX5_move_164 : decode cX5_move 164 = .ok (.aload_n 0, 1) := by decide +kernel
theorem dX5_move_165 : decode cX5_move 165 = .ok (.getfield 13, 3) := by decide +kernel
theorem dX5_move_168 : decode cX5_move 168 = .ok (.iload_n 2, 1) := by decide +kernel
theorem dX5_move_169 : decode cX5_move 169 = .ok (.baload, 1) := by decide +kernel
theorem dX5_move_170 : decode cX5_move 170 = .ok (.ifCond .eq 9, 3) := by decide +kernel
theorem dX5_move_173 : decode cX5_move 173 = .ok (.aload_n 0, 1) := by decide +kernel
theorem dX5_move_174 : decode cX5_move 174 = .ok (.iload_n 1, 1) := by decide +kernel
theorem dX5_move_175 : decode cX5_move 175 = .ok (.iload_n 2, 1) := by decide +kernel
theorem dX5_move_176 : decode cX5_move 176 = .ok (.invokevirtual 69, 3) := by decide +kernel
theorem dX5_move_179 : decode cX5_move 179 = .ok (.iinc 2 1, 3) := by decide +kernel
theorem dX5_move_182 : decode cX5_move 182 = .ok (.goto (-33), 3) := by decide +kernel
theorem dX5_move_185 : decode cX5_move 185 = .ok (.iinc 1 1, 3) := by decide +kernel
theorem dX5_move_188 : decode cX5_move 188 = .ok (.goto (-49), 3) := by decide +kernel
theorem dX5_move_191 : decode cX5_move 191 = .ok (.return_, 1) := by decide +kernel
theorem dX5_obey_0 : decode cX5_obey 0 = .ok (.iconst 0, 1) := by decide +kernel
theorem dX5_obey_1 : decode cX5_obey 1 = .ok (.istore_n 2, 1) := by decide +kernel
theorem dX5_obey_2 : decode cX5_obey 2 = .ok (.iconst 0, 1) := by decide +kernel
theorem dX5_obey_3 : decode cX5_obey 3 = .ok (.istore_n 3, 1) := by decide +kernel
theorem dX5_obey_4 : decode cX5_obey 4 = .ok (.iconst 0, 1) := by decide +kernel
theorem dX5_obey_5 : decode cX5_obey 5 = .ok (.istore 4, 2) := by decide +kernel
theorem dX5_obey_7 : decode cX5_obey 7 = .ok (.iload 4, 2) := by decide +kernel
theorem dX5_obey_9 : decode cX5_obey 9 = .ok (.bipush 6, 2) := by decide +kernel
theorem dX5_obey_11 : decode cX5_obey 11 = .ok (.if_icmp .ge 152, 3) := by decide +kernel
theorem dX5_obey_14 : decode cX5_obey 14 = .ok (.iload 4, 2) := by decide +kernel
theorem dX5_obey_16 : decode cX5_obey 16 = .ok (.iload_n 1, 1) := by decide +kernel
theorem dX5_obey_17 : decode cX5_obey 17 = .ok (.if_icmp .ne 7, 3) := by decide +kernel
theorem dX5_obey_20 : decode cX5_obey 20 = .ok (.iconst 0, 1) := by decide +kernel
theorem dX5_obey_21 : decode cX5_obey 21 = .ok (.goto 9, 3) := by decide +kernel
theorem dX5_obey_24 : decode cX5_obey 24 = .ok (.iload_n 1, 1) := by decide +kernel
theorem dX5_obey_25 : decode cX5_obey 25 = .ok (.iload 4, 2) := by decide +kernel
theorem dX5_obey_27 : decode cX5_obey 27 = .ok (.invokestatic 53, 3) := by decide +kernel
theorem dX5_obey_30 : decode cX5_obey 30 = .ok (.istore 5, 2) := by decide +kernel
theorem dX5_obey_32 : decode cX5_obey 32 = .ok (.iload 4, 2) := by decide +kernel
theorem dX5_obey_34 : decode cX5_obey 34 = .ok (.iload_n 1, 1) := by decide +kernel
theorem dX5_obey_35 : decode cX5_obey 35 = .ok (.if_icmp .eq 122, 3) := by decide +kernel
theorem dX5_obey_38 : decode cX5_obey 38 = .ok (.aload_n 0, 1) := by decide +kernel
theorem dX5_obey_39 : decode cX5_obey 39 = .ok (.getfield 23, 3) := by decide +kernel
theorem dX5_obey_42 : decode cX5_obey 42 = .ok (.iload 5, 2) := by decide +kernel
theorem dX5_obey_44 : decode cX5_obey 44 = .ok (.iaload, 1) := by decide +kernel
theorem dX5_obey_45 : decode cX5_obey 45 = .ok (.ifCond .le 112, 3) := by decide +kernel
theorem dX5_obey_48 : decode cX5_obey 48 = .ok (.aload_n 0, 1) := by decide +kernel
theorem dX5_obey_49 : decode cX5_obey 49 = .ok (.getfield 29, 3) := by decide +kernel
theorem dX5_obey_52 : decode cX5_obey 52 = .ok (.iload 5, 2) := by decide +kernel
theorem dX5_obey_54 : decode cX5_obey 54 = .ok (.iaload, 1) := by decide +kernel
theorem dX5_obey_55 : decode cX5_obey 55 = .ok (.aload_n 0, 1) := by decide +kernel
theorem dX5_obey_56 : decode cX5_obey 56 = .ok (.getfield 7, 3) := by decide +kernel
theorem dX5_obey_59 : decode cX5_obey 59 = .ok (.iconst 5, 1) := by decide +kernel
theorem dX5_obey_60 : decode cX5_obey 60 = .ok (.iaload, 1) := by decide +kernel
theorem dX5_obey_61 : decode cX5_obey 61 = .ok (.if_icmp .lt 96, 3) := by decide +kernel
theorem dX5_obey_64 : decode cX5_obey 64 = .ok (.iload_n 1, 1) := by decide +kernel
theorem dX5_obey_65 : decode cX5_obey 65 = .ok (.iload 4, 2) := by decide +kernel
theorem dX5_obey_67 : decode cX5_obey 67 = .ok (.if_icmp .ge 7, 3) := by decide +kernel
theorem dX5_obey_70 : decode cX5_obey 70 = .ok (.iconst 1, 1) := by decide +kernel
theorem dX5_obey_71 : decode cX5_obey 71 = .ok (.goto 4, 3) := by decide +kernel
theorem dX5_obey_74 : decode cX5_obey 74 = .ok (.iconst 0, 1) := by decide +kernel
theorem dX5_obey_75 : decode cX5_obey 75 = .ok (.aload_n 0, 1) := by decide +kernel
theorem dX5_obey_76 : decode cX5_obey 76 = .ok (.getfield 23, 3) := by decide +kernel
theorem dX5_obey_79 : decode cX5_obey 79 = .ok (.iload 5, 2) := by decide +kernel
theorem dX5_obey_81 : decode cX5_obey 81 = .ok (.iaload, 1) := by decide +kernel
theorem dX5_obey_82 : decode cX5_obey 82 = .ok (.iconst 1, 1) := by decide +kernel
theorem dX5_obey_83 : decode cX5_obey 83 = .ok (.if_icmp .ne 7, 3) := by decide +kernel
theorem dX5_obey_86 : decode cX5_obey 86 = .ok (.iconst 1, 1) := by decide +kernel
theorem dX5_obey_87 : decode cX5_obey 87 = .ok (.goto 4, 3) := by decide +kernel
theorem dX5_obey_90 : decode cX5_obey 90 = .ok (.iconst 0, 1) := by decide +kernel
theorem dX5_obey_91 : decode cX5_obey 91 = .ok (.if_icmp .ne 7, 3) := by decide +kernel
theorem dX5_obey_94 : decode cX5_obey 94 = .ok (.iconst 1, 1) := by decide +kernel
theorem dX5_obey_95 : decode cX5_obey 95 = .ok (.goto 4, 3) := by decide +kernel
theorem dX5_obey_98 : decode cX5_obey 98 = .ok (.iconst 0, 1) := by decide +kernel
theorem dX5_obey_99 : decode cX5_obey 99 = .ok (.istore 6, 2) := by decide +kernel
theorem dX5_obey_101 : decode cX5_obey 101 = .ok (.iload 6, 2) := by decide +kernel
theorem dX5_obey_103 : decode cX5_obey 103 = .ok (.ifCond .eq 24, 3) := by decide +kernel
theorem dX5_obey_106 : decode cX5_obey 106 = .ok (.aload_n 0, 1) := by decide +kernel
theorem dX5_obey_107 : decode cX5_obey 107 = .ok (.getfield 26, 3) := by decide +kernel
theorem dX5_obey_110 : decode cX5_obey 110 = .ok (.iload 5, 2) := by decide +kernel
theorem dX5_obey_112 : decode cX5_obey 112 = .ok (.iaload, 1) := by decide +kernel
theorem dX5_obey_113 : decode cX5_obey 113 = .ok (.iload_n 2, 1) := by decide +kernel
theorem dX5_obey_114 : decode cX5_obey 114 = .ok (.if_icmp .le 13, 3) := by decide +kernel
theorem dX5_obey_117 : decode cX5_obey 117 = .ok (.aload_n 0, 1) := by decide +kernel
theorem dX5_obey_118 : decode cX5_obey 118 = .ok (.getfield 26, 3) := by decide +kernel
theorem dX5_obey_121 : decode cX5_obey 121 = .ok (.iload 5, 2) := by decide +kernel
theorem dX5_obey_123 : decode cX5_obey 123 = .ok (.iaload, 1) := by decide +kernel
theorem dX5_obey_124 : decode cX5_obey 124 = .ok (.goto 4, 3) := by decide +kernel
theorem dX5_obey_127 : decode cX5_obey 127 = .ok (.iload_n 2, 1) := by decide +kernel
theorem dX5_obey_128 : decode cX5_obey 128 = .ok (.istore_n 2, 1) := by decide +kernel
theorem dX5_obey_129 : decode cX5_obey 129 = .ok (.iload 6, 2) := by decide +kernel
theorem dX5_obey_131 : decode cX5_obey 131 = .ok (.ifCond .ne 24, 3) := by decide +kernel
theorem dX5_obey_134 : decode cX5_obey 134 = .ok (.aload_n 0, 1) := by decide +kernel
theorem dX5_obey_135 : decode cX5_obey 135 = .ok (.getfield 26, 3) := by decide +kernel
theorem dX5_obey_138 : decode cX5_obey 138 = .ok (.iload 5, 2) := by decide +kernel
theorem dX5_obey_140 : decode cX5_obey 140 = .ok (.iaload, 1) := by decide +kernel
theorem dX5_obey_141 : decode cX5_obey 141 = .ok (.iload_n 3, 1) := by decide +kernel
theorem dX5_obey_142 : decode cX5_obey 142 = .ok (.if_icmp .le 13, 3) := by decide +kernel
theorem dX5_obey_145 : decode cX5_obey 145 = .ok (.aload_n 0, 1) := by decide +kernel
theorem dX5_obey_146 : decode cX5_obey 146 = .ok (.getfield 26, 3) := by decide +kernel
theorem dX5_obey_149 : decode cX5_obey 149 = .ok (.iload 5, 2) := by decide +kernel
theorem dX5_obey_151 : decode cX5_obey 151 = .ok (.iaload, 1) := by decide +kernel
theorem dX5_obey_152 : decode cX5_obey 152 = .ok (.goto 4, 3) := by decide +kernel
theorem dX5_obey_155 : decode cX5_obey 155 = .ok (.iload_n 3, 1) := by decide +kernel
theorem dX5_obey_156 : decode cX5_obey 156 = .ok (.istore_n 3, 1) := by decide +kernel
theorem dX5_obey_157 : decode cX5_obey 157 = .ok (.iinc 4 1, 3) := by decide +kernel
theorem dX5_obey_160 : decode cX5_obey 160 = .ok (.goto (-153), 3) := by decide +kernel
theorem dX5_obey_163 : decode cX5_obey 163 = .ok (.aload_n 0, 1) := by decide +kernel
theorem dX5_obey_164 : decode cX5_obey 164 = .ok (.getfield 20, 3) := by decide +kernel
theorem dX5_obey_167 : decode cX5_obey 167 = .ok (.bipush 6, 2) := by decide +kernel
theorem dX5_obey_169 : decode cX5_obey 169 = .ok (.iload_n 1, 1) := by decide +kernel
theorem dX5_obey_170 : decode cX5_obey 170 = .ok (.imul, 1) := by decide +kernel
theorem dX5_obey_171 : decode cX5_obey 171 = .ok (.iconst 5, 1) := by decide +kernel
theorem dX5_obey_172 : decode cX5_obey 172 = .ok (.iadd, 1) := by decide +kernel
theorem dX5_obey_173 : decode cX5_obey 173 = .ok (.iaload, 1) := by decide +kernel
theorem dX5_obey_174 : decode cX5_obey 174 = .ok (.istore 4, 2) := by decide +kernel
theorem dX5_obey_176 : decode cX5_obey 176 = .ok (.aload_n 0, 1) := by decide +kernel
theorem dX5_obey_177 : decode cX5_obey 177 = .ok (.getfield 7, 3) := by decide +kernel
theorem dX5_obey_180 : decode cX5_obey 180 = .ok (.bipush 6, 2) := by decide +kernel
theorem dX5_obey_182 : decode cX5_obey 182 = .ok (.iaload, 1) := by decide +kernel
theorem dX5_obey_183 : decode cX5_obey 183 = .ok (.istore 5, 2) := by decide +kernel
theorem dX5_obey_185 : decode cX5_obey 185 = .ok (.iload_n 2, 1) := by decide +kernel
theorem dX5_obey_186 : decode cX5_obey 186 = .ok (.ifCond .le 53, 3) := by decide +kernel
theorem dX5_obey_189 : decode cX5_obey 189 = .ok (.iload_n 3, 1) := by decide +kernel
theorem dX5_obey_190 : decode cX5_obey 190 = .ok (.ifCond .le 49, 3) := by decide +kernel
theorem dX5_obey_193 : decode cX5_obey 193 = .ok (.iload 4, 2) := by decide +kernel
theorem dX5_obey_195 : decode cX5_obey 195 = .ok (.ifCond .le 22, 3) := by decide +kernel
theorem dX5_obey_198 : decode cX5_obey 198 = .ok (.iload 4, 2) := by decide +kernel
theorem dX5_obey_200 : decode cX5_obey 200 = .ok (.iload 5, 2) := by decide +kernel
theorem dX5_obey_202 : decode cX5_obey 202 = .ok (.if_icmp .le 11, 3) := by decide +kernel
theorem dX5_obey_205 : decode cX5_obey 205 = .ok (.iload 4, 2) := by decide +kernel
theorem dX5_obey_207 : decode cX5_obey 207 = .ok (.iload 5, 2) := by decide +kernel
theorem dX5_obey_209 : decode cX5_obey 209 = .ok (.isub, 1) := by decide +kernel
theorem dX5_obey_210 : decode cX5_obey 210 = .ok (.goto 24, 3) := by decide +kernel
theorem dX5_obey_213 : decode cX5_obey 213 = .ok (.iconst 0, 1) := by decide +kernel
theorem dX5_obey_214 : decode cX5_obey 214 = .ok (.goto 20, 3) := by decide +kernel
theorem dX5_obey_217 : decode cX5_obey 217 = .ok (.iload 4, 2) := by decide +kernel
theorem dX5_obey_219 : decode cX5_obey 219 = .ok (.iload 5, 2) := by decide +kernel
theorem dX5_obey_221 : decode cX5_obey 221 = .ok (.ineg, 1) := by decide +kernel
theorem dX5_obey_222 : decode cX5_obey 222 = .ok (.if_icmp .ge 11, 3) := by decide +kernel
theorem dX5_obey_225 : decode cX5_obey 225 = .ok (.iload 4, 2) := by decide +kernel
theorem dX5_obey_227 : decode cX5_obey 227 = .ok (.iload 5, 2) := by decide +kernel
theorem dX5_obey_229 : decode cX5_obey 229 = .ok (.iadd, 1) := by decide +kernel
theorem dX5_obey_230 : decode cX5_obey 230 = .ok (.goto 4, 3) := by decide +kernel
theorem dX5_obey_233 : decode cX5_obey 233 = .ok (.iconst 0, 1) := by decide +kernel
theorem dX5_obey_234 : decode cX5_obey 234 = .ok (.istore 4, 2) := by decide +kernel
theorem dX5_obey_236 : decode cX5_obey 236 = .ok (.goto 84, 3) := by decide +kernel
theorem dX5_obey_239 : decode cX5_obey 239 = .ok (.iload_n 2, 1) := by decide +kernel
theorem dX5_obey_240 : decode cX5_obey 240 = .ok (.ifCond .le 41, 3) := by decide +kernel
theorem dX5_obey_243 : decode cX5_obey 243 = .ok (.iload 4, 2) := by decide +kernel
theorem dX5_obey_245 : decode cX5_obey 245 = .ok (.bipush 12, 2) := by decide +kernel
theorem dX5_obey_247 : decode cX5_obey 247 = .ok (.iload_n 2, 1) := by decide +kernel
theorem dX5_obey_248 : decode cX5_obey 248 = .ok (.imul, 1) := by decide +kernel
theorem dX5_obey_249 : decode cX5_obey 249 = .ok (.if_icmp .ge 32, 3) := by decide +kernel
theorem dX5_obey_252 : decode cX5_obey 252 = .ok (.iload 4, 2) := by decide +kernel
theorem dX5_obey_254 : decode cX5_obey 254 = .ok (.iload 5, 2) := by decide +kernel
theorem dX5_obey_256 : decode cX5_obey 256 = .ok (.iadd, 1) := by decide +kernel
theorem dX5_obey_257 : decode cX5_obey 257 = .ok (.bipush 12, 2) := by decide +kernel
theorem dX5_obey_259 : decode cX5_obey 259 = .ok (.iload_n 2, 1) := by decide +kernel
theorem dX5_obey_260 : decode cX5_obey 260 = .ok (.imul, 1) := by decide +kernel
theorem dX5_obey_261 : decode cX5_obey 261 = .ok (.if_icmp .ge 11, 3) := by decide +kernel
theorem dX5_obey_264 : decode cX5_obey 264 = .ok (.iload 4, 2) := by decide +kernel
theorem dX5_obey_266 : decode cX5_obey 266 = .ok (.iload 5, 2) := by decide +kernel
theorem dX5_obey_268 : decode cX5_obey 268 = .ok (.iadd, 1) := by decide +kernel
theorem dX5_obey_269 : decode cX5_obey 269 = .ok (.goto 7, 3) := by decide +kernel
theorem dX5_obey_272 : decode cX5_obey 272 = .ok (.bipush 12, 2) := by decide +kernel
theorem dX5_obey_274 : decode cX5_obey 274 = .ok (.iload_n 2, 1) := by decide +kernel
theorem dX5_obey_275 : decode cX5_obey 275 = .ok (.imul, 1) := by decide +kernel
theorem dX5_obey_276 : decode cX5_obey 276 = .ok (.istore 4, 2) := by decide +kernel
theorem dX5_obey_278 : decode cX5_obey 278 = .ok (.goto 42, 3) := by decide +kernel
theorem dX5_obey_281 : decode cX5_obey 281 = .ok (.iload_n 3, 1) := by decide +kernel
theorem dX5_obey_282 : decode cX5_obey 282 = .ok (.ifCond .le 38, 3) := by decide +kernel
theorem dX5_obey_285 : decode cX5_obey 285 = .ok (.iload 4, 2) := by decide +kernel
theorem dX5_obey_287 : decode cX5_obey 287 = .ok (.bipush (-12), 2) := by decide +kernel
theorem dX5_obey_289 : decode cX5_obey 289 = .ok (.iload_n 3, 1) := by decide +kernel
theorem dX5_obey_290 : decode cX5_obey 290 = .ok (.imul, 1) := by decide +kernel
theorem dX5_obey_291 : decode cX5_obey 291 = .ok (.if_icmp .le 29, 3) := by decide +kernel
theorem dX5_obey_294 : decode cX5_obey 294 = .ok (.iload 4, 2) := by decide +kernel
theorem dX5_obey_296 : decode cX5_obey 296 = .ok (.iload 5, 2) := by decide +kernel
theorem dX5_obey_298 : decode cX5_obey 298 = .ok (.isub, 1) := by decide +kernel
theorem dX5_obey_299 : decode cX5_obey 299 = .ok (.bipush (-12), 2) := by decide +kernel
theorem dX5_obey_301 : decode cX5_obey 301 = .ok (.iload_n 3, 1) := by decide +kernel
theorem dX5_obey_302 : decode cX5_obey 302 = .ok (.imul, 1) := by decide +kernel
theorem dX5_obey_303 : decode cX5_obey 303 = .ok (.if_icmp .le 11, 3) := by decide +kernel
theorem dX5_obey_306 : decode cX5_obey 306 = .ok (.iload 4, 2) := by decide +kernel
theorem dX5_obey_308 : decode cX5_obey 308 = .ok (.iload 5, 2) := by decide +kernel
theorem dX5_obey_310 : decode cX5_obey 310 = .ok (.isub, 1) := by decide +kernel
theorem dX5_obey_311 : decode cX5_obey 311 = .ok (.goto 7, 3) := by decide +kernel
theorem dX5_obey_314 : decode cX5_obey 314 = .ok (.bipush (-12), 2) := by decide +kernel
theorem dX5_obey_316 : decode cX5_obey 316 = .ok (.iload_n 3, 1) := by decide +kernel
theorem dX5_obey_317 : decode cX5_obey 317 = .ok (.imul, 1) := by decide +kernel
theorem dX5_obey_318 : decode cX5_obey 318 = .ok (.istore 4, 2) := by decide +kernel
theorem dX5_obey_320 : decode cX5_obey 320 = .ok (.aload_n 0, 1) := by decide +kernel
theorem dX5_obey_321 : decode cX5_obey 321 = .ok (.getfield 20, 3) := by decide +kernel
theorem dX5_obey_324 : decode cX5_obey 324 = .ok (.bipush 6, 2) := by decide +kernel
theorem dX5_obey_326 : decode cX5_obey 326 = .ok (.iload_n 1, 1) := by decide +kernel
theorem dX5_obey_327 : decode cX5_obey 327 = .ok (.imul, 1) := by decide +kernel
theorem dX5_obey_328 : decode cX5_obey 328 = .ok (.iconst 5, 1) := by decide +kernel
theorem dX5_obey_329 : decode cX5_obey 329 = .ok (.iadd, 1) := by decide +kernel
theorem dX5_obey_330 : decode cX5_obey 330 = .ok (.iload 4, 2) := by decide +kernel
theorem dX5_obey_332 : decode cX5_obey 332 = .ok (.iastore, 1) := by decide +kernel
theorem dX5_obey_333 : decode cX5_obey 333 = .ok (.return_, 1) := by decide +kernel
theorem dX5_begin_0 : decode cX5_begin 0 = .ok (.aload_n 0, 1) := by decide +kernel
theorem dX5_begin_1 : decode cX5_begin 1 = .ok (.getfield 23, 3) := by decide +kernel
theorem dX5_begin_4 : decode cX5_begin 4 = .ok (.iload_n 1, 1) := by decide +kernel
theorem dX5_begin_5 : decode cX5_begin 5 = .ok (.iload_n 2, 1) := by decide +kernel
theorem dX5_begin_6 : decode cX5_begin 6 = .ok (.iastore, 1) := by decide +kernel
theorem dX5_begin_7 : decode cX5_begin 7 = .ok (.aload_n 0, 1) := by decide +kernel
theorem dX5_begin_8 : decode cX5_begin 8 = .ok (.getfield 26, 3) := by decide +kernel
theorem dX5_begin_11 : decode cX5_begin 11 = .ok (.iload_n 1, 1) := by decide +kernel
theorem dX5_begin_12 : decode cX5_begin 12 = .ok (.aload_n 0, 1) := by decide +kernel
theorem dX5_begin_13 : decode cX5_begin 13 = .ok (.iload_n 2, 1) := by decide +kernel
theorem dX5_begin_14 : decode cX5_begin 14 = .ok (.iconst 1, 1) := by decide +kernel
theorem dX5_begin_15 : decode cX5_begin 15 = .ok (.iconst 0, 1) := by decide +kernel
theorem dX5_begin_16 : decode cX5_begin 16 = .ok (.invokevirtual 123, 3) := by decide +kernel
theorem dX5_begin_19 : decode cX5_begin 19 = .ok (.iastore, 1) := by decide +kernel
theorem dX5_begin_20 : decode cX5_begin 20 = .ok (.aload_n 0, 1) := by decide +kernel
theorem dX5_begin_21 : decode cX5_begin 21 = .ok (.getfield 29, 3) := by decide +kernel
theorem dX5_begin_24 : decode cX5_begin 24 = .ok (.iload_n 1, 1) := by decide +kernel
theorem dX5_begin_25 : decode cX5_begin 25 = .ok (.iconst 0, 1) := by decide +kernel
theorem dX5_begin_26 : decode cX5_begin 26 = .ok (.iastore, 1) := by decide +kernel
theorem dX5_begin_27 : decode cX5_begin 27 = .ok (.return_, 1) := by decide +kernel
theorem dX5_advise_0 : decode cX5_advise 0 = .ok (.aload_n 0, 1) := by decide +kernel
theorem dX5_advise_1 : decode cX5_advise 1 = .ok (.getfield 23, 3) := by decide +kernel
theorem dX5_advise_4 : decode cX5_advise 4 = .ok (.iload_n 1, 1) := by decide +kernel
theorem dX5_advise_5 : decode cX5_advise 5 = .ok (.iaload, 1) := by decide +kernel
theorem dX5_advise_6 : decode cX5_advise 6 = .ok (.ifCond .ne 37, 3) := by decide +kernel
theorem dX5_advise_9 : decode cX5_advise 9 = .ok (.aload_n 0, 1) := by decide +kernel
theorem dX5_advise_10 : decode cX5_advise 10 = .ok (.invokevirtual 130, 3) := by decide +kernel
theorem dX5_advise_13 : decode cX5_advise 13 = .ok (.ifCond .eq 29, 3) := by decide +kernel
theorem dX5_advise_16 : decode cX5_advise 16 = .ok (.aload_n 0, 1) := by decide +kernel
theorem dX5_advise_17 : decode cX5_advise 17 = .ok (.iload_n 1, 1) := by decide +kernel
theorem dX5_advise_18 : decode cX5_advise 18 = .ok (.aload_n 0, 1) := by decide +kernel
theorem dX5_advise_19 : decode cX5_advise 19 = .ok (.invokevirtual 134, 3) := by decide +kernel
theorem dX5_advise_22 : decode cX5_advise 22 = .ok (.invokevirtual 138, 3) := by decide +kernel
theorem dX5_advise_25 : decode cX5_advise 25 = .ok (.aload_n 0, 1) := by decide +kernel
theorem dX5_advise_26 : decode cX5_advise 26 = .ok (.getfield 32, 3) := by decide +kernel
theorem dX5_advise_29 : decode cX5_advise 29 = .ok (.iload_n 1, 1) := by decide +kernel
theorem dX5_advise_30 : decode cX5_advise 30 = .ok (.iconst 0, 1) := by decide +kernel
theorem dX5_advise_31 : decode cX5_advise 31 = .ok (.bastore, 1) := by decide +kernel
theorem dX5_advise_32 : decode cX5_advise 32 = .ok (.aload_n 0, 1) := by decide +kernel
theorem dX5_advise_33 : decode cX5_advise 33 = .ok (.getfield 42, 3) := by decide +kernel
theorem dX5_advise_36 : decode cX5_advise 36 = .ok (.iconst 0, 1) := by decide +kernel
theorem dX5_advise_37 : decode cX5_advise 37 = .ok (.dup2, 1) := by decide +kernel
theorem dX5_advise_38 : decode cX5_advise 38 = .ok (.iaload, 1) := by decide +kernel
theorem dX5_advise_39 : decode cX5_advise 39 = .ok (.iconst 1, 1) := by decide +kernel
theorem dX5_advise_40 : decode cX5_advise 40 = .ok (.iadd, 1) := by decide +kernel
theorem dX5_advise_41 : decode cX5_advise 41 = .ok (.iastore, 1) := by decide +kernel
theorem dX5_advise_42 : decode cX5_advise 42 = .ok (.return_, 1) := by decide +kernel
theorem dX5_advise_43 : decode cX5_advise 43 = .ok (.aload_n 0, 1) := by decide +kernel
theorem dX5_advise_44 : decode cX5_advise 44 = .ok (.invokevirtual 130, 3) := by decide +kernel
theorem dX5_advise_47 : decode cX5_advise 47 = .ok (.ifCond .ne 51, 3) := by decide +kernel
theorem dX5_advise_50 : decode cX5_advise 50 = .ok (.aload_n 0, 1) := by decide +kernel
theorem dX5_advise_51 : decode cX5_advise 51 = .ok (.getfield 101, 3) := by decide +kernel
theorem dX5_advise_54 : decode cX5_advise 54 = .ok (.lconst 0, 1) := by decide +kernel
theorem dX5_advise_55 : decode cX5_advise 55 = .ok (.lcmp, 1) := by decide +kernel
theorem dX5_advise_56 : decode cX5_advise 56 = .ok (.ifCond .lt 42, 3) := by decide +kernel
theorem dX5_advise_59 : decode cX5_advise 59 = .ok (.aload_n 0, 1) := by decide +kernel
theorem dX5_advise_60 : decode cX5_advise 60 = .ok (.getfield 23, 3) := by decide +kernel
theorem dX5_advise_63 : decode cX5_advise 63 = .ok (.iload_n 1, 1) := by decide +kernel
theorem dX5_advise_64 : decode cX5_advise 64 = .ok (.iconst 0, 1) := by decide +kernel
theorem dX5_advise_65 : decode cX5_advise 65 = .ok (.iastore, 1) := by decide +kernel
theorem dX5_advise_66 : decode cX5_advise 66 = .ok (.aload_n 0, 1) := by decide +kernel
theorem dX5_advise_67 : decode cX5_advise 67 = .ok (.getfield 26, 3) := by decide +kernel
theorem dX5_advise_70 : decode cX5_advise 70 = .ok (.iload_n 1, 1) := by decide +kernel
theorem dX5_advise_71 : decode cX5_advise 71 = .ok (.iconst 0, 1) := by decide +kernel
theorem dX5_advise_72 : decode cX5_advise 72 = .ok (.iastore, 1) := by decide +kernel
theorem dX5_advise_73 : decode cX5_advise 73 = .ok (.aload_n 0, 1) := by decide +kernel
theorem dX5_advise_74 : decode cX5_advise 74 = .ok (.getfield 29, 3) := by decide +kernel
theorem dX5_advise_77 : decode cX5_advise 77 = .ok (.iload_n 1, 1) := by decide +kernel
theorem dX5_advise_78 : decode cX5_advise 78 = .ok (.iconst 0, 1) := by decide +kernel
theorem dX5_advise_79 : decode cX5_advise 79 = .ok (.iastore, 1) := by decide +kernel
theorem dX5_advise_80 : decode cX5_advise 80 = .ok (.aload_n 0, 1) := by decide +kernel
theorem dX5_advise_81 : decode cX5_advise 81 = .ok (.getfield 32, 3) := by decide +kernel
theorem dX5_advise_84 : decode cX5_advise 84 = .ok (.iload_n 1, 1) := by decide +kernel
theorem dX5_advise_85 : decode cX5_advise 85 = .ok (.iconst 0, 1) := by decide +kernel
theorem dX5_advise_86 : decode cX5_advise 86 = .ok (.bastore, 1) := by decide +kernel
theorem dX5_advise_87 : decode cX5_advise 87 = .ok (.aload_n 0, 1) := by decide +kernel
theorem dX5_advise_88 : decode cX5_advise 88 = .ok (.getfield 42, 3) := by decide +kernel
theorem dX5_advise_91 : decode cX5_advise 91 = .ok (.iconst 3, 1) := by decide +kernel
theorem dX5_advise_92 : decode cX5_advise 92 = .ok (.dup2, 1) := by decide +kernel
theorem dX5_advise_93 : decode cX5_advise 93 = .ok (.iaload, 1) := by decide +kernel
theorem dX5_advise_94 : decode cX5_advise 94 = .ok (.iconst 1, 1) := by decide +kernel
theorem dX5_advise_95 : decode cX5_advise 95 = .ok (.iadd, 1) := by decide +kernel
theorem dX5_advise_96 : decode cX5_advise 96 = .ok (.iastore, 1) := by decide +kernel
theorem dX5_advise_97 : decode cX5_advise 97 = .ok (.return_, 1) := by decide +kernel
theorem dX5_advise_98 : decode cX5_advise 98 = .ok (.aload_n 0, 1) := by decide +kernel
theorem dX5_advise_99 : decode cX5_advise 99 = .ok (.getfield 29, 3) := by decide +kernel
theorem dX5_advise_102 : decode cX5_advise 102 = .ok (.iload_n 1, 1) := by decide +kernel
theorem dX5_advise_103 : decode cX5_advise 103 = .ok (.dup2, 1) := by decide +kernel
theorem dX5_advise_104 : decode cX5_advise 104 = .ok (.iaload, 1) := by decide +kernel
theorem dX5_advise_105 : decode cX5_advise 105 = .ok (.iconst 1, 1) := by decide +kernel
theorem dX5_advise_106 : decode cX5_advise 106 = .ok (.iadd, 1) := by decide +kernel
theorem dX5_advise_107 : decode cX5_advise 107 = .ok (.iastore, 1) := by decide +kernel
theorem dX5_advise_108 : decode cX5_advise 108 = .ok (.aload_n 0, 1) := by decide +kernel
theorem dX5_advise_109 : decode cX5_advise 109 = .ok (.getfield 23, 3) := by decide +kernel
theorem dX5_advise_112 : decode cX5_advise 112 = .ok (.iload_n 1, 1) := by decide +kernel
theorem dX5_advise_113 : decode cX5_advise 113 = .ok (.iaload, 1) := by decide +kernel
theorem dX5_advise_114 : decode cX5_advise 114 = .ok (.iconst 1, 1) := by decide +kernel
theorem dX5_advise_115 : decode cX5_advise 115 = .ok (.if_icmp .ne 7, 3) := by decide +kernel
theorem dX5_advise_118 : decode cX5_advise 118 = .ok (.iconst 2, 1) := by decide +kernel
end
section
theorem dX5_advise_119 : decode cX5_advise 119 = .ok (.goto 4, 3) := by decide +kernel
theorem dX5_advise_122 : decode cX5_advise 122 = .ok (.iconst 1, 1) := by decide +kernel
theorem dX5_advise_123 : decode cX5_advise 123 = .ok (.istore_n 2, 1) := by decide +kernel
theorem dX5_advise_124 : decode cX5_advise 124 = .ok (.aload_n 0, 1) := by decide +kernel
theorem dX5_advise_125 : decode cX5_advise 125 = .ok (.aload_n 0, 1) := by decide +kernel
theorem dX5_advise_126 : decode cX5_advise 126 = .ok (.getfield 23, 3) := by decide +kernel
theorem dX5_advise_129 : decode cX5_advise 129 = .ok (.iload_n 1, 1) := by decide +kernel
theorem dX5_advise_130 : decode cX5_advise 130 = .ok (.iaload, 1) := by decide +kernel
theorem dX5_advise_131 : decode cX5_advise 131 = .ok (.iconst 4, 1) := by decide +kernel
theorem dX5_advise_132 : decode cX5_advise 132 = .ok (.aload_n 0, 1) := by decide +kernel
theorem dX5_advise_133 : decode cX5_advise 133 = .ok (.getfield 29, 3) := by decide +kernel
theorem dX5_advise_136 : decode cX5_advise 136 = .ok (.iload_n 1, 1) := by decide +kernel
theorem dX5_advise_137 : decode cX5_advise 137 = .ok (.iaload, 1) := by decide +kernel
theorem dX5_advise_138 : decode cX5_advise 138 = .ok (.invokevirtual 119, 3) := by decide +kernel
theorem dX5_advise_141 : decode cX5_advise 141 = .ok (.lconst 0, 1) := by decide +kernel
theorem dX5_advise_142 : decode cX5_advise 142 = .ok (.lcmp, 1) := by decide +kernel
theorem dX5_advise_143 : decode cX5_advise 143 = .ok (.ifCond .ge 69, 3) := by decide +kernel
theorem dX5_advise_146 : decode cX5_advise 146 = .ok (.aload_n 0, 1) := by decide +kernel
theorem dX5_advise_147 : decode cX5_advise 147 = .ok (.iload_n 2, 1) := by decide +kernel
theorem dX5_advise_148 : decode cX5_advise 148 = .ok (.iconst 4, 1) := by decide +kernel
theorem dX5_advise_149 : decode cX5_advise 149 = .ok (.iconst 0, 1) := by decide +kernel
theorem dX5_advise_150 : decode cX5_advise 150 = .ok (.invokevirtual 119, 3) := by decide +kernel
theorem dX5_advise_153 : decode cX5_advise 153 = .ok (.aload_n 0, 1) := by decide +kernel
theorem dX5_advise_154 : decode cX5_advise 154 = .ok (.getfield 7, 3) := by decide +kernel
theorem dX5_advise_157 : decode cX5_advise 157 = .ok (.iconst 4, 1) := by decide +kernel
theorem dX5_advise_158 : decode cX5_advise 158 = .ok (.iaload, 1) := by decide +kernel
theorem dX5_advise_159 : decode cX5_advise 159 = .ok (.i2l, 1) := by decide +kernel
theorem dX5_advise_160 : decode cX5_advise 160 = .ok (.lcmp, 1) := by decide +kernel
theorem dX5_advise_161 : decode cX5_advise 161 = .ok (.ifCond .lt 51, 3) := by decide +kernel
theorem dX5_advise_164 : decode cX5_advise 164 = .ok (.aload_n 0, 1) := by decide +kernel
theorem dX5_advise_165 : decode cX5_advise 165 = .ok (.getfield 32, 3) := by decide +kernel
theorem dX5_advise_168 : decode cX5_advise 168 = .ok (.iload_n 1, 1) := by decide +kernel
theorem dX5_advise_169 : decode cX5_advise 169 = .ok (.baload, 1) := by decide +kernel
theorem dX5_advise_170 : decode cX5_advise 170 = .ok (.ifCond .ne 42, 3) := by decide +kernel
theorem dX5_advise_173 : decode cX5_advise 173 = .ok (.aload_n 0, 1) := by decide +kernel
theorem dX5_advise_174 : decode cX5_advise 174 = .ok (.getfield 104, 3) := by decide +kernel
theorem dX5_advise_177 : decode cX5_advise 177 = .ok (.aload_n 0, 1) := by decide +kernel
theorem dX5_advise_178 : decode cX5_advise 178 = .ok (.getfield 7, 3) := by decide +kernel
theorem dX5_advise_181 : decode cX5_advise 181 = .ok (.iconst 5, 1) := by decide +kernel
theorem dX5_advise_182 : decode cX5_advise 182 = .ok (.iaload, 1) := by decide +kernel
theorem dX5_advise_183 : decode cX5_advise 183 = .ok (.i2l, 1) := by decide +kernel
theorem dX5_advise_184 : decode cX5_advise 184 = .ok (.lcmp, 1) := by decide +kernel
theorem dX5_advise_185 : decode cX5_advise 185 = .ok (.ifCond .le 27, 3) := by decide +kernel
theorem dX5_advise_188 : decode cX5_advise 188 = .ok (.aload_n 0, 1) := by decide +kernel
theorem dX5_advise_189 : decode cX5_advise 189 = .ok (.iload_n 1, 1) := by decide +kernel
theorem dX5_advise_190 : decode cX5_advise 190 = .ok (.iload_n 2, 1) := by decide +kernel
theorem dX5_advise_191 : decode cX5_advise 191 = .ok (.invokevirtual 138, 3) := by decide +kernel
theorem dX5_advise_194 : decode cX5_advise 194 = .ok (.aload_n 0, 1) := by decide +kernel
theorem dX5_advise_195 : decode cX5_advise 195 = .ok (.getfield 32, 3) := by decide +kernel
theorem dX5_advise_198 : decode cX5_advise 198 = .ok (.iload_n 1, 1) := by decide +kernel
theorem dX5_advise_199 : decode cX5_advise 199 = .ok (.iconst 1, 1) := by decide +kernel
theorem dX5_advise_200 : decode cX5_advise 200 = .ok (.bastore, 1) := by decide +kernel
theorem dX5_advise_201 : decode cX5_advise 201 = .ok (.aload_n 0, 1) := by decide +kernel
theorem dX5_advise_202 : decode cX5_advise 202 = .ok (.getfield 42, 3) := by decide +kernel
theorem dX5_advise_205 : decode cX5_advise 205 = .ok (.iconst 1, 1) := by decide +kernel
theorem dX5_advise_206 : decode cX5_advise 206 = .ok (.dup2, 1) := by decide +kernel
theorem dX5_advise_207 : decode cX5_advise 207 = .ok (.iaload, 1) := by decide +kernel
theorem dX5_advise_208 : decode cX5_advise 208 = .ok (.iconst 1, 1) := by decide +kernel
theorem dX5_advise_209 : decode cX5_advise 209 = .ok (.iadd, 1) := by decide +kernel
theorem dX5_advise_210 : decode cX5_advise 210 = .ok (.iastore, 1) := by decide +kernel
theorem dX5_advise_211 : decode cX5_advise 211 = .ok (.return_, 1) := by decide +kernel
theorem dX5_advise_212 : decode cX5_advise 212 = .ok (.aload_n 0, 1) := by decide +kernel
theorem dX5_advise_213 : decode cX5_advise 213 = .ok (.aload_n 0, 1) := by decide +kernel
theorem dX5_advise_214 : decode cX5_advise 214 = .ok (.getfield 23, 3) := by decide +kernel
theorem dX5_advise_217 : decode cX5_advise 217 = .ok (.iload_n 1, 1) := by decide +kernel
theorem dX5_advise_218 : decode cX5_advise 218 = .ok (.iaload, 1) := by decide +kernel
theorem dX5_advise_219 : decode cX5_advise 219 = .ok (.aload_n 0, 1) := by decide +kernel
theorem dX5_advise_220 : decode cX5_advise 220 = .ok (.getfield 26, 3) := by decide +kernel
theorem dX5_advise_223 : decode cX5_advise 223 = .ok (.iload_n 1, 1) := by decide +kernel
theorem dX5_advise_224 : decode cX5_advise 224 = .ok (.iaload, 1) := by decide +kernel
theorem dX5_advise_225 : decode cX5_advise 225 = .ok (.aload_n 0, 1) := by decide +kernel
theorem dX5_advise_226 : decode cX5_advise 226 = .ok (.getfield 29, 3) := by decide +kernel
theorem dX5_advise_229 : decode cX5_advise 229 = .ok (.iload_n 1, 1) := by decide +kernel
theorem dX5_advise_230 : decode cX5_advise 230 = .ok (.iaload, 1) := by decide +kernel
theorem dX5_advise_231 : decode cX5_advise 231 = .ok (.invokevirtual 123, 3) := by decide +kernel
theorem dX5_advise_234 : decode cX5_advise 234 = .ok (.istore_n 3, 1) := by decide +kernel
theorem dX5_advise_235 : decode cX5_advise 235 = .ok (.aload_n 0, 1) := by decide +kernel
theorem dX5_advise_236 : decode cX5_advise 236 = .ok (.getfield 42, 3) := by decide +kernel
theorem dX5_advise_239 : decode cX5_advise 239 = .ok (.iconst 2, 1) := by decide +kernel
theorem dX5_advise_240 : decode cX5_advise 240 = .ok (.iload_n 3, 1) := by decide +kernel
theorem dX5_advise_241 : decode cX5_advise 241 = .ok (.aload_n 0, 1) := by decide +kernel
theorem dX5_advise_242 : decode cX5_advise 242 = .ok (.getfield 26, 3) := by decide +kernel
theorem dX5_advise_245 : decode cX5_advise 245 = .ok (.iload_n 1, 1) := by decide +kernel
theorem dX5_advise_246 : decode cX5_advise 246 = .ok (.iaload, 1) := by decide +kernel
theorem dX5_advise_247 : decode cX5_advise 247 = .ok (.if_icmp .le 14, 3) := by decide +kernel
theorem dX5_advise_250 : decode cX5_advise 250 = .ok (.aload_n 0, 1) := by decide +kernel
theorem dX5_advise_251 : decode cX5_advise 251 = .ok (.getfield 42, 3) := by decide +kernel
theorem dX5_advise_254 : decode cX5_advise 254 = .ok (.iconst 2, 1) := by decide +kernel
theorem dX5_advise_255 : decode cX5_advise 255 = .ok (.iaload, 1) := by decide +kernel
theorem dX5_advise_256 : decode cX5_advise 256 = .ok (.iconst 1, 1) := by decide +kernel
theorem dX5_advise_257 : decode cX5_advise 257 = .ok (.iadd, 1) := by decide +kernel
theorem dX5_advise_258 : decode cX5_advise 258 = .ok (.goto 9, 3) := by decide +kernel
theorem dX5_advise_261 : decode cX5_advise 261 = .ok (.aload_n 0, 1) := by decide +kernel
theorem dX5_advise_262 : decode cX5_advise 262 = .ok (.getfield 42, 3) := by decide +kernel
theorem dX5_advise_265 : decode cX5_advise 265 = .ok (.iconst 2, 1) := by decide +kernel
theorem dX5_advise_266 : decode cX5_advise 266 = .ok (.iaload, 1) := by decide +kernel
theorem dX5_advise_267 : decode cX5_advise 267 = .ok (.iastore, 1) := by decide +kernel
theorem dX5_advise_268 : decode cX5_advise 268 = .ok (.aload_n 0, 1) := by decide +kernel
theorem dX5_advise_269 : decode cX5_advise 269 = .ok (.getfield 26, 3) := by decide +kernel
theorem dX5_advise_272 : decode cX5_advise 272 = .ok (.iload_n 1, 1) := by decide +kernel
theorem dX5_advise_273 : decode cX5_advise 273 = .ok (.iload_n 3, 1) := by decide +kernel
theorem dX5_advise_274 : decode cX5_advise 274 = .ok (.iastore, 1) := by decide +kernel
theorem dX5_advise_275 : decode cX5_advise 275 = .ok (.return_, 1) := by decide +kernel
theorem dX5_step_0 : decode cX5_step 0 = .ok (.aload_n 0, 1) := by decide +kernel
theorem dX5_step_1 : decode cX5_step 1 = .ok (.iload_n 1, 1) := by decide +kernel
theorem dX5_step_2 : decode cX5_step 2 = .ok (.ifCond .lt 10, 3) := by decide +kernel
theorem dX5_step_5 : decode cX5_step 5 = .ok (.iload_n 1, 1) := by decide +kernel
theorem dX5_step_6 : decode cX5_step 6 = .ok (.sipush 300, 3) := by decide +kernel
theorem dX5_step_9 : decode cX5_step 9 = .ok (.if_icmp .le 7, 3) := by decide +kernel
theorem dX5_step_12 : decode cX5_step 12 = .ok (.iconst 1, 1) := by decide +kernel
theorem dX5_step_13 : decode cX5_step 13 = .ok (.goto 4, 3) := by decide +kernel
theorem dX5_step_16 : decode cX5_step 16 = .ok (.iconst 0, 1) := by decide +kernel
theorem dX5_step_17 : decode cX5_step 17 = .ok (.putfield 45, 3) := by decide +kernel
theorem dX5_step_20 : decode cX5_step 20 = .ok (.aload_n 0, 1) := by decide +kernel
theorem dX5_step_21 : decode cX5_step 21 = .ok (.getfield 45, 3) := by decide +kernel
theorem dX5_step_24 : decode cX5_step 24 = .ok (.ifCond .le 5, 3) := by decide +kernel
theorem dX5_step_27 : decode cX5_step 27 = .ok (.iconst 0, 1) := by decide +kernel
theorem dX5_step_28 : decode cX5_step 28 = .ok (.ireturn, 1) := by decide +kernel
theorem dX5_step_29 : decode cX5_step 29 = .ok (.iconst 0, 1) := by decide +kernel
theorem dX5_step_30 : decode cX5_step 30 = .ok (.istore_n 2, 1) := by decide +kernel
theorem dX5_step_31 : decode cX5_step 31 = .ok (.iload_n 2, 1) := by decide +kernel
theorem dX5_step_32 : decode cX5_step 32 = .ok (.iload_n 1, 1) := by decide +kernel
theorem dX5_step_33 : decode cX5_step 33 = .ok (.if_icmp .ge 129, 3) := by decide +kernel
theorem dX5_step_36 : decode cX5_step 36 = .ok (.aload_n 0, 1) := by decide +kernel
theorem dX5_step_37 : decode cX5_step 37 = .ok (.invokevirtual 141, 3) := by decide +kernel
theorem dX5_step_40 : decode cX5_step 40 = .ok (.iconst 0, 1) := by decide +kernel
theorem dX5_step_41 : decode cX5_step 41 = .ok (.istore_n 3, 1) := by decide +kernel
theorem dX5_step_42 : decode cX5_step 42 = .ok (.iload_n 3, 1) := by decide +kernel
theorem dX5_step_43 : decode cX5_step 43 = .ok (.bipush 6, 2) := by decide +kernel
theorem dX5_step_45 : decode cX5_step 45 = .ok (.if_icmp .ge 32, 3) := by decide +kernel
theorem dX5_step_48 : decode cX5_step 48 = .ok (.aload_n 0, 1) := by decide +kernel
theorem dX5_step_49 : decode cX5_step 49 = .ok (.getfield 13, 3) := by decide +kernel
theorem dX5_step_52 : decode cX5_step 52 = .ok (.iload_n 3, 1) := by decide +kernel
theorem dX5_step_53 : decode cX5_step 53 = .ok (.baload, 1) := by decide +kernel
theorem dX5_step_54 : decode cX5_step 54 = .ok (.ifCond .eq 17, 3) := by decide +kernel
theorem dX5_step_57 : decode cX5_step 57 = .ok (.aload_n 0, 1) := by decide +kernel
theorem dX5_step_58 : decode cX5_step 58 = .ok (.getfield 17, 3) := by decide +kernel
theorem dX5_step_61 : decode cX5_step 61 = .ok (.iload_n 3, 1) := by decide +kernel
theorem dX5_step_62 : decode cX5_step 62 = .ok (.baload, 1) := by decide +kernel
theorem dX5_step_63 : decode cX5_step 63 = .ok (.ifCond .eq 8, 3) := by decide +kernel
theorem dX5_step_66 : decode cX5_step 66 = .ok (.aload_n 0, 1) := by decide +kernel
theorem dX5_step_67 : decode cX5_step 67 = .ok (.iload_n 3, 1) := by decide +kernel
theorem dX5_step_68 : decode cX5_step 68 = .ok (.invokevirtual 144, 3) := by decide +kernel
theorem dX5_step_71 : decode cX5_step 71 = .ok (.iinc 3 1, 3) := by decide +kernel
theorem dX5_step_74 : decode cX5_step 74 = .ok (.goto (-32), 3) := by decide +kernel
theorem dX5_step_77 : decode cX5_step 77 = .ok (.iconst 0, 1) := by decide +kernel
theorem dX5_step_78 : decode cX5_step 78 = .ok (.istore_n 3, 1) := by decide +kernel
theorem dX5_step_79 : decode cX5_step 79 = .ok (.iload_n 3, 1) := by decide +kernel
theorem dX5_step_80 : decode cX5_step 80 = .ok (.bipush 6, 2) := by decide +kernel
theorem dX5_step_82 : decode cX5_step 82 = .ok (.if_icmp .ge 64, 3) := by decide +kernel
theorem dX5_step_85 : decode cX5_step 85 = .ok (.iload_n 3, 1) := by decide +kernel
theorem dX5_step_86 : decode cX5_step 86 = .ok (.iconst 1, 1) := by decide +kernel
theorem dX5_step_87 : decode cX5_step 87 = .ok (.iadd, 1) := by decide +kernel
theorem dX5_step_88 : decode cX5_step 88 = .ok (.istore 4, 2) := by decide +kernel
theorem dX5_step_90 : decode cX5_step 90 = .ok (.iload 4, 2) := by decide +kernel
theorem dX5_step_92 : decode cX5_step 92 = .ok (.bipush 6, 2) := by decide +kernel
theorem dX5_step_94 : decode cX5_step 94 = .ok (.if_icmp .ge 46, 3) := by decide +kernel
theorem dX5_step_97 : decode cX5_step 97 = .ok (.aload_n 0, 1) := by decide +kernel
theorem dX5_step_98 : decode cX5_step 98 = .ok (.getfield 13, 3) := by decide +kernel
theorem dX5_step_101 : decode cX5_step 101 = .ok (.iload_n 3, 1) := by decide +kernel
theorem dX5_step_102 : decode cX5_step 102 = .ok (.baload, 1) := by decide +kernel
theorem dX5_step_103 : decode cX5_step 103 = .ok (.ifCond .eq 31, 3) := by decide +kernel
theorem dX5_step_106 : decode cX5_step 106 = .ok (.aload_n 0, 1) := by decide +kernel
theorem dX5_step_107 : decode cX5_step 107 = .ok (.getfield 13, 3) := by decide +kernel
theorem dX5_step_110 : decode cX5_step 110 = .ok (.iload 4, 2) := by decide +kernel
theorem dX5_step_112 : decode cX5_step 112 = .ok (.baload, 1) := by decide +kernel
theorem dX5_step_113 : decode cX5_step 113 = .ok (.ifCond .eq 21, 3) := by decide +kernel
theorem dX5_step_116 : decode cX5_step 116 = .ok (.aload_n 0, 1) := by decide +kernel
theorem dX5_step_117 : decode cX5_step 117 = .ok (.iload_n 3, 1) := by decide +kernel
theorem dX5_step_118 : decode cX5_step 118 = .ok (.iload 4, 2) := by decide +kernel
theorem dX5_step_120 : decode cX5_step 120 = .ok (.invokevirtual 147, 3) := by decide +kernel
theorem dX5_step_123 : decode cX5_step 123 = .ok (.aload_n 0, 1) := by decide +kernel
theorem dX5_step_124 : decode cX5_step 124 = .ok (.bipush 6, 2) := by decide +kernel
theorem dX5_step_126 : decode cX5_step 126 = .ok (.iload_n 3, 1) := by decide +kernel
theorem dX5_step_127 : decode cX5_step 127 = .ok (.imul, 1) := by decide +kernel
theorem dX5_step_128 : decode cX5_step 128 = .ok (.iload 4, 2) := by decide +kernel
theorem dX5_step_130 : decode cX5_step 130 = .ok (.iadd, 1) := by decide +kernel
theorem dX5_step_131 : decode cX5_step 131 = .ok (.invokevirtual 150, 3) := by decide +kernel
theorem dX5_step_134 : decode cX5_step 134 = .ok (.iinc 4 1, 3) := by decide +kernel
theorem dX5_step_137 : decode cX5_step 137 = .ok (.goto (-47), 3) := by decide +kernel
theorem dX5_step_140 : decode cX5_step 140 = .ok (.iinc 3 1, 3) := by decide +kernel
theorem dX5_step_143 : decode cX5_step 143 = .ok (.goto (-64), 3) := by decide +kernel
theorem dX5_step_146 : decode cX5_step 146 = .ok (.aload_n 0, 1) := by decide +kernel
theorem dX5_step_147 : decode cX5_step 147 = .ok (.getfield 42, 3) := by decide +kernel
theorem dX5_step_150 : decode cX5_step 150 = .ok (.iconst 4, 1) := by decide +kernel
theorem dX5_step_151 : decode cX5_step 151 = .ok (.dup2, 1) := by decide +kernel
theorem dX5_step_152 : decode cX5_step 152 = .ok (.iaload, 1) := by decide +kernel
theorem dX5_step_153 : decode cX5_step 153 = .ok (.iconst 1, 1) := by decide +kernel
theorem dX5_step_154 : decode cX5_step 154 = .ok (.iadd, 1) := by decide +kernel
theorem dX5_step_155 : decode cX5_step 155 = .ok (.iastore, 1) := by decide +kernel
theorem dX5_step_156 : decode cX5_step 156 = .ok (.iinc 2 1, 3) := by decide +kernel
theorem dX5_step_159 : decode cX5_step 159 = .ok (.goto (-128), 3) := by decide +kernel
theorem dX5_step_162 : decode cX5_step 162 = .ok (.iconst 0, 1) := by decide +kernel
theorem dX5_step_163 : decode cX5_step 163 = .ok (.istore_n 2, 1) := by decide +kernel
theorem dX5_step_164 : decode cX5_step 164 = .ok (.iconst 0, 1) := by decide +kernel
theorem dX5_step_165 : decode cX5_step 165 = .ok (.istore_n 3, 1) := by decide +kernel
theorem dX5_step_166 : decode cX5_step 166 = .ok (.iload_n 3, 1) := by decide +kernel
theorem dX5_step_167 : decode cX5_step 167 = .ok (.bipush 36, 2) := by decide +kernel
theorem dX5_step_169 : decode cX5_step 169 = .ok (.if_icmp .ge 26, 3) := by decide +kernel
theorem dX5_step_172 : decode cX5_step 172 = .ok (.aload_n 0, 1) := by decide +kernel
theorem dX5_step_173 : decode cX5_step 173 = .ok (.getfield 23, 3) := by decide +kernel
theorem dX5_step_176 : decode cX5_step 176 = .ok (.iload_n 3, 1) := by decide +kernel
theorem dX5_step_177 : decode cX5_step 177 = .ok (.iaload, 1) := by decide +kernel
theorem dX5_step_178 : decode cX5_step 178 = .ok (.ifCond .le 9, 3) := by decide +kernel
theorem dX5_step_181 : decode cX5_step 181 = .ok (.iload_n 2, 1) := by decide +kernel
theorem dX5_step_182 : decode cX5_step 182 = .ok (.iconst 1, 1) := by decide +kernel
theorem dX5_step_183 : decode cX5_step 183 = .ok (.iadd, 1) := by decide +kernel
theorem dX5_step_184 : decode cX5_step 184 = .ok (.goto 4, 3) := by decide +kernel
theorem dX5_step_187 : decode cX5_step 187 = .ok (.iload_n 2, 1) := by decide +kernel
theorem dX5_step_188 : decode cX5_step 188 = .ok (.istore_n 2, 1) := by decide +kernel
theorem dX5_step_189 : decode cX5_step 189 = .ok (.iinc 3 1, 3) := by decide +kernel
theorem dX5_step_192 : decode cX5_step 192 = .ok (.goto (-26), 3) := by decide +kernel
theorem dX5_step_195 : decode cX5_step 195 = .ok (.iload_n 2, 1) := by decide +kernel
theorem dX5_step_196 : decode cX5_step 196 = .ok (.ireturn, 1) := by decide +kernel
theorem dX5_told_0 : decode cX5_told 0 = .ok (.aload_n 0, 1) := by decide +kernel
theorem dX5_told_1 : decode cX5_told 1 = .ok (.aload_n 0, 1) := by decide +kernel
theorem dX5_told_2 : decode cX5_told 2 = .ok (.iload_n 1, 1) := by decide +kernel
theorem dX5_told_3 : decode cX5_told 3 = .ok (.invokevirtual 73, 3) := by decide +kernel
theorem dX5_told_6 : decode cX5_told 6 = .ok (.ifCond .eq 13, 3) := by decide +kernel
theorem dX5_told_9 : decode cX5_told 9 = .ok (.iload_n 2, 1) := by decide +kernel
theorem dX5_told_10 : decode cX5_told 10 = .ok (.ifCond .lt 9, 3) := by decide +kernel
theorem dX5_told_13 : decode cX5_told 13 = .ok (.iload_n 2, 1) := by decide +kernel
theorem dX5_told_14 : decode cX5_told 14 = .ok (.bipush 6, 2) := by decide +kernel
theorem dX5_told_16 : decode cX5_told 16 = .ok (.if_icmp .le 7, 3) := by decide +kernel
theorem dX5_told_19 : decode cX5_told 19 = .ok (.iconst 1, 1) := by decide +kernel
theorem dX5_told_20 : decode cX5_told 20 = .ok (.goto 4, 3) := by decide +kernel
theorem dX5_told_23 : decode cX5_told 23 = .ok (.iconst 0, 1) := by decide +kernel
theorem dX5_told_24 : decode cX5_told 24 = .ok (.putfield 45, 3) := by decide +kernel
theorem dX5_told_27 : decode cX5_told 27 = .ok (.aload_n 0, 1) := by decide +kernel
theorem dX5_told_28 : decode cX5_told 28 = .ok (.getfield 45, 3) := by decide +kernel
theorem dX5_told_31 : decode cX5_told 31 = .ok (.ifCond .le 5, 3) := by decide +kernel
theorem dX5_told_34 : decode cX5_told 34 = .ok (.iconst 0, 1) := by decide +kernel
theorem dX5_told_35 : decode cX5_told 35 = .ok (.ireturn, 1) := by decide +kernel
theorem dX5_told_36 : decode cX5_told 36 = .ok (.iload_n 2, 1) := by decide +kernel
theorem dX5_told_37 : decode cX5_told 37 = .ok (.bipush 6, 2) := by decide +kernel
theorem dX5_told_39 : decode cX5_told 39 = .ok (.if_icmp .ge 17, 3) := by decide +kernel
theorem dX5_told_42 : decode cX5_told 42 = .ok (.aload_n 0, 1) := by decide +kernel
theorem dX5_told_43 : decode cX5_told 43 = .ok (.getfield 20, 3) := by decide +kernel
theorem dX5_told_46 : decode cX5_told 46 = .ok (.bipush 6, 2) := by decide +kernel
theorem dX5_told_48 : decode cX5_told 48 = .ok (.iload_n 1, 1) := by decide +kernel
theorem dX5_told_49 : decode cX5_told 49 = .ok (.imul, 1) := by decide +kernel
theorem dX5_told_50 : decode cX5_told 50 = .ok (.iload_n 2, 1) := by decide +kernel
theorem dX5_told_51 : decode cX5_told 51 = .ok (.iadd, 1) := by decide +kernel
theorem dX5_told_52 : decode cX5_told 52 = .ok (.iaload, 1) := by decide +kernel
theorem dX5_told_53 : decode cX5_told 53 = .ok (.goto 17, 3) := by decide +kernel
theorem dX5_told_56 : decode cX5_told 56 = .ok (.aload_n 0, 1) := by decide +kernel
theorem dX5_told_57 : decode cX5_told 57 = .ok (.getfield 17, 3) := by decide +kernel
theorem dX5_told_60 : decode cX5_told 60 = .ok (.iload_n 1, 1) := by decide +kernel
theorem dX5_told_61 : decode cX5_told 61 = .ok (.baload, 1) := by decide +kernel
theorem dX5_told_62 : decode cX5_told 62 = .ok (.ifCond .eq 7, 3) := by decide +kernel
theorem dX5_told_65 : decode cX5_told 65 = .ok (.iconst 1, 1) := by decide +kernel
theorem dX5_told_66 : decode cX5_told 66 = .ok (.goto 4, 3) := by decide +kernel
theorem dX5_told_69 : decode cX5_told 69 = .ok (.iconst 0, 1) := by decide +kernel
theorem dX5_told_70 : decode cX5_told 70 = .ok (.ireturn, 1) := by decide +kernel
theorem dX5_forFirst_0 : decode cX5_forFirst 0 = .ok (.iload_n 0, 1) := by decide +kernel
theorem dX5_forFirst_1 : decode cX5_forFirst 1 = .ok (.ifCond .ne 7, 3) := by decide +kernel
theorem dX5_forFirst_4 : decode cX5_forFirst 4 = .ok (.iconst 0, 1) := by decide +kernel
theorem dX5_forFirst_5 : decode cX5_forFirst 5 = .ok (.goto 14, 3) := by decide +kernel
theorem dX5_forFirst_8 : decode cX5_forFirst 8 = .ok (.iload_n 1, 1) := by decide +kernel
theorem dX5_forFirst_9 : decode cX5_forFirst 9 = .ok (.ifCond .eq 9, 3) := by decide +kernel
theorem dX5_forFirst_12 : decode cX5_forFirst 12 = .ok (.iconst 3, 1) := by decide +kernel
theorem dX5_forFirst_13 : decode cX5_forFirst 13 = .ok (.iload_n 0, 1) := by decide +kernel
theorem dX5_forFirst_14 : decode cX5_forFirst 14 = .ok (.isub, 1) := by decide +kernel
theorem dX5_forFirst_15 : decode cX5_forFirst 15 = .ok (.goto 4, 3) := by decide +kernel
theorem dX5_forFirst_18 : decode cX5_forFirst 18 = .ok (.iload_n 0, 1) := by decide +kernel
theorem dX5_forFirst_19 : decode cX5_forFirst 19 = .ok (.ireturn, 1) := by decide +kernel
theorem dX5_pair_0 : decode cX5_pair 0 = .ok (.aload_n 0, 1) := by decide +kernel
theorem dX5_pair_1 : decode cX5_pair 1 = .ok (.aload_n 0, 1) := by decide +kernel
theorem dX5_pair_2 : decode cX5_pair 2 = .ok (.iload_n 1, 1) := by decide +kernel
theorem dX5_pair_3 : decode cX5_pair 3 = .ok (.invokevirtual 73, 3) := by decide +kernel
theorem dX5_pair_6 : decode cX5_pair 6 = .ok (.ifCond .eq 26, 3) := by decide +kernel
theorem dX5_pair_9 : decode cX5_pair 9 = .ok (.aload_n 0, 1) := by decide +kernel
theorem dX5_pair_10 : decode cX5_pair 10 = .ok (.iload_n 2, 1) := by decide +kernel
theorem dX5_pair_11 : decode cX5_pair 11 = .ok (.invokevirtual 73, 3) := by decide +kernel
theorem dX5_pair_14 : decode cX5_pair 14 = .ok (.ifCond .eq 18, 3) := by decide +kernel
theorem dX5_pair_17 : decode cX5_pair 17 = .ok (.iload_n 1, 1) := by decide +kernel
theorem dX5_pair_18 : decode cX5_pair 18 = .ok (.iload_n 2, 1) := by decide +kernel
theorem dX5_pair_19 : decode cX5_pair 19 = .ok (.if_icmp .eq 13, 3) := by decide +kernel
theorem dX5_pair_22 : decode cX5_pair 22 = .ok (.iload_n 3, 1) := by decide +kernel
theorem dX5_pair_23 : decode cX5_pair 23 = .ok (.ifCond .lt 9, 3) := by decide +kernel
theorem dX5_pair_26 : decode cX5_pair 26 = .ok (.iload_n 3, 1) := by decide +kernel
theorem dX5_pair_27 : decode cX5_pair 27 = .ok (.bipush 10, 2) := by decide +kernel
theorem dX5_pair_29 : decode cX5_pair 29 = .ok (.if_icmp .le 7, 3) := by decide +kernel
theorem dX5_pair_32 : decode cX5_pair 32 = .ok (.iconst 1, 1) := by decide +kernel
theorem dX5_pair_33 : decode cX5_pair 33 = .ok (.goto 4, 3) := by decide +kernel
theorem dX5_pair_36 : decode cX5_pair 36 = .ok (.iconst 0, 1) := by decide +kernel
theorem dX5_pair_37 : decode cX5_pair 37 = .ok (.putfield 45, 3) := by decide +kernel
theorem dX5_pair_40 : decode cX5_pair 40 = .ok (.aload_n 0, 1) := by decide +kernel
theorem dX5_pair_41 : decode cX5_pair 41 = .ok (.getfield 45, 3) := by decide +kernel
theorem dX5_pair_44 : decode cX5_pair 44 = .ok (.ifCond .le 5, 3) := by decide +kernel
theorem dX5_pair_47 : decode cX5_pair 47 = .ok (.iconst 0, 1) := by decide +kernel
theorem dX5_pair_48 : decode cX5_pair 48 = .ok (.ireturn, 1) := by decide +kernel
theorem dX5_pair_49 : decode cX5_pair 49 = .ok (.aload_n 0, 1) := by decide +kernel
theorem dX5_pair_50 : decode cX5_pair 50 = .ok (.iload_n 1, 1) := by decide +kernel
theorem dX5_pair_51 : decode cX5_pair 51 = .ok (.iload_n 2, 1) := by decide +kernel
theorem dX5_pair_52 : decode cX5_pair 52 = .ok (.invokevirtual 147, 3) := by decide +kernel
theorem dX5_pair_55 : decode cX5_pair 55 = .ok (.iload_n 1, 1) := by decide +kernel
theorem dX5_pair_56 : decode cX5_pair 56 = .ok (.iload_n 2, 1) := by decide +kernel
theorem dX5_pair_57 : decode cX5_pair 57 = .ok (.invokestatic 53, 3) := by decide +kernel
theorem dX5_pair_60 : decode cX5_pair 60 = .ok (.istore 4, 2) := by decide +kernel
theorem dX5_pair_62 : decode cX5_pair 62 = .ok (.iload_n 3, 1) := by decide +kernel
theorem dX5_pair_63 : decode cX5_pair 63 = .ok (.tableswitch 234 0 9 #[53, 66, 72, 93, 101, 109, 125, 166, 187, 205], 53) := by decide +kernel
theorem dX5_pair_116 : decode cX5_pair 116 = .ok (.aload_n 0, 1) := by decide +kernel
theorem dX5_pair_117 : decode cX5_pair 117 = .ok (.invokevirtual 130, 3) := by decide +kernel
theorem dX5_pair_120 : decode cX5_pair 120 = .ok (.ifCond .eq 7, 3) := by decide +kernel
theorem dX5_pair_123 : decode cX5_pair 123 = .ok (.iconst 1, 1) := by decide +kernel
theorem dX5_pair_124 : decode cX5_pair 124 = .ok (.goto 4, 3) := by decide +kernel
theorem dX5_pair_127 : decode cX5_pair 127 = .ok (.iconst 0, 1) := by decide +kernel
theorem dX5_pair_128 : decode cX5_pair 128 = .ok (.ireturn, 1) := by decide +kernel
theorem dX5_pair_129 : decode cX5_pair 129 = .ok (.aload_n 0, 1) := by decide +kernel
theorem dX5_pair_130 : decode cX5_pair 130 = .ok (.getfield 104, 3) := by decide +kernel
theorem dX5_pair_133 : decode cX5_pair 133 = .ok (.l2i, 1) := by decide +kernel
theorem dX5_pair_134 : decode cX5_pair 134 = .ok (.ireturn, 1) := by decide +kernel
theorem dX5_pair_135 : decode cX5_pair 135 = .ok (.aload_n 0, 1) := by decide +kernel
theorem dX5_pair_136 : decode cX5_pair 136 = .ok (.getfield 23, 3) := by decide +kernel
theorem dX5_pair_139 : decode cX5_pair 139 = .ok (.iload 4, 2) := by decide +kernel
theorem dX5_pair_141 : decode cX5_pair 141 = .ok (.iaload, 1) := by decide +kernel
theorem dX5_pair_142 : decode cX5_pair 142 = .ok (.iload_n 1, 1) := by decide +kernel
theorem dX5_pair_143 : decode cX5_pair 143 = .ok (.iload_n 2, 1) := by decide +kernel
theorem dX5_pair_144 : decode cX5_pair 144 = .ok (.if_icmp .le 7, 3) := by decide +kernel
theorem dX5_pair_147 : decode cX5_pair 147 = .ok (.iconst 1, 1) := by decide +kernel
theorem dX5_pair_148 : decode cX5_pair 148 = .ok (.goto 4, 3) := by decide +kernel
theorem dX5_pair_151 : decode cX5_pair 151 = .ok (.iconst 0, 1) := by decide +kernel
theorem dX5_pair_152 : decode cX5_pair 152 = .ok (.invokestatic 153, 3) := by decide +kernel
theorem dX5_pair_155 : decode cX5_pair 155 = .ok (.ireturn, 1) := by decide +kernel
theorem dX5_pair_156 : decode cX5_pair 156 = .ok (.aload_n 0, 1) := by decide +kernel
theorem dX5_pair_157 : decode cX5_pair 157 = .ok (.getfield 26, 3) := by decide +kernel
theorem dX5_pair_160 : decode cX5_pair 160 = .ok (.iload 4, 2) := by decide +kernel
theorem dX5_pair_162 : decode cX5_pair 162 = .ok (.iaload, 1) := by decide +kernel
theorem dX5_pair_163 : decode cX5_pair 163 = .ok (.ireturn, 1) := by decide +kernel
theorem dX5_pair_164 : decode cX5_pair 164 = .ok (.aload_n 0, 1) := by decide +kernel
theorem dX5_pair_165 : decode cX5_pair 165 = .ok (.getfield 29, 3) := by decide +kernel
theorem dX5_pair_168 : decode cX5_pair 168 = .ok (.iload 4, 2) := by decide +kernel
theorem dX5_pair_170 : decode cX5_pair 170 = .ok (.iaload, 1) := by decide +kernel
theorem dX5_pair_171 : decode cX5_pair 171 = .ok (.ireturn, 1) := by decide +kernel
theorem dX5_pair_172 : decode cX5_pair 172 = .ok (.aload_n 0, 1) := by decide +kernel
theorem dX5_pair_173 : decode cX5_pair 173 = .ok (.getfield 32, 3) := by decide +kernel
theorem dX5_pair_176 : decode cX5_pair 176 = .ok (.iload 4, 2) := by decide +kernel
theorem dX5_pair_178 : decode cX5_pair 178 = .ok (.baload, 1) := by decide +kernel
theorem dX5_pair_179 : decode cX5_pair 179 = .ok (.ifCond .eq 7, 3) := by decide +kernel
theorem dX5_pair_182 : decode cX5_pair 182 = .ok (.iconst 1, 1) := by decide +kernel
theorem dX5_pair_183 : decode cX5_pair 183 = .ok (.goto 4, 3) := by decide +kernel
theorem dX5_pair_186 : decode cX5_pair 186 = .ok (.iconst 0, 1) := by decide +kernel
theorem dX5_pair_187 : decode cX5_pair 187 = .ok (.ireturn, 1) := by decide +kernel
theorem dX5_pair_188 : decode cX5_pair 188 = .ok (.aload_n 0, 1) := by decide +kernel
theorem dX5_pair_189 : decode cX5_pair 189 = .ok (.getfield 23, 3) := by decide +kernel
theorem dX5_pair_192 : decode cX5_pair 192 = .ok (.iload 4, 2) := by decide +kernel
theorem dX5_pair_194 : decode cX5_pair 194 = .ok (.iaload, 1) := by decide +kernel
theorem dX5_pair_195 : decode cX5_pair 195 = .ok (.ifCond .ne 7, 3) := by decide +kernel
theorem dX5_pair_198 : decode cX5_pair 198 = .ok (.iconst 0, 1) := by decide +kernel
theorem dX5_pair_199 : decode cX5_pair 199 = .ok (.goto 29, 3) := by decide +kernel
theorem dX5_pair_202 : decode cX5_pair 202 = .ok (.aload_n 0, 1) := by decide +kernel
theorem dX5_pair_203 : decode cX5_pair 203 = .ok (.aload_n 0, 1) := by decide +kernel
theorem dX5_pair_204 : decode cX5_pair 204 = .ok (.getfield 23, 3) := by decide +kernel
theorem dX5_pair_207 : decode cX5_pair 207 = .ok (.iload 4, 2) := by decide +kernel
theorem dX5_pair_209 : decode cX5_pair 209 = .ok (.iaload, 1) := by decide +kernel
theorem dX5_pair_210 : decode cX5_pair 210 = .ok (.aload_n 0, 1) := by decide +kernel
theorem dX5_pair_211 : decode cX5_pair 211 = .ok (.getfield 26, 3) := by decide +kernel
theorem dX5_pair_214 : decode cX5_pair 214 = .ok (.iload 4, 2) := by decide +kernel
theorem dX5_pair_216 : decode cX5_pair 216 = .ok (.iaload, 1) := by decide +kernel
theorem dX5_pair_217 : decode cX5_pair 217 = .ok (.aload_n 0, 1) := by decide +kernel
theorem dX5_pair_218 : decode cX5_pair 218 = .ok (.getfield 29, 3) := by decide +kernel
theorem dX5_pair_221 : decode cX5_pair 221 = .ok (.iload 4, 2) := by decide +kernel
theorem dX5_pair_223 : decode cX5_pair 223 = .ok (.iaload, 1) := by decide +kernel
theorem dX5_pair_224 : decode cX5_pair 224 = .ok (.invokevirtual 119, 3) := by decide +kernel
theorem dX5_pair_227 : decode cX5_pair 227 = .ok (.l2i, 1) := by decide +kernel
theorem dX5_pair_228 : decode cX5_pair 228 = .ok (.ireturn, 1) := by decide +kernel
theorem dX5_pair_229 : decode cX5_pair 229 = .ok (.aload_n 0, 1) := by decide +kernel
theorem dX5_pair_230 : decode cX5_pair 230 = .ok (.aload_n 0, 1) := by decide +kernel
theorem dX5_pair_231 : decode cX5_pair 231 = .ok (.invokevirtual 134, 3) := by decide +kernel
theorem dX5_pair_234 : decode cX5_pair 234 = .ok (.aload_n 0, 1) := by decide +kernel
theorem dX5_pair_235 : decode cX5_pair 235 = .ok (.aload_n 0, 1) := by decide +kernel
theorem dX5_pair_236 : decode cX5_pair 236 = .ok (.invokevirtual 134, 3) := by decide +kernel
theorem dX5_pair_239 : decode cX5_pair 239 = .ok (.iconst 1, 1) := by decide +kernel
theorem dX5_pair_240 : decode cX5_pair 240 = .ok (.iconst 0, 1) := by decide +kernel
theorem dX5_pair_241 : decode cX5_pair 241 = .ok (.invokevirtual 123, 3) := by decide +kernel
theorem dX5_pair_244 : decode cX5_pair 244 = .ok (.iconst 0, 1) := by decide +kernel
theorem dX5_pair_245 : decode cX5_pair 245 = .ok (.invokevirtual 119, 3) := by decide +kernel
theorem dX5_pair_248 : decode cX5_pair 248 = .ok (.l2i, 1) := by decide +kernel
theorem dX5_pair_249 : decode cX5_pair 249 = .ok (.ireturn, 1) := by decide +kernel
theorem dX5_pair_250 : decode cX5_pair 250 = .ok (.aload_n 0, 1) := by decide +kernel
theorem dX5_pair_251 : decode cX5_pair 251 = .ok (.invokevirtual 134, 3) := by decide +kernel
theorem dX5_pair_254 : decode cX5_pair 254 = .ok (.iload_n 1, 1) := by decide +kernel
theorem dX5_pair_255 : decode cX5_pair 255 = .ok (.iload_n 2, 1) := by decide +kernel
theorem dX5_pair_256 : decode cX5_pair 256 = .ok (.if_icmp .le 7, 3) := by decide +kernel
theorem dX5_pair_259 : decode cX5_pair 259 = .ok (.iconst 1, 1) := by decide +kernel
theorem dX5_pair_260 : decode cX5_pair 260 = .ok (.goto 4, 3) := by decide +kernel
theorem dX5_pair_263 : decode cX5_pair 263 = .ok (.iconst 0, 1) := by decide +kernel
theorem dX5_pair_264 : decode cX5_pair 264 = .ok (.invokestatic 153, 3) := by decide +kernel
theorem dX5_pair_267 : decode cX5_pair 267 = .ok (.ireturn, 1) := by decide +kernel
theorem dX5_pair_268 : decode cX5_pair 268 = .ok (.aload_n 0, 1) := by decide +kernel
theorem dX5_pair_269 : decode cX5_pair 269 = .ok (.getfield 35, 3) := by decide +kernel
theorem dX5_pair_272 : decode cX5_pair 272 = .ok (.iload 4, 2) := by decide +kernel
theorem dX5_pair_274 : decode cX5_pair 274 = .ok (.laload, 1) := by decide +kernel
theorem dX5_pair_275 : decode cX5_pair 275 = .ok (.ldc2_w 157, 3) := by decide +kernel
theorem dX5_pair_278 : decode cX5_pair 278 = .ok (.lcmp, 1) := by decide +kernel
theorem dX5_pair_279 : decode cX5_pair 279 = .ok (.ifCond .le 9, 3) := by decide +kernel
theorem dX5_pair_282 : decode cX5_pair 282 = .ok (.ldc2_w 157, 3) := by decide +kernel
theorem dX5_pair_285 : decode cX5_pair 285 = .ok (.goto 10, 3) := by decide +kernel
theorem dX5_pair_288 : decode cX5_pair 288 = .ok (.aload_n 0, 1) := by decide +kernel
theorem dX5_pair_289 : decode cX5_pair 289 = .ok (.getfield 35, 3) := by decide +kernel
theorem dX5_pair_292 : decode cX5_pair 292 = .ok (.iload 4, 2) := by decide +kernel
theorem dX5_pair_294 : decode cX5_pair 294 = .ok (.laload, 1) := by decide +kernel
theorem dX5_pair_295 : decode cX5_pair 295 = .ok (.l2i, 1) := by decide +kernel
theorem dX5_pair_296 : decode cX5_pair 296 = .ok (.ireturn, 1) := by decide +kernel
theorem dX5_pair_297 : decode cX5_pair 297 = .ok (.aload_n 0, 1) := by decide +kernel
theorem dX5_pair_298 : decode cX5_pair 298 = .ok (.getfield 39, 3) := by decide +kernel
theorem dX5_pair_301 : decode cX5_pair 301 = .ok (.iload 4, 2) := by decide +kernel
theorem dX5_pair_303 : decode cX5_pair 303 = .ok (.iaload, 1) := by decide +kernel
theorem dX5_pair_304 : decode cX5_pair 304 = .ok (.ireturn, 1) := by decide +kernel
theorem dX5_all_0 : decode cX5_all 0 = .ok (.aload_n 0, 1) := by decide +kernel
theorem dX5_all_1 : decode cX5_all 1 = .ok (.iload_n 1, 1) := by decide +kernel
theorem dX5_all_2 : decode cX5_all 2 = .ok (.ifCond .lt 8, 3) := by decide +kernel
theorem dX5_all_5 : decode cX5_all 5 = .ok (.iload_n 1, 1) := by decide +kernel
theorem dX5_all_6 : decode cX5_all 6 = .ok (.iconst 4, 1) := by decide +kernel
theorem dX5_all_7 : decode cX5_all 7 = .ok (.if_icmp .le 7, 3) := by decide +kernel
theorem dX5_all_10 : decode cX5_all 10 = .ok (.iconst 1, 1) := by decide +kernel
theorem dX5_all_11 : decode cX5_all 11 = .ok (.goto 4, 3) := by decide +kernel
theorem dX5_all_14 : decode cX5_all 14 = .ok (.iconst 0, 1) := by decide +kernel
theorem dX5_all_15 : decode cX5_all 15 = .ok (.putfield 45, 3) := by decide +kernel
theorem dX5_all_18 : decode cX5_all 18 = .ok (.aload_n 0, 1) := by decide +kernel
theorem dX5_all_19 : decode cX5_all 19 = .ok (.getfield 45, 3) := by decide +kernel
theorem dX5_all_22 : decode cX5_all 22 = .ok (.ifCond .le 7, 3) := by decide +kernel
theorem dX5_all_25 : decode cX5_all 25 = .ok (.iconst 0, 1) := by decide +kernel
theorem dX5_all_26 : decode cX5_all 26 = .ok (.goto 9, 3) := by decide +kernel
theorem dX5_all_29 : decode cX5_all 29 = .ok (.aload_n 0, 1) := by decide +kernel
theorem dX5_all_30 : decode cX5_all 30 = .ok (.getfield 42, 3) := by decide +kernel
theorem dX5_all_33 : decode cX5_all 33 = .ok (.iload_n 1, 1) := by decide +kernel
theorem dX5_all_34 : decode cX5_all 34 = .ok (.iaload, 1) := by decide +kernel
theorem dX5_all_35 : decode cX5_all 35 = .ok (.ireturn, 1) := by decide +kernel
theorem dJ9_abs_0f7a4_0 : decode cJ9_abs_0f7a4 0 = .ok (.iload_n 0, 1) := by decide +kernel
theorem dJ9_abs_0f7a4_1 : decode cJ9_abs_0f7a4 1 = .ok (.ifCond .ge 8, 3) := by decide +kernel
theorem dJ9_abs_0f7a4_4 : decode cJ9_abs_0f7a4 4 = .ok (.iload_n 0, 1) := by decide +kernel
theorem dJ9_abs_0f7a4_5 : decode cJ9_abs_0f7a4 5 = .ok (.ineg, 1) := by decide +kernel
theorem dJ9_abs_0f7a4_6 : decode cJ9_abs_0f7a4 6 = .ok (.goto 4, 3) := by decide +kernel
theorem dJ9_abs_0f7a4_9 : decode cJ9_abs_0f7a4 9 = .ok (.iload_n 0, 1) := by decide +kernel
theorem dJ9_abs_0f7a4_10 : decode cJ9_abs_0f7a4 10 = .ok (.ireturn, 1) := by decide +kernel
theorem dJ9_max_7cf53_0 : decode cJ9_max_7cf53 0 = .ok (.iload_n 0, 1) := by decide +kernel
theorem dJ9_max_7cf53_1 : decode cJ9_max_7cf53 1 = .ok (.iload_n 1, 1) := by decide +kernel
theorem dJ9_max_7cf53_2 : decode cJ9_max_7cf53 2 = .ok (.if_icmp .lt 7, 3) := by decide +kernel
theorem dJ9_max_7cf53_5 : decode cJ9_max_7cf53 5 = .ok (.iload_n 0, 1) := by decide +kernel
theorem dJ9_max_7cf53_6 : decode cJ9_max_7cf53 6 = .ok (.goto 4, 3) := by decide +kernel
theorem dJ9_max_7cf53_9 : decode cJ9_max_7cf53 9 = .ok (.iload_n 1, 1) := by decide +kernel
theorem dJ9_max_7cf53_10 : decode cJ9_max_7cf53 10 = .ok (.ireturn, 1) := by decide +kernel
theorem dJ9_min_7cf53_0 : decode cJ9_min_7cf53 0 = .ok (.iload_n 0, 1) := by decide +kernel
theorem dJ9_min_7cf53_1 : decode cJ9_min_7cf53 1 = .ok (.iload_n 1, 1) := by decide +kernel
theorem dJ9_min_7cf53_2 : decode cJ9_min_7cf53 2 = .ok (.if_icmp .gt 7, 3) := by decide +kernel
theorem dJ9_min_7cf53_5 : decode cJ9_min_7cf53 5 = .ok (.iload_n 0, 1) := by decide +kernel
theorem dJ9_min_7cf53_6 : decode cJ9_min_7cf53 6 = .ok (.goto 4, 3) := by decide +kernel
theorem dJ9_min_7cf53_9 : decode cJ9_min_7cf53 9 = .ok (.iload_n 1, 1) := by decide +kernel
theorem dJ9_min_7cf53_10 : decode cJ9_min_7cf53 10 = .ok (.ireturn, 1) := by decide +kernel
theorem dJ9_min_f86c9_0 : decode cJ9_min_f86c9 0 = .ok (.lload_n 0, 1) := by decide +kernel
theorem dJ9_min_f86c9_1 : decode cJ9_min_f86c9 1 = .ok (.lload_n 2, 1) := by decide +kernel
theorem dJ9_min_f86c9_2 : decode cJ9_min_f86c9 2 = .ok (.lcmp, 1) := by decide +kernel
theorem dJ9_min_f86c9_3 : decode cJ9_min_f86c9 3 = .ok (.ifCond .gt 7, 3) := by decide +kernel
theorem dJ9_min_f86c9_6 : decode cJ9_min_f86c9 6 = .ok (.lload_n 0, 1) := by decide +kernel
theorem dJ9_min_f86c9_7 : decode cJ9_min_f86c9 7 = .ok (.goto 4, 3) := by decide +kernel
theorem dJ9_min_f86c9_10 : decode cJ9_min_f86c9 10 = .ok (.lload_n 2, 1) := by decide +kernel
theorem dJ9_min_f86c9_11 : decode cJ9_min_f86c9 11 = .ok (.lreturn, 1) := by decide +kernel
theorem dL_set_0 : decode cL_set 0 = .ok (.aload_n 3, 1) := by decide +kernel
theorem dL_set_1 : decode cL_set 1 = .ok (.iconst 0, 1) := by decide +kernel
theorem dL_set_2 : decode cL_set 2 = .ok (.aload_n 0, 1) := by decide +kernel
theorem dL_set_3 : decode cL_set 3 = .ok (.iload_n 1, 1) := by decide +kernel
theorem dL_set_4 : decode cL_set 4 = .ok (.iload_n 2, 1) := by decide +kernel
theorem dL_set_5 : decode cL_set 5 = .ok (.invokevirtual 7, 3) := by decide +kernel
theorem dL_set_8 : decode cL_set 8 = .ok (.i2l, 1) := by decide +kernel
theorem dL_set_9 : decode cL_set 9 = .ok (.lastore, 1) := by decide +kernel
theorem dL_set_10 : decode cL_set 10 = .ok (.goto 7, 3) := by decide +kernel
theorem dL_set_13 : decode cL_set 13 = .ok (.astore 4, 2) := by decide +kernel
theorem dL_set_15 : decode cL_set 15 = .ok (.iconst 1, 1) := by decide +kernel
theorem dL_set_16 : decode cL_set 16 = .ok (.ireturn, 1) := by decide +kernel
theorem dL_set_17 : decode cL_set 17 = .ok (.iconst 0, 1) := by decide +kernel
theorem dL_set_18 : decode cL_set 18 = .ok (.ireturn, 1) := by decide +kernel
theorem dL_place_0 : decode cL_place 0 = .ok (.aload_n 0, 1) := by decide +kernel
theorem dL_place_1 : decode cL_place 1 = .ok (.iload_n 1, 1) := by decide +kernel
theorem dL_place_2 : decode cL_place 2 = .ok (.iload_n 2, 1) := by decide +kernel
theorem dL_place_3 : decode cL_place 3 = .ok (.iload_n 3, 1) := by decide +kernel
theorem dL_place_4 : decode cL_place 4 = .ok (.iload 4, 2) := by decide +kernel
theorem dL_place_6 : decode cL_place 6 = .ok (.invokevirtual 15, 3) := by decide +kernel
theorem dL_place_9 : decode cL_place 9 = .ok (.goto 7, 3) := by decide +kernel
theorem dL_place_12 : decode cL_place 12 = .ok (.astore 5, 2) := by decide +kernel
theorem dL_place_14 : decode cL_place 14 = .ok (.iconst 1, 1) := by decide +kernel
theorem dL_place_15 : decode cL_place 15 = .ok (.ireturn, 1) := by decide +kernel
theorem dL_place_16 : decode cL_place 16 = .ok (.iconst 0, 1) := by decide +kernel
theorem dL_place_17 : decode cL_place 17 = .ok (.ireturn, 1) := by decide +kernel
theorem dL_speed_0 : decode cL_speed 0 = .ok (.aload_n 0, 1) := by decide +kernel
theorem dL_speed_1 : decode cL_speed 1 = .ok (.iload_n 1, 1) := by decide +kernel
theorem dL_speed_2 : decode cL_speed 2 = .ok (.iload_n 2, 1) := by decide +kernel
theorem dL_speed_3 : decode cL_speed 3 = .ok (.iload_n 3, 1) := by decide +kernel
theorem dL_speed_4 : decode cL_speed 4 = .ok (.iload 4, 2) := by decide +kernel
theorem dL_speed_6 : decode cL_speed 6 = .ok (.invokevirtual 19, 3) := by decide +kernel
theorem dL_speed_9 : decode cL_speed 9 = .ok (.goto 7, 3) := by decide +kernel
theorem dL_speed_12 : decode cL_speed 12 = .ok (.astore 5, 2) := by decide +kernel
theorem dL_speed_14 : decode cL_speed 14 = .ok (.iconst 1, 1) := by decide +kernel
theorem dL_speed_15 : decode cL_speed 15 = .ok (.ireturn, 1) := by decide +kernel
theorem dL_speed_16 : decode cL_speed 16 = .ok (.iconst 0, 1) := by decide +kernel
theorem dL_speed_17 : decode cL_speed 17 = .ok (.ireturn, 1) := by decide +kernel
theorem dL_follow_0 : decode cL_follow 0 = .ok (.aload_n 0, 1) := by decide +kernel
theorem dL_follow_1 : decode cL_follow 1 = .ok (.iload_n 1, 1) := by decide +kernel
theorem dL_follow_2 : decode cL_follow 2 = .ok (.iload_n 2, 1) := by decide +kernel
theorem dL_follow_3 : decode cL_follow 3 = .ok (.invokevirtual 22, 3) := by decide +kernel
theorem dL_follow_6 : decode cL_follow 6 = .ok (.goto 6, 3) := by decide +kernel
theorem dL_follow_9 : decode cL_follow 9 = .ok (.astore_n 3, 1) := by decide +kernel
theorem dL_follow_10 : decode cL_follow 10 = .ok (.iconst 1, 1) := by decide +kernel
theorem dL_follow_11 : decode cL_follow 11 = .ok (.ireturn, 1) := by decide +kernel
theorem dL_follow_12 : decode cL_follow 12 = .ok (.iconst 0, 1) := by decide +kernel
theorem dL_follow_13 : decode cL_follow 13 = .ok (.ireturn, 1) := by decide +kernel
theorem dL_leave_0 : decode cL_leave 0 = .ok (.aload_n 0, 1) := by decide +kernel
theorem dL_leave_1 : decode cL_leave 1 = .ok (.iload_n 1, 1) := by decide +kernel
theorem dL_leave_2 : decode cL_leave 2 = .ok (.invokevirtual 26, 3) := by decide +kernel
theorem dL_leave_5 : decode cL_leave 5 = .ok (.goto 6, 3) := by decide +kernel
theorem dL_leave_8 : decode cL_leave 8 = .ok (.astore_n 2, 1) := by decide +kernel
theorem dL_leave_9 : decode cL_leave 9 = .ok (.iconst 1, 1) := by decide +kernel
theorem dL_leave_10 : decode cL_leave 10 = .ok (.ireturn, 1) := by decide +kernel
theorem dL_leave_11 : decode cL_leave 11 = .ok (.iconst 0, 1) := by decide +kernel
theorem dL_leave_12 : decode cL_leave 12 = .ok (.ireturn, 1) := by decide +kernel
theorem dL_step_0 : decode cL_step 0 = .ok (.aload_n 2, 1) := by decide +kernel
theorem dL_step_1 : decode cL_step 1 = .ok (.iconst 0, 1) := by decide +kernel
theorem dL_step_2 : decode cL_step 2 = .ok (.aload_n 0, 1) := by decide +kernel
theorem dL_step_3 : decode cL_step 3 = .ok (.iload_n 1, 1) := by decide +kernel
theorem dL_step_4 : decode cL_step 4 = .ok (.invokevirtual 30, 3) := by decide +kernel
theorem dL_step_7 : decode cL_step 7 = .ok (.i2l, 1) := by decide +kernel
theorem dL_step_8 : decode cL_step 8 = .ok (.lastore, 1) := by decide +kernel
theorem dL_step_9 : decode cL_step 9 = .ok (.goto 6, 3) := by decide +kernel
theorem dL_step_12 : decode cL_step 12 = .ok (.astore_n 3, 1) := by decide +kernel
theorem dL_step_13 : decode cL_step 13 = .ok (.iconst 1, 1) := by decide +kernel
theorem dL_step_14 : decode cL_step 14 = .ok (.ireturn, 1) := by decide +kernel
theorem dL_step_15 : decode cL_step 15 = .ok (.iconst 0, 1) := by decide +kernel
theorem dL_step_16 : decode cL_step 16 = .ok (.ireturn, 1) := by decide +kernel
theorem dL_told_0 : decode cL_told 0 = .ok (.aload_n 3, 1) := by decide +kernel
theorem dL_told_1 : decode cL_told 1 = .ok (.iconst 0, 1) := by decide +kernel
theorem dL_told_2 : decode cL_told 2 = .ok (.aload_n 0, 1) := by decide +kernel
theorem dL_told_3 : decode cL_told 3 = .ok (.iload_n 1, 1) := by decide +kernel
theorem dL_told_4 : decode cL_told 4 = .ok (.iload_n 2, 1) := by decide +kernel
theorem dL_told_5 : decode cL_told 5 = .ok (.invokevirtual 34, 3) := by decide +kernel
theorem dL_told_8 : decode cL_told 8 = .ok (.i2l, 1) := by decide +kernel
theorem dL_told_9 : decode cL_told 9 = .ok (.lastore, 1) := by decide +kernel
theorem dL_told_10 : decode cL_told 10 = .ok (.goto 7, 3) := by decide +kernel
theorem dL_told_13 : decode cL_told 13 = .ok (.astore 4, 2) := by decide +kernel
theorem dL_told_15 : decode cL_told 15 = .ok (.iconst 1, 1) := by decide +kernel
theorem dL_told_16 : decode cL_told 16 = .ok (.ireturn, 1) := by decide +kernel
theorem dL_told_17 : decode cL_told 17 = .ok (.iconst 0, 1) := by decide +kernel
theorem dL_told_18 : decode cL_told 18 = .ok (.ireturn, 1) := by decide +kernel
theorem dL_pair_0 : decode cL_pair 0 = .ok (.aload 4, 2) := by decide +kernel
theorem dL_pair_2 : decode cL_pair 2 = .ok (.iconst 0, 1) := by decide +kernel
theorem dL_pair_3 : decode cL_pair 3 = .ok (.aload_n 0, 1) := by decide +kernel
theorem dL_pair_4 : decode cL_pair 4 = .ok (.iload_n 1, 1) := by decide +kernel
theorem dL_pair_5 : decode cL_pair 5 = .ok (.iload_n 2, 1) := by decide +kernel
theorem dL_pair_6 : decode cL_pair 6 = .ok (.iload_n 3, 1) := by decide +kernel
theorem dL_pair_7 : decode cL_pair 7 = .ok (.invokevirtual 37, 3) := by decide +kernel
theorem dL_pair_10 : decode cL_pair 10 = .ok (.i2l, 1) := by decide +kernel
theorem dL_pair_11 : decode cL_pair 11 = .ok (.lastore, 1) := by decide +kernel
theorem dL_pair_12 : decode cL_pair 12 = .ok (.goto 7, 3) := by decide +kernel
theorem dL_pair_15 : decode cL_pair 15 = .ok (.astore 5, 2) := by decide +kernel
theorem dL_pair_17 : decode cL_pair 17 = .ok (.iconst 1, 1) := by decide +kernel
theorem dL_pair_18 : decode cL_pair 18 = .ok (.ireturn, 1) := by decide +kernel
theorem dL_pair_19 : decode cL_pair 19 = .ok (.iconst 0, 1) := by decide +kernel
theorem dL_pair_20 : decode cL_pair 20 = .ok (.ireturn, 1) := by decide +kernel
theorem dL_all_0 : decode cL_all 0 = .ok (.aload_n 2, 1) := by decide +kernel
theorem dL_all_1 : decode cL_all 1 = .ok (.iconst 0, 1) := by decide +kernel
theorem dL_all_2 : decode cL_all 2 = .ok (.aload_n 0, 1) := by decide +kernel
theorem dL_all_3 : decode cL_all 3 = .ok (.iload_n 1, 1) := by decide +kernel
theorem dL_all_4 : decode cL_all 4 = .ok (.invokevirtual 41, 3) := by decide +kernel
theorem dL_all_7 : decode cL_all 7 = .ok (.i2l, 1) := by decide +kernel
theorem dL_all_8 : decode cL_all 8 = .ok (.lastore, 1) := by decide +kernel
theorem dL_all_9 : decode cL_all 9 = .ok (.goto 6, 3) := by decide +kernel
theorem dL_all_12 : decode cL_all 12 = .ok (.astore_n 3, 1) := by decide +kernel
theorem dL_all_13 : decode cL_all 13 = .ok (.iconst 1, 1) := by decide +kernel
theorem dL_all_14 : decode cL_all 14 = .ok (.ireturn, 1) := by decide +kernel
theorem dL_all_15 : decode cL_all 15 = .ok (.iconst 0, 1) := by decide +kernel
theorem dL_all_16 : decode cL_all 16 = .ok (.ireturn, 1) := by decide +kernel
theorem dL_law_0 : decode cL_law 0 = .ok (.new 8, 3) := by decide +kernel
theorem dL_law_3 : decode cL_law 3 = .ok (.dup, 1) := by decide +kernel
theorem dL_law_4 : decode cL_law 4 = .ok (.invokespecial 44, 3) := by decide +kernel
theorem dL_law_7 : decode cL_law 7 = .ok (.astore_n 1, 1) := by decide +kernel
theorem dL_law_8 : decode cL_law 8 = .ok (.new 45, 3) := by decide +kernel
theorem dL_law_11 : decode cL_law 11 = .ok (.dup, 1) := by decide +kernel
theorem dL_law_12 : decode cL_law 12 = .ok (.invokespecial 47, 3) := by decide +kernel
theorem dL_law_15 : decode cL_law 15 = .ok (.astore_n 2, 1) := by decide +kernel
theorem dL_law_16 : decode cL_law 16 = .ok (.iconst 1, 1) := by decide +kernel
theorem dL_law_17 : decode cL_law 17 = .ok (.newarray .long, 2) := by decide +kernel
theorem dL_law_19 : decode cL_law 19 = .ok (.astore_n 3, 1) := by decide +kernel
theorem dL_law_20 : decode cL_law 20 = .ok (.iconst 0, 1) := by decide +kernel
theorem dL_law_21 : decode cL_law 21 = .ok (.istore 4, 2) := by decide +kernel
theorem dL_law_23 : decode cL_law 23 = .ok (.iload 4, 2) := by decide +kernel
theorem dL_law_25 : decode cL_law 25 = .ok (.aload_n 0, 1) := by decide +kernel
theorem dL_law_26 : decode cL_law 26 = .ok (.arraylength, 1) := by decide +kernel
theorem dL_law_27 : decode cL_law 27 = .ok (.iconst 5, 1) := by decide +kernel
theorem dL_law_28 : decode cL_law 28 = .ok (.isub, 1) := by decide +kernel
theorem dL_law_29 : decode cL_law 29 = .ok (.if_icmp .gt 637, 3) := by decide +kernel
theorem dL_law_32 : decode cL_law 32 = .ok (.aload_n 0, 1) := by decide +kernel
theorem dL_law_33 : decode cL_law 33 = .ok (.iload 4, 2) := by decide +kernel
theorem dL_law_35 : decode cL_law 35 = .ok (.iaload, 1) := by decide +kernel
theorem dL_law_36 : decode cL_law 36 = .ok (.bipush 15, 2) := by decide +kernel
theorem dL_law_38 : decode cL_law 38 = .ok (.iand, 1) := by decide +kernel
theorem dL_law_39 : decode cL_law 39 = .ok (.tableswitch 621 0 8 #[49, 117, 189, 261, 325, 361, 417, 485, 565], 49) := by decide +kernel
theorem dL_law_88 : decode cL_law 88 = .ok (.aload_n 1, 1) := by decide +kernel
theorem dL_law_89 : decode cL_law 89 = .ok (.aload_n 0, 1) := by decide +kernel
theorem dL_law_90 : decode cL_law 90 = .ok (.iload 4, 2) := by decide +kernel
theorem dL_law_92 : decode cL_law 92 = .ok (.iconst 1, 1) := by decide +kernel
theorem dL_law_93 : decode cL_law 93 = .ok (.iadd, 1) := by decide +kernel
theorem dL_law_94 : decode cL_law 94 = .ok (.iaload, 1) := by decide +kernel
theorem dL_law_95 : decode cL_law 95 = .ok (.aload_n 0, 1) := by decide +kernel
theorem dL_law_96 : decode cL_law 96 = .ok (.iload 4, 2) := by decide +kernel
theorem dL_law_98 : decode cL_law 98 = .ok (.iconst 2, 1) := by decide +kernel
theorem dL_law_99 : decode cL_law 99 = .ok (.iadd, 1) := by decide +kernel
theorem dL_law_100 : decode cL_law 100 = .ok (.iaload, 1) := by decide +kernel
theorem dL_law_101 : decode cL_law 101 = .ok (.aload_n 3, 1) := by decide +kernel
theorem dL_law_102 : decode cL_law 102 = .ok (.invokestatic 48, 3) := by decide +kernel
theorem dL_law_105 : decode cL_law 105 = .ok (.istore 5, 2) := by decide +kernel
theorem dL_law_107 : decode cL_law 107 = .ok (.aload_n 2, 1) := by decide +kernel
theorem dL_law_108 : decode cL_law 108 = .ok (.aload_n 0, 1) := by decide +kernel
theorem dL_law_109 : decode cL_law 109 = .ok (.iload 4, 2) := by decide +kernel
theorem dL_law_111 : decode cL_law 111 = .ok (.iconst 1, 1) := by decide +kernel
theorem dL_law_112 : decode cL_law 112 = .ok (.iadd, 1) := by decide +kernel
theorem dL_law_113 : decode cL_law 113 = .ok (.iaload, 1) := by decide +kernel
theorem dL_law_114 : decode cL_law 114 = .ok (.aload_n 0, 1) := by decide +kernel
theorem dL_law_115 : decode cL_law 115 = .ok (.iload 4, 2) := by decide +kernel
theorem dL_law_117 : decode cL_law 117 = .ok (.iconst 2, 1) := by decide +kernel
theorem dL_law_118 : decode cL_law 118 = .ok (.iadd, 1) := by decide +kernel
theorem dL_law_119 : decode cL_law 119 = .ok (.iaload, 1) := by decide +kernel
theorem dL_law_120 : decode cL_law 120 = .ok (.invokevirtual 53, 3) := by decide +kernel
theorem dL_law_123 : decode cL_law 123 = .ok (.istore 6, 2) := by decide +kernel
theorem dL_law_125 : decode cL_law 125 = .ok (.aload_n 2, 1) := by decide +kernel
theorem dL_law_126 : decode cL_law 126 = .ok (.invokevirtual 54, 3) := by decide +kernel
theorem dL_law_129 : decode cL_law 129 = .ok (.iload 5, 2) := by decide +kernel
theorem dL_law_131 : decode cL_law 131 = .ok (.if_icmp .eq 5, 3) := by decide +kernel
theorem dL_law_134 : decode cL_law 134 = .ok (.iconst 0, 1) := by decide +kernel
theorem dL_law_135 : decode cL_law 135 = .ok (.ireturn, 1) := by decide +kernel
theorem dL_law_136 : decode cL_law 136 = .ok (.iload 5, 2) := by decide +kernel
theorem dL_law_138 : decode cL_law 138 = .ok (.ifCond .ne 15, 3) := by decide +kernel
theorem dL_law_141 : decode cL_law 141 = .ok (.aload_n 3, 1) := by decide +kernel
theorem dL_law_142 : decode cL_law 142 = .ok (.iconst 0, 1) := by decide +kernel
theorem dL_law_143 : decode cL_law 143 = .ok (.laload, 1) := by decide +kernel
theorem dL_law_144 : decode cL_law 144 = .ok (.iload 6, 2) := by decide +kernel
theorem dL_law_146 : decode cL_law 146 = .ok (.i2l, 1) := by decide +kernel
theorem dL_law_147 : decode cL_law 147 = .ok (.lcmp, 1) := by decide +kernel
theorem dL_law_148 : decode cL_law 148 = .ok (.ifCond .eq 5, 3) := by decide +kernel
theorem dL_law_151 : decode cL_law 151 = .ok (.iconst 0, 1) := by decide +kernel
theorem dL_law_152 : decode cL_law 152 = .ok (.ireturn, 1) := by decide +kernel
theorem dL_law_153 : decode cL_law 153 = .ok (.goto 507, 3) := by decide +kernel
theorem dL_law_156 : decode cL_law 156 = .ok (.aload_n 1, 1) := by decide +kernel
theorem dL_law_157 : decode cL_law 157 = .ok (.aload_n 0, 1) := by decide +kernel
theorem dL_law_158 : decode cL_law 158 = .ok (.iload 4, 2) := by decide +kernel
theorem dL_law_160 : decode cL_law 160 = .ok (.iconst 1, 1) := by decide +kernel
theorem dL_law_161 : decode cL_law 161 = .ok (.iadd, 1) := by decide +kernel
theorem dL_law_162 : decode cL_law 162 = .ok (.iaload, 1) := by decide +kernel
theorem dL_law_163 : decode cL_law 163 = .ok (.aload_n 0, 1) := by decide +kernel
theorem dL_law_164 : decode cL_law 164 = .ok (.iload 4, 2) := by decide +kernel
theorem dL_law_166 : decode cL_law 166 = .ok (.iconst 2, 1) := by decide +kernel
theorem dL_law_167 : decode cL_law 167 = .ok (.iadd, 1) := by decide +kernel
theorem dL_law_168 : decode cL_law 168 = .ok (.iaload, 1) := by decide +kernel
theorem dL_law_169 : decode cL_law 169 = .ok (.aload_n 0, 1) := by decide +kernel
theorem dL_law_170 : decode cL_law 170 = .ok (.iload 4, 2) := by decide +kernel
theorem dL_law_172 : decode cL_law 172 = .ok (.iconst 3, 1) := by decide +kernel
theorem dL_law_173 : decode cL_law 173 = .ok (.iadd, 1) := by decide +kernel
theorem dL_law_174 : decode cL_law 174 = .ok (.iaload, 1) := by decide +kernel
theorem dL_law_175 : decode cL_law 175 = .ok (.aload_n 0, 1) := by decide +kernel
theorem dL_law_176 : decode cL_law 176 = .ok (.iload 4, 2) := by decide +kernel
theorem dL_law_178 : decode cL_law 178 = .ok (.iconst 4, 1) := by decide +kernel
theorem dL_law_179 : decode cL_law 179 = .ok (.iadd, 1) := by decide +kernel
theorem dL_law_180 : decode cL_law 180 = .ok (.iaload, 1) := by decide +kernel
theorem dL_law_181 : decode cL_law 181 = .ok (.invokestatic 58, 3) := by decide +kernel
theorem dL_law_184 : decode cL_law 184 = .ok (.istore 5, 2) := by decide +kernel
theorem dL_law_186 : decode cL_law 186 = .ok (.aload_n 2, 1) := by decide +kernel
theorem dL_law_187 : decode cL_law 187 = .ok (.aload_n 0, 1) := by decide +kernel
theorem dL_law_188 : decode cL_law 188 = .ok (.iload 4, 2) := by decide +kernel
theorem dL_law_190 : decode cL_law 190 = .ok (.iconst 1, 1) := by decide +kernel
theorem dL_law_191 : decode cL_law 191 = .ok (.iadd, 1) := by decide +kernel
theorem dL_law_192 : decode cL_law 192 = .ok (.iaload, 1) := by decide +kernel
theorem dL_law_193 : decode cL_law 193 = .ok (.aload_n 0, 1) := by decide +kernel
theorem dL_law_194 : decode cL_law 194 = .ok (.iload 4, 2) := by decide +kernel
theorem dL_law_196 : decode cL_law 196 = .ok (.iconst 2, 1) := by decide +kernel
theorem dL_law_197 : decode cL_law 197 = .ok (.iadd, 1) := by decide +kernel
theorem dL_law_198 : decode cL_law 198 = .ok (.iaload, 1) := by decide +kernel
theorem dL_law_199 : decode cL_law 199 = .ok (.aload_n 0, 1) := by decide +kernel
theorem dL_law_200 : decode cL_law 200 = .ok (.iload 4, 2) := by decide +kernel
theorem dL_law_202 : decode cL_law 202 = .ok (.iconst 3, 1) := by decide +kernel
theorem dL_law_203 : decode cL_law 203 = .ok (.iadd, 1) := by decide +kernel
theorem dL_law_204 : decode cL_law 204 = .ok (.iaload, 1) := by decide +kernel
theorem dL_law_205 : decode cL_law 205 = .ok (.aload_n 0, 1) := by decide +kernel
theorem dL_law_206 : decode cL_law 206 = .ok (.iload 4, 2) := by decide +kernel
theorem dL_law_208 : decode cL_law 208 = .ok (.iconst 4, 1) := by decide +kernel
theorem dL_law_209 : decode cL_law 209 = .ok (.iadd, 1) := by decide +kernel
theorem dL_law_210 : decode cL_law 210 = .ok (.iaload, 1) := by decide +kernel
theorem dL_law_211 : decode cL_law 211 = .ok (.invokevirtual 61, 3) := by decide +kernel
theorem dL_law_214 : decode cL_law 214 = .ok (.aload_n 2, 1) := by decide +kernel
theorem dL_law_215 : decode cL_law 215 = .ok (.invokevirtual 54, 3) := by decide +kernel
theorem dL_law_218 : decode cL_law 218 = .ok (.iload 5, 2) := by decide +kernel
theorem dL_law_220 : decode cL_law 220 = .ok (.if_icmp .eq 5, 3) := by decide +kernel
theorem dL_law_223 : decode cL_law 223 = .ok (.iconst 0, 1) := by decide +kernel
theorem dL_law_224 : decode cL_law 224 = .ok (.ireturn, 1) := by decide +kernel
theorem dL_law_225 : decode cL_law 225 = .ok (.goto 435, 3) := by decide +kernel
theorem dL_law_228 : decode cL_law 228 = .ok (.aload_n 1, 1) := by decide +kernel
theorem dL_law_229 : decode cL_law 229 = .ok (.aload_n 0, 1) := by decide +kernel
theorem dL_law_230 : decode cL_law 230 = .ok (.iload 4, 2) := by decide +kernel
theorem dL_law_232 : decode cL_law 232 = .ok (.iconst 1, 1) := by decide +kernel
theorem dL_law_233 : decode cL_law 233 = .ok (.iadd, 1) := by decide +kernel
theorem dL_law_234 : decode cL_law 234 = .ok (.iaload, 1) := by decide +kernel
theorem dL_law_235 : decode cL_law 235 = .ok (.aload_n 0, 1) := by decide +kernel
theorem dL_law_236 : decode cL_law 236 = .ok (.iload 4, 2) := by decide +kernel
theorem dL_law_238 : decode cL_law 238 = .ok (.iconst 2, 1) := by decide +kernel
theorem dL_law_239 : decode cL_law 239 = .ok (.iadd, 1) := by decide +kernel
theorem dL_law_240 : decode cL_law 240 = .ok (.iaload, 1) := by decide +kernel
theorem dL_law_241 : decode cL_law 241 = .ok (.aload_n 0, 1) := by decide +kernel
theorem dL_law_242 : decode cL_law 242 = .ok (.iload 4, 2) := by decide +kernel
theorem dL_law_244 : decode cL_law 244 = .ok (.iconst 3, 1) := by decide +kernel
theorem dL_law_245 : decode cL_law 245 = .ok (.iadd, 1) := by decide +kernel
theorem dL_law_246 : decode cL_law 246 = .ok (.iaload, 1) := by decide +kernel
theorem dL_law_247 : decode cL_law 247 = .ok (.aload_n 0, 1) := by decide +kernel
theorem dL_law_248 : decode cL_law 248 = .ok (.iload 4, 2) := by decide +kernel
theorem dL_law_250 : decode cL_law 250 = .ok (.iconst 4, 1) := by decide +kernel
theorem dL_law_251 : decode cL_law 251 = .ok (.iadd, 1) := by decide +kernel
theorem dL_law_252 : decode cL_law 252 = .ok (.iaload, 1) := by decide +kernel
theorem dL_law_253 : decode cL_law 253 = .ok (.invokestatic 62, 3) := by decide +kernel
theorem dL_law_256 : decode cL_law 256 = .ok (.istore 5, 2) := by decide +kernel
theorem dL_law_258 : decode cL_law 258 = .ok (.aload_n 2, 1) := by decide +kernel
theorem dL_law_259 : decode cL_law 259 = .ok (.aload_n 0, 1) := by decide +kernel
theorem dL_law_260 : decode cL_law 260 = .ok (.iload 4, 2) := by decide +kernel
theorem dL_law_262 : decode cL_law 262 = .ok (.iconst 1, 1) := by decide +kernel
theorem dL_law_263 : decode cL_law 263 = .ok (.iadd, 1) := by decide +kernel
theorem dL_law_264 : decode cL_law 264 = .ok (.iaload, 1) := by decide +kernel
theorem dL_law_265 : decode cL_law 265 = .ok (.aload_n 0, 1) := by decide +kernel
theorem dL_law_266 : decode cL_law 266 = .ok (.iload 4, 2) := by decide +kernel
theorem dL_law_268 : decode cL_law 268 = .ok (.iconst 2, 1) := by decide +kernel
theorem dL_law_269 : decode cL_law 269 = .ok (.iadd, 1) := by decide +kernel
theorem dL_law_270 : decode cL_law 270 = .ok (.iaload, 1) := by decide +kernel
theorem dL_law_271 : decode cL_law 271 = .ok (.aload_n 0, 1) := by decide +kernel
theorem dL_law_272 : decode cL_law 272 = .ok (.iload 4, 2) := by decide +kernel
theorem dL_law_274 : decode cL_law 274 = .ok (.iconst 3, 1) := by decide +kernel
theorem dL_law_275 : decode cL_law 275 = .ok (.iadd, 1) := by decide +kernel
theorem dL_law_276 : decode cL_law 276 = .ok (.iaload, 1) := by decide +kernel
theorem dL_law_277 : decode cL_law 277 = .ok (.aload_n 0, 1) := by decide +kernel
theorem dL_law_278 : decode cL_law 278 = .ok (.iload 4, 2) := by decide +kernel
theorem dL_law_280 : decode cL_law 280 = .ok (.iconst 4, 1) := by decide +kernel
theorem dL_law_281 : decode cL_law 281 = .ok (.iadd, 1) := by decide +kernel
theorem dL_law_282 : decode cL_law 282 = .ok (.iaload, 1) := by decide +kernel
theorem dL_law_283 : decode cL_law 283 = .ok (.invokevirtual 64, 3) := by decide +kernel
theorem dL_law_286 : decode cL_law 286 = .ok (.aload_n 2, 1) := by decide +kernel
theorem dL_law_287 : decode cL_law 287 = .ok (.invokevirtual 54, 3) := by decide +kernel
theorem dL_law_290 : decode cL_law 290 = .ok (.iload 5, 2) := by decide +kernel
theorem dL_law_292 : decode cL_law 292 = .ok (.if_icmp .eq 5, 3) := by decide +kernel
theorem dL_law_295 : decode cL_law 295 = .ok (.iconst 0, 1) := by decide +kernel
theorem dL_law_296 : decode cL_law 296 = .ok (.ireturn, 1) := by decide +kernel
theorem dL_law_297 : decode cL_law 297 = .ok (.goto 363, 3) := by decide +kernel
theorem dL_law_300 : decode cL_law 300 = .ok (.aload_n 1, 1) := by decide +kernel
theorem dL_law_301 : decode cL_law 301 = .ok (.aload_n 0, 1) := by decide +kernel
theorem dL_law_302 : decode cL_law 302 = .ok (.iload 4, 2) := by decide +kernel
theorem dL_law_304 : decode cL_law 304 = .ok (.iconst 1, 1) := by decide +kernel
theorem dL_law_305 : decode cL_law 305 = .ok (.iadd, 1) := by decide +kernel
theorem dL_law_306 : decode cL_law 306 = .ok (.iaload, 1) := by decide +kernel
theorem dL_law_307 : decode cL_law 307 = .ok (.aload_n 0, 1) := by decide +kernel
theorem dL_law_308 : decode cL_law 308 = .ok (.iload 4, 2) := by decide +kernel
theorem dL_law_310 : decode cL_law 310 = .ok (.iconst 2, 1) := by decide +kernel
theorem dL_law_311 : decode cL_law 311 = .ok (.iadd, 1) := by decide +kernel
theorem dL_law_312 : decode cL_law 312 = .ok (.iaload, 1) := by decide +kernel
theorem dL_law_313 : decode cL_law 313 = .ok (.ifCond .eq 7, 3) := by decide +kernel
theorem dL_law_316 : decode cL_law 316 = .ok (.iconst 1, 1) := by decide +kernel
theorem dL_law_317 : decode cL_law 317 = .ok (.goto 4, 3) := by decide +kernel
theorem dL_law_320 : decode cL_law 320 = .ok (.iconst 0, 1) := by decide +kernel
theorem dL_law_321 : decode cL_law 321 = .ok (.invokestatic 65, 3) := by decide +kernel
theorem dL_law_324 : decode cL_law 324 = .ok (.istore 5, 2) := by decide +kernel
theorem dL_law_326 : decode cL_law 326 = .ok (.aload_n 2, 1) := by decide +kernel
theorem dL_law_327 : decode cL_law 327 = .ok (.aload_n 0, 1) := by decide +kernel
theorem dL_law_328 : decode cL_law 328 = .ok (.iload 4, 2) := by decide +kernel
theorem dL_law_330 : decode cL_law 330 = .ok (.iconst 1, 1) := by decide +kernel
theorem dL_law_331 : decode cL_law 331 = .ok (.iadd, 1) := by decide +kernel
theorem dL_law_332 : decode cL_law 332 = .ok (.iaload, 1) := by decide +kernel
theorem dL_law_333 : decode cL_law 333 = .ok (.aload_n 0, 1) := by decide +kernel
theorem dL_law_334 : decode cL_law 334 = .ok (.iload 4, 2) := by decide +kernel
theorem dL_law_336 : decode cL_law 336 = .ok (.iconst 2, 1) := by decide +kernel
theorem dL_law_337 : decode cL_law 337 = .ok (.iadd, 1) := by decide +kernel
theorem dL_law_338 : decode cL_law 338 = .ok (.iaload, 1) := by decide +kernel
theorem dL_law_339 : decode cL_law 339 = .ok (.ifCond .eq 7, 3) := by decide +kernel
theorem dL_law_342 : decode cL_law 342 = .ok (.iconst 1, 1) := by decide +kernel
theorem dL_law_343 : decode cL_law 343 = .ok (.goto 4, 3) := by decide +kernel
theorem dL_law_346 : decode cL_law 346 = .ok (.iconst 0, 1) := by decide +kernel
theorem dL_law_347 : decode cL_law 347 = .ok (.invokevirtual 68, 3) := by decide +kernel
theorem dL_law_350 : decode cL_law 350 = .ok (.aload_n 2, 1) := by decide +kernel
theorem dL_law_351 : decode cL_law 351 = .ok (.invokevirtual 54, 3) := by decide +kernel
theorem dL_law_354 : decode cL_law 354 = .ok (.iload 5, 2) := by decide +kernel
theorem dL_law_356 : decode cL_law 356 = .ok (.if_icmp .eq 5, 3) := by decide +kernel
theorem dL_law_359 : decode cL_law 359 = .ok (.iconst 0, 1) := by decide +kernel
theorem dL_law_360 : decode cL_law 360 = .ok (.ireturn, 1) := by decide +kernel
theorem dL_law_361 : decode cL_law 361 = .ok (.goto 299, 3) := by decide +kernel
theorem dL_law_364 : decode cL_law 364 = .ok (.aload_n 1, 1) := by decide +kernel
theorem dL_law_365 : decode cL_law 365 = .ok (.aload_n 0, 1) := by decide +kernel
theorem dL_law_366 : decode cL_law 366 = .ok (.iload 4, 2) := by decide +kernel
theorem dL_law_368 : decode cL_law 368 = .ok (.iconst 1, 1) := by decide +kernel
theorem dL_law_369 : decode cL_law 369 = .ok (.iadd, 1) := by decide +kernel
theorem dL_law_370 : decode cL_law 370 = .ok (.iaload, 1) := by decide +kernel
theorem dL_law_371 : decode cL_law 371 = .ok (.invokestatic 69, 3) := by decide +kernel
theorem dL_law_374 : decode cL_law 374 = .ok (.istore 5, 2) := by decide +kernel
theorem dL_law_376 : decode cL_law 376 = .ok (.aload_n 2, 1) := by decide +kernel
theorem dL_law_377 : decode cL_law 377 = .ok (.aload_n 0, 1) := by decide +kernel
theorem dL_law_378 : decode cL_law 378 = .ok (.iload 4, 2) := by decide +kernel
theorem dL_law_380 : decode cL_law 380 = .ok (.iconst 1, 1) := by decide +kernel
theorem dL_law_381 : decode cL_law 381 = .ok (.iadd, 1) := by decide +kernel
theorem dL_law_382 : decode cL_law 382 = .ok (.iaload, 1) := by decide +kernel
theorem dL_law_383 : decode cL_law 383 = .ok (.invokevirtual 72, 3) := by decide +kernel
theorem dL_law_386 : decode cL_law 386 = .ok (.aload_n 2, 1) := by decide +kernel
theorem dL_law_387 : decode cL_law 387 = .ok (.invokevirtual 54, 3) := by decide +kernel
theorem dL_law_390 : decode cL_law 390 = .ok (.iload 5, 2) := by decide +kernel
theorem dL_law_392 : decode cL_law 392 = .ok (.if_icmp .eq 5, 3) := by decide +kernel
theorem dL_law_395 : decode cL_law 395 = .ok (.iconst 0, 1) := by decide +kernel
theorem dL_law_396 : decode cL_law 396 = .ok (.ireturn, 1) := by decide +kernel
theorem dL_law_397 : decode cL_law 397 = .ok (.goto 263, 3) := by decide +kernel
theorem dL_law_400 : decode cL_law 400 = .ok (.aload_n 1, 1) := by decide +kernel
theorem dL_law_401 : decode cL_law 401 = .ok (.aload_n 0, 1) := by decide +kernel
theorem dL_law_402 : decode cL_law 402 = .ok (.iload 4, 2) := by decide +kernel
theorem dL_law_404 : decode cL_law 404 = .ok (.iconst 1, 1) := by decide +kernel
theorem dL_law_405 : decode cL_law 405 = .ok (.iadd, 1) := by decide +kernel
theorem dL_law_406 : decode cL_law 406 = .ok (.iaload, 1) := by decide +kernel
theorem dL_law_407 : decode cL_law 407 = .ok (.aload_n 3, 1) := by decide +kernel
theorem dL_law_408 : decode cL_law 408 = .ok (.invokestatic 73, 3) := by decide +kernel
theorem dL_law_411 : decode cL_law 411 = .ok (.istore 5, 2) := by decide +kernel
theorem dL_law_413 : decode cL_law 413 = .ok (.aload_n 2, 1) := by decide +kernel
theorem dL_law_414 : decode cL_law 414 = .ok (.aload_n 0, 1) := by decide +kernel
theorem dL_law_415 : decode cL_law 415 = .ok (.iload 4, 2) := by decide +kernel
theorem dL_law_417 : decode cL_law 417 = .ok (.iconst 1, 1) := by decide +kernel
theorem dL_law_418 : decode cL_law 418 = .ok (.iadd, 1) := by decide +kernel
theorem dL_law_419 : decode cL_law 419 = .ok (.iaload, 1) := by decide +kernel
theorem dL_law_420 : decode cL_law 420 = .ok (.invokevirtual 76, 3) := by decide +kernel
theorem dL_law_423 : decode cL_law 423 = .ok (.istore 6, 2) := by decide +kernel
theorem dL_law_425 : decode cL_law 425 = .ok (.aload_n 2, 1) := by decide +kernel
theorem dL_law_426 : decode cL_law 426 = .ok (.invokevirtual 54, 3) := by decide +kernel
theorem dL_law_429 : decode cL_law 429 = .ok (.iload 5, 2) := by decide +kernel
theorem dL_law_431 : decode cL_law 431 = .ok (.if_icmp .eq 5, 3) := by decide +kernel
theorem dL_law_434 : decode cL_law 434 = .ok (.iconst 0, 1) := by decide +kernel
theorem dL_law_435 : decode cL_law 435 = .ok (.ireturn, 1) := by decide +kernel
theorem dL_law_436 : decode cL_law 436 = .ok (.iload 5, 2) := by decide +kernel
theorem dL_law_438 : decode cL_law 438 = .ok (.ifCond .ne 15, 3) := by decide +kernel
theorem dL_law_441 : decode cL_law 441 = .ok (.aload_n 3, 1) := by decide +kernel
theorem dL_law_442 : decode cL_law 442 = .ok (.iconst 0, 1) := by decide +kernel
theorem dL_law_443 : decode cL_law 443 = .ok (.laload, 1) := by decide +kernel
theorem dL_law_444 : decode cL_law 444 = .ok (.iload 6, 2) := by decide +kernel
theorem dL_law_446 : decode cL_law 446 = .ok (.i2l, 1) := by decide +kernel
theorem dL_law_447 : decode cL_law 447 = .ok (.lcmp, 1) := by decide +kernel
theorem dL_law_448 : decode cL_law 448 = .ok (.ifCond .eq 5, 3) := by decide +kernel
theorem dL_law_451 : decode cL_law 451 = .ok (.iconst 0, 1) := by decide +kernel
theorem dL_law_452 : decode cL_law 452 = .ok (.ireturn, 1) := by decide +kernel
theorem dL_law_453 : decode cL_law 453 = .ok (.goto 207, 3) := by decide +kernel
theorem dL_law_456 : decode cL_law 456 = .ok (.aload_n 1, 1) := by decide +kernel
theorem dL_law_457 : decode cL_law 457 = .ok (.aload_n 0, 1) := by decide +kernel
theorem dL_law_458 : decode cL_law 458 = .ok (.iload 4, 2) := by decide +kernel
theorem dL_law_460 : decode cL_law 460 = .ok (.iconst 1, 1) := by decide +kernel
theorem dL_law_461 : decode cL_law 461 = .ok (.iadd, 1) := by decide +kernel
theorem dL_law_462 : decode cL_law 462 = .ok (.iaload, 1) := by decide +kernel
theorem dL_law_463 : decode cL_law 463 = .ok (.aload_n 0, 1) := by decide +kernel
theorem dL_law_464 : decode cL_law 464 = .ok (.iload 4, 2) := by decide +kernel
theorem dL_law_466 : decode cL_law 466 = .ok (.iconst 2, 1) := by decide +kernel
theorem dL_law_467 : decode cL_law 467 = .ok (.iadd, 1) := by decide +kernel
theorem dL_law_468 : decode cL_law 468 = .ok (.iaload, 1) := by decide +kernel
theorem dL_law_469 : decode cL_law 469 = .ok (.aload_n 3, 1) := by decide +kernel
theorem dL_law_470 : decode cL_law 470 = .ok (.invokestatic 77, 3) := by decide +kernel
theorem dL_law_473 : decode cL_law 473 = .ok (.istore 5, 2) := by decide +kernel
theorem dL_law_475 : decode cL_law 475 = .ok (.aload_n 2, 1) := by decide +kernel
theorem dL_law_476 : decode cL_law 476 = .ok (.aload_n 0, 1) := by decide +kernel
theorem dL_law_477 : decode cL_law 477 = .ok (.iload 4, 2) := by decide +kernel
theorem dL_law_479 : decode cL_law 479 = .ok (.iconst 1, 1) := by decide +kernel
theorem dL_law_480 : decode cL_law 480 = .ok (.iadd, 1) := by decide +kernel
theorem dL_law_481 : decode cL_law 481 = .ok (.iaload, 1) := by decide +kernel
theorem dL_law_482 : decode cL_law 482 = .ok (.aload_n 0, 1) := by decide +kernel
theorem dL_law_483 : decode cL_law 483 = .ok (.iload 4, 2) := by decide +kernel
theorem dL_law_485 : decode cL_law 485 = .ok (.iconst 2, 1) := by decide +kernel
theorem dL_law_486 : decode cL_law 486 = .ok (.iadd, 1) := by decide +kernel
theorem dL_law_487 : decode cL_law 487 = .ok (.iaload, 1) := by decide +kernel
theorem dL_law_488 : decode cL_law 488 = .ok (.invokevirtual 79, 3) := by decide +kernel
theorem dL_law_491 : decode cL_law 491 = .ok (.istore 6, 2) := by decide +kernel
theorem dL_law_493 : decode cL_law 493 = .ok (.aload_n 2, 1) := by decide +kernel
theorem dL_law_494 : decode cL_law 494 = .ok (.invokevirtual 54, 3) := by decide +kernel
theorem dL_law_497 : decode cL_law 497 = .ok (.iload 5, 2) := by decide +kernel
theorem dL_law_499 : decode cL_law 499 = .ok (.if_icmp .eq 5, 3) := by decide +kernel
theorem dL_law_502 : decode cL_law 502 = .ok (.iconst 0, 1) := by decide +kernel
theorem dL_law_503 : decode cL_law 503 = .ok (.ireturn, 1) := by decide +kernel
theorem dL_law_504 : decode cL_law 504 = .ok (.iload 5, 2) := by decide +kernel
theorem dL_law_506 : decode cL_law 506 = .ok (.ifCond .ne 15, 3) := by decide +kernel
theorem dL_law_509 : decode cL_law 509 = .ok (.aload_n 3, 1) := by decide +kernel
theorem dL_law_510 : decode cL_law 510 = .ok (.iconst 0, 1) := by decide +kernel
theorem dL_law_511 : decode cL_law 511 = .ok (.laload, 1) := by decide +kernel
theorem dL_law_512 : decode cL_law 512 = .ok (.iload 6, 2) := by decide +kernel
theorem dL_law_514 : decode cL_law 514 = .ok (.i2l, 1) := by decide +kernel
theorem dL_law_515 : decode cL_law 515 = .ok (.lcmp, 1) := by decide +kernel
theorem dL_law_516 : decode cL_law 516 = .ok (.ifCond .eq 5, 3) := by decide +kernel
theorem dL_law_519 : decode cL_law 519 = .ok (.iconst 0, 1) := by decide +kernel
theorem dL_law_520 : decode cL_law 520 = .ok (.ireturn, 1) := by decide +kernel
theorem dL_law_521 : decode cL_law 521 = .ok (.goto 139, 3) := by decide +kernel
theorem dL_law_524 : decode cL_law 524 = .ok (.aload_n 1, 1) := by decide +kernel
theorem dL_law_525 : decode cL_law 525 = .ok (.aload_n 0, 1) := by decide +kernel
theorem dL_law_526 : decode cL_law 526 = .ok (.iload 4, 2) := by decide +kernel
theorem dL_law_528 : decode cL_law 528 = .ok (.iconst 1, 1) := by decide +kernel
theorem dL_law_529 : decode cL_law 529 = .ok (.iadd, 1) := by decide +kernel
theorem dL_law_530 : decode cL_law 530 = .ok (.iaload, 1) := by decide +kernel
theorem dL_law_531 : decode cL_law 531 = .ok (.aload_n 0, 1) := by decide +kernel
theorem dL_law_532 : decode cL_law 532 = .ok (.iload 4, 2) := by decide +kernel
theorem dL_law_534 : decode cL_law 534 = .ok (.iconst 2, 1) := by decide +kernel
theorem dL_law_535 : decode cL_law 535 = .ok (.iadd, 1) := by decide +kernel
theorem dL_law_536 : decode cL_law 536 = .ok (.iaload, 1) := by decide +kernel
theorem dL_law_537 : decode cL_law 537 = .ok (.aload_n 0, 1) := by decide +kernel
theorem dL_law_538 : decode cL_law 538 = .ok (.iload 4, 2) := by decide +kernel
theorem dL_law_540 : decode cL_law 540 = .ok (.iconst 3, 1) := by decide +kernel
theorem dL_law_541 : decode cL_law 541 = .ok (.iadd, 1) := by decide +kernel
theorem dL_law_542 : decode cL_law 542 = .ok (.iaload, 1) := by decide +kernel
theorem dL_law_543 : decode cL_law 543 = .ok (.aload_n 3, 1) := by decide +kernel
theorem dL_law_544 : decode cL_law 544 = .ok (.invokestatic 80, 3) := by decide +kernel
theorem dL_law_547 : decode cL_law 547 = .ok (.istore 5, 2) := by decide +kernel
theorem dL_law_549 : decode cL_law 549 = .ok (.aload_n 2, 1) := by decide +kernel
theorem dL_law_550 : decode cL_law 550 = .ok (.aload_n 0, 1) := by decide +kernel
theorem dL_law_551 : decode cL_law 551 = .ok (.iload 4, 2) := by decide +kernel
theorem dL_law_553 : decode cL_law 553 = .ok (.iconst 1, 1) := by decide +kernel
theorem dL_law_554 : decode cL_law 554 = .ok (.iadd, 1) := by decide +kernel
theorem dL_law_555 : decode cL_law 555 = .ok (.iaload, 1) := by decide +kernel
theorem dL_law_556 : decode cL_law 556 = .ok (.aload_n 0, 1) := by decide +kernel
theorem dL_law_557 : decode cL_law 557 = .ok (.iload 4, 2) := by decide +kernel
theorem dL_law_559 : decode cL_law 559 = .ok (.iconst 2, 1) := by decide +kernel
theorem dL_law_560 : decode cL_law 560 = .ok (.iadd, 1) := by decide +kernel
theorem dL_law_561 : decode cL_law 561 = .ok (.iaload, 1) := by decide +kernel
theorem dL_law_562 : decode cL_law 562 = .ok (.aload_n 0, 1) := by decide +kernel
theorem dL_law_563 : decode cL_law 563 = .ok (.iload 4, 2) := by decide +kernel
theorem dL_law_565 : decode cL_law 565 = .ok (.iconst 3, 1) := by decide +kernel
theorem dL_law_566 : decode cL_law 566 = .ok (.iadd, 1) := by decide +kernel
theorem dL_law_567 : decode cL_law 567 = .ok (.iaload, 1) := by decide +kernel
theorem dL_law_568 : decode cL_law 568 = .ok (.invokevirtual 83, 3) := by decide +kernel
theorem dL_law_571 : decode cL_law 571 = .ok (.istore 6, 2) := by decide +kernel
theorem dL_law_573 : decode cL_law 573 = .ok (.aload_n 2, 1) := by decide +kernel
theorem dL_law_574 : decode cL_law 574 = .ok (.invokevirtual 54, 3) := by decide +kernel
theorem dL_law_577 : decode cL_law 577 = .ok (.iload 5, 2) := by decide +kernel
theorem dL_law_579 : decode cL_law 579 = .ok (.if_icmp .eq 5, 3) := by decide +kernel
theorem dL_law_582 : decode cL_law 582 = .ok (.iconst 0, 1) := by decide +kernel
theorem dL_law_583 : decode cL_law 583 = .ok (.ireturn, 1) := by decide +kernel
theorem dL_law_584 : decode cL_law 584 = .ok (.iload 5, 2) := by decide +kernel
theorem dL_law_586 : decode cL_law 586 = .ok (.ifCond .ne 15, 3) := by decide +kernel
theorem dL_law_589 : decode cL_law 589 = .ok (.aload_n 3, 1) := by decide +kernel
theorem dL_law_590 : decode cL_law 590 = .ok (.iconst 0, 1) := by decide +kernel
theorem dL_law_591 : decode cL_law 591 = .ok (.laload, 1) := by decide +kernel
theorem dL_law_592 : decode cL_law 592 = .ok (.iload 6, 2) := by decide +kernel
theorem dL_law_594 : decode cL_law 594 = .ok (.i2l, 1) := by decide +kernel
theorem dL_law_595 : decode cL_law 595 = .ok (.lcmp, 1) := by decide +kernel
theorem dL_law_596 : decode cL_law 596 = .ok (.ifCond .eq 5, 3) := by decide +kernel
theorem dL_law_599 : decode cL_law 599 = .ok (.iconst 0, 1) := by decide +kernel
theorem dL_law_600 : decode cL_law 600 = .ok (.ireturn, 1) := by decide +kernel
theorem dL_law_601 : decode cL_law 601 = .ok (.goto 59, 3) := by decide +kernel
theorem dL_law_604 : decode cL_law 604 = .ok (.aload_n 1, 1) := by decide +kernel
theorem dL_law_605 : decode cL_law 605 = .ok (.aload_n 0, 1) := by decide +kernel
theorem dL_law_606 : decode cL_law 606 = .ok (.iload 4, 2) := by decide +kernel
theorem dL_law_608 : decode cL_law 608 = .ok (.iconst 1, 1) := by decide +kernel
theorem dL_law_609 : decode cL_law 609 = .ok (.iadd, 1) := by decide +kernel
theorem dL_law_610 : decode cL_law 610 = .ok (.iaload, 1) := by decide +kernel
theorem dL_law_611 : decode cL_law 611 = .ok (.aload_n 3, 1) := by decide +kernel
theorem dL_law_612 : decode cL_law 612 = .ok (.invokestatic 84, 3) := by decide +kernel
theorem dL_law_615 : decode cL_law 615 = .ok (.istore 5, 2) := by decide +kernel
theorem dL_law_617 : decode cL_law 617 = .ok (.aload_n 2, 1) := by decide +kernel
theorem dL_law_618 : decode cL_law 618 = .ok (.aload_n 0, 1) := by decide +kernel
theorem dL_law_619 : decode cL_law 619 = .ok (.iload 4, 2) := by decide +kernel
theorem dL_law_621 : decode cL_law 621 = .ok (.iconst 1, 1) := by decide +kernel
theorem dL_law_622 : decode cL_law 622 = .ok (.iadd, 1) := by decide +kernel
theorem dL_law_623 : decode cL_law 623 = .ok (.iaload, 1) := by decide +kernel
theorem dL_law_624 : decode cL_law 624 = .ok (.invokevirtual 86, 3) := by decide +kernel
theorem dL_law_627 : decode cL_law 627 = .ok (.istore 6, 2) := by decide +kernel
theorem dL_law_629 : decode cL_law 629 = .ok (.aload_n 2, 1) := by decide +kernel
theorem dL_law_630 : decode cL_law 630 = .ok (.invokevirtual 54, 3) := by decide +kernel
theorem dL_law_633 : decode cL_law 633 = .ok (.iload 5, 2) := by decide +kernel
theorem dL_law_635 : decode cL_law 635 = .ok (.if_icmp .eq 5, 3) := by decide +kernel
theorem dL_law_638 : decode cL_law 638 = .ok (.iconst 0, 1) := by decide +kernel
theorem dL_law_639 : decode cL_law 639 = .ok (.ireturn, 1) := by decide +kernel
theorem dL_law_640 : decode cL_law 640 = .ok (.iload 5, 2) := by decide +kernel
theorem dL_law_642 : decode cL_law 642 = .ok (.ifCond .ne 15, 3) := by decide +kernel
theorem dL_law_645 : decode cL_law 645 = .ok (.aload_n 3, 1) := by decide +kernel
theorem dL_law_646 : decode cL_law 646 = .ok (.iconst 0, 1) := by decide +kernel
theorem dL_law_647 : decode cL_law 647 = .ok (.laload, 1) := by decide +kernel
theorem dL_law_648 : decode cL_law 648 = .ok (.iload 6, 2) := by decide +kernel
theorem dL_law_650 : decode cL_law 650 = .ok (.i2l, 1) := by decide +kernel
theorem dL_law_651 : decode cL_law 651 = .ok (.lcmp, 1) := by decide +kernel
theorem dL_law_652 : decode cL_law 652 = .ok (.ifCond .eq 5, 3) := by decide +kernel
theorem dL_law_655 : decode cL_law 655 = .ok (.iconst 0, 1) := by decide +kernel
theorem dL_law_656 : decode cL_law 656 = .ok (.ireturn, 1) := by decide +kernel
theorem dL_law_657 : decode cL_law 657 = .ok (.goto 3, 3) := by decide +kernel
theorem dL_law_660 : decode cL_law 660 = .ok (.iinc 4 5, 3) := by decide +kernel
theorem dL_law_663 : decode cL_law 663 = .ok (.goto (-640), 3) := by decide +kernel
theorem dL_law_666 : decode cL_law 666 = .ok (.iconst 1, 1) := by decide +kernel
theorem dL_law_667 : decode cL_law 667 = .ok (.ireturn, 1) := by decide +kernel
end
section
/-! WORDS, by their places (by program) -/
def xm_W : List Cond := lw_tbl.filter goodWord
theorem xm_W_good {w : Cond} (h : w ∈ xm_W) : (w.onTables && w.keeps) = true ∨ ∃ ty, w = .arrayClass ty := good_of_word (List.mem_filter.mp h).2
theorem xm_W_of {w : Cond} (h : w ∈ lw_tbl) (hg : goodWord w = true) : w ∈ xm_W := List.mem_filter.mpr ⟨h, hg⟩
set_option maxRecDepth 100000 in
theorem xu_0 : ∀ w ∈ wsX00, w ∈ xm_W := by decide +kernel
set_option maxRecDepth 100000 in
theorem xu_1 : ∀ w ∈ wsX10, w ∈ xm_W := by decide +kernel
set_option maxRecDepth 100000 in
theorem xu_2 : ∀ w ∈ wsX20, w ∈ xm_W := by decide +kernel
set_option maxRecDepth 100000 in
theorem xu_3 : ∀ w ∈ wsX30, w ∈ xm_W := by decide +kernel
set_option maxRecDepth 100000 in
theorem xu_4 : ∀ w ∈ wsX40, w ∈ xm_W := by decide +kernel
set_option maxRecDepth 100000 in
theorem xu_5 : ∀ w ∈ wsX50, w ∈ xm_W := by decide +kernel
theorem xw_0 : (Cond.methodLink RX0 1 objectInit) ∈ xm_W := xm_W_of (List.mem_append_right _ (List.mem_of_getElem? (i := 73) (by decide +kernel))) (by decide +kernel)
theorem xw_1 : (Cond.instanceMethod objectInit) ∈ xm_W := xm_W_of (List.mem_append_right _ (List.mem_of_getElem? (i := 18) (by decide +kernel))) (by decide +kernel)
theorem xw_2 : (Cond.code objectInit ⟨#[0xb1]⟩ 1 none) ∈ xm_W := xm_W_of (List.mem_append_right _ (List.mem_of_getElem? (i := 19) (by decide +kernel))) (by decide +kernel)
theorem xw_3 : (Cond.constant RX0 9 (200000)) ∈ xm_W := xm_W_of (List.mem_append_right _ (List.mem_of_getElem? (i := 262) (by decide +kernel))) (by decide +kernel)
theorem xw_4 : (Cond.methodLink RX0 10 yX0_isWithin) ∈ xm_W := xm_W_of (List.mem_append_right _ (List.mem_of_getElem? (i := 263) (by decide +kernel))) (by decide +kernel)
theorem xw_5 : (Cond.static yX0_isWithin) ∈ xm_W := xm_W_of (List.mem_append_right _ (List.mem_of_getElem? (i := 264) (by decide +kernel))) (by decide +kernel)
theorem xw_6 : (Cond.initialized RX0) ∈ xm_W := xm_W_of (List.mem_append_right _ (List.mem_of_getElem? (i := 4) (by decide +kernel))) (by decide +kernel)
theorem xw_7 : (Cond.code yX0_isWithin cX0_isWithin 2 (some .boolean)) ∈ xm_W := xm_W_of (List.mem_append_right _ (List.mem_of_getElem? (i := 265) (by decide +kernel))) (by decide +kernel)
theorem xw_8 : (Cond.methodLink RX0 14 Lib.Math.min.name) ∈ xm_W := xm_W_of (List.mem_append_right _ (List.mem_of_getElem? (i := 356) (by decide +kernel))) (by decide +kernel)
theorem xw_9 : (Cond.static Lib.Math.min.name) ∈ xm_W := xm_W_of (List.mem_append_right _ (List.mem_of_getElem? (i := 357) (by decide +kernel))) (by decide +kernel)
theorem xw_10 : (Cond.initialized "java/lang/Math") ∈ xm_W := xm_W_of (List.mem_append_right _ (List.mem_of_getElem? (i := 11) (by decide +kernel))) (by decide +kernel)
theorem xw_11 : (Cond.code Lib.Math.min.name Lib.Math.min.code 2 (some .int)) ∈ xm_W := xm_W_of (List.mem_append_right _ (List.mem_of_getElem? (i := 358) (by decide +kernel))) (by decide +kernel)
theorem xw_12 : (Cond.methodLink RX0 20 Lib.Math.max.name) ∈ xm_W := xm_W_of (List.mem_append_right _ (List.mem_of_getElem? (i := 359) (by decide +kernel))) (by decide +kernel)
theorem xw_13 : (Cond.static Lib.Math.max.name) ∈ xm_W := xm_W_of (List.mem_append_right _ (List.mem_of_getElem? (i := 360) (by decide +kernel))) (by decide +kernel)
theorem xw_14 : (Cond.code Lib.Math.max.name Lib.Math.max.code 2 (some .int)) ∈ xm_W := xm_W_of (List.mem_append_right _ (List.mem_of_getElem? (i := 361) (by decide +kernel))) (by decide +kernel)
theorem xw_15 : (Cond.fieldLink RX0 23 "SkyAdvisor$Aircraft" "there" "Z") ∈ xm_W := xm_W_of (List.mem_append_right _ (List.mem_of_getElem? (i := 75) (by decide +kernel))) (by decide +kernel)
theorem xw_16 : (Cond.fieldLink RX0 27 "SkyAdvisor$Aircraft" "follows" "Z") ∈ xm_W := xm_W_of (List.mem_append_right _ (List.mem_of_getElem? (i := 78) (by decide +kernel))) (by decide +kernel)
theorem xw_17 : (Cond.methodLink RX0 30 yX0_flyWith) ∈ xm_W := xm_W_of (List.mem_append_right _ (List.mem_of_getElem? (i := 271) (by decide +kernel))) (by decide +kernel)
theorem xw_18 : (Cond.instanceMethod yX0_flyWith) ∈ xm_W := xm_W_of (List.mem_append_right _ (List.mem_of_getElem? (i := 272) (by decide +kernel))) (by decide +kernel)
theorem xw_19 : (Cond.selects RX0 yX0_flyWith yX0_flyWith) ∈ xm_W := xm_W_of (List.mem_append_right _ (List.mem_of_getElem? (i := 273) (by decide +kernel))) (by decide +kernel)
theorem xw_20 : (Cond.code yX0_flyWith cX0_flyWith 4 none) ∈ xm_W := xm_W_of (List.mem_append_right _ (List.mem_of_getElem? (i := 274) (by decide +kernel))) (by decide +kernel)
theorem xw_21 : (Cond.fieldLink RX0 34 "SkyAdvisor$Aircraft" "x" "I") ∈ xm_W := xm_W_of (List.mem_append_right _ (List.mem_of_getElem? (i := 79) (by decide +kernel))) (by decide +kernel)
theorem xw_22 : (Cond.fieldLink RX0 38 "SkyAdvisor$Aircraft" "y" "I") ∈ xm_W := xm_W_of (List.mem_append_right _ (List.mem_of_getElem? (i := 81) (by decide +kernel))) (by decide +kernel)
theorem xw_23 : (Cond.fieldLink RX0 41 "SkyAdvisor$Aircraft" "z" "I") ∈ xm_W := xm_W_of (List.mem_append_right _ (List.mem_of_getElem? (i := 83) (by decide +kernel))) (by decide +kernel)
theorem xw_24 : (Cond.fieldLink RX0 44 "SkyAdvisor$Aircraft" "vx" "I") ∈ xm_W := xm_W_of (List.mem_append_right _ (List.mem_of_getElem? (i := 85) (by decide +kernel))) (by decide +kernel)
theorem xw_25 : (Cond.fieldLink RX0 47 "SkyAdvisor$Aircraft" "vy" "I") ∈ xm_W := xm_W_of (List.mem_append_right _ (List.mem_of_getElem? (i := 87) (by decide +kernel))) (by decide +kernel)
theorem xw_26 : (Cond.fieldLink RX0 50 "SkyAdvisor$Aircraft" "vz" "I") ∈ xm_W := xm_W_of (List.mem_append_right _ (List.mem_of_getElem? (i := 89) (by decide +kernel))) (by decide +kernel)
theorem xw_27 : (Cond.methodLink RX0 53 yX0_stopAt) ∈ xm_W := xm_W_of (List.mem_append_right _ (List.mem_of_getElem? (i := 353) (by decide +kernel))) (by decide +kernel)
theorem xw_28 : (Cond.static yX0_stopAt) ∈ xm_W := xm_W_of (List.mem_append_right _ (List.mem_of_getElem? (i := 354) (by decide +kernel))) (by decide +kernel)
theorem xw_29 : (Cond.code yX0_stopAt cX0_stopAt 2 (some .int)) ∈ xm_W := xm_W_of (List.mem_append_right _ (List.mem_of_getElem? (i := 355) (by decide +kernel))) (by decide +kernel)
theorem xw_30 : (Cond.methodLink RX0 56 yX0_levelOff) ∈ xm_W := xm_W_of (List.mem_append_right _ (List.mem_of_getElem? (i := 387) (by decide +kernel))) (by decide +kernel)
theorem xw_31 : (Cond.instanceMethod yX0_levelOff) ∈ xm_W := xm_W_of (List.mem_append_right _ (List.mem_of_getElem? (i := 389) (by decide +kernel))) (by decide +kernel)
theorem xw_32 : (Cond.selects RX0 yX0_levelOff yX0_levelOff) ∈ xm_W := xm_W_of (List.mem_append_left _ (by decide +kernel)) (by decide +kernel)
theorem xw_33 : (Cond.code yX0_levelOff cX0_levelOff 2 none) ∈ xm_W := xm_W_of (List.mem_append_right _ (List.mem_of_getElem? (i := 390) (by decide +kernel))) (by decide +kernel)
theorem xw_34 : (Cond.methodLink RX1 1 objectInit) ∈ xm_W := xm_W_of (List.mem_append_right _ (List.mem_of_getElem? (i := 114) (by decide +kernel))) (by decide +kernel)
theorem xw_35 : (Cond.fieldLink RX1 7 "SkyAdvisor$Pair" "first" "LSkyAdvisor$Aircraft;") ∈ xm_W := xm_W_of (List.mem_append_right _ (List.mem_of_getElem? (i := 115) (by decide +kernel))) (by decide +kernel)
theorem xw_36 : (Cond.fieldLink RX1 13 "SkyAdvisor$Pair" "second" "LSkyAdvisor$Aircraft;") ∈ xm_W := xm_W_of (List.mem_append_right _ (List.mem_of_getElem? (i := 116) (by decide +kernel))) (by decide +kernel)
theorem xw_37 : (Cond.fieldLink RX1 16 "SkyAdvisor$Pair" "settings" "LSkyAdvisor$Settings;") ∈ xm_W := xm_W_of (List.mem_append_right _ (List.mem_of_getElem? (i := 117) (by decide +kernel))) (by decide +kernel)
theorem xw_38 : (Cond.fieldLink RX1 20 "SkyAdvisor$Pair" "tally" "LSkyAdvisor$Tally;") ∈ xm_W := xm_W_of (List.mem_append_right _ (List.mem_of_getElem? (i := 118) (by decide +kernel))) (by decide +kernel)
theorem xw_39 : (Cond.fieldLink RX1 24 "SkyAdvisor$Aircraft" "there" "Z") ∈ xm_W := xm_W_of (List.mem_append_right _ (List.mem_of_getElem? (i := 74) (by decide +kernel))) (by decide +kernel)
theorem xw_40 : (Cond.fieldLink RX1 30 "SkyAdvisor$Pair" "advised" "Z") ∈ xm_W := xm_W_of (List.mem_append_right _ (List.mem_of_getElem? (i := 124) (by decide +kernel))) (by decide +kernel)
theorem xw_41 : (Cond.fieldLink RX1 33 "SkyAdvisor$Pair" "stood" "I") ∈ xm_W := xm_W_of (List.mem_append_right _ (List.mem_of_getElem? (i := 122) (by decide +kernel))) (by decide +kernel)
theorem xw_42 : (Cond.methodLink RX1 37 yX2_delay) ∈ xm_W := xm_W_of (List.mem_append_right _ (List.mem_of_getElem? (i := 370) (by decide +kernel))) (by decide +kernel)
theorem xw_43 : (Cond.instanceMethod yX2_delay) ∈ xm_W := xm_W_of (List.mem_append_right _ (List.mem_of_getElem? (i := 371) (by decide +kernel))) (by decide +kernel)
theorem xw_44 : (Cond.selects RX2 yX2_delay yX2_delay) ∈ xm_W := xm_W_of (List.mem_append_right _ (List.mem_of_getElem? (i := 372) (by decide +kernel))) (by decide +kernel)
theorem xw_45 : (Cond.initialized RX2) ∈ xm_W := xm_W_of (List.mem_append_right _ (List.mem_of_getElem? (i := 2) (by decide +kernel))) (by decide +kernel)
theorem xw_46 : (Cond.code yX2_delay cX2_delay 1 (some .int)) ∈ xm_W := xm_W_of (List.mem_append_right _ (List.mem_of_getElem? (i := 373) (by decide +kernel))) (by decide +kernel)
theorem xw_47 : (Cond.fieldLink RX1 43 "SkyAdvisor$Pair" "sense" "Z") ∈ xm_W := xm_W_of (List.mem_append_right _ (List.mem_of_getElem? (i := 121) (by decide +kernel))) (by decide +kernel)
theorem xw_48 : (Cond.fieldLink RX1 46 "SkyAdvisor$Pair" "strength" "I") ∈ xm_W := xm_W_of (List.mem_append_right _ (List.mem_of_getElem? (i := 126) (by decide +kernel))) (by decide +kernel)
theorem xw_49 : (Cond.fieldLink RX1 49 "SkyAdvisor$Pair" "turned" "Z") ∈ xm_W := xm_W_of (List.mem_append_right _ (List.mem_of_getElem? (i := 123) (by decide +kernel))) (by decide +kernel)
theorem xw_50 : (Cond.methodLink RX1 52 yX1_distanceSquared) ∈ xm_W := xm_W_of (List.mem_append_right _ (List.mem_of_getElem? (i := 295) (by decide +kernel))) (by decide +kernel)
theorem xw_51 : (Cond.instanceMethod yX1_distanceSquared) ∈ xm_W := xm_W_of (List.mem_append_right _ (List.mem_of_getElem? (i := 297) (by decide +kernel))) (by decide +kernel)
theorem xw_52 : (Cond.selects RX1 yX1_distanceSquared yX1_distanceSquared) ∈ xm_W := xm_W_of (List.mem_append_left _ (by decide +kernel)) (by decide +kernel)
theorem xw_53 : (Cond.initialized RX1) ∈ xm_W := xm_W_of (List.mem_append_right _ (List.mem_of_getElem? (i := 5) (by decide +kernel))) (by decide +kernel)
theorem xw_54 : (Cond.code yX1_distanceSquared cX1_distanceSquared 5 (some .long)) ∈ xm_W := xm_W_of (List.mem_append_right _ (List.mem_of_getElem? (i := 298) (by decide +kernel))) (by decide +kernel)
theorem xw_55 : (Cond.fieldLink RX1 56 "SkyAdvisor$Pair" "leastDistance" "J") ∈ xm_W := xm_W_of (List.mem_append_right _ (List.mem_of_getElem? (i := 119) (by decide +kernel))) (by decide +kernel)
theorem xw_56 : (Cond.methodLink RX1 60 yX1_heightBetween) ∈ xm_W := xm_W_of (List.mem_append_right _ (List.mem_of_getElem? (i := 299) (by decide +kernel))) (by decide +kernel)
theorem xw_57 : (Cond.instanceMethod yX1_heightBetween) ∈ xm_W := xm_W_of (List.mem_append_right _ (List.mem_of_getElem? (i := 301) (by decide +kernel))) (by decide +kernel)
theorem xw_58 : (Cond.selects RX1 yX1_heightBetween yX1_heightBetween) ∈ xm_W := xm_W_of (List.mem_append_left _ (by decide +kernel)) (by decide +kernel)
theorem xw_59 : (Cond.code yX1_heightBetween cX1_heightBetween 1 (some .int)) ∈ xm_W := xm_W_of (List.mem_append_right _ (List.mem_of_getElem? (i := 302) (by decide +kernel))) (by decide +kernel)
theorem xw_60 : (Cond.fieldLink RX1 63 "SkyAdvisor$Pair" "leastHeight" "I") ∈ xm_W := xm_W_of (List.mem_append_right _ (List.mem_of_getElem? (i := 120) (by decide +kernel))) (by decide +kernel)
theorem xw_61 : (Cond.methodLink RX1 66 Lib.MathLoose.min_long.x) ∈ xm_W := xm_W_of (List.mem_append_right _ (List.mem_of_getElem? (i := 399) (by decide +kernel))) (by decide +kernel)
theorem xw_62 : (Cond.static Lib.MathLoose.min_long.x) ∈ xm_W := xm_W_of (List.mem_append_right _ (List.mem_of_getElem? (i := 400) (by decide +kernel))) (by decide +kernel)
theorem xw_63 : (Cond.code Lib.MathLoose.min_long.x Lib.MathLoose.min_long.code 4 (some .long)) ∈ xm_W := xm_W_of (List.mem_append_right _ (List.mem_of_getElem? (i := 401) (by decide +kernel))) (by decide +kernel)
theorem xw_64 : (Cond.methodLink RX1 72 Lib.Math.min.name) ∈ xm_W := xm_W_of (List.mem_append_right _ (List.mem_of_getElem? (i := 402) (by decide +kernel))) (by decide +kernel)
theorem xw_65 : (Cond.methodLink RX1 75 yX1_alerts) ∈ xm_W := xm_W_of (List.mem_append_right _ (List.mem_of_getElem? (i := 407) (by decide +kernel))) (by decide +kernel)
theorem xw_66 : (Cond.instanceMethod yX1_alerts) ∈ xm_W := xm_W_of (List.mem_append_right _ (List.mem_of_getElem? (i := 409) (by decide +kernel))) (by decide +kernel)
theorem xw_67 : (Cond.selects RX1 yX1_alerts yX1_alerts) ∈ xm_W := xm_W_of (List.mem_append_left _ (by decide +kernel)) (by decide +kernel)
theorem xw_68 : (Cond.code yX1_alerts cX1_alerts 1 (some .boolean)) ∈ xm_W := xm_W_of (List.mem_append_right _ (List.mem_of_getElem? (i := 410) (by decide +kernel))) (by decide +kernel)
theorem xw_69 : (Cond.methodLink RX1 79 yX1_timeLeft) ∈ xm_W := xm_W_of (List.mem_append_right _ (List.mem_of_getElem? (i := 451) (by decide +kernel))) (by decide +kernel)
theorem xw_70 : (Cond.instanceMethod yX1_timeLeft) ∈ xm_W := xm_W_of (List.mem_append_right _ (List.mem_of_getElem? (i := 453) (by decide +kernel))) (by decide +kernel)
theorem xw_71 : (Cond.selects RX1 yX1_timeLeft yX1_timeLeft) ∈ xm_W := xm_W_of (List.mem_append_left _ (by decide +kernel)) (by decide +kernel)
theorem xw_72 : (Cond.code yX1_timeLeft cX1_timeLeft 9 (some .int)) ∈ xm_W := xm_W_of (List.mem_append_right _ (List.mem_of_getElem? (i := 454) (by decide +kernel))) (by decide +kernel)
theorem xw_73 : (Cond.methodLink RX1 82 yX1_chosenSense) ∈ xm_W := xm_W_of (List.mem_append_right _ (List.mem_of_getElem? (i := 455) (by decide +kernel))) (by decide +kernel)
theorem xw_74 : (Cond.instanceMethod yX1_chosenSense) ∈ xm_W := xm_W_of (List.mem_append_right _ (List.mem_of_getElem? (i := 457) (by decide +kernel))) (by decide +kernel)
theorem xw_75 : (Cond.selects RX1 yX1_chosenSense yX1_chosenSense) ∈ xm_W := xm_W_of (List.mem_append_left _ (by decide +kernel)) (by decide +kernel)
theorem xw_76 : (Cond.code yX1_chosenSense cX1_chosenSense 6 (some .boolean)) ∈ xm_W := xm_W_of (List.mem_append_right _ (List.mem_of_getElem? (i := 458) (by decide +kernel))) (by decide +kernel)
theorem xw_77 : (Cond.methodLink RX1 86 yX1_takeSense) ∈ xm_W := xm_W_of (List.mem_append_right _ (List.mem_of_getElem? (i := 480) (by decide +kernel))) (by decide +kernel)
theorem xw_78 : (Cond.instanceMethod yX1_takeSense) ∈ xm_W := xm_W_of (List.mem_append_right _ (List.mem_of_getElem? (i := 482) (by decide +kernel))) (by decide +kernel)
theorem xw_79 : (Cond.selects RX1 yX1_takeSense yX1_takeSense) ∈ xm_W := xm_W_of (List.mem_append_left _ (by decide +kernel)) (by decide +kernel)
theorem xw_80 : (Cond.code yX1_takeSense cX1_takeSense 3 none) ∈ xm_W := xm_W_of (List.mem_append_right _ (List.mem_of_getElem? (i := 483) (by decide +kernel))) (by decide +kernel)
theorem xw_81 : (Cond.fieldLink RX1 90 "SkyAdvisor$Tally" "begun" "I") ∈ xm_W := xm_W_of (List.mem_append_right _ (List.mem_of_getElem? (i := 47) (by decide +kernel))) (by decide +kernel)
theorem xw_82 : (Cond.methodLink RX1 95 yX1_closing) ∈ xm_W := xm_W_of (List.mem_append_right _ (List.mem_of_getElem? (i := 427) (by decide +kernel))) (by decide +kernel)
theorem xw_83 : (Cond.instanceMethod yX1_closing) ∈ xm_W := xm_W_of (List.mem_append_right _ (List.mem_of_getElem? (i := 429) (by decide +kernel))) (by decide +kernel)
theorem xw_84 : (Cond.selects RX1 yX1_closing yX1_closing) ∈ xm_W := xm_W_of (List.mem_append_left _ (by decide +kernel)) (by decide +kernel)
theorem xw_85 : (Cond.code yX1_closing cX1_closing 9 (some .long)) ∈ xm_W := xm_W_of (List.mem_append_right _ (List.mem_of_getElem? (i := 430) (by decide +kernel))) (by decide +kernel)
theorem xw_86 : (Cond.methodLink RX1 98 yX1_dropAdvice) ∈ xm_W := xm_W_of (List.mem_append_right _ (List.mem_of_getElem? (i := 484) (by decide +kernel))) (by decide +kernel)
theorem xw_87 : (Cond.instanceMethod yX1_dropAdvice) ∈ xm_W := xm_W_of (List.mem_append_right _ (List.mem_of_getElem? (i := 284) (by decide +kernel))) (by decide +kernel)
theorem xw_88 : (Cond.selects RX1 yX1_dropAdvice yX1_dropAdvice) ∈ xm_W := xm_W_of (List.mem_append_right _ (List.mem_of_getElem? (i := 285) (by decide +kernel))) (by decide +kernel)
theorem xw_89 : (Cond.code yX1_dropAdvice cX1_dropAdvice 1 none) ∈ xm_W := xm_W_of (List.mem_append_right _ (List.mem_of_getElem? (i := 286) (by decide +kernel))) (by decide +kernel)
theorem xw_90 : (Cond.fieldLink RX1 101 "SkyAdvisor$Tally" "ended" "I") ∈ xm_W := xm_W_of (List.mem_append_right _ (List.mem_of_getElem? (i := 53) (by decide +kernel))) (by decide +kernel)
theorem xw_91 : (Cond.methodLink RX1 104 yX1_mustTurn) ∈ xm_W := xm_W_of (List.mem_append_right _ (List.mem_of_getElem? (i := 485) (by decide +kernel))) (by decide +kernel)
theorem xw_92 : (Cond.instanceMethod yX1_mustTurn) ∈ xm_W := xm_W_of (List.mem_append_right _ (List.mem_of_getElem? (i := 487) (by decide +kernel))) (by decide +kernel)
theorem xw_93 : (Cond.selects RX1 yX1_mustTurn yX1_mustTurn) ∈ xm_W := xm_W_of (List.mem_append_left _ (by decide +kernel)) (by decide +kernel)
theorem xw_94 : (Cond.code yX1_mustTurn cX1_mustTurn 2 (some .boolean)) ∈ xm_W := xm_W_of (List.mem_append_right _ (List.mem_of_getElem? (i := 488) (by decide +kernel))) (by decide +kernel)
theorem xw_95 : (Cond.fieldLink RX1 107 "SkyAdvisor$Tally" "turned" "I") ∈ xm_W := xm_W_of (List.mem_append_right _ (List.mem_of_getElem? (i := 49) (by decide +kernel))) (by decide +kernel)
theorem xw_96 : (Cond.methodLink RX1 109 yX1_strengthen) ∈ xm_W := xm_W_of (List.mem_append_right _ (List.mem_of_getElem? (i := 489) (by decide +kernel))) (by decide +kernel)
theorem xw_97 : (Cond.instanceMethod yX1_strengthen) ∈ xm_W := xm_W_of (List.mem_append_right _ (List.mem_of_getElem? (i := 491) (by decide +kernel))) (by decide +kernel)
theorem xw_98 : (Cond.selects RX1 yX1_strengthen yX1_strengthen) ∈ xm_W := xm_W_of (List.mem_append_left _ (by decide +kernel)) (by decide +kernel)
theorem xw_99 : (Cond.code yX1_strengthen cX1_strengthen 3 none) ∈ xm_W := xm_W_of (List.mem_append_right _ (List.mem_of_getElem? (i := 492) (by decide +kernel))) (by decide +kernel)
theorem xw_100 : (Cond.methodLink RX1 113 yX1_enough) ∈ xm_W := xm_W_of (List.mem_append_right _ (List.mem_of_getElem? (i := 459) (by decide +kernel))) (by decide +kernel)
theorem xw_101 : (Cond.instanceMethod yX1_enough) ∈ xm_W := xm_W_of (List.mem_append_right _ (List.mem_of_getElem? (i := 461) (by decide +kernel))) (by decide +kernel)
theorem xw_102 : (Cond.selects RX1 yX1_enough yX1_enough) ∈ xm_W := xm_W_of (List.mem_append_left _ (by decide +kernel)) (by decide +kernel)
theorem xw_103 : (Cond.code yX1_enough cX1_enough 6 (some .int)) ∈ xm_W := xm_W_of (List.mem_append_right _ (List.mem_of_getElem? (i := 462) (by decide +kernel))) (by decide +kernel)
theorem xw_104 : (Cond.fieldLink RX1 117 "SkyAdvisor$Tally" "strengthened" "I") ∈ xm_W := xm_W_of (List.mem_append_right _ (List.mem_of_getElem? (i := 51) (by decide +kernel))) (by decide +kernel)
theorem xw_105 : (Cond.methodLink RX1 120 yX1_parting) ∈ xm_W := xm_W_of (List.mem_append_right _ (List.mem_of_getElem? (i := 463) (by decide +kernel))) (by decide +kernel)
theorem xw_106 : (Cond.instanceMethod yX1_parting) ∈ xm_W := xm_W_of (List.mem_append_right _ (List.mem_of_getElem? (i := 465) (by decide +kernel))) (by decide +kernel)
theorem xw_107 : (Cond.selects RX1 yX1_parting yX1_parting) ∈ xm_W := xm_W_of (List.mem_append_left _ (by decide +kernel)) (by decide +kernel)
theorem xw_108 : (Cond.code yX1_parting cX1_parting 9 (some .int)) ∈ xm_W := xm_W_of (List.mem_append_right _ (List.mem_of_getElem? (i := 466) (by decide +kernel))) (by decide +kernel)
theorem xw_109 : (Cond.methodLink RX1 123 yX2_wanted) ∈ xm_W := xm_W_of (List.mem_append_right _ (List.mem_of_getElem? (i := 476) (by decide +kernel))) (by decide +kernel)
theorem xw_110 : (Cond.instanceMethod yX2_wanted) ∈ xm_W := xm_W_of (List.mem_append_right _ (List.mem_of_getElem? (i := 477) (by decide +kernel))) (by decide +kernel)
theorem xw_111 : (Cond.selects RX2 yX2_wanted yX2_wanted) ∈ xm_W := xm_W_of (List.mem_append_right _ (List.mem_of_getElem? (i := 478) (by decide +kernel))) (by decide +kernel)
theorem xw_112 : (Cond.code yX2_wanted cX2_wanted 1 (some .int)) ∈ xm_W := xm_W_of (List.mem_append_right _ (List.mem_of_getElem? (i := 479) (by decide +kernel))) (by decide +kernel)
theorem xw_113 : (Cond.methodLink RX1 126 yX1_senseFor) ∈ xm_W := xm_W_of (List.mem_append_right _ (List.mem_of_getElem? (i := 525) (by decide +kernel))) (by decide +kernel)
theorem xw_114 : (Cond.static yX1_senseFor) ∈ xm_W := xm_W_of (List.mem_append_right _ (List.mem_of_getElem? (i := 526) (by decide +kernel))) (by decide +kernel)
theorem xw_115 : (Cond.code yX1_senseFor cX1_senseFor 2 (some .int)) ∈ xm_W := xm_W_of (List.mem_append_right _ (List.mem_of_getElem? (i := 527) (by decide +kernel))) (by decide +kernel)
theorem xw_116 : (Cond.methodLink RX1 130 yX1_chosenParting) ∈ xm_W := xm_W_of (List.mem_append_right _ (List.mem_of_getElem? (i := 528) (by decide +kernel))) (by decide +kernel)
theorem xw_117 : (Cond.instanceMethod yX1_chosenParting) ∈ xm_W := xm_W_of (List.mem_append_right _ (List.mem_of_getElem? (i := 530) (by decide +kernel))) (by decide +kernel)
theorem xw_118 : (Cond.selects RX1 yX1_chosenParting yX1_chosenParting) ∈ xm_W := xm_W_of (List.mem_append_left _ (by decide +kernel)) (by decide +kernel)
theorem xw_119 : (Cond.code yX1_chosenParting cX1_chosenParting 3 (some .int)) ∈ xm_W := xm_W_of (List.mem_append_right _ (List.mem_of_getElem? (i := 531) (by decide +kernel))) (by decide +kernel)
theorem xw_120 : (Cond.constantLong RX1 134 (2147483647)) ∈ xm_W := xm_W_of (List.mem_append_right _ (List.mem_of_getElem? (i := 532) (by decide +kernel))) (by decide +kernel)
theorem xw_121 : (Cond.methodLink RX1 136 yX1_isNear) ∈ xm_W := xm_W_of (List.mem_append_right _ (List.mem_of_getElem? (i := 411) (by decide +kernel))) (by decide +kernel)
theorem xw_122 : (Cond.instanceMethod yX1_isNear) ∈ xm_W := xm_W_of (List.mem_append_right _ (List.mem_of_getElem? (i := 413) (by decide +kernel))) (by decide +kernel)
theorem xw_123 : (Cond.selects RX1 yX1_isNear yX1_isNear) ∈ xm_W := xm_W_of (List.mem_append_left _ (by decide +kernel)) (by decide +kernel)
theorem xw_124 : (Cond.code yX1_isNear cX1_isNear 1 (some .boolean)) ∈ xm_W := xm_W_of (List.mem_append_right _ (List.mem_of_getElem? (i := 414) (by decide +kernel))) (by decide +kernel)
theorem xw_125 : (Cond.methodLink RX1 139 yX1_comesNearInTime) ∈ xm_W := xm_W_of (List.mem_append_right _ (List.mem_of_getElem? (i := 423) (by decide +kernel))) (by decide +kernel)
theorem xw_126 : (Cond.instanceMethod yX1_comesNearInTime) ∈ xm_W := xm_W_of (List.mem_append_right _ (List.mem_of_getElem? (i := 425) (by decide +kernel))) (by decide +kernel)
theorem xw_127 : (Cond.selects RX1 yX1_comesNearInTime yX1_comesNearInTime) ∈ xm_W := xm_W_of (List.mem_append_left _ (by decide +kernel)) (by decide +kernel)
theorem xw_128 : (Cond.code yX1_comesNearInTime cX1_comesNearInTime 3 (some .boolean)) ∈ xm_W := xm_W_of (List.mem_append_right _ (List.mem_of_getElem? (i := 426) (by decide +kernel))) (by decide +kernel)
theorem xw_129 : (Cond.methodLink RX1 142 yX1_passesNear) ∈ xm_W := xm_W_of (List.mem_append_right _ (List.mem_of_getElem? (i := 435) (by decide +kernel))) (by decide +kernel)
theorem xw_130 : (Cond.instanceMethod yX1_passesNear) ∈ xm_W := xm_W_of (List.mem_append_right _ (List.mem_of_getElem? (i := 437) (by decide +kernel))) (by decide +kernel)
theorem xw_131 : (Cond.selects RX1 yX1_passesNear yX1_passesNear) ∈ xm_W := xm_W_of (List.mem_append_left _ (by decide +kernel)) (by decide +kernel)
theorem xw_132 : (Cond.code yX1_passesNear cX1_passesNear 13 (some .boolean)) ∈ xm_W := xm_W_of (List.mem_append_right _ (List.mem_of_getElem? (i := 438) (by decide +kernel))) (by decide +kernel)
theorem xw_133 : (Cond.methodLink RX1 145 yX1_meetsInHeight) ∈ xm_W := xm_W_of (List.mem_append_right _ (List.mem_of_getElem? (i := 443) (by decide +kernel))) (by decide +kernel)
theorem xw_134 : (Cond.instanceMethod yX1_meetsInHeight) ∈ xm_W := xm_W_of (List.mem_append_right _ (List.mem_of_getElem? (i := 445) (by decide +kernel))) (by decide +kernel)
theorem xw_135 : (Cond.selects RX1 yX1_meetsInHeight yX1_meetsInHeight) ∈ xm_W := xm_W_of (List.mem_append_left _ (by decide +kernel)) (by decide +kernel)
theorem xw_136 : (Cond.code yX1_meetsInHeight cX1_meetsInHeight 3 (some .boolean)) ∈ xm_W := xm_W_of (List.mem_append_right _ (List.mem_of_getElem? (i := 446) (by decide +kernel))) (by decide +kernel)
theorem xw_137 : (Cond.methodLink RX1 148 yX1_nearSquared) ∈ xm_W := xm_W_of (List.mem_append_right _ (List.mem_of_getElem? (i := 415) (by decide +kernel))) (by decide +kernel)
theorem xw_138 : (Cond.instanceMethod yX1_nearSquared) ∈ xm_W := xm_W_of (List.mem_append_right _ (List.mem_of_getElem? (i := 417) (by decide +kernel))) (by decide +kernel)
theorem xw_139 : (Cond.selects RX1 yX1_nearSquared yX1_nearSquared) ∈ xm_W := xm_W_of (List.mem_append_left _ (by decide +kernel)) (by decide +kernel)
theorem xw_140 : (Cond.code yX1_nearSquared cX1_nearSquared 3 (some .long)) ∈ xm_W := xm_W_of (List.mem_append_right _ (List.mem_of_getElem? (i := 418) (by decide +kernel))) (by decide +kernel)
theorem xw_141 : (Cond.methodLink RX1 151 yX2_time) ∈ xm_W := xm_W_of (List.mem_append_right _ (List.mem_of_getElem? (i := 431) (by decide +kernel))) (by decide +kernel)
theorem xw_142 : (Cond.instanceMethod yX2_time) ∈ xm_W := xm_W_of (List.mem_append_right _ (List.mem_of_getElem? (i := 432) (by decide +kernel))) (by decide +kernel)
theorem xw_143 : (Cond.selects RX2 yX2_time yX2_time) ∈ xm_W := xm_W_of (List.mem_append_right _ (List.mem_of_getElem? (i := 433) (by decide +kernel))) (by decide +kernel)
theorem xw_144 : (Cond.code yX2_time cX2_time 1 (some .int)) ∈ xm_W := xm_W_of (List.mem_append_right _ (List.mem_of_getElem? (i := 434) (by decide +kernel))) (by decide +kernel)
theorem xw_145 : (Cond.fieldLink RX1 154 "SkyAdvisor$Aircraft" "x" "I") ∈ xm_W := xm_W_of (List.mem_append_right _ (List.mem_of_getElem? (i := 80) (by decide +kernel))) (by decide +kernel)
theorem xw_146 : (Cond.fieldLink RX1 157 "SkyAdvisor$Aircraft" "y" "I") ∈ xm_W := xm_W_of (List.mem_append_right _ (List.mem_of_getElem? (i := 82) (by decide +kernel))) (by decide +kernel)
theorem xw_147 : (Cond.fieldLink RX1 160 "SkyAdvisor$Aircraft" "vx" "I") ∈ xm_W := xm_W_of (List.mem_append_right _ (List.mem_of_getElem? (i := 86) (by decide +kernel))) (by decide +kernel)
theorem xw_148 : (Cond.fieldLink RX1 163 "SkyAdvisor$Aircraft" "vy" "I") ∈ xm_W := xm_W_of (List.mem_append_right _ (List.mem_of_getElem? (i := 88) (by decide +kernel))) (by decide +kernel)
theorem xw_149 : (Cond.methodLink RX1 166 yX2_miss) ∈ xm_W := xm_W_of (List.mem_append_right _ (List.mem_of_getElem? (i := 439) (by decide +kernel))) (by decide +kernel)
theorem xw_150 : (Cond.instanceMethod yX2_miss) ∈ xm_W := xm_W_of (List.mem_append_right _ (List.mem_of_getElem? (i := 440) (by decide +kernel))) (by decide +kernel)
theorem xw_151 : (Cond.selects RX2 yX2_miss yX2_miss) ∈ xm_W := xm_W_of (List.mem_append_right _ (List.mem_of_getElem? (i := 441) (by decide +kernel))) (by decide +kernel)
theorem xw_152 : (Cond.code yX2_miss cX2_miss 1 (some .int)) ∈ xm_W := xm_W_of (List.mem_append_right _ (List.mem_of_getElem? (i := 442) (by decide +kernel))) (by decide +kernel)
theorem xw_153 : (Cond.fieldLink RX1 169 "SkyAdvisor$Aircraft" "z" "I") ∈ xm_W := xm_W_of (List.mem_append_right _ (List.mem_of_getElem? (i := 84) (by decide +kernel))) (by decide +kernel)
theorem xw_154 : (Cond.fieldLink RX1 172 "SkyAdvisor$Aircraft" "vz" "I") ∈ xm_W := xm_W_of (List.mem_append_right _ (List.mem_of_getElem? (i := 90) (by decide +kernel))) (by decide +kernel)
theorem xw_155 : (Cond.methodLink RX1 175 Lib.Math.abs.name) ∈ xm_W := xm_W_of (List.mem_append_right _ (List.mem_of_getElem? (i := 303) (by decide +kernel))) (by decide +kernel)
theorem xw_156 : (Cond.static Lib.Math.abs.name) ∈ xm_W := xm_W_of (List.mem_append_right _ (List.mem_of_getElem? (i := 304) (by decide +kernel))) (by decide +kernel)
theorem xw_157 : (Cond.code Lib.Math.abs.name Lib.Math.abs.code 1 (some .int)) ∈ xm_W := xm_W_of (List.mem_append_right _ (List.mem_of_getElem? (i := 305) (by decide +kernel))) (by decide +kernel)
theorem xw_158 : (Cond.methodLink RX1 178 yX2_high) ∈ xm_W := xm_W_of (List.mem_append_right _ (List.mem_of_getElem? (i := 447) (by decide +kernel))) (by decide +kernel)
theorem xw_159 : (Cond.instanceMethod yX2_high) ∈ xm_W := xm_W_of (List.mem_append_right _ (List.mem_of_getElem? (i := 448) (by decide +kernel))) (by decide +kernel)
theorem xw_160 : (Cond.selects RX2 yX2_high yX2_high) ∈ xm_W := xm_W_of (List.mem_append_right _ (List.mem_of_getElem? (i := 449) (by decide +kernel))) (by decide +kernel)
theorem xw_161 : (Cond.code yX2_high cX2_high 1 (some .int)) ∈ xm_W := xm_W_of (List.mem_append_right _ (List.mem_of_getElem? (i := 450) (by decide +kernel))) (by decide +kernel)
theorem xw_162 : (Cond.methodLink RX1 181 yX2_near) ∈ xm_W := xm_W_of (List.mem_append_right _ (List.mem_of_getElem? (i := 419) (by decide +kernel))) (by decide +kernel)
theorem xw_163 : (Cond.instanceMethod yX2_near) ∈ xm_W := xm_W_of (List.mem_append_right _ (List.mem_of_getElem? (i := 420) (by decide +kernel))) (by decide +kernel)
theorem xw_164 : (Cond.selects RX2 yX2_near yX2_near) ∈ xm_W := xm_W_of (List.mem_append_right _ (List.mem_of_getElem? (i := 421) (by decide +kernel))) (by decide +kernel)
theorem xw_165 : (Cond.code yX2_near cX2_near 1 (some .int)) ∈ xm_W := xm_W_of (List.mem_append_right _ (List.mem_of_getElem? (i := 422) (by decide +kernel))) (by decide +kernel)
theorem xw_166 : (Cond.methodLink RX1 184 Lib.Math.max.name) ∈ xm_W := xm_W_of (List.mem_append_right _ (List.mem_of_getElem? (i := 467) (by decide +kernel))) (by decide +kernel)
theorem xw_167 : (Cond.methodLink RX1 187 yX0_heightGoingUp) ∈ xm_W := xm_W_of (List.mem_append_right _ (List.mem_of_getElem? (i := 468) (by decide +kernel))) (by decide +kernel)
theorem xw_168 : (Cond.instanceMethod yX0_heightGoingUp) ∈ xm_W := xm_W_of (List.mem_append_right _ (List.mem_of_getElem? (i := 469) (by decide +kernel))) (by decide +kernel)
theorem xw_169 : (Cond.selects RX0 yX0_heightGoingUp yX0_heightGoingUp) ∈ xm_W := xm_W_of (List.mem_append_right _ (List.mem_of_getElem? (i := 470) (by decide +kernel))) (by decide +kernel)
theorem xw_170 : (Cond.code yX0_heightGoingUp cX0_heightGoingUp 5 (some .int)) ∈ xm_W := xm_W_of (List.mem_append_right _ (List.mem_of_getElem? (i := 471) (by decide +kernel))) (by decide +kernel)
theorem xw_171 : (Cond.methodLink RX1 191 yX0_heightGoingDown) ∈ xm_W := xm_W_of (List.mem_append_right _ (List.mem_of_getElem? (i := 472) (by decide +kernel))) (by decide +kernel)
theorem xw_172 : (Cond.instanceMethod yX0_heightGoingDown) ∈ xm_W := xm_W_of (List.mem_append_right _ (List.mem_of_getElem? (i := 473) (by decide +kernel))) (by decide +kernel)
theorem xw_173 : (Cond.selects RX0 yX0_heightGoingDown yX0_heightGoingDown) ∈ xm_W := xm_W_of (List.mem_append_right _ (List.mem_of_getElem? (i := 474) (by decide +kernel))) (by decide +kernel)
theorem xw_174 : (Cond.code yX0_heightGoingDown cX0_heightGoingDown 5 (some .int)) ∈ xm_W := xm_W_of (List.mem_append_right _ (List.mem_of_getElem? (i := 475) (by decide +kernel))) (by decide +kernel)
theorem xw_175 : (Cond.methodLink RX2 1 objectInit) ∈ xm_W := xm_W_of (List.mem_append_right _ (List.mem_of_getElem? (i := 25) (by decide +kernel))) (by decide +kernel)
theorem xw_176 : (Cond.fieldLink RX2 7 "SkyAdvisor$Settings" "AT_FIRST" "[I") ∈ xm_W := xm_W_of (List.mem_append_right _ (List.mem_of_getElem? (i := 26) (by decide +kernel))) (by decide +kernel)
theorem xw_177 : (Cond.classLink RX2 14 "[I") ∈ xm_W := xm_W_of (List.mem_append_right _ (List.mem_of_getElem? (i := 34) (by decide +kernel))) (by decide +kernel)
theorem xw_178 : (Cond.fieldLink RX2 18 "SkyAdvisor$Settings" "values" "[I") ∈ xm_W := xm_W_of (List.mem_append_right _ (List.mem_of_getElem? (i := 35) (by decide +kernel))) (by decide +kernel)
theorem xw_179 : (Cond.fieldLink RX2 21 "SkyAdvisor$Settings" "LEAST" "[I") ∈ xm_W := xm_W_of (List.mem_append_right _ (List.mem_of_getElem? (i := 175) (by decide +kernel))) (by decide +kernel)
theorem xw_180 : (Cond.fieldLink RX2 24 "SkyAdvisor$Settings" "MOST" "[I") ∈ xm_W := xm_W_of (List.mem_append_right _ (List.mem_of_getElem? (i := 177) (by decide +kernel))) (by decide +kernel)
theorem xw_181 : (Cond.methodLink RX3 1 objectInit) ∈ xm_W := xm_W_of (List.mem_append_right _ (List.mem_of_getElem? (i := 45) (by decide +kernel))) (by decide +kernel)
theorem xw_182 : (Cond.fieldLink RX3 7 "SkyAdvisor$Tally" "begun" "I") ∈ xm_W := xm_W_of (List.mem_append_right _ (List.mem_of_getElem? (i := 46) (by decide +kernel))) (by decide +kernel)
theorem xw_183 : (Cond.fieldLink RX3 13 "SkyAdvisor$Tally" "turned" "I") ∈ xm_W := xm_W_of (List.mem_append_right _ (List.mem_of_getElem? (i := 48) (by decide +kernel))) (by decide +kernel)
theorem xw_184 : (Cond.fieldLink RX3 16 "SkyAdvisor$Tally" "strengthened" "I") ∈ xm_W := xm_W_of (List.mem_append_right _ (List.mem_of_getElem? (i := 50) (by decide +kernel))) (by decide +kernel)
theorem xw_185 : (Cond.fieldLink RX3 19 "SkyAdvisor$Tally" "ended" "I") ∈ xm_W := xm_W_of (List.mem_append_right _ (List.mem_of_getElem? (i := 52) (by decide +kernel))) (by decide +kernel)
theorem xw_186 : (Cond.fieldLink RX3 22 "SkyAdvisor$Tally" "seconds" "I") ∈ xm_W := xm_W_of (List.mem_append_right _ (List.mem_of_getElem? (i := 54) (by decide +kernel))) (by decide +kernel)
theorem xw_187 : (Cond.methodLink RX4 1 objectInit) ∈ xm_W := xm_W_of (List.mem_append_right _ (List.mem_of_getElem? (i := 17) (by decide +kernel))) (by decide +kernel)
theorem xw_188 : (Cond.classLink RX4 7 RX2) ∈ xm_W := xm_W_of (List.mem_append_right _ (List.mem_of_getElem? (i := 20) (by decide +kernel))) (by decide +kernel)
theorem xw_189 : (Cond.instantiable RX2 1) ∈ xm_W := xm_W_of (List.mem_append_right _ (List.mem_of_getElem? (i := 21) (by decide +kernel))) (by decide +kernel)
theorem xw_190 : (Cond.methodLink RX4 9 yX2_init) ∈ xm_W := xm_W_of (List.mem_append_right _ (List.mem_of_getElem? (i := 22) (by decide +kernel))) (by decide +kernel)
theorem xw_191 : (Cond.instanceMethod yX2_init) ∈ xm_W := xm_W_of (List.mem_append_right _ (List.mem_of_getElem? (i := 23) (by decide +kernel))) (by decide +kernel)
theorem xw_192 : (Cond.code yX2_init cX2_init 1 none) ∈ xm_W := xm_W_of (List.mem_append_right _ (List.mem_of_getElem? (i := 24) (by decide +kernel))) (by decide +kernel)
theorem xw_193 : (Cond.fieldLink RX4 10 "SkyAdvisor" "settings" "LSkyAdvisor$Settings;") ∈ xm_W := xm_W_of (List.mem_append_right _ (List.mem_of_getElem? (i := 151) (by decide +kernel))) (by decide +kernel)
theorem xw_194 : (Cond.classLink RX4 16 RX3) ∈ xm_W := xm_W_of (List.mem_append_right _ (List.mem_of_getElem? (i := 40) (by decide +kernel))) (by decide +kernel)
theorem xw_195 : (Cond.instantiable RX3 5) ∈ xm_W := xm_W_of (List.mem_append_right _ (List.mem_of_getElem? (i := 41) (by decide +kernel))) (by decide +kernel)
theorem xw_196 : (Cond.initialized RX3) ∈ xm_W := xm_W_of (List.mem_append_right _ (List.mem_of_getElem? (i := 3) (by decide +kernel))) (by decide +kernel)
theorem xw_197 : (Cond.instanceMethod yX3_init) ∈ xm_W := xm_W_of (List.mem_append_right _ (List.mem_of_getElem? (i := 43) (by decide +kernel))) (by decide +kernel)
theorem xw_198 : (Cond.code yX3_init cX3_init 1 none) ∈ xm_W := xm_W_of (List.mem_append_right _ (List.mem_of_getElem? (i := 44) (by decide +kernel))) (by decide +kernel)
theorem xw_199 : (Cond.fieldLink RX4 19 "SkyAdvisor" "tally" "LSkyAdvisor$Tally;") ∈ xm_W := xm_W_of (List.mem_append_right _ (List.mem_of_getElem? (i := 152) (by decide +kernel))) (by decide +kernel)
theorem xw_200 : (Cond.classLink RX4 23 RX0) ∈ xm_W := xm_W_of (List.mem_append_right _ (List.mem_of_getElem? (i := 67) (by decide +kernel))) (by decide +kernel)
theorem xw_201 : (Cond.fieldLink RX4 25 "SkyAdvisor" "fleet" "[LSkyAdvisor$Aircraft;") ∈ xm_W := xm_W_of (List.mem_append_right _ (List.mem_of_getElem? (i := 153) (by decide +kernel))) (by decide +kernel)
theorem xw_202 : (Cond.instantiable RX0 8) ∈ xm_W := xm_W_of (List.mem_append_right _ (List.mem_of_getElem? (i := 69) (by decide +kernel))) (by decide +kernel)
theorem xw_203 : (Cond.instanceMethod yX0_init) ∈ xm_W := xm_W_of (List.mem_append_right _ (List.mem_of_getElem? (i := 71) (by decide +kernel))) (by decide +kernel)
theorem xw_204 : (Cond.code yX0_init cX0_init 1 none) ∈ xm_W := xm_W_of (List.mem_append_right _ (List.mem_of_getElem? (i := 72) (by decide +kernel))) (by decide +kernel)
theorem xw_205 : (Cond.classLink RX4 30 RX1) ∈ xm_W := xm_W_of (List.mem_append_right _ (List.mem_of_getElem? (i := 108) (by decide +kernel))) (by decide +kernel)
theorem xw_206 : (Cond.fieldLink RX4 32 "SkyAdvisor" "pairs" "[LSkyAdvisor$Pair;") ∈ xm_W := xm_W_of (List.mem_append_right _ (List.mem_of_getElem? (i := 154) (by decide +kernel))) (by decide +kernel)
theorem xw_207 : (Cond.instantiable RX1 11) ∈ xm_W := xm_W_of (List.mem_append_right _ (List.mem_of_getElem? (i := 110) (by decide +kernel))) (by decide +kernel)
theorem xw_208 : (Cond.methodLink RX4 36 yX1_init) ∈ xm_W := xm_W_of (List.mem_append_right _ (List.mem_of_getElem? (i := 111) (by decide +kernel))) (by decide +kernel)
theorem xw_209 : (Cond.instanceMethod yX1_init) ∈ xm_W := xm_W_of (List.mem_append_right _ (List.mem_of_getElem? (i := 112) (by decide +kernel))) (by decide +kernel)
theorem xw_210 : (Cond.code yX1_init cX1_init 5 none) ∈ xm_W := xm_W_of (List.mem_append_right _ (List.mem_of_getElem? (i := 113) (by decide +kernel))) (by decide +kernel)
theorem xw_211 : (Cond.methodLink RX4 39 yX2_allows) ∈ xm_W := xm_W_of (List.mem_append_right _ (List.mem_of_getElem? (i := 172) (by decide +kernel))) (by decide +kernel)
theorem xw_212 : (Cond.static yX2_allows) ∈ xm_W := xm_W_of (List.mem_append_right _ (List.mem_of_getElem? (i := 173) (by decide +kernel))) (by decide +kernel)
theorem xw_213 : (Cond.code yX2_allows cX2_allows 2 (some .boolean)) ∈ xm_W := xm_W_of (List.mem_append_right _ (List.mem_of_getElem? (i := 174) (by decide +kernel))) (by decide +kernel)
theorem xw_214 : (Cond.methodLink RX4 50 yX2_exchange) ∈ xm_W := xm_W_of (List.mem_append_right _ (List.mem_of_getElem? (i := 245) (by decide +kernel))) (by decide +kernel)
theorem xw_215 : (Cond.instanceMethod yX2_exchange) ∈ xm_W := xm_W_of (List.mem_append_right _ (List.mem_of_getElem? (i := 246) (by decide +kernel))) (by decide +kernel)
theorem xw_216 : (Cond.selects RX2 yX2_exchange yX2_exchange) ∈ xm_W := xm_W_of (List.mem_append_right _ (List.mem_of_getElem? (i := 247) (by decide +kernel))) (by decide +kernel)
theorem xw_217 : (Cond.code yX2_exchange cX2_exchange 4 (some .int)) ∈ xm_W := xm_W_of (List.mem_append_right _ (List.mem_of_getElem? (i := 248) (by decide +kernel))) (by decide +kernel)
theorem xw_218 : (Cond.methodLink RX4 54 yX4_isNumber) ∈ xm_W := xm_W_of (List.mem_append_right _ (List.mem_of_getElem? (i := 256) (by decide +kernel))) (by decide +kernel)
theorem xw_219 : (Cond.static yX4_isNumber) ∈ xm_W := xm_W_of (List.mem_append_right _ (List.mem_of_getElem? (i := 257) (by decide +kernel))) (by decide +kernel)
theorem xw_220 : (Cond.initialized RX4) ∈ xm_W := xm_W_of (List.mem_append_right _ (List.mem_of_getElem? (i := 1) (by decide +kernel))) (by decide +kernel)
theorem xw_221 : (Cond.code yX4_isNumber cX4_isNumber 1 (some .boolean)) ∈ xm_W := xm_W_of (List.mem_append_right _ (List.mem_of_getElem? (i := 258) (by decide +kernel))) (by decide +kernel)
theorem xw_222 : (Cond.methodLink RX4 58 yX0_isPlace) ∈ xm_W := xm_W_of (List.mem_append_right _ (List.mem_of_getElem? (i := 259) (by decide +kernel))) (by decide +kernel)
theorem xw_223 : (Cond.static yX0_isPlace) ∈ xm_W := xm_W_of (List.mem_append_right _ (List.mem_of_getElem? (i := 260) (by decide +kernel))) (by decide +kernel)
theorem xw_224 : (Cond.code yX0_isPlace cX0_isPlace 3 (some .boolean)) ∈ xm_W := xm_W_of (List.mem_append_right _ (List.mem_of_getElem? (i := 261) (by decide +kernel))) (by decide +kernel)
theorem xw_225 : (Cond.methodLink RX4 64 yX0_putAt) ∈ xm_W := xm_W_of (List.mem_append_right _ (List.mem_of_getElem? (i := 267) (by decide +kernel))) (by decide +kernel)
theorem xw_226 : (Cond.instanceMethod yX0_putAt) ∈ xm_W := xm_W_of (List.mem_append_right _ (List.mem_of_getElem? (i := 268) (by decide +kernel))) (by decide +kernel)
theorem xw_227 : (Cond.selects RX0 yX0_putAt yX0_putAt) ∈ xm_W := xm_W_of (List.mem_append_right _ (List.mem_of_getElem? (i := 269) (by decide +kernel))) (by decide +kernel)
theorem xw_228 : (Cond.code yX0_putAt cX0_putAt 4 none) ∈ xm_W := xm_W_of (List.mem_append_right _ (List.mem_of_getElem? (i := 270) (by decide +kernel))) (by decide +kernel)
theorem xw_229 : (Cond.methodLink RX4 68 yX4_dropAdviceOf) ∈ xm_W := xm_W_of (List.mem_append_right _ (List.mem_of_getElem? (i := 275) (by decide +kernel))) (by decide +kernel)
theorem xw_230 : (Cond.instanceMethod yX4_dropAdviceOf) ∈ xm_W := xm_W_of (List.mem_append_right _ (List.mem_of_getElem? (i := 277) (by decide +kernel))) (by decide +kernel)
theorem xw_231 : (Cond.selects RX4 yX4_dropAdviceOf yX4_dropAdviceOf) ∈ xm_W := xm_W_of (List.mem_append_left _ (by decide +kernel)) (by decide +kernel)
theorem xw_232 : (Cond.code yX4_dropAdviceOf cX4_dropAdviceOf 6 none) ∈ xm_W := xm_W_of (List.mem_append_right _ (List.mem_of_getElem? (i := 278) (by decide +kernel))) (by decide +kernel)
theorem xw_233 : (Cond.methodLink RX4 72 yX4_restartLeastOf) ∈ xm_W := xm_W_of (List.mem_append_right _ (List.mem_of_getElem? (i := 287) (by decide +kernel))) (by decide +kernel)
theorem xw_234 : (Cond.instanceMethod yX4_restartLeastOf) ∈ xm_W := xm_W_of (List.mem_append_right _ (List.mem_of_getElem? (i := 289) (by decide +kernel))) (by decide +kernel)
theorem xw_235 : (Cond.selects RX4 yX4_restartLeastOf yX4_restartLeastOf) ∈ xm_W := xm_W_of (List.mem_append_left _ (by decide +kernel)) (by decide +kernel)
theorem xw_236 : (Cond.code yX4_restartLeastOf cX4_restartLeastOf 6 none) ∈ xm_W := xm_W_of (List.mem_append_right _ (List.mem_of_getElem? (i := 290) (by decide +kernel))) (by decide +kernel)
theorem xw_237 : (Cond.methodLink RX4 75 yX4_isThere) ∈ xm_W := xm_W_of (List.mem_append_right _ (List.mem_of_getElem? (i := 313) (by decide +kernel))) (by decide +kernel)
theorem xw_238 : (Cond.instanceMethod yX4_isThere) ∈ xm_W := xm_W_of (List.mem_append_right _ (List.mem_of_getElem? (i := 315) (by decide +kernel))) (by decide +kernel)
theorem xw_239 : (Cond.selects RX4 yX4_isThere yX4_isThere) ∈ xm_W := xm_W_of (List.mem_append_left _ (by decide +kernel)) (by decide +kernel)
theorem xw_240 : (Cond.code yX4_isThere cX4_isThere 2 (some .boolean)) ∈ xm_W := xm_W_of (List.mem_append_right _ (List.mem_of_getElem? (i := 316) (by decide +kernel))) (by decide +kernel)
theorem xw_241 : (Cond.methodLink RX4 78 yX0_isSpeed) ∈ xm_W := xm_W_of (List.mem_append_right _ (List.mem_of_getElem? (i := 317) (by decide +kernel))) (by decide +kernel)
theorem xw_242 : (Cond.static yX0_isSpeed) ∈ xm_W := xm_W_of (List.mem_append_right _ (List.mem_of_getElem? (i := 318) (by decide +kernel))) (by decide +kernel)
theorem xw_243 : (Cond.code yX0_isSpeed cX0_isSpeed 3 (some .boolean)) ∈ xm_W := xm_W_of (List.mem_append_right _ (List.mem_of_getElem? (i := 319) (by decide +kernel))) (by decide +kernel)
theorem xw_244 : (Cond.methodLink RX4 83 yX0_flyWith) ∈ xm_W := xm_W_of (List.mem_append_right _ (List.mem_of_getElem? (i := 321) (by decide +kernel))) (by decide +kernel)
theorem xw_245 : (Cond.fieldLink RX4 88 "SkyAdvisor$Aircraft" "follows" "Z") ∈ xm_W := xm_W_of (List.mem_append_right _ (List.mem_of_getElem? (i := 77) (by decide +kernel))) (by decide +kernel)
theorem xw_246 : (Cond.fieldLink RX4 92 "SkyAdvisor$Aircraft" "there" "Z") ∈ xm_W := xm_W_of (List.mem_append_right _ (List.mem_of_getElem? (i := 76) (by decide +kernel))) (by decide +kernel)
theorem xw_247 : (Cond.methodLink RX4 97 yX4_passSecond) ∈ xm_W := xm_W_of (List.mem_append_right _ (List.mem_of_getElem? (i := 345) (by decide +kernel))) (by decide +kernel)
theorem xw_248 : (Cond.instanceMethod yX4_passSecond) ∈ xm_W := xm_W_of (List.mem_append_right _ (List.mem_of_getElem? (i := 347) (by decide +kernel))) (by decide +kernel)
theorem xw_249 : (Cond.selects RX4 yX4_passSecond yX4_passSecond) ∈ xm_W := xm_W_of (List.mem_append_left _ (by decide +kernel)) (by decide +kernel)
theorem xw_250 : (Cond.code yX4_passSecond cX4_passSecond 5 none) ∈ xm_W := xm_W_of (List.mem_append_right _ (List.mem_of_getElem? (i := 348) (by decide +kernel))) (by decide +kernel)
theorem xw_251 : (Cond.methodLink RX4 100 yX4_countAdvised) ∈ xm_W := xm_W_of (List.mem_append_right _ (List.mem_of_getElem? (i := 493) (by decide +kernel))) (by decide +kernel)
theorem xw_252 : (Cond.instanceMethod yX4_countAdvised) ∈ xm_W := xm_W_of (List.mem_append_right _ (List.mem_of_getElem? (i := 495) (by decide +kernel))) (by decide +kernel)
theorem xw_253 : (Cond.selects RX4 yX4_countAdvised yX4_countAdvised) ∈ xm_W := xm_W_of (List.mem_append_left _ (by decide +kernel)) (by decide +kernel)
theorem xw_254 : (Cond.code yX4_countAdvised cX4_countAdvised 6 (some .int)) ∈ xm_W := xm_W_of (List.mem_append_right _ (List.mem_of_getElem? (i := 496) (by decide +kernel))) (by decide +kernel)
theorem xw_255 : (Cond.methodLink RX4 106 yX0_answer) ∈ xm_W := xm_W_of (List.mem_append_right _ (List.mem_of_getElem? (i := 505) (by decide +kernel))) (by decide +kernel)
theorem xw_256 : (Cond.instanceMethod yX0_answer) ∈ xm_W := xm_W_of (List.mem_append_right _ (List.mem_of_getElem? (i := 506) (by decide +kernel))) (by decide +kernel)
theorem xw_257 : (Cond.selects RX0 yX0_answer yX0_answer) ∈ xm_W := xm_W_of (List.mem_append_right _ (List.mem_of_getElem? (i := 507) (by decide +kernel))) (by decide +kernel)
theorem xw_258 : (Cond.code yX0_answer cX0_answer 2 (some .int)) ∈ xm_W := xm_W_of (List.mem_append_right _ (List.mem_of_getElem? (i := 508) (by decide +kernel))) (by decide +kernel)
theorem xw_259 : (Cond.methodLink RX4 112 Lib.Math.min.name) ∈ xm_W := xm_W_of (List.mem_append_right _ (List.mem_of_getElem? (i := 517) (by decide +kernel))) (by decide +kernel)
theorem xw_260 : (Cond.methodLink RX4 117 Lib.Math.max.name) ∈ xm_W := xm_W_of (List.mem_append_right _ (List.mem_of_getElem? (i := 378) (by decide +kernel))) (by decide +kernel)
theorem xw_261 : (Cond.methodLink RX4 120 yX4_pairNumber) ∈ xm_W := xm_W_of (List.mem_append_right _ (List.mem_of_getElem? (i := 518) (by decide +kernel))) (by decide +kernel)
theorem xw_262 : (Cond.static yX4_pairNumber) ∈ xm_W := xm_W_of (List.mem_append_right _ (List.mem_of_getElem? (i := 519) (by decide +kernel))) (by decide +kernel)
theorem xw_263 : (Cond.code yX4_pairNumber cX4_pairNumber 2 (some .int)) ∈ xm_W := xm_W_of (List.mem_append_right _ (List.mem_of_getElem? (i := 520) (by decide +kernel))) (by decide +kernel)
theorem xw_264 : (Cond.methodLink RX4 123 yX1_answer) ∈ xm_W := xm_W_of (List.mem_append_right _ (List.mem_of_getElem? (i := 521) (by decide +kernel))) (by decide +kernel)
theorem xw_265 : (Cond.instanceMethod yX1_answer) ∈ xm_W := xm_W_of (List.mem_append_right _ (List.mem_of_getElem? (i := 522) (by decide +kernel))) (by decide +kernel)
theorem xw_266 : (Cond.selects RX1 yX1_answer yX1_answer) ∈ xm_W := xm_W_of (List.mem_append_right _ (List.mem_of_getElem? (i := 523) (by decide +kernel))) (by decide +kernel)
theorem xw_267 : (Cond.code yX1_answer cX1_answer 3 (some .int)) ∈ xm_W := xm_W_of (List.mem_append_right _ (List.mem_of_getElem? (i := 524) (by decide +kernel))) (by decide +kernel)
theorem xw_268 : (Cond.methodLink RX4 128 yX3_answer) ∈ xm_W := xm_W_of (List.mem_append_right _ (List.mem_of_getElem? (i := 541) (by decide +kernel))) (by decide +kernel)
theorem xw_269 : (Cond.instanceMethod yX3_answer) ∈ xm_W := xm_W_of (List.mem_append_right _ (List.mem_of_getElem? (i := 542) (by decide +kernel))) (by decide +kernel)
theorem xw_270 : (Cond.selects RX3 yX3_answer yX3_answer) ∈ xm_W := xm_W_of (List.mem_append_right _ (List.mem_of_getElem? (i := 543) (by decide +kernel))) (by decide +kernel)
theorem xw_271 : (Cond.code yX3_answer cX3_answer 2 (some .int)) ∈ xm_W := xm_W_of (List.mem_append_right _ (List.mem_of_getElem? (i := 544) (by decide +kernel))) (by decide +kernel)
theorem xw_272 : (Cond.methodLink RX4 129 yX1_has) ∈ xm_W := xm_W_of (List.mem_append_right _ (List.mem_of_getElem? (i := 279) (by decide +kernel))) (by decide +kernel)
theorem xw_273 : (Cond.instanceMethod yX1_has) ∈ xm_W := xm_W_of (List.mem_append_right _ (List.mem_of_getElem? (i := 280) (by decide +kernel))) (by decide +kernel)
theorem xw_274 : (Cond.selects RX1 yX1_has yX1_has) ∈ xm_W := xm_W_of (List.mem_append_right _ (List.mem_of_getElem? (i := 281) (by decide +kernel))) (by decide +kernel)
theorem xw_275 : (Cond.code yX1_has cX1_has 2 (some .boolean)) ∈ xm_W := xm_W_of (List.mem_append_right _ (List.mem_of_getElem? (i := 282) (by decide +kernel))) (by decide +kernel)
theorem xw_276 : (Cond.methodLink RX4 133 yX1_dropAdvice) ∈ xm_W := xm_W_of (List.mem_append_right _ (List.mem_of_getElem? (i := 283) (by decide +kernel))) (by decide +kernel)
theorem xw_277 : (Cond.methodLink RX4 136 yX1_restartLeast) ∈ xm_W := xm_W_of (List.mem_append_right _ (List.mem_of_getElem? (i := 291) (by decide +kernel))) (by decide +kernel)
theorem xw_278 : (Cond.instanceMethod yX1_restartLeast) ∈ xm_W := xm_W_of (List.mem_append_right _ (List.mem_of_getElem? (i := 292) (by decide +kernel))) (by decide +kernel)
theorem xw_279 : (Cond.selects RX1 yX1_restartLeast yX1_restartLeast) ∈ xm_W := xm_W_of (List.mem_append_right _ (List.mem_of_getElem? (i := 293) (by decide +kernel))) (by decide +kernel)
theorem xw_280 : (Cond.code yX1_restartLeast cX1_restartLeast 1 none) ∈ xm_W := xm_W_of (List.mem_append_right _ (List.mem_of_getElem? (i := 294) (by decide +kernel))) (by decide +kernel)
theorem xw_281 : (Cond.methodLink RX4 139 yX0_move) ∈ xm_W := xm_W_of (List.mem_append_right _ (List.mem_of_getElem? (i := 349) (by decide +kernel))) (by decide +kernel)
theorem xw_282 : (Cond.instanceMethod yX0_move) ∈ xm_W := xm_W_of (List.mem_append_right _ (List.mem_of_getElem? (i := 350) (by decide +kernel))) (by decide +kernel)
theorem xw_283 : (Cond.selects RX0 yX0_move yX0_move) ∈ xm_W := xm_W_of (List.mem_append_right _ (List.mem_of_getElem? (i := 351) (by decide +kernel))) (by decide +kernel)
theorem xw_284 : (Cond.code yX0_move cX0_move 1 none) ∈ xm_W := xm_W_of (List.mem_append_right _ (List.mem_of_getElem? (i := 352) (by decide +kernel))) (by decide +kernel)
theorem xw_285 : (Cond.methodLink RX4 142 yX4_heedAdvice) ∈ xm_W := xm_W_of (List.mem_append_right _ (List.mem_of_getElem? (i := 362) (by decide +kernel))) (by decide +kernel)
theorem xw_286 : (Cond.instanceMethod yX4_heedAdvice) ∈ xm_W := xm_W_of (List.mem_append_right _ (List.mem_of_getElem? (i := 364) (by decide +kernel))) (by decide +kernel)
theorem xw_287 : (Cond.selects RX4 yX4_heedAdvice yX4_heedAdvice) ∈ xm_W := xm_W_of (List.mem_append_left _ (by decide +kernel)) (by decide +kernel)
theorem xw_288 : (Cond.code yX4_heedAdvice cX4_heedAdvice 8 none) ∈ xm_W := xm_W_of (List.mem_append_right _ (List.mem_of_getElem? (i := 365) (by decide +kernel))) (by decide +kernel)
theorem xw_289 : (Cond.methodLink RX4 145 yX1_isThere) ∈ xm_W := xm_W_of (List.mem_append_right _ (List.mem_of_getElem? (i := 391) (by decide +kernel))) (by decide +kernel)
theorem xw_290 : (Cond.instanceMethod yX1_isThere) ∈ xm_W := xm_W_of (List.mem_append_right _ (List.mem_of_getElem? (i := 392) (by decide +kernel))) (by decide +kernel)
theorem xw_291 : (Cond.selects RX1 yX1_isThere yX1_isThere) ∈ xm_W := xm_W_of (List.mem_append_right _ (List.mem_of_getElem? (i := 393) (by decide +kernel))) (by decide +kernel)
theorem xw_292 : (Cond.code yX1_isThere cX1_isThere 1 (some .boolean)) ∈ xm_W := xm_W_of (List.mem_append_right _ (List.mem_of_getElem? (i := 394) (by decide +kernel))) (by decide +kernel)
theorem xw_293 : (Cond.methodLink RX4 148 yX1_lookAtLeast) ∈ xm_W := xm_W_of (List.mem_append_right _ (List.mem_of_getElem? (i := 395) (by decide +kernel))) (by decide +kernel)
theorem xw_294 : (Cond.instanceMethod yX1_lookAtLeast) ∈ xm_W := xm_W_of (List.mem_append_right _ (List.mem_of_getElem? (i := 396) (by decide +kernel))) (by decide +kernel)
theorem xw_295 : (Cond.selects RX1 yX1_lookAtLeast yX1_lookAtLeast) ∈ xm_W := xm_W_of (List.mem_append_right _ (List.mem_of_getElem? (i := 397) (by decide +kernel))) (by decide +kernel)
theorem xw_296 : (Cond.code yX1_lookAtLeast cX1_lookAtLeast 1 none) ∈ xm_W := xm_W_of (List.mem_append_right _ (List.mem_of_getElem? (i := 398) (by decide +kernel))) (by decide +kernel)
theorem xw_297 : (Cond.methodLink RX4 151 yX1_review) ∈ xm_W := xm_W_of (List.mem_append_right _ (List.mem_of_getElem? (i := 403) (by decide +kernel))) (by decide +kernel)
theorem xw_298 : (Cond.instanceMethod yX1_review) ∈ xm_W := xm_W_of (List.mem_append_right _ (List.mem_of_getElem? (i := 404) (by decide +kernel))) (by decide +kernel)
theorem xw_299 : (Cond.selects RX1 yX1_review yX1_review) ∈ xm_W := xm_W_of (List.mem_append_right _ (List.mem_of_getElem? (i := 405) (by decide +kernel))) (by decide +kernel)
theorem xw_300 : (Cond.code yX1_review cX1_review 3 none) ∈ xm_W := xm_W_of (List.mem_append_right _ (List.mem_of_getElem? (i := 406) (by decide +kernel))) (by decide +kernel)
theorem xw_301 : (Cond.fieldLink RX4 154 "SkyAdvisor$Tally" "seconds" "I") ∈ xm_W := xm_W_of (List.mem_append_right _ (List.mem_of_getElem? (i := 55) (by decide +kernel))) (by decide +kernel)
theorem xw_302 : (Cond.methodLink RX4 158 yX1_isHeeded) ∈ xm_W := xm_W_of (List.mem_append_right _ (List.mem_of_getElem? (i := 366) (by decide +kernel))) (by decide +kernel)
theorem xw_303 : (Cond.instanceMethod yX1_isHeeded) ∈ xm_W := xm_W_of (List.mem_append_right _ (List.mem_of_getElem? (i := 367) (by decide +kernel))) (by decide +kernel)
theorem xw_304 : (Cond.selects RX1 yX1_isHeeded yX1_isHeeded) ∈ xm_W := xm_W_of (List.mem_append_right _ (List.mem_of_getElem? (i := 368) (by decide +kernel))) (by decide +kernel)
theorem xw_305 : (Cond.code yX1_isHeeded cX1_isHeeded 1 (some .boolean)) ∈ xm_W := xm_W_of (List.mem_append_right _ (List.mem_of_getElem? (i := 369) (by decide +kernel))) (by decide +kernel)
theorem xw_306 : (Cond.methodLink RX4 161 yX1_sendsUp) ∈ xm_W := xm_W_of (List.mem_append_right _ (List.mem_of_getElem? (i := 374) (by decide +kernel))) (by decide +kernel)
theorem xw_307 : (Cond.instanceMethod yX1_sendsUp) ∈ xm_W := xm_W_of (List.mem_append_right _ (List.mem_of_getElem? (i := 375) (by decide +kernel))) (by decide +kernel)
theorem xw_308 : (Cond.selects RX1 yX1_sendsUp yX1_sendsUp) ∈ xm_W := xm_W_of (List.mem_append_right _ (List.mem_of_getElem? (i := 376) (by decide +kernel))) (by decide +kernel)
theorem xw_309 : (Cond.code yX1_sendsUp cX1_sendsUp 2 (some .boolean)) ∈ xm_W := xm_W_of (List.mem_append_right _ (List.mem_of_getElem? (i := 377) (by decide +kernel))) (by decide +kernel)
theorem xw_310 : (Cond.fieldLink RX4 164 "SkyAdvisor$Pair" "strength" "I") ∈ xm_W := xm_W_of (List.mem_append_right _ (List.mem_of_getElem? (i := 127) (by decide +kernel))) (by decide +kernel)
theorem xw_311 : (Cond.methodLink RX4 167 yX2_pull) ∈ xm_W := xm_W_of (List.mem_append_right _ (List.mem_of_getElem? (i := 379) (by decide +kernel))) (by decide +kernel)
theorem xw_312 : (Cond.instanceMethod yX2_pull) ∈ xm_W := xm_W_of (List.mem_append_right _ (List.mem_of_getElem? (i := 380) (by decide +kernel))) (by decide +kernel)
theorem xw_313 : (Cond.selects RX2 yX2_pull yX2_pull) ∈ xm_W := xm_W_of (List.mem_append_right _ (List.mem_of_getElem? (i := 381) (by decide +kernel))) (by decide +kernel)
theorem xw_314 : (Cond.code yX2_pull cX2_pull 1 (some .int)) ∈ xm_W := xm_W_of (List.mem_append_right _ (List.mem_of_getElem? (i := 382) (by decide +kernel))) (by decide +kernel)
theorem xw_315 : (Cond.methodLink RX4 170 yX0_pull) ∈ xm_W := xm_W_of (List.mem_append_right _ (List.mem_of_getElem? (i := 383) (by decide +kernel))) (by decide +kernel)
theorem xw_316 : (Cond.instanceMethod yX0_pull) ∈ xm_W := xm_W_of (List.mem_append_right _ (List.mem_of_getElem? (i := 384) (by decide +kernel))) (by decide +kernel)
theorem xw_317 : (Cond.selects RX0 yX0_pull yX0_pull) ∈ xm_W := xm_W_of (List.mem_append_right _ (List.mem_of_getElem? (i := 385) (by decide +kernel))) (by decide +kernel)
theorem xw_318 : (Cond.code yX0_pull cX0_pull 4 none) ∈ xm_W := xm_W_of (List.mem_append_right _ (List.mem_of_getElem? (i := 386) (by decide +kernel))) (by decide +kernel)
theorem xw_319 : (Cond.fieldLink RX4 172 "SkyAdvisor$Pair" "advised" "Z") ∈ xm_W := xm_W_of (List.mem_append_right _ (List.mem_of_getElem? (i := 125) (by decide +kernel))) (by decide +kernel)
theorem xw_320 : (Cond.methodLink RX5 1 objectInit) ∈ xm_W := xm_W_of (List.mem_append_right _ (List.mem_of_getElem? (i := 550) (by decide +kernel))) (by decide +kernel)
theorem xw_321 : (Cond.arrayClass .int) ∈ xm_W := xm_W_of (List.mem_append_right _ (List.mem_of_getElem? (i := 39) (by decide +kernel))) (by decide +kernel)
theorem xw_322 : (Cond.fieldLink RX5 7 "SkyAdvisorModel" "settings" "[I") ∈ xm_W := xm_W_of (List.mem_append_right _ (List.mem_of_getElem? (i := 552) (by decide +kernel))) (by decide +kernel)
theorem xw_323 : (Cond.arrayClass .boolean) ∈ xm_W := xm_W_of (List.mem_append_right _ (List.mem_of_getElem? (i := 618) (by decide +kernel))) (by decide +kernel)
theorem xw_324 : (Cond.fieldLink RX5 13 "SkyAdvisorModel" "there" "[Z") ∈ xm_W := xm_W_of (List.mem_append_right _ (List.mem_of_getElem? (i := 553) (by decide +kernel))) (by decide +kernel)
theorem xw_325 : (Cond.fieldLink RX5 17 "SkyAdvisorModel" "follows" "[Z") ∈ xm_W := xm_W_of (List.mem_append_right _ (List.mem_of_getElem? (i := 554) (by decide +kernel))) (by decide +kernel)
theorem xw_326 : (Cond.fieldLink RX5 20 "SkyAdvisorModel" "track" "[I") ∈ xm_W := xm_W_of (List.mem_append_right _ (List.mem_of_getElem? (i := 555) (by decide +kernel))) (by decide +kernel)
theorem xw_327 : (Cond.fieldLink RX5 23 "SkyAdvisorModel" "sense" "[I") ∈ xm_W := xm_W_of (List.mem_append_right _ (List.mem_of_getElem? (i := 556) (by decide +kernel))) (by decide +kernel)
theorem xw_328 : (Cond.fieldLink RX5 26 "SkyAdvisorModel" "strength" "[I") ∈ xm_W := xm_W_of (List.mem_append_right _ (List.mem_of_getElem? (i := 557) (by decide +kernel))) (by decide +kernel)
theorem xw_329 : (Cond.fieldLink RX5 29 "SkyAdvisorModel" "stood" "[I") ∈ xm_W := xm_W_of (List.mem_append_right _ (List.mem_of_getElem? (i := 558) (by decide +kernel))) (by decide +kernel)
theorem xw_330 : (Cond.fieldLink RX5 32 "SkyAdvisorModel" "turned" "[Z") ∈ xm_W := xm_W_of (List.mem_append_right _ (List.mem_of_getElem? (i := 559) (by decide +kernel))) (by decide +kernel)
theorem xw_331 : (Cond.arrayClass .long) ∈ xm_W := xm_W_of (List.mem_append_right _ (List.mem_of_getElem? (i := 619) (by decide +kernel))) (by decide +kernel)
theorem xw_332 : (Cond.fieldLink RX5 35 "SkyAdvisorModel" "nearest" "[J") ∈ xm_W := xm_W_of (List.mem_append_right _ (List.mem_of_getElem? (i := 560) (by decide +kernel))) (by decide +kernel)
theorem xw_333 : (Cond.fieldLink RX5 39 "SkyAdvisorModel" "lowest" "[I") ∈ xm_W := xm_W_of (List.mem_append_right _ (List.mem_of_getElem? (i := 561) (by decide +kernel))) (by decide +kernel)
theorem xw_334 : (Cond.fieldLink RX5 42 "SkyAdvisorModel" "counts" "[I") ∈ xm_W := xm_W_of (List.mem_append_right _ (List.mem_of_getElem? (i := 562) (by decide +kernel))) (by decide +kernel)
theorem xw_335 : (Cond.fieldLink RX5 45 "SkyAdvisorModel" "thrown" "I") ∈ xm_W := xm_W_of (List.mem_append_right _ (List.mem_of_getElem? (i := 551) (by decide +kernel))) (by decide +kernel)
theorem xw_336 : (Cond.methodLink RX5 49 yX5_isNumber) ∈ xm_W := xm_W_of (List.mem_append_right _ (List.mem_of_getElem? (i := 632) (by decide +kernel))) (by decide +kernel)
theorem xw_337 : (Cond.static yX5_isNumber) ∈ xm_W := xm_W_of (List.mem_append_right _ (List.mem_of_getElem? (i := 633) (by decide +kernel))) (by decide +kernel)
theorem xw_338 : (Cond.initialized RX5) ∈ xm_W := xm_W_of (List.mem_append_right _ (List.mem_of_getElem? (i := 6) (by decide +kernel))) (by decide +kernel)
theorem xw_339 : (Cond.code yX5_isNumber cX5_isNumber 1 (some .boolean)) ∈ xm_W := xm_W_of (List.mem_append_right _ (List.mem_of_getElem? (i := 634) (by decide +kernel))) (by decide +kernel)
theorem xw_340 : (Cond.methodLink RX5 53 yX5_pairOf) ∈ xm_W := xm_W_of (List.mem_append_right _ (List.mem_of_getElem? (i := 643) (by decide +kernel))) (by decide +kernel)
theorem xw_341 : (Cond.static yX5_pairOf) ∈ xm_W := xm_W_of (List.mem_append_right _ (List.mem_of_getElem? (i := 644) (by decide +kernel))) (by decide +kernel)
theorem xw_342 : (Cond.code yX5_pairOf cX5_pairOf 2 (some .int)) ∈ xm_W := xm_W_of (List.mem_append_right _ (List.mem_of_getElem? (i := 645) (by decide +kernel))) (by decide +kernel)
theorem xw_343 : (Cond.constant RX5 57 (200000)) ∈ xm_W := xm_W_of (List.mem_append_right _ (List.mem_of_getElem? (i := 635) (by decide +kernel))) (by decide +kernel)
theorem xw_344 : (Cond.methodLink RX5 58 yX5_within) ∈ xm_W := xm_W_of (List.mem_append_right _ (List.mem_of_getElem? (i := 636) (by decide +kernel))) (by decide +kernel)
theorem xw_345 : (Cond.static yX5_within) ∈ xm_W := xm_W_of (List.mem_append_right _ (List.mem_of_getElem? (i := 637) (by decide +kernel))) (by decide +kernel)
theorem xw_346 : (Cond.code yX5_within cX5_within 2 (some .boolean)) ∈ xm_W := xm_W_of (List.mem_append_right _ (List.mem_of_getElem? (i := 638) (by decide +kernel))) (by decide +kernel)
theorem xw_347 : (Cond.methodLink RX5 62 yX5_endAll) ∈ xm_W := xm_W_of (List.mem_append_right _ (List.mem_of_getElem? (i := 639) (by decide +kernel))) (by decide +kernel)
theorem xw_348 : (Cond.instanceMethod yX5_endAll) ∈ xm_W := xm_W_of (List.mem_append_right _ (List.mem_of_getElem? (i := 641) (by decide +kernel))) (by decide +kernel)
theorem xw_349 : (Cond.selects RX5 yX5_endAll yX5_endAll) ∈ xm_W := xm_W_of (List.mem_append_left _ (by decide +kernel)) (by decide +kernel)
theorem xw_350 : (Cond.code yX5_endAll cX5_endAll 4 none) ∈ xm_W := xm_W_of (List.mem_append_right _ (List.mem_of_getElem? (i := 642) (by decide +kernel))) (by decide +kernel)
theorem xw_351 : (Cond.constantLong RX5 66 (9223372036854775807)) ∈ xm_W := xm_W_of (List.mem_append_right _ (List.mem_of_getElem? (i := 646) (by decide +kernel))) (by decide +kernel)
theorem xw_352 : (Cond.constant RX5 68 (2147483647)) ∈ xm_W := xm_W_of (List.mem_append_right _ (List.mem_of_getElem? (i := 647) (by decide +kernel))) (by decide +kernel)
theorem xw_353 : (Cond.methodLink RX5 69 yX5_measure) ∈ xm_W := xm_W_of (List.mem_append_right _ (List.mem_of_getElem? (i := 648) (by decide +kernel))) (by decide +kernel)
theorem xw_354 : (Cond.instanceMethod yX5_measure) ∈ xm_W := xm_W_of (List.mem_append_right _ (List.mem_of_getElem? (i := 650) (by decide +kernel))) (by decide +kernel)
theorem xw_355 : (Cond.selects RX5 yX5_measure yX5_measure) ∈ xm_W := xm_W_of (List.mem_append_left _ (by decide +kernel)) (by decide +kernel)
theorem xw_356 : (Cond.code yX5_measure cX5_measure 12 none) ∈ xm_W := xm_W_of (List.mem_append_right _ (List.mem_of_getElem? (i := 651) (by decide +kernel))) (by decide +kernel)
theorem xw_357 : (Cond.methodLink RX5 73 yX5_isThere) ∈ xm_W := xm_W_of (List.mem_append_right _ (List.mem_of_getElem? (i := 656) (by decide +kernel))) (by decide +kernel)
theorem xw_358 : (Cond.instanceMethod yX5_isThere) ∈ xm_W := xm_W_of (List.mem_append_right _ (List.mem_of_getElem? (i := 658) (by decide +kernel))) (by decide +kernel)
theorem xw_359 : (Cond.selects RX5 yX5_isThere yX5_isThere) ∈ xm_W := xm_W_of (List.mem_append_left _ (by decide +kernel)) (by decide +kernel)
theorem xw_360 : (Cond.code yX5_isThere cX5_isThere 2 (some .boolean)) ∈ xm_W := xm_W_of (List.mem_append_right _ (List.mem_of_getElem? (i := 659) (by decide +kernel))) (by decide +kernel)
theorem xw_361 : (Cond.fieldLink RX5 76 "SkyAdvisorModel" "one" "I") ∈ xm_W := xm_W_of (List.mem_append_right _ (List.mem_of_getElem? (i := 563) (by decide +kernel))) (by decide +kernel)
theorem xw_362 : (Cond.fieldLink RX5 79 "SkyAdvisorModel" "other" "I") ∈ xm_W := xm_W_of (List.mem_append_right _ (List.mem_of_getElem? (i := 564) (by decide +kernel))) (by decide +kernel)
theorem xw_363 : (Cond.fieldLink RX5 82 "SkyAdvisorModel" "x" "J") ∈ xm_W := xm_W_of (List.mem_append_right _ (List.mem_of_getElem? (i := 565) (by decide +kernel))) (by decide +kernel)
theorem xw_364 : (Cond.fieldLink RX5 86 "SkyAdvisorModel" "y" "J") ∈ xm_W := xm_W_of (List.mem_append_right _ (List.mem_of_getElem? (i := 566) (by decide +kernel))) (by decide +kernel)
theorem xw_365 : (Cond.fieldLink RX5 89 "SkyAdvisorModel" "z" "J") ∈ xm_W := xm_W_of (List.mem_append_right _ (List.mem_of_getElem? (i := 567) (by decide +kernel))) (by decide +kernel)
theorem xw_366 : (Cond.fieldLink RX5 92 "SkyAdvisorModel" "u" "J") ∈ xm_W := xm_W_of (List.mem_append_right _ (List.mem_of_getElem? (i := 568) (by decide +kernel))) (by decide +kernel)
theorem xw_367 : (Cond.fieldLink RX5 95 "SkyAdvisorModel" "v" "J") ∈ xm_W := xm_W_of (List.mem_append_right _ (List.mem_of_getElem? (i := 569) (by decide +kernel))) (by decide +kernel)
theorem xw_368 : (Cond.fieldLink RX5 98 "SkyAdvisorModel" "w" "J") ∈ xm_W := xm_W_of (List.mem_append_right _ (List.mem_of_getElem? (i := 570) (by decide +kernel))) (by decide +kernel)
theorem xw_369 : (Cond.fieldLink RX5 101 "SkyAdvisorModel" "closing" "J") ∈ xm_W := xm_W_of (List.mem_append_right _ (List.mem_of_getElem? (i := 571) (by decide +kernel))) (by decide +kernel)
theorem xw_370 : (Cond.fieldLink RX5 104 "SkyAdvisorModel" "left" "J") ∈ xm_W := xm_W_of (List.mem_append_right _ (List.mem_of_getElem? (i := 572) (by decide +kernel))) (by decide +kernel)
theorem xw_371 : (Cond.methodLink RX5 107 yX5_plain) ∈ xm_W := xm_W_of (List.mem_append_right _ (List.mem_of_getElem? (i := 695) (by decide +kernel))) (by decide +kernel)
theorem xw_372 : (Cond.static yX5_plain) ∈ xm_W := xm_W_of (List.mem_append_right _ (List.mem_of_getElem? (i := 696) (by decide +kernel))) (by decide +kernel)
theorem xw_373 : (Cond.code yX5_plain cX5_plain 2 (some .long)) ∈ xm_W := xm_W_of (List.mem_append_right _ (List.mem_of_getElem? (i := 697) (by decide +kernel))) (by decide +kernel)
theorem xw_374 : (Cond.constantLong RX5 111 (12)) ∈ xm_W := xm_W_of (List.mem_append_right _ (List.mem_of_getElem? (i := 714) (by decide +kernel))) (by decide +kernel)
theorem xw_375 : (Cond.constantLong RX5 113 (-12)) ∈ xm_W := xm_W_of (List.mem_append_right _ (List.mem_of_getElem? (i := 715) (by decide +kernel))) (by decide +kernel)
theorem xw_376 : (Cond.methodLink RX5 115 yX5_height) ∈ xm_W := xm_W_of (List.mem_append_right _ (List.mem_of_getElem? (i := 710) (by decide +kernel))) (by decide +kernel)
theorem xw_377 : (Cond.instanceMethod yX5_height) ∈ xm_W := xm_W_of (List.mem_append_right _ (List.mem_of_getElem? (i := 712) (by decide +kernel))) (by decide +kernel)
theorem xw_378 : (Cond.selects RX5 yX5_height yX5_height) ∈ xm_W := xm_W_of (List.mem_append_left _ (by decide +kernel)) (by decide +kernel)
theorem xw_379 : (Cond.code yX5_height cX5_height 13 (some .long)) ∈ xm_W := xm_W_of (List.mem_append_right _ (List.mem_of_getElem? (i := 713) (by decide +kernel))) (by decide +kernel)
theorem xw_380 : (Cond.methodLink RX5 119 yX5_part) ∈ xm_W := xm_W_of (List.mem_append_right _ (List.mem_of_getElem? (i := 706) (by decide +kernel))) (by decide +kernel)
theorem xw_381 : (Cond.instanceMethod yX5_part) ∈ xm_W := xm_W_of (List.mem_append_right _ (List.mem_of_getElem? (i := 708) (by decide +kernel))) (by decide +kernel)
theorem xw_382 : (Cond.selects RX5 yX5_part yX5_part) ∈ xm_W := xm_W_of (List.mem_append_left _ (by decide +kernel)) (by decide +kernel)
theorem xw_383 : (Cond.code yX5_part cX5_part 8 (some .long)) ∈ xm_W := xm_W_of (List.mem_append_right _ (List.mem_of_getElem? (i := 709) (by decide +kernel))) (by decide +kernel)
theorem xw_384 : (Cond.methodLink RX5 123 yX5_enough) ∈ xm_W := xm_W_of (List.mem_append_right _ (List.mem_of_getElem? (i := 702) (by decide +kernel))) (by decide +kernel)
theorem xw_385 : (Cond.instanceMethod yX5_enough) ∈ xm_W := xm_W_of (List.mem_append_right _ (List.mem_of_getElem? (i := 704) (by decide +kernel))) (by decide +kernel)
theorem xw_386 : (Cond.selects RX5 yX5_enough yX5_enough) ∈ xm_W := xm_W_of (List.mem_append_left _ (by decide +kernel)) (by decide +kernel)
theorem xw_387 : (Cond.code yX5_enough cX5_enough 5 (some .int)) ∈ xm_W := xm_W_of (List.mem_append_right _ (List.mem_of_getElem? (i := 705) (by decide +kernel))) (by decide +kernel)
theorem xw_388 : (Cond.methodLink RX5 127 yX5_bounded) ∈ xm_W := xm_W_of (List.mem_append_right _ (List.mem_of_getElem? (i := 676) (by decide +kernel))) (by decide +kernel)
theorem xw_389 : (Cond.static yX5_bounded) ∈ xm_W := xm_W_of (List.mem_append_right _ (List.mem_of_getElem? (i := 677) (by decide +kernel))) (by decide +kernel)
theorem xw_390 : (Cond.code yX5_bounded cX5_bounded 2 (some .int)) ∈ xm_W := xm_W_of (List.mem_append_right _ (List.mem_of_getElem? (i := 678) (by decide +kernel))) (by decide +kernel)
theorem xw_391 : (Cond.methodLink RX5 130 yX5_alerts) ∈ xm_W := xm_W_of (List.mem_append_right _ (List.mem_of_getElem? (i := 691) (by decide +kernel))) (by decide +kernel)
theorem xw_392 : (Cond.instanceMethod yX5_alerts) ∈ xm_W := xm_W_of (List.mem_append_right _ (List.mem_of_getElem? (i := 693) (by decide +kernel))) (by decide +kernel)
theorem xw_393 : (Cond.selects RX5 yX5_alerts yX5_alerts) ∈ xm_W := xm_W_of (List.mem_append_left _ (by decide +kernel)) (by decide +kernel)
theorem xw_394 : (Cond.code yX5_alerts cX5_alerts 7 (some .boolean)) ∈ xm_W := xm_W_of (List.mem_append_right _ (List.mem_of_getElem? (i := 694) (by decide +kernel))) (by decide +kernel)
theorem xw_395 : (Cond.methodLink RX5 134 yX5_chosen) ∈ xm_W := xm_W_of (List.mem_append_right _ (List.mem_of_getElem? (i := 698) (by decide +kernel))) (by decide +kernel)
theorem xw_396 : (Cond.instanceMethod yX5_chosen) ∈ xm_W := xm_W_of (List.mem_append_right _ (List.mem_of_getElem? (i := 700) (by decide +kernel))) (by decide +kernel)
theorem xw_397 : (Cond.selects RX5 yX5_chosen yX5_chosen) ∈ xm_W := xm_W_of (List.mem_append_left _ (by decide +kernel)) (by decide +kernel)
theorem xw_398 : (Cond.code yX5_chosen cX5_chosen 7 (some .int)) ∈ xm_W := xm_W_of (List.mem_append_right _ (List.mem_of_getElem? (i := 701) (by decide +kernel))) (by decide +kernel)
theorem xw_399 : (Cond.methodLink RX5 138 yX5_begin) ∈ xm_W := xm_W_of (List.mem_append_right _ (List.mem_of_getElem? (i := 716) (by decide +kernel))) (by decide +kernel)
theorem xw_400 : (Cond.instanceMethod yX5_begin) ∈ xm_W := xm_W_of (List.mem_append_right _ (List.mem_of_getElem? (i := 718) (by decide +kernel))) (by decide +kernel)
theorem xw_401 : (Cond.selects RX5 yX5_begin yX5_begin) ∈ xm_W := xm_W_of (List.mem_append_left _ (by decide +kernel)) (by decide +kernel)
theorem xw_402 : (Cond.code yX5_begin cX5_begin 3 none) ∈ xm_W := xm_W_of (List.mem_append_right _ (List.mem_of_getElem? (i := 719) (by decide +kernel))) (by decide +kernel)
theorem xw_403 : (Cond.methodLink RX5 141 yX5_move) ∈ xm_W := xm_W_of (List.mem_append_right _ (List.mem_of_getElem? (i := 672) (by decide +kernel))) (by decide +kernel)
theorem xw_404 : (Cond.instanceMethod yX5_move) ∈ xm_W := xm_W_of (List.mem_append_right _ (List.mem_of_getElem? (i := 674) (by decide +kernel))) (by decide +kernel)
theorem xw_405 : (Cond.selects RX5 yX5_move yX5_move) ∈ xm_W := xm_W_of (List.mem_append_left _ (by decide +kernel)) (by decide +kernel)
theorem xw_406 : (Cond.code yX5_move cX5_move 3 none) ∈ xm_W := xm_W_of (List.mem_append_right _ (List.mem_of_getElem? (i := 675) (by decide +kernel))) (by decide +kernel)
theorem xw_407 : (Cond.methodLink RX5 144 yX5_obey) ∈ xm_W := xm_W_of (List.mem_append_right _ (List.mem_of_getElem? (i := 679) (by decide +kernel))) (by decide +kernel)
theorem xw_408 : (Cond.instanceMethod yX5_obey) ∈ xm_W := xm_W_of (List.mem_append_right _ (List.mem_of_getElem? (i := 681) (by decide +kernel))) (by decide +kernel)
theorem xw_409 : (Cond.selects RX5 yX5_obey yX5_obey) ∈ xm_W := xm_W_of (List.mem_append_left _ (by decide +kernel)) (by decide +kernel)
theorem xw_410 : (Cond.code yX5_obey cX5_obey 7 none) ∈ xm_W := xm_W_of (List.mem_append_right _ (List.mem_of_getElem? (i := 682) (by decide +kernel))) (by decide +kernel)
theorem xw_411 : (Cond.methodLink RX5 147 yX5_look) ∈ xm_W := xm_W_of (List.mem_append_right _ (List.mem_of_getElem? (i := 683) (by decide +kernel))) (by decide +kernel)
theorem xw_412 : (Cond.instanceMethod yX5_look) ∈ xm_W := xm_W_of (List.mem_append_right _ (List.mem_of_getElem? (i := 685) (by decide +kernel))) (by decide +kernel)
theorem xw_413 : (Cond.selects RX5 yX5_look yX5_look) ∈ xm_W := xm_W_of (List.mem_append_left _ (by decide +kernel)) (by decide +kernel)
theorem xw_414 : (Cond.code yX5_look cX5_look 5 none) ∈ xm_W := xm_W_of (List.mem_append_right _ (List.mem_of_getElem? (i := 686) (by decide +kernel))) (by decide +kernel)
theorem xw_415 : (Cond.methodLink RX5 150 yX5_advise) ∈ xm_W := xm_W_of (List.mem_append_right _ (List.mem_of_getElem? (i := 687) (by decide +kernel))) (by decide +kernel)
theorem xw_416 : (Cond.instanceMethod yX5_advise) ∈ xm_W := xm_W_of (List.mem_append_right _ (List.mem_of_getElem? (i := 689) (by decide +kernel))) (by decide +kernel)
theorem xw_417 : (Cond.selects RX5 yX5_advise yX5_advise) ∈ xm_W := xm_W_of (List.mem_append_left _ (by decide +kernel)) (by decide +kernel)
theorem xw_418 : (Cond.code yX5_advise cX5_advise 4 none) ∈ xm_W := xm_W_of (List.mem_append_right _ (List.mem_of_getElem? (i := 690) (by decide +kernel))) (by decide +kernel)
theorem xw_419 : (Cond.methodLink RX5 153 yX5_forFirst) ∈ xm_W := xm_W_of (List.mem_append_right _ (List.mem_of_getElem? (i := 728) (by decide +kernel))) (by decide +kernel)
theorem xw_420 : (Cond.static yX5_forFirst) ∈ xm_W := xm_W_of (List.mem_append_right _ (List.mem_of_getElem? (i := 729) (by decide +kernel))) (by decide +kernel)
theorem xw_421 : (Cond.code yX5_forFirst cX5_forFirst 2 (some .int)) ∈ xm_W := xm_W_of (List.mem_append_right _ (List.mem_of_getElem? (i := 730) (by decide +kernel))) (by decide +kernel)
theorem xw_422 : (Cond.constantLong RX5 157 (2147483647)) ∈ xm_W := xm_W_of (List.mem_append_right _ (List.mem_of_getElem? (i := 731) (by decide +kernel))) (by decide +kernel)
end
section
/-! THE CALCULUS: a small machine of our own, over typed memory; no JVM in it. A value: an int, a long, or a reference (class tag, number) or null -/
abbrev xm_V : Type := Int32 ⊕ Int64 ⊕ Option (Nat × Nat)
abbrev xm_i (x : Int32) : xm_V := .inl x
abbrev xm_l (x : Int64) : xm_V := .inr (.inl x)
abbrev xm_r (c i : Nat) : xm_V := .inr (.inr (some (c, i)))
abbrev xm_n : xm_V := .inr (.inr none)
/-- memory: ints, longs, references by class tag, field (or place), object; lengths; which objects there are, in the order of their making -/
abbrev xm_M : Type := (Nat → Nat → Nat → Int32) × (Nat → Nat → Nat → Int64) × (Nat → Nat → Nat → Option (Nat × Nat)) × (Nat → Nat → Nat) × List (Nat × Nat)
def xm_up {α : Type} (f : Nat → Nat → Nat → α) (c k i : Nat) (v : α) : Nat → Nat → Nat → α := fun c' k' i' => if c' = c then (if k' = k then (if i' = i then v else f c' k' i') else f c' k' i') else f c' k' i'
abbrev xm_L : Type := List (Nat × xm_V)
abbrev xm_S : Type := xm_L × List xm_V × xm_M × Nat × Nat
/-- category of a value -/
def xm_cat (v : xm_V) : Nat := match v with
  | .inl _ => 1
  | .inr (.inl _) => 2
  | .inr (.inr _) => 1
def xm_ld (lv : xm_L) (i : Nat) : Option xm_V := match lv with
  | [] => none
  | q :: r => if q.1 = i then some q.2 else xm_ld r i
def xm_st1 (lv : xm_L) (i : Nat) (v : xm_V) : xm_L := (i, v) :: lv.filter (fun q => !(q.1 == i) && !(q.1 + 1 == i && xm_cat q.2 == 2))
def xm_st2 (lv : xm_L) (i : Nat) (v : xm_V) : xm_L := (i, v) :: lv.filter (fun q => !(q.1 == i) && (!(q.1 == i + 1) && !(q.1 + 1 == i && xm_cat q.2 == 2)))
abbrev xm_F : Type := xm_S → Option (Nat × xm_S)
/-- an entry of a method's table: a step; a call (method, how many arguments, the receiver's tag + 1 or 0); a stop (kind) -/
abbrev xm_E : Type := xm_F ⊕ (Nat × Nat × Nat) ⊕ Nat
abbrev xm_T : Type := List (Nat × xm_E)
def xm_at : xm_T → Nat → Option xm_E
  | [], _ => none
  | (q, e) :: r, pc => if q = pc then some e else xm_at r pc
abbrev xm_Cal : Type := Nat → List xm_V → xm_M → Option xm_V → xm_M → Nat → Nat → Prop
/-- the receiver is of the class that the call names -/
def xm_rc (t : Nat) (as : List xm_V) : Prop := t = 0 ∨ ∃ i r, as = xm_r (t - 1) i :: r
/-- n steps from (pc, S) come to the stop (pc', S') -/
def xm_Rn (cal : xm_Cal) (tb : xm_T) : Nat → Nat → xm_S → Nat → xm_S → Prop
  | 0, pc, S, pc', S' => pc = pc' ∧ S = S' ∧ ∃ k, xm_at tb pc = some (.inr (.inr k))
  | n + 1, pc, S, pc', S' => (∃ f pc1 S1, xm_at tb pc = some (.inl f) ∧ f S = some (pc1, S1) ∧ xm_Rn cal tb n pc1 S1 pc' S') ∨
      (∃ mi k t lv as rest M kc ks v M1 mc ms, xm_at tb pc = some (.inr (.inl (mi, k, t))) ∧ S = (lv, as.reverse ++ rest, M, kc, ks) ∧ as.length = k ∧ xm_rc t as ∧ (rest.map xm_cat).sum ≤ 8 ∧ cal mi as M v M1 mc ms ∧ xm_Rn cal tb n (pc + 3) (lv, v.toList ++ rest, M1, kc + mc, ks + ms) pc' S')
def xm_R (cal : xm_Cal) (tb : xm_T) (pc : Nat) (S : xm_S) (pc' : Nat) (S' : xm_S) : Prop := ∃ n, xm_Rn cal tb n pc S pc' S'
theorem xm_R.stop {cal : xm_Cal} {tb : xm_T} {pc : Nat} {S : xm_S} {k : Nat} (h : xm_at tb pc = some (.inr (.inr k))) : xm_R cal tb pc S pc S := ⟨0, rfl, rfl, k, h⟩
theorem xm_R.step {cal : xm_Cal} {tb : xm_T} {pc pc' pc1 : Nat} {S S' S1 : xm_S} {f : xm_F} (h : xm_at tb pc = some (.inl f)) (hf : f S = some (pc1, S1)) (k : xm_R cal tb pc1 S1 pc' S') : xm_R cal tb pc S pc' S' := by
  obtain ⟨n, k⟩ := k
  exact ⟨n + 1, Or.inl ⟨f, pc1, S1, h, hf, k⟩⟩
theorem xm_R.ite {cal : xm_Cal} {tb : xm_T} {pc pc' : Nat} {S S' : xm_S} {f : xm_F} {p : Prop} [Decidable p] {a b : Nat × xm_S} (h : xm_at tb pc = some (.inl f)) (hf : f S = some (if p then a else b)) (k1 : p → xm_R cal tb a.1 a.2 pc' S') (k2 : ¬ p → xm_R cal tb b.1 b.2 pc' S') : xm_R cal tb pc S pc' S' := by
  by_cases hp : p
  · rw [if_pos hp] at hf
    exact xm_R.step h hf (k1 hp)
  · rw [if_neg hp] at hf
    exact xm_R.step h hf (k2 hp)
theorem xm_R.call {cal : xm_Cal} {tb : xm_T} {pc pc' : Nat} {S' : xm_S} {mi k t : Nat} {lv : xm_L} {st : List xm_V} (as rest : List xm_V) {M M1 : xm_M} {kc ks mc ms : Nat} {v : Option xm_V} (h : xm_at tb pc = some (.inr (.inl (mi, k, t)))) (hs : st = as.reverse ++ rest) (hk : as.length = k) (ht : xm_rc t as) (hr : (rest.map xm_cat).sum ≤ 8) (hc : cal mi as M v M1 mc ms) (kk : xm_R cal tb (pc + 3) (lv, v.toList ++ rest, M1, kc + mc, ks + ms) pc' S') : xm_R cal tb pc (lv, st, M, kc, ks) pc' S' := by
  obtain ⟨n, kk⟩ := kk
  subst hs
  exact ⟨n + 1, Or.inr ⟨mi, k, t, lv, as, rest, M, kc, ks, v, M1, mc, ms, h, rfl, hk, ht, hr, hc, kk⟩⟩
/-- k straight steps -/
def xm_run (tb : xm_T) : Nat → Nat → xm_S → Option (Nat × xm_S)
  | 0, pc, S => some (pc, S)
  | k + 1, pc, S => match xm_at tb pc with
    | some (.inl f) => match f S with
      | some q => xm_run tb k q.1 q.2
      | none => none
    | _ => none
theorem xm_R.run {cal : xm_Cal} {tb : xm_T} (k : Nat) : ∀ {pc : Nat} {S : xm_S} {q : Nat × xm_S} {pc' : Nat} {S' : xm_S}, xm_run tb k pc S = some q → xm_R cal tb q.1 q.2 pc' S' → xm_R cal tb pc S pc' S' := by
  induction k with
  | zero =>
    intro pc S q pc' S' h kk
    cases h
    exact kk
  | succ k ih =>
    intro pc S q pc' S' h kk
    unfold xm_run at h
    cases ha : xm_at tb pc with
    | none => rw [ha] at h; cases h
    | some e =>
      rw [ha] at h
      cases e with
      | inr _ => cases h
      | inl f =>
        dsimp only at h
        cases hf : f S with
        | none => rw [hf] at h; cases h
        | some q1 =>
          rw [hf] at h
          exact xm_R.step ha hf (ih h kk)
/-- what stands on the stack at a stop of that kind: nothing (0), an int (1), a long (2), a reference (3), a boolean (4) -/
def xm_ret (k : Nat) (st : List xm_V) (v : Option xm_V) : Prop := match k with
  | 0 => st = [] ∧ v = none
  | 1 => ∃ x, st = [xm_i x] ∧ v = some (xm_i x)
  | 2 => ∃ x, st = [xm_l x] ∧ v = some (xm_l x)
  | 3 => ∃ c i, st = [xm_r c i] ∧ v = some (xm_r c i)
  | 4 => ∃ x, (x = 0 ∨ x = 1) ∧ st = [xm_i x] ∧ v = some (xm_i x)
  | _ => False
/-- arguments as locals: a long takes two places -/
def xm_en : Nat → List xm_V → xm_L
  | _, [] => []
  | k, v :: r => (k, v) :: xm_en (k + xm_cat v) r
/-- calls to a depth: method mi of the program (how many locals, its table), its arguments, memory; answer, memory, cells and slots made -/
def xm_Do (pg : Nat → Nat × xm_T) : Nat → xm_Cal
  | 0 => fun _ _ _ _ _ _ _ => False
  | d + 1 => fun mi as M v M' mc ms => (as.map xm_cat).sum ≤ (pg mi).1 ∧ ∃ pc lv st k, xm_R (xm_Do pg d) (pg mi).2 0 (xm_en 0 as, [], M, 0, 0) pc (lv, st, M', mc, ms) ∧ xm_at (pg mi).2 pc = some (.inr (.inr k)) ∧ xm_ret k st v
end
section
/-! THE WORLD that a memory stands for: which kind of cell each tag is -/
/-- kind (0 an object, 1 int[], 2 long[], 3 boolean[], 4 Aircraft[], 5 Pair[], 6 a table that nobody writes), the object's number among the names, its fields: 0 int, 1 long, 2 reference, 3 boolean -/
def xm_kd (c : Nat) : Nat × Nat × List Nat := match c with
  | 0 => (0, 0, [3, 3, 0, 0, 0, 0, 0, 0])
  | 1 => (0, 1, [2, 2, 2, 2, 1, 0, 3, 0, 3, 3, 0])
  | 2 => (0, 2, [2])
  | 3 => (0, 3, [0, 0, 0, 0, 0])
  | 4 => (0, 4, [2, 2, 2, 2])
  | 5 => (0, 5, [0, 2, 2, 2, 2, 2, 2, 2, 2, 2, 2, 2, 0, 0, 1, 1, 1, 1, 1, 1, 1, 1])
  | 6 => (1, 0, [])
  | 7 => (1, 0, [])
  | 8 => (3, 0, [])
  | 9 => (3, 0, [])
  | 10 => (1, 0, [])
  | 11 => (1, 0, [])
  | 12 => (1, 0, [])
  | 13 => (1, 0, [])
  | 14 => (3, 0, [])
  | 15 => (2, 0, [])
  | 16 => (1, 0, [])
  | 17 => (1, 0, [])
  | 18 => (4, 0, [])
  | 19 => (5, 0, [])
  | 20 => (2, 0, [])
  | _ => (6, 0, [])
abbrev xm_o (M : xm_M) : List (Nat × Nat) := M.2.2.2.2
abbrev xm_A : Type := Nat × Nat → Nat
def xm_rv (ad : xm_A) (v : xm_V) : Value := match v with
  | .inl x => .int x
  | .inr (.inl x) => .long x
  | .inr (.inr r) => va_rf (r.map ad)
theorem xm_rv_cat (ad : xm_A) (v : xm_V) : (xm_rv ad v).category = xm_cat v := by
  rcases v with x | x | r
  · rfl
  · rfl
  · cases r <;> rfl
def xm_fv (ad : xm_A) (M : xm_M) (q : Nat × Nat) (k t : Nat) : Value := match t with
  | 1 => .long (M.2.1 q.1 k q.2)
  | 2 => va_rf ((M.2.2.1 q.1 k q.2).map ad)
  | _ => .int (M.1 q.1 k q.2)
def xm_cell (cA : Nat → ClassId) (ad : xm_A) (M : xm_M) (q : Nat × Nat) : va_E := match (xm_kd q.1).1 with
  | 0 => .inr ((xm_kd q.1).2.1, (xm_kd q.1).2.2.mapIdx (xm_fv ad M q))
  | 2 => .inl (cA 2, M.2.2.2.1 q.1 q.2, .inr (.inl (fun j => M.2.1 q.1 j q.2)))
  | 4 => .inl (cA 4, M.2.2.2.1 q.1 q.2, .inr (.inr (.inr (.inr (fun j => (M.2.2.1 q.1 j q.2).map ad)))))
  | 5 => .inl (cA 5, M.2.2.2.1 q.1 q.2, .inr (.inr (.inr (.inr (fun j => (M.2.2.1 q.1 j q.2).map ad)))))
  | k => .inl (cA k, M.2.2.2.1 q.1 q.2, .inl (fun j => M.1 q.1 j q.2))
def xm_ws (cA : Nat → ClassId) (ad : xm_A) (M : xm_M) : va_W := (xm_o M).map (fun q => (ad q, xm_cell cA ad M q))
abbrev xm_tys (cA : Nat → ClassId) : List (ClassId × FieldType) := [(cA 0, .int), (cA 1, .int), (cA 2, .long), (cA 3, .boolean), (cA 4, .object RX0), (cA 5, .object RX1)]
theorem xm_in {cA : Nat → ClassId} {ad : xm_A} {M : xm_M} {q : Nat × Nat} (h : q ∈ xm_o M) : ∃ k : Nat, (xm_o M)[k]? = some q ∧ (xm_ws cA ad M)[k]? = some (ad q, xm_cell cA ad M q) := by
  obtain ⟨k, hk⟩ := List.getElem?_of_mem h
  exact ⟨k, hk, by simp [xm_ws, List.getElem?_map, hk]⟩
theorem xm_inj {cA : Nat → ClassId} {ad : xm_A} {M : xm_M} {A : Nat → Prop} (hD : va_D A (xm_ws cA ad M)) {q q' : Nat × Nat} (h : q ∈ xm_o M) (h' : q' ∈ xm_o M) (e : ad q = ad q') : q = q' := by
  obtain ⟨k, hk, hw⟩ := xm_in (cA := cA) (ad := ad) h
  obtain ⟨j, hj, hv⟩ := xm_in (cA := cA) (ad := ad) h'
  have := hD.1 k j _ _ hw hv e
  subst this
  exact Option.some.inj (hk.symm.trans hj)
theorem xm_set {cA : Nat → ClassId} {ad : xm_A} {M M' : xm_M} {A : Nat → Prop} {q : Nat × Nat} {k : Nat} (hD : va_D A (xm_ws cA ad M)) (hk : (xm_o M)[k]? = some q) (ho : xm_o M' = xm_o M) (hc : ∀ q', q' ≠ q → xm_cell cA ad M' q' = xm_cell cA ad M q') : (xm_ws cA ad M).set k (ad q, xm_cell cA ad M' q) = xm_ws cA ad M' := by
  have hlt : k < (xm_o M).length := (List.getElem?_eq_some_iff.mp hk).1
  apply List.ext_getElem?
  intro j
  rw [List.getElem?_set]
  by_cases hj : k = j
  · subst hj
    rw [if_pos rfl, if_pos (by simpa [xm_ws] using hlt)]
    simp only [xm_ws, ho, List.getElem?_map, hk]
    rfl
  · rw [if_neg hj]
    simp only [xm_ws, ho, List.getElem?_map]
    cases hq : (xm_o M)[j]? with
    | none => simp [hq]
    | some q' =>
      have hne : q' ≠ q := by
        intro e9
        subst e9
        exact hj (hD.1 k j (ad q', xm_cell cA ad M q') (ad q', xm_cell cA ad M q') (by simp [xm_ws, List.getElem?_map, hk]) (by simp [xm_ws, List.getElem?_map, hq]) rfl)
      simp [hq, hc q' hne]
/-- a reference is to something that is there, or to a table -/
def xm_vok (M : xm_M) (v : xm_V) : Prop := match v with
  | .inr (.inr (some q)) => q ∈ xm_o M ∨ 21 ≤ q.1
  | _ => True
def xm_Ok (M : xm_M) (lv : xm_L) (st : List xm_V) : Prop := (∀ x ∈ lv, xm_vok M x.2) ∧ (∀ v ∈ st, xm_vok M v) ∧ ∀ q ∈ xm_o M, ∀ k q', M.2.2.1 q.1 k q.2 = some q' → q' ∈ xm_o M
/-- the fields of an object, and one of them -/
theorem xm_obj {cA : Nat → ClassId} {ad : xm_A} {M : xm_M} {q : Nat × Nat} {ci : Nat} {ts : List Nat} (h : xm_kd q.1 = (0, ci, ts)) : xm_cell cA ad M q = .inr (ci, ts.mapIdx (xm_fv ad M q)) := by
  unfold xm_cell
  rw [h]
  rfl
theorem xm_fld {ad : xm_A} {M : xm_M} {q : Nat × Nat} {ts : List Nat} {k t : Nat} (h : ts[k]? = some t) : (ts.mapIdx (xm_fv ad M q))[k]? = some (xm_fv ad M q k t) := by
  rw [List.getElem?_mapIdx, h]
  rfl
theorem xm_setf {ad : xm_A} {M M' : xm_M} {q : Nat × Nat} {ts : List Nat} {k t : Nat} {v : Value} (h : ts[k]? = some t) (hv : xm_fv ad M' q k t = v) (ho : ∀ j t', j ≠ k → xm_fv ad M' q j t' = xm_fv ad M q j t') : (ts.mapIdx (xm_fv ad M q)).set k v = ts.mapIdx (xm_fv ad M' q) := by
  apply List.ext_getElem?
  intro j
  rw [List.getElem?_set, List.getElem?_mapIdx, List.getElem?_mapIdx]
  have hlt : k < ts.length := (List.getElem?_eq_some_iff.mp h).1
  by_cases hj : k = j
  · subst hj
    rw [if_pos rfl, if_pos (by simpa using hlt), h]
    simp [hv]
  · rw [if_neg hj]
    cases hq : ts[j]? with
    | none => rfl
    | some t' => simp [ho j t' (fun e9 => hj e9.symm)]
end
section
/-! THE STEPS of the calculus (no machine here) -/
def xs_lift (n : Nat) (g : List xm_V → Option (List xm_V)) : xm_F := fun S => match g S.2.1 with
  | some st1 => some (n, S.1, st1, S.2.2)
  | none => none
def xg_push (v : xm_V) : List xm_V → Option (List xm_V) := fun st => some (v :: st)
def xg_bin (op : Int32 → Int32 → Int32) : List xm_V → Option (List xm_V) := fun st => match st with
  | .inl y :: .inl x :: r => some (.inl (op x y) :: r)
  | _ => none
def xg_binL (op : Int64 → Int64 → Int64) : List xm_V → Option (List xm_V) := fun st => match st with
  | .inr (.inl y) :: .inr (.inl x) :: r => some (.inr (.inl (op x y)) :: r)
  | _ => none
def xg_div : List xm_V → Option (List xm_V) := fun st => match st with
  | .inl y :: .inl x :: r => if y = 0 then none else some (.inl (x / y) :: r)
  | _ => none
def xg_divL : List xm_V → Option (List xm_V) := fun st => match st with
  | .inr (.inl y) :: .inr (.inl x) :: r => if y = 0 then none else some (.inr (.inl (x / y)) :: r)
  | _ => none
def xg_un (op : Int32 → Int32) : List xm_V → Option (List xm_V) := fun st => match st with
  | .inl x :: r => some (.inl (op x) :: r)
  | _ => none
def xg_unL (op : Int64 → Int64) : List xm_V → Option (List xm_V) := fun st => match st with
  | .inr (.inl x) :: r => some (.inr (.inl (op x)) :: r)
  | _ => none
def xg_i2l : List xm_V → Option (List xm_V) := fun st => match st with
  | .inl x :: r => some (.inr (.inl x.toInt64) :: r)
  | _ => none
def xg_l2i : List xm_V → Option (List xm_V) := fun st => match st with
  | .inr (.inl x) :: r => some (.inl x.toInt32 :: r)
  | _ => none
def xg_lcmp : List xm_V → Option (List xm_V) := fun st => match st with
  | .inr (.inl y) :: .inr (.inl x) :: r => some (.inl (lg_cmp x y) :: r)
  | _ => none
def xg_dup : List xm_V → Option (List xm_V) := fun st => match st with
  | v :: r => if xm_cat v = 1 then some (v :: v :: r) else none
  | _ => none
def xg_dup2 : List xm_V → Option (List xm_V) := fun st => match st with
  | v :: w :: r => if xm_cat v = 1 ∧ xm_cat w = 1 then some (v :: w :: v :: w :: r) else none
  | _ => none
/-- Math.max, min, abs: calls, so that what lies below them is bounded -/
def xg_mbin (op : Int32 → Int32 → Int32) : List xm_V → Option (List xm_V) := fun st => match st with
  | .inl y :: .inl x :: r => if (r.map xm_cat).sum ≤ 8 then some (.inl (op x y) :: r) else none
  | _ => none
def xg_mun (op : Int32 → Int32) : List xm_V → Option (List xm_V) := fun st => match st with
  | .inl x :: r => if (r.map xm_cat).sum ≤ 8 then some (.inl (op x) :: r) else none
  | _ => none
def xg_mbinL (op : Int64 → Int64 → Int64) : List xm_V → Option (List xm_V) := fun st => match st with
  | .inr (.inl y) :: .inr (.inl x) :: r => if (r.map xm_cat).sum ≤ 8 then some (.inr (.inl (op x y)) :: r) else none
  | _ => none
def xo_max (x y : Int32) : Int32 := if x < y then y else x
def xo_min (x y : Int32) : Int32 := if y < x then y else x
def xo_abs (x : Int32) : Int32 := if 0 ≤ x then x else 0 - x
def xo_minL (x y : Int64) : Int64 := if y < x then y else x
/-- Object's constructor -/
def xg_obj : List xm_V → Option (List xm_V) := fun st => match st with
  | .inr (.inr (some _)) :: r => if (r.map xm_cat).sum ≤ 8 then some r else none
  | _ => none
def xs_ldI (n i : Nat) : xm_F := fun S => match xm_ld S.1 i with
  | some (.inl x) => some (n, S.1, .inl x :: S.2.1, S.2.2)
  | _ => none
def xs_ldL (n i : Nat) : xm_F := fun S => match xm_ld S.1 i with
  | some (.inr (.inl x)) => some (n, S.1, .inr (.inl x) :: S.2.1, S.2.2)
  | _ => none
def xs_ldR (n i : Nat) : xm_F := fun S => match xm_ld S.1 i with
  | some (.inr (.inr (some q))) => some (n, S.1, .inr (.inr (some q)) :: S.2.1, S.2.2)
  | _ => none
def xs_stI (n i : Nat) : xm_F := fun S => match S.2.1 with
  | .inl x :: r => some (n, xm_st1 S.1 i (.inl x), r, S.2.2)
  | _ => none
def xs_stL (n i : Nat) : xm_F := fun S => match S.2.1 with
  | .inr (.inl x) :: r => some (n, xm_st2 S.1 i (.inr (.inl x)), r, S.2.2)
  | _ => none
def xs_stR (n i : Nat) : xm_F := fun S => match S.2.1 with
  | .inr (.inr (some q)) :: r => some (n, xm_st1 S.1 i (.inr (.inr (some q))), r, S.2.2)
  | _ => none
def xs_inc (n i : Nat) (d : Int32) : xm_F := fun S => match xm_ld S.1 i with
  | some (.inl x) => some (n, xm_st1 S.1 i (.inl (x + d)), S.2)
  | _ => none
def xs_goto (t : Nat) : xm_F := fun S => some (t, S)
def xs_if (n t : Nat) (P : Int32 → Prop) (dp : ∀ x, Decidable (P x)) : xm_F := fun S => match S.2.1 with
  | .inl x :: r => some (@ite _ (P x) (dp x) (t, S.1, r, S.2.2) (n, S.1, r, S.2.2))
  | _ => none
def xs_icmp (n t : Nat) (P : Int32 → Int32 → Prop) (dp : ∀ x y, Decidable (P x y)) : xm_F := fun S => match S.2.1 with
  | .inl y :: .inl x :: r => some (@ite _ (P x y) (dp x y) (t, S.1, r, S.2.2) (n, S.1, r, S.2.2))
  | _ => none
/-- to t where the two are one, else to n -/
def xs_acmp (n t : Nat) : xm_F := fun S => match S.2.1 with
  | .inr (.inr (some b)) :: .inr (.inr (some a)) :: r => some (if a = b then (t, S.1, r, S.2.2) else (n, S.1, r, S.2.2))
  | _ => none
def xs_sw (ts : List Nat) (d : Nat) : xm_F := fun S => match S.2.1 with
  | .inl x :: r => some ((if x.toInt < 0 then d else ts.getD x.toInt.toNat d), S.1, r, S.2.2)
  | _ => none
def xs_getI (n c k : Nat) : xm_F := fun S => match S.2.1 with
  | .inr (.inr (some q)) :: r => if q.1 = c then some (n, S.1, .inl (S.2.2.1.1 c k q.2) :: r, S.2.2) else none
  | _ => none
def xs_getL (n c k : Nat) : xm_F := fun S => match S.2.1 with
  | .inr (.inr (some q)) :: r => if q.1 = c then some (n, S.1, .inr (.inl (S.2.2.1.2.1 c k q.2)) :: r, S.2.2) else none
  | _ => none
def xs_getR (n c k : Nat) : xm_F := fun S => match S.2.1 with
  | .inr (.inr (some q)) :: r => if q.1 = c then (match S.2.2.1.2.2.1 c k q.2 with
    | some z => some (n, S.1, .inr (.inr (some z)) :: r, S.2.2)
    | none => none) else none
  | _ => none
def xm_wI (M : xm_M) (c k i : Nat) (v : Int32) : xm_M := (xm_up M.1 c k i v, M.2)
def xm_wL (M : xm_M) (c k i : Nat) (v : Int64) : xm_M := (M.1, xm_up M.2.1 c k i v, M.2.2)
def xm_wR (M : xm_M) (c k i : Nat) (v : Option (Nat × Nat)) : xm_M := (M.1, M.2.1, xm_up M.2.2.1 c k i v, M.2.2.2)
def xs_putI (n c k : Nat) : xm_F := fun S => match S.2.1 with
  | .inl v :: .inr (.inr (some q)) :: r => if q.1 = c then some (n, S.1, r, xm_wI S.2.2.1 c k q.2 v, S.2.2.2) else none
  | _ => none
def xs_putZ (n c k : Nat) : xm_F := fun S => match S.2.1 with
  | .inl v :: .inr (.inr (some q)) :: r => if q.1 = c ∧ (v = 0 ∨ v = 1) then some (n, S.1, r, xm_wI S.2.2.1 c k q.2 v, S.2.2.2) else none
  | _ => none
def xs_putL (n c k : Nat) : xm_F := fun S => match S.2.1 with
  | .inr (.inl v) :: .inr (.inr (some q)) :: r => if q.1 = c then some (n, S.1, r, xm_wL S.2.2.1 c k q.2 v, S.2.2.2) else none
  | _ => none
def xs_putR (n c k : Nat) : xm_F := fun S => match S.2.1 with
  | .inr (.inr (some z)) :: .inr (.inr (some q)) :: r => if q.1 = c ∧ z.1 < 21 then some (n, S.1, r, xm_wR S.2.2.1 c k q.2 (some z), S.2.2.2) else none
  | _ => none
/-- a place of an array -/
def xm_at0 (x : Int32) (n : Nat) : Prop := 0 ≤ x.toInt ∧ x.toInt < n
/-- the tables: LEAST, MOST, AT_FIRST -/
def xm_tb (k j : Nat) : Int32 := match k with
  | 0 => (match j with | 0 => 1 | 6 => 1 | _ => 0)
  | 1 => (match j with | 0 => 100 | 1 => 5000 | 2 => 5000 | 3 => 2000 | 4 => 2000 | 5 => 20 | _ => 60)
  | _ => (match j with | 0 => 30 | 1 => 1000 | 2 => 2000 | 3 => 250 | 4 => 200 | 5 => 5 | _ => 8)
def xs_iald (n : Nat) : xm_F := fun S => match S.2.1 with
  | .inl x :: .inr (.inr (some q)) :: r => (match (xm_kd q.1).1 with
    | 1 => @ite _ (0 ≤ x.toInt ∧ x.toInt < S.2.2.1.2.2.2.1 q.1 q.2) instDecidableAnd (some (n, S.1, .inl (S.2.2.1.1 q.1 x.toNatClampNeg q.2) :: r, S.2.2)) none
    | _ => none)
  | _ => none
def xs_tald (n k : Nat) : xm_F := fun S => match S.2.1 with
  | .inl x :: .inr (.inr (some q)) :: r => if q = (21 + k, 0) ∧ 0 ≤ x.toInt ∧ x.toInt < 7 then some (n, S.1, .inl (xm_tb k x.toNatClampNeg) :: r, S.2.2) else none
  | _ => none
def xs_zald (n : Nat) : xm_F := fun S => match S.2.1 with
  | .inl x :: .inr (.inr (some q)) :: r => (match (xm_kd q.1).1 with
    | 3 => if 0 ≤ x.toInt ∧ x.toInt < S.2.2.1.2.2.2.1 q.1 q.2 then some (n, S.1, .inl (S.2.2.1.1 q.1 x.toNatClampNeg q.2) :: r, S.2.2) else none
    | _ => none)
  | _ => none
def xs_lald (n : Nat) : xm_F := fun S => match S.2.1 with
  | .inl x :: .inr (.inr (some q)) :: r => (match (xm_kd q.1).1 with
    | 2 => if 0 ≤ x.toInt ∧ x.toInt < S.2.2.1.2.2.2.1 q.1 q.2 then some (n, S.1, .inr (.inl (S.2.2.1.2.1 q.1 x.toNatClampNeg q.2)) :: r, S.2.2) else none
    | _ => none)
  | _ => none
/-- an array of references (kind t) -/
def xs_aald (n t : Nat) : xm_F := fun S => match S.2.1 with
  | .inl x :: .inr (.inr (some q)) :: r => if (xm_kd q.1).1 = t ∧ 0 ≤ x.toInt ∧ x.toInt < S.2.2.1.2.2.2.1 q.1 q.2 then (match S.2.2.1.2.2.1 q.1 x.toNatClampNeg q.2 with
    | some z => some (n, S.1, .inr (.inr (some z)) :: r, S.2.2)
    | none => none) else none
  | _ => none
def xs_iast (n : Nat) : xm_F := fun S => match S.2.1 with
  | .inl v :: .inl x :: .inr (.inr (some q)) :: r => if (xm_kd q.1).1 = 1 ∧ 0 ≤ x.toInt ∧ x.toInt < S.2.2.1.2.2.2.1 q.1 q.2 then some (n, S.1, r, xm_wI S.2.2.1 q.1 x.toNatClampNeg q.2 v, S.2.2.2) else none
  | _ => none
def xs_zast (n : Nat) : xm_F := fun S => match S.2.1 with
  | .inl v :: .inl x :: .inr (.inr (some q)) :: r => if (xm_kd q.1).1 = 3 ∧ (v = 0 ∨ v = 1) ∧ 0 ≤ x.toInt ∧ x.toInt < S.2.2.1.2.2.2.1 q.1 q.2 then some (n, S.1, r, xm_wI S.2.2.1 q.1 x.toNatClampNeg q.2 v, S.2.2.2) else none
  | _ => none
def xs_last (n : Nat) : xm_F := fun S => match S.2.1 with
  | .inr (.inl v) :: .inl x :: .inr (.inr (some q)) :: r => if (xm_kd q.1).1 = 2 ∧ 0 ≤ x.toInt ∧ x.toInt < S.2.2.1.2.2.2.1 q.1 q.2 then some (n, S.1, r, xm_wL S.2.2.1 q.1 x.toNatClampNeg q.2 v, S.2.2.2) else none
  | _ => none
/-- z, an object of tag t, into an array of references (kind a) -/
def xs_aast (n a t : Nat) : xm_F := fun S => match S.2.1 with
  | .inr (.inr (some z)) :: .inl x :: .inr (.inr (some q)) :: r => if (xm_kd q.1).1 = a ∧ z.1 = t ∧ 0 ≤ x.toInt ∧ x.toInt < S.2.2.1.2.2.2.1 q.1 q.2 then some (n, S.1, r, xm_wR S.2.2.1 q.1 x.toNatClampNeg q.2 (some z), S.2.2.2) else none
  | _ => none
def xs_alen (n : Nat) : xm_F := fun S => match S.2.1 with
  | .inr (.inr (some q)) :: r => (match (xm_kd q.1).1 with
    | 0 => none
    | 6 => if q.2 = 0 ∧ q.1 < 24 then some (n, S.1, .inl 7 :: r, S.2.2) else none
    | _ => some (n, S.1, .inl (Int32.ofNat (S.2.2.1.2.2.2.1 q.1 q.2)) :: r, S.2.2))
  | _ => none
/-- how many of a tag there are -/
def xm_cnt (c : Nat) : List (Nat × Nat) → Nat
  | [] => 0
  | q :: r => (if q.1 = c then 1 else 0) + xm_cnt c r
def xm_nw (M : xm_M) (c N : Nat) : xm_M := ((fun c' k' i' => if c' = c ∧ i' = xm_cnt c (xm_o M) then 0 else M.1 c' k' i'), (fun c' k' i' => if c' = c ∧ i' = xm_cnt c (xm_o M) then 0 else M.2.1 c' k' i'), (fun c' k' i' => if c' = c ∧ i' = xm_cnt c (xm_o M) then none else M.2.2.1 c' k' i'), (fun c' i' => if c' = c ∧ i' = xm_cnt c (xm_o M) then N else M.2.2.2.1 c' i'), xm_o M ++ [(c, xm_cnt c (xm_o M))])
def xs_new (n c : Nat) : xm_F := fun S => if (c, xm_cnt c (xm_o S.2.2.1)) ∈ xm_o S.2.2.1 then none else some (n, S.1, .inr (.inr (some (c, xm_cnt c (xm_o S.2.2.1)))) :: S.2.1, xm_nw S.2.2.1 c 0, S.2.2.2.1 + 1, S.2.2.2.2 + (xm_kd c).2.2.length)
def xs_newa (n c : Nat) : xm_F := fun S => match S.2.1 with
  | .inl x :: r => if (c, xm_cnt c (xm_o S.2.2.1)) ∈ xm_o S.2.2.1 then none else if 0 ≤ x.toInt ∧ x.toInt ≤ 1000 then some (n, S.1, .inr (.inr (some (c, xm_cnt c (xm_o S.2.2.1)))) :: r, xm_nw S.2.2.1 c x.toNatClampNeg, S.2.2.2.1 + 1, S.2.2.2.2 + x.toNatClampNeg) else none
  | _ => none
def xs_gst (n k : Nat) : xm_F := fun S => some (n, S.1, .inr (.inr (some (21 + k, 0))) :: S.2.1, S.2.2)
end
section
/-! THE MACHINE KEEPS THE STEPS -/
def xm_nm (k : Nat) : String := match k with
  | 0 => "LEAST"
  | 1 => "MOST"
  | _ => "AT_FIRST"
/-- a table at t: seven ints, written by nobody -/
def xm_Tb (t k : Nat) (A : Nat → Prop) (U : State) (H : Heap) : Prop := ∃ cell : Cell, H[t]? = some cell ∧ U.isArrayOf cell .int ∧ cell.vm ≠ .unknown ∧ cell.slots.size = 7 ∧ (∀ j : Nat, j < 7 → cell.slots[j]? = some (.int (xm_tb k j))) ∧ ¬ A t
theorem xm_Tb.moved {t k : Nat} {A : Nat → Prop} {u U : State} {H : Heap} (hvm : u.vm.Alike U.vm) (h : xm_Tb t k A u H) : xm_Tb t k A U H := by
  obtain ⟨cell, h1, h2, h3⟩ := h
  exact ⟨cell, h1, State.isArrayOf_alike hvm h2, h3⟩
theorem xm_Tb.kept {t k : Nat} {A : Nat → Prop} {U : State} {H H1 : Heap} (h : xm_Tb t k A U H) (hq : ∀ a : Nat, a < H.size → ¬ A a → H1[a]? = H[a]?) : xm_Tb t k A U H1 := by
  obtain ⟨cell, h1, h2, h3, h4, h5, h6⟩ := h
  exact ⟨cell, by rw [hq t (Array.getElem?_eq_some_iff.mp h1).1 h6]; exact h1, h2, h3, h4, h5, h6⟩
theorem xm_Tb.narrow {t k : Nat} {A B : Nat → Prop} {U : State} {H : Heap} (h : xm_Tb t k A U H) (hAB : ∀ q, B q → A q) : xm_Tb t k B U H := by
  obtain ⟨cell, h1, h2, h3, h4, h5, h6⟩ := h
  exact ⟨cell, h1, h2, h3, h4, h5, fun z => h6 (hAB t z)⟩
theorem xm_Tb.T {t k : Nat} {A : Nat → Prop} {U : State} {H : Heap} (h : xm_Tb t k A U H) : va_T .int t 7 (fun j => .int (xm_tb k j)) A U H := by
  obtain ⟨cell, h1, h2, h3, h4, h5, h6⟩ := h
  exact ⟨cell, h1, h2, h3, by omega, by rw [h4], h5, h6⟩
def xm_Sx (tS : Nat → Nat) (A : Nat → Prop) (U : State) (H : Heap) : Prop := (∀ k, k < 3 → va_Z RX2 (xm_nm k) "[I" (.ref (tS k)) A U H ∧ xm_Tb (tS k) k A U H) ∧ va_AO RX0 U ∧ va_AO RX1 U
theorem xm_Sx.moved {tS : Nat → Nat} {A : Nat → Prop} {u U : State} {H : Heap} (hvm : u.vm.Alike U.vm) (h : xm_Sx tS A u H) : xm_Sx tS A U H := ⟨fun k hk => ⟨va_Z.moved hvm (h.1 k hk).1, xm_Tb.moved hvm (h.1 k hk).2⟩, va_AO.moved hvm h.2.1, va_AO.moved hvm h.2.2⟩
theorem xm_Sx.kept {tS : Nat → Nat} {A : Nat → Prop} {U : State} {H H1 : Heap} (h : xm_Sx tS A U H) (hq : ∀ a : Nat, a < H.size → ¬ A a → H1[a]? = H[a]?) : xm_Sx tS A U H1 := ⟨fun k hk => ⟨(h.1 k hk).1.kept hq, (h.1 k hk).2.kept hq⟩, h.2⟩
theorem xm_Sx.narrow {tS : Nat → Nat} {A B : Nat → Prop} {U : State} {H : Heap} (h : xm_Sx tS A U H) (hAB : ∀ q, B q → A q) : xm_Sx tS B U H := ⟨fun k hk => ⟨(h.1 k hk).1.narrow hAB, (h.1 k hk).2.narrow hAB⟩, h.2⟩
/-- links to a nest mate's own constructor -/
def xm_Nx (U : State) : Prop := va_Nw (.methodLinkNest RX4 29 yX0_init RX4) U ∧ va_Nw (.methodLinkNest RX4 18 yX3_init RX4) U
theorem xm_Nx.warm {s U : State} (hW : s.WarmedH U.vm) (h : xm_Nx s) : xm_Nx U := ⟨va_Nw.warmM hW h.1, va_Nw.warmM hW h.2⟩
theorem xm_Nx.same {u U : State} (hv : u.vm = U.vm) (h : xm_Nx u) : xm_Nx U := ⟨va_Nw.same rfl hv h.1, va_Nw.same rfl hv h.2⟩
/-- a frame's context -/
def xm_Cx (p : Program) (s : State) (m : MethodId) (args : Array Value) (c : Code) (cc : ByteArray) (nL : Nat) (own : String) (Ts : List Cond) (cA : Nat → ClassId) (D : va_G) (A : Nat → Prop) (tS : Nat → Nat) : Prop :=
  p.tables.exec = Jvm.exec ∧ c.code = cc ∧ c.maxLocals = nL ∧ s.vm.findClass own = some m.cls ∧ (∀ w ∈ Ts, w.before args s = true) ∧ va_K D vwCl (xm_tys cA) s ∧ (∀ q : Nat, s.heap.size ≤ q → A q) ∧ xm_Sx tS A s s.heap ∧ xm_Nx s
/-- the tables' addresses -/
def xm_St (ad : xm_A) (tS : Nat → Nat) : Prop := ∀ q : Nat × Nat, 21 ≤ q.1 → ad q = tS (q.1 - 21)
theorem xm_St.k {ad : xm_A} {tS : Nat → Nat} (h : xm_St ad tS) (k : Nat) : ad (21 + k, 0) = tS k := by
  rw [h (21 + k, 0) (Nat.le_add_right 21 k)]
  congr 1
  exact Nat.add_sub_cancel_left 21 k
/-- the machine's side of a state of the calculus -/
def xm_Sd (s : State) (cA : Nat → ClassId) (D : va_G) (A : Nat → Prop) (tS : Nat → Nat) (nL : Nat) (ad0 : xm_A) (o0 : List (Nat × Nat)) (ad : xm_A) (H : Heap) (locs : List Loc) (ls : Array Slot) (lv : xm_L) (st : List xm_V) (M : xm_M) : Prop :=
  va_P D vwCl (xm_ws cA ad M) H ∧ va_D A (xm_ws cA ad M) ∧ va_S A s.heap H locs ∧ lv_has ls nL (lv.map (fun q => (q.1, xm_rv ad q.2))) ∧ xm_Ok M lv st ∧ xm_St ad tS ∧ ∀ q ∈ o0, ad q = ad0 q ∧ q ∈ xm_o M
def xm_IsG (p : Program) (l : Launch) (e : Env) (R : Room) (s : State) (m : MethodId) (args : Array Value) (below : List Frame) (meth : Method) (c : Code) (Q : State → Prop) (cA : Nat → ClassId) (D : va_G) (A : Nat → Prop) (tS : Nat → Nat) (nL : Nat) (ad0 : xm_A) (o0 : List (Nat × Nat)) (G : Nat → xm_S → Prop) : Prop :=
  ∀ pc S, G pc S ↔ ∀ (ad : xm_A) (H : Heap) (locs : List Loc) (ls : Array Slot), xm_Sd s cA D A tS nL ad0 o0 ad H locs ls S.1 S.2.1 S.2.2.1 → W p l e R s m args below meth c H locs S.2.2.2.1 S.2.2.2.2 Q (F0 m pc ls (S.2.1.map (xm_rv ad)))
def xm_Snd (R : Room) (G : Nat → xm_S → Prop) (pc : Nat) (f : xm_F) : Prop := ∀ S pc1 S1, f S = some (pc1, S1) → (S.2.2.2.1 ≤ S1.2.2.2.1 ∧ S.2.2.2.2 ≤ S1.2.2.2.2) ∧ (S1.2.2.2.1 ≤ R.cells → S1.2.2.2.2 ≤ R.slots → G pc1 S1 → G pc S)
theorem xm_ld_mem {lv : xm_L} {i : Nat} {v : xm_V} (h : xm_ld lv i = some v) : (i, v) ∈ lv := by
  induction lv with
  | nil => cases h
  | cons q r ih =>
    unfold xm_ld at h
    split at h
    · rename_i h1
      cases h
      subst h1
      exact List.mem_cons_self
    · exact List.mem_cons_of_mem _ (ih h)
theorem xm_ld_at {ls : Array Slot} {nL : Nat} {ad : xm_A} {lv : xm_L} {i : Nat} {v : xm_V} (hl : lv_has ls nL (lv.map (fun q => (q.1, xm_rv ad q.2)))) (h : xm_ld lv i = some v) : ls[i]? = some (.val (xm_rv ad v)) :=
  hl.2.2 (i, xm_rv ad v) (List.mem_map.mpr ⟨(i, v), xm_ld_mem h, rfl⟩)
theorem xm_st1_map {ad : xm_A} {lv : xm_L} {i : Nat} {v : xm_V} : (i, xm_rv ad v) :: (lv.map (fun q => (q.1, xm_rv ad q.2))).filter (fun q => !(q.1 == i) && !(q.1 + 1 == i && q.2.category == 2)) = (xm_st1 lv i v).map (fun q => (q.1, xm_rv ad q.2)) := by
  unfold xm_st1
  rw [List.map_cons, List.filter_map]
  congr 2
  apply List.filter_congr
  intro q _
  simp only [Function.comp, xm_rv_cat]
theorem xm_st2_map {ad : xm_A} {lv : xm_L} {i : Nat} {v : xm_V} : (i, xm_rv ad v) :: (lv.map (fun q => (q.1, xm_rv ad q.2))).filter (fun q => !(q.1 == i) && (!(q.1 == i + 1) && !(q.1 + 1 == i && q.2.category == 2))) = (xm_st2 lv i v).map (fun q => (q.1, xm_rv ad q.2)) := by
  unfold xm_st2
  rw [List.map_cons, List.filter_map]
  congr 2
  apply List.filter_congr
  intro q _
  simp only [Function.comp, xm_rv_cat]
theorem xm_st1_ok {M : xm_M} {lv : xm_L} {i : Nat} {v : xm_V} (h : ∀ x ∈ lv, xm_vok M x.2) (hv : xm_vok M v) : ∀ x ∈ xm_st1 lv i v, xm_vok M x.2 := by
  intro x hx
  rcases List.mem_cons.mp hx with rfl | hx
  · exact hv
  · exact h x (List.mem_filter.mp hx).1
theorem xm_st2_ok {M : xm_M} {lv : xm_L} {i : Nat} {v : xm_V} (h : ∀ x ∈ lv, xm_vok M x.2) (hv : xm_vok M v) : ∀ x ∈ xm_st2 lv i v, xm_vok M x.2 := by
  intro x hx
  rcases List.mem_cons.mp hx with rfl | hx
  · exact hv
  · exact h x (List.mem_filter.mp hx).1
section XG
variable {p : Program} {l : Launch} {e : Env} {R : Room} {s : State} {m : MethodId} {args : Array Value} {below : List Frame} {meth : Method} {c : Code} {Q : State → Prop}
variable {cc : ByteArray} {nL : Nat} {own : String} {Ts : List Cond} {cA : Nat → ClassId} {D : va_G} {A : Nat → Prop} {tS : Nat → Nat} {ad0 : xm_A} {o0 : List (Nat × Nat)} {G : Nat → xm_S → Prop}
/-- a step on the stack alone -/
theorem sn_lift (hG : xm_IsG p l e R s m args below meth c Q cA D A tS nL ad0 o0 G) {pc n : Nat} {g : List xm_V → Option (List xm_V)} (hv : ∀ (M : xm_M) st st1, g st = some st1 → (∀ v ∈ st, xm_vok M v) → ∀ v ∈ st1, xm_vok M v)
    (row : ∀ st st1, g st = some st1 → ∀ (ad : xm_A) (H : Heap) (locs : List Loc) (cells slots : Nat) (ls : Array Slot), ls.size = nL → cells ≤ R.cells → slots ≤ R.slots → W p l e R s m args below meth c H locs cells slots Q (F0 m n ls (st1.map (xm_rv ad))) → W p l e R s m args below meth c H locs cells slots Q (F0 m pc ls (st.map (xm_rv ad)))) : xm_Snd R G pc (xs_lift n g) := by
  intro S pc1 S1 h
  unfold xs_lift at h
  split at h
  · rename_i st1 h1
    cases h
    refine ⟨⟨Nat.le_refl _, Nat.le_refl _⟩, fun h2 h3 k => (hG _ _).mpr fun ad H locs ls hA => ?_⟩
    obtain ⟨q1, q2, q3, q4, q5, q6, q7⟩ := hA
    exact row _ _ h1 ad H locs _ _ ls q4.1 h2 h3 ((hG _ _).mp k ad H locs ls ⟨q1, q2, q3, q4, ⟨q5.1, hv _ _ _ h1 q5.2.1, q5.2.2⟩, q6, q7⟩)
  · cases h
theorem xg_bin_inv {op : Int32 → Int32 → Int32} {st st1 : List xm_V} (h : xg_bin op st = some st1) : ∃ x y r, st = .inl y :: .inl x :: r ∧ st1 = .inl (op x y) :: r := by
  unfold xg_bin at h
  split at h
  · cases h; exact ⟨_, _, _, rfl, rfl⟩
  · cases h
theorem sn_push (hG : xm_IsG p l e R s m args below meth c Q cA D A tS nL ad0 o0 G) {pc n : Nat} {v : xm_V} (hv : ∀ M, xm_vok M v)
    (row : ∀ (ad : xm_A) (H : Heap) (locs : List Loc) (cells slots : Nat) (ls : Array Slot) (rest : List Value), W p l e R s m args below meth c H locs cells slots Q (F0 m n ls (xm_rv ad v :: rest)) → W p l e R s m args below meth c H locs cells slots Q (F0 m pc ls rest)) : xm_Snd R G pc (xs_lift n (xg_push v)) := by
  refine sn_lift hG (fun M st st1 h h1 w hw => ?_) (fun st st1 h ad H locs cells slots ls _ _ _ k => ?_)
  · cases h
    rcases List.mem_cons.mp hw with rfl | hw
    · exact hv M
    · exact h1 w hw
  · cases h
    exact row ad H locs cells slots ls _ k
theorem sn_bin (hG : xm_IsG p l e R s m args below meth c Q cA D A tS nL ad0 o0 G) {pc n : Nat} {op : Int32 → Int32 → Int32}
    (row : ∀ (H : Heap) (locs : List Loc) (cells slots : Nat) (ls : Array Slot) (rest : List Value) (x y : Int32), W p l e R s m args below meth c H locs cells slots Q (F0 m n ls (.int (op x y) :: rest)) → W p l e R s m args below meth c H locs cells slots Q (F0 m pc ls (.int y :: .int x :: rest))) : xm_Snd R G pc (xs_lift n (xg_bin op)) := by
  refine sn_lift hG (fun M st st1 h h1 w hw => ?_) (fun st st1 h ad H locs cells slots ls _ _ _ k => ?_) <;> obtain ⟨x, y, r, rfl, rfl⟩ := xg_bin_inv h
  · rcases List.mem_cons.mp hw with rfl | hw
    · trivial
    · exact h1 w (List.mem_cons_of_mem _ (List.mem_cons_of_mem _ hw))
  · exact row H locs cells slots ls _ x y k
theorem sn_binL (hG : xm_IsG p l e R s m args below meth c Q cA D A tS nL ad0 o0 G) {pc n : Nat} {op : Int64 → Int64 → Int64}
    (row : ∀ (H : Heap) (locs : List Loc) (cells slots : Nat) (ls : Array Slot) (rest : List Value) (x y : Int64), W p l e R s m args below meth c H locs cells slots Q (F0 m n ls (.long (op x y) :: rest)) → W p l e R s m args below meth c H locs cells slots Q (F0 m pc ls (.long y :: .long x :: rest))) : xm_Snd R G pc (xs_lift n (xg_binL op)) := by
  have inv : ∀ {st st1 : List xm_V}, xg_binL op st = some st1 → ∃ x y r, st = .inr (.inl y) :: .inr (.inl x) :: r ∧ st1 = .inr (.inl (op x y)) :: r := by
    intro st st1 h
    unfold xg_binL at h
    split at h
    · cases h; exact ⟨_, _, _, rfl, rfl⟩
    · cases h
  refine sn_lift hG (fun M st st1 h h1 w hw => ?_) (fun st st1 h ad H locs cells slots ls _ _ _ k => ?_) <;> obtain ⟨x, y, r, rfl, rfl⟩ := inv h
  · rcases List.mem_cons.mp hw with rfl | hw
    · trivial
    · exact h1 w (List.mem_cons_of_mem _ (List.mem_cons_of_mem _ hw))
  · exact row H locs cells slots ls _ x y k
theorem sn_div (hG : xm_IsG p l e R s m args below meth c Q cA D A tS nL ad0 o0 G) {pc n : Nat}
    (row : ∀ (H : Heap) (locs : List Loc) (cells slots : Nat) (ls : Array Slot) (rest : List Value) (x y : Int32), ¬ y = 0 → W p l e R s m args below meth c H locs cells slots Q (F0 m n ls (.int (x / y) :: rest)) → W p l e R s m args below meth c H locs cells slots Q (F0 m pc ls (.int y :: .int x :: rest))) : xm_Snd R G pc (xs_lift n xg_div) := by
  have inv : ∀ {st st1 : List xm_V}, xg_div st = some st1 → ∃ x y r, ¬ y = 0 ∧ st = .inl y :: .inl x :: r ∧ st1 = .inl (x / y) :: r := by
    intro st st1 h
    unfold xg_div at h
    split at h
    · split at h
      · cases h
      · rename_i h0; cases h; exact ⟨_, _, _, h0, rfl, rfl⟩
    · cases h
  refine sn_lift hG (fun M st st1 h h1 w hw => ?_) (fun st st1 h ad H locs cells slots ls _ _ _ k => ?_) <;> obtain ⟨x, y, r, h0, rfl, rfl⟩ := inv h
  · rcases List.mem_cons.mp hw with rfl | hw
    · trivial
    · exact h1 w (List.mem_cons_of_mem _ (List.mem_cons_of_mem _ hw))
  · exact row H locs cells slots ls _ x y h0 k
theorem sn_divL (hG : xm_IsG p l e R s m args below meth c Q cA D A tS nL ad0 o0 G) {pc n : Nat}
    (row : ∀ (H : Heap) (locs : List Loc) (cells slots : Nat) (ls : Array Slot) (rest : List Value) (x y : Int64), ¬ y = 0 → W p l e R s m args below meth c H locs cells slots Q (F0 m n ls (.long (x / y) :: rest)) → W p l e R s m args below meth c H locs cells slots Q (F0 m pc ls (.long y :: .long x :: rest))) : xm_Snd R G pc (xs_lift n xg_divL) := by
  have inv : ∀ {st st1 : List xm_V}, xg_divL st = some st1 → ∃ x y r, ¬ y = 0 ∧ st = .inr (.inl y) :: .inr (.inl x) :: r ∧ st1 = .inr (.inl (x / y)) :: r := by
    intro st st1 h
    unfold xg_divL at h
    split at h
    · split at h
      · cases h
      · rename_i h0; cases h; exact ⟨_, _, _, h0, rfl, rfl⟩
    · cases h
  refine sn_lift hG (fun M st st1 h h1 w hw => ?_) (fun st st1 h ad H locs cells slots ls _ _ _ k => ?_) <;> obtain ⟨x, y, r, h0, rfl, rfl⟩ := inv h
  · rcases List.mem_cons.mp hw with rfl | hw
    · trivial
    · exact h1 w (List.mem_cons_of_mem _ (List.mem_cons_of_mem _ hw))
  · exact row H locs cells slots ls _ x y h0 k
/-- a step that takes one value and gives one -/
theorem sn_one (hG : xm_IsG p l e R s m args below meth c Q cA D A tS nL ad0 o0 G) {pc n : Nat} {T : Type} {a b : T → xm_V} {g : List xm_V → Option (List xm_V)} (inv : ∀ {st st1 : List xm_V}, g st = some st1 → ∃ x r, st = a x :: r ∧ st1 = b x :: r) (hb : ∀ x M, xm_vok M (b x))
    (row : ∀ (ad : xm_A) (H : Heap) (locs : List Loc) (cells slots : Nat) (ls : Array Slot) (rest : List Value) (x : T), W p l e R s m args below meth c H locs cells slots Q (F0 m n ls (xm_rv ad (b x) :: rest)) → W p l e R s m args below meth c H locs cells slots Q (F0 m pc ls (xm_rv ad (a x) :: rest))) : xm_Snd R G pc (xs_lift n g) := by
  refine sn_lift hG (fun M st st1 h h1 w hw => ?_) (fun st st1 h ad H locs cells slots ls _ _ _ k => ?_) <;> obtain ⟨x, r, rfl, rfl⟩ := inv h
  · rcases List.mem_cons.mp hw with rfl | hw
    · exact hb x M
    · exact h1 w (List.mem_cons_of_mem _ hw)
  · exact row ad H locs cells slots ls _ x k
theorem xg_un_inv {op : Int32 → Int32} {st st1 : List xm_V} (h : xg_un op st = some st1) : ∃ (x : Int32) (r : List xm_V), st = .inl x :: r ∧ st1 = .inl (op x) :: r := by
  unfold xg_un at h
  split at h
  · cases h; exact ⟨_, _, rfl, rfl⟩
  · cases h
theorem xg_unL_inv {op : Int64 → Int64} {st st1 : List xm_V} (h : xg_unL op st = some st1) : ∃ (x : Int64) (r : List xm_V), st = .inr (.inl x) :: r ∧ st1 = .inr (.inl (op x)) :: r := by
  unfold xg_unL at h
  split at h
  · cases h; exact ⟨_, _, rfl, rfl⟩
  · cases h
theorem xg_i2l_inv {st st1 : List xm_V} (h : xg_i2l st = some st1) : ∃ (x : Int32) (r : List xm_V), st = .inl x :: r ∧ st1 = .inr (.inl x.toInt64) :: r := by
  unfold xg_i2l at h
  split at h
  · cases h; exact ⟨_, _, rfl, rfl⟩
  · cases h
theorem xg_l2i_inv {st st1 : List xm_V} (h : xg_l2i st = some st1) : ∃ (x : Int64) (r : List xm_V), st = .inr (.inl x) :: r ∧ st1 = .inl x.toInt32 :: r := by
  unfold xg_l2i at h
  split at h
  · cases h; exact ⟨_, _, rfl, rfl⟩
  · cases h
theorem sn_lcmp (hG : xm_IsG p l e R s m args below meth c Q cA D A tS nL ad0 o0 G) {pc n : Nat}
    (row : ∀ (H : Heap) (locs : List Loc) (cells slots : Nat) (ls : Array Slot) (rest : List Value) (x y : Int64), W p l e R s m args below meth c H locs cells slots Q (F0 m n ls (.int (lg_cmp x y) :: rest)) → W p l e R s m args below meth c H locs cells slots Q (F0 m pc ls (.long y :: .long x :: rest))) : xm_Snd R G pc (xs_lift n xg_lcmp) := by
  have inv : ∀ {st st1 : List xm_V}, xg_lcmp st = some st1 → ∃ x y r, st = .inr (.inl y) :: .inr (.inl x) :: r ∧ st1 = .inl (lg_cmp x y) :: r := by
    intro st st1 h
    unfold xg_lcmp at h
    split at h
    · cases h; exact ⟨_, _, _, rfl, rfl⟩
    · cases h
  refine sn_lift hG (fun M st st1 h h1 w hw => ?_) (fun st st1 h ad H locs cells slots ls _ _ _ k => ?_) <;> obtain ⟨x, y, r, rfl, rfl⟩ := inv h
  · rcases List.mem_cons.mp hw with rfl | hw
    · trivial
    · exact h1 w (List.mem_cons_of_mem _ (List.mem_cons_of_mem _ hw))
  · exact row H locs cells slots ls _ x y k
theorem sn_dup (hG : xm_IsG p l e R s m args below meth c Q cA D A tS nL ad0 o0 G) {pc n : Nat}
    (row : ∀ (H : Heap) (locs : List Loc) (cells slots : Nat) (ls : Array Slot) (rest : List Value) (v : Value), v.category = 1 → W p l e R s m args below meth c H locs cells slots Q (F0 m n ls (v :: v :: rest)) → W p l e R s m args below meth c H locs cells slots Q (F0 m pc ls (v :: rest))) : xm_Snd R G pc (xs_lift n xg_dup) := by
  have inv : ∀ {st st1 : List xm_V}, xg_dup st = some st1 → ∃ v r, xm_cat v = 1 ∧ st = v :: r ∧ st1 = v :: v :: r := by
    intro st st1 h
    unfold xg_dup at h
    split at h
    · split at h
      · rename_i h0; cases h; exact ⟨_, _, h0, rfl, rfl⟩
      · cases h
    · cases h
  refine sn_lift hG (fun M st st1 h h1 w hw => ?_) (fun st st1 h ad H locs cells slots ls _ _ _ k => ?_) <;> obtain ⟨v, r, h0, rfl, rfl⟩ := inv h
  · rcases List.mem_cons.mp hw with rfl | hw
    · exact h1 _ List.mem_cons_self
    · exact h1 w hw
  · exact row H locs cells slots ls _ _ (by rw [xm_rv_cat]; exact h0) k
theorem sn_dup2 (hG : xm_IsG p l e R s m args below meth c Q cA D A tS nL ad0 o0 G) {pc n : Nat}
    (row : ∀ (H : Heap) (locs : List Loc) (cells slots : Nat) (ls : Array Slot) (rest : List Value) (v w : Value), v.category = 1 → w.category = 1 → W p l e R s m args below meth c H locs cells slots Q (F0 m n ls (v :: w :: v :: w :: rest)) → W p l e R s m args below meth c H locs cells slots Q (F0 m pc ls (v :: w :: rest))) : xm_Snd R G pc (xs_lift n xg_dup2) := by
  have inv : ∀ {st st1 : List xm_V}, xg_dup2 st = some st1 → ∃ v w r, (xm_cat v = 1 ∧ xm_cat w = 1) ∧ st = v :: w :: r ∧ st1 = v :: w :: v :: w :: r := by
    intro st st1 h
    unfold xg_dup2 at h
    split at h
    · split at h
      · rename_i h0; cases h; exact ⟨_, _, _, h0, rfl, rfl⟩
      · cases h
    · cases h
  refine sn_lift hG (fun M st st1 h h1 w hw => ?_) (fun st st1 h ad H locs cells slots ls _ _ _ k => ?_) <;> obtain ⟨v, z, r, h0, rfl, rfl⟩ := inv h
  · rcases List.mem_cons.mp hw with rfl | hw
    · exact h1 _ List.mem_cons_self
    · rcases List.mem_cons.mp hw with rfl | hw
      · exact h1 _ (List.mem_cons_of_mem _ List.mem_cons_self)
      · exact h1 w hw
  · exact row H locs cells slots ls _ _ _ (by rw [xm_rv_cat]; exact h0.1) (by rw [xm_rv_cat]; exact h0.2) k
theorem xm_cat_sum {ad : xm_A} {r : List xm_V} : ((r.map (xm_rv ad)).map (fun v => v.category)).sum = (r.map xm_cat).sum := by
  rw [List.map_map]
  congr 2
  funext v
  exact xm_rv_cat ad v
theorem sn_mbin (hG : xm_IsG p l e R s m args below meth c Q cA D A tS nL ad0 o0 G) {pc n : Nat} {op : Int32 → Int32 → Int32}
    (row : ∀ (H : Heap) (locs : List Loc) (cells slots : Nat) (ls : Array Slot) (rest : List Value) (x y : Int32), ls.size = nL → cells ≤ R.cells → slots ≤ R.slots → (rest.map fun v => v.category).sum ≤ 8 → W p l e R s m args below meth c H locs cells slots Q (F0 m n ls (.int (op x y) :: rest)) → W p l e R s m args below meth c H locs cells slots Q (F0 m pc ls (.int y :: .int x :: rest))) : xm_Snd R G pc (xs_lift n (xg_mbin op)) := by
  have inv : ∀ {st st1 : List xm_V}, xg_mbin op st = some st1 → ∃ x y r, (r.map xm_cat).sum ≤ 8 ∧ st = .inl y :: .inl x :: r ∧ st1 = .inl (op x y) :: r := by
    intro st st1 h
    unfold xg_mbin at h
    split at h
    · split at h
      · rename_i h0; cases h; exact ⟨_, _, _, h0, rfl, rfl⟩
      · cases h
    · cases h
  refine sn_lift hG (fun M st st1 h h1 w hw => ?_) (fun st st1 h ad H locs cells slots ls a1 a2 a3 k => ?_) <;> obtain ⟨x, y, r, h0, rfl, rfl⟩ := inv h
  · rcases List.mem_cons.mp hw with rfl | hw
    · trivial
    · exact h1 w (List.mem_cons_of_mem _ (List.mem_cons_of_mem _ hw))
  · exact row H locs cells slots ls _ x y a1 a2 a3 (by rw [xm_cat_sum]; exact h0) k
theorem sn_mun (hG : xm_IsG p l e R s m args below meth c Q cA D A tS nL ad0 o0 G) {pc n : Nat} {op : Int32 → Int32}
    (row : ∀ (H : Heap) (locs : List Loc) (cells slots : Nat) (ls : Array Slot) (rest : List Value) (x : Int32), ls.size = nL → cells ≤ R.cells → slots ≤ R.slots → (rest.map fun v => v.category).sum ≤ 8 → W p l e R s m args below meth c H locs cells slots Q (F0 m n ls (.int (op x) :: rest)) → W p l e R s m args below meth c H locs cells slots Q (F0 m pc ls (.int x :: rest))) : xm_Snd R G pc (xs_lift n (xg_mun op)) := by
  have inv : ∀ {st st1 : List xm_V}, xg_mun op st = some st1 → ∃ x r, (r.map xm_cat).sum ≤ 8 ∧ st = .inl x :: r ∧ st1 = .inl (op x) :: r := by
    intro st st1 h
    unfold xg_mun at h
    split at h
    · split at h
      · rename_i h0; cases h; exact ⟨_, _, h0, rfl, rfl⟩
      · cases h
    · cases h
  refine sn_lift hG (fun M st st1 h h1 w hw => ?_) (fun st st1 h ad H locs cells slots ls a1 a2 a3 k => ?_) <;> obtain ⟨x, r, h0, rfl, rfl⟩ := inv h
  · rcases List.mem_cons.mp hw with rfl | hw
    · trivial
    · exact h1 w (List.mem_cons_of_mem _ hw)
  · exact row H locs cells slots ls _ x a1 a2 a3 (by rw [xm_cat_sum]; exact h0) k
theorem sn_mbinL (hG : xm_IsG p l e R s m args below meth c Q cA D A tS nL ad0 o0 G) {pc n : Nat} {op : Int64 → Int64 → Int64}
    (row : ∀ (H : Heap) (locs : List Loc) (cells slots : Nat) (ls : Array Slot) (rest : List Value) (x y : Int64), ls.size = nL → cells ≤ R.cells → slots ≤ R.slots → (rest.map fun v => v.category).sum ≤ 8 → W p l e R s m args below meth c H locs cells slots Q (F0 m n ls (.long (op x y) :: rest)) → W p l e R s m args below meth c H locs cells slots Q (F0 m pc ls (.long y :: .long x :: rest))) : xm_Snd R G pc (xs_lift n (xg_mbinL op)) := by
  have inv : ∀ {st st1 : List xm_V}, xg_mbinL op st = some st1 → ∃ x y r, (r.map xm_cat).sum ≤ 8 ∧ st = .inr (.inl y) :: .inr (.inl x) :: r ∧ st1 = .inr (.inl (op x y)) :: r := by
    intro st st1 h
    unfold xg_mbinL at h
    split at h
    · split at h
      · rename_i h0; cases h; exact ⟨_, _, _, h0, rfl, rfl⟩
      · cases h
    · cases h
  refine sn_lift hG (fun M st st1 h h1 w hw => ?_) (fun st st1 h ad H locs cells slots ls a1 a2 a3 k => ?_) <;> obtain ⟨x, y, r, h0, rfl, rfl⟩ := inv h
  · rcases List.mem_cons.mp hw with rfl | hw
    · trivial
    · exact h1 w (List.mem_cons_of_mem _ (List.mem_cons_of_mem _ hw))
  · exact row H locs cells slots ls _ x y a1 a2 a3 (by rw [xm_cat_sum]; exact h0) k
theorem sn_obj (hG : xm_IsG p l e R s m args below meth c Q cA D A tS nL ad0 o0 G) {pc n : Nat}
    (row : ∀ (H : Heap) (locs : List Loc) (cells slots : Nat) (ls : Array Slot) (rest : List Value) (a : Nat), ls.size = nL → (rest.map fun v => v.category).sum ≤ 8 → W p l e R s m args below meth c H locs cells slots Q (F0 m n ls rest) → W p l e R s m args below meth c H locs cells slots Q (F0 m pc ls (.ref a :: rest))) : xm_Snd R G pc (xs_lift n xg_obj) := by
  have inv : ∀ {st st1 : List xm_V}, xg_obj st = some st1 → ∃ q, (st1.map xm_cat).sum ≤ 8 ∧ st = .inr (.inr (some q)) :: st1 := by
    intro st st1 h
    unfold xg_obj at h
    split at h
    · split at h
      · rename_i h0; cases h; exact ⟨_, h0, rfl⟩
      · cases h
    · cases h
  refine sn_lift hG (fun M st st1 h h1 w hw => ?_) (fun st st1 h ad H locs cells slots ls a1 _ _ k => ?_) <;> obtain ⟨q, h0, rfl⟩ := inv h
  · exact h1 w (List.mem_cons_of_mem _ hw)
  · exact row H locs cells slots ls _ (ad q) a1 (by rw [xm_cat_sum]; exact h0) k
end XG
end
section
/-! THE MACHINE KEEPS THE STEPS (2): locals, branches, fields -/
section XG2
variable {p : Program} {l : Launch} {e : Env} {R : Room} {s : State} {m : MethodId} {args : Array Value} {below : List Frame} {meth : Method} {c : Code} {Q : State → Prop}
variable {cc : ByteArray} {nL : Nat} {own : String} {Ts : List Cond} {cA : Nat → ClassId} {D : va_G} {A : Nat → Prop} {tS : Nat → Nat} {ad0 : xm_A} {o0 : List (Nat × Nat)} {G : Nat → xm_S → Prop}
/-- a load: what the local holds comes onto the stack -/
theorem sn_ld (hG : xm_IsG p l e R s m args below meth c Q cA D A tS nL ad0 o0 G) {pc n i : Nat} {f : xm_F} (inv : ∀ {S pc1 S1}, f S = some (pc1, S1) → ∃ v, xm_ld S.1 i = some v ∧ pc1 = n ∧ S1 = (S.1, v :: S.2.1, S.2.2) ∧
      ∀ (ad : xm_A) (H : Heap) (locs : List Loc) (cells slots : Nat) (ls : Array Slot) (rest : List Value), ls[i]? = some (.val (xm_rv ad v)) → W p l e R s m args below meth c H locs cells slots Q (F0 m n ls (xm_rv ad v :: rest)) → W p l e R s m args below meth c H locs cells slots Q (F0 m pc ls rest)) : xm_Snd R G pc f := by
  intro S pc1 S1 h
  obtain ⟨v, h1, rfl, rfl, row⟩ := inv h
  refine ⟨⟨Nat.le_refl _, Nat.le_refl _⟩, fun _ _ k => (hG _ _).mpr fun ad H locs ls hA => ?_⟩
  obtain ⟨q1, q2, q3, q4, q5, q6, q7⟩ := hA
  refine row ad H locs _ _ ls _ (xm_ld_at q4 h1) ((hG _ _).mp k ad H locs ls ⟨q1, q2, q3, q4, ⟨q5.1, fun w hw => ?_, q5.2.2⟩, q6, q7⟩)
  rcases List.mem_cons.mp hw with rfl | hw
  · exact q5.1 _ (xm_ld_mem h1)
  · exact q5.2.1 w hw
theorem sn_ldI (hG : xm_IsG p l e R s m args below meth c Q cA D A tS nL ad0 o0 G) {pc n i : Nat}
    (row : ∀ (H : Heap) (locs : List Loc) (cells slots : Nat) (ls : Array Slot) (rest : List Value) (x : Int32), ls[i]? = some (.val (.int x)) → W p l e R s m args below meth c H locs cells slots Q (F0 m n ls (.int x :: rest)) → W p l e R s m args below meth c H locs cells slots Q (F0 m pc ls rest)) : xm_Snd R G pc (xs_ldI n i) := by
  refine sn_ld hG (n := n) (i := i) fun {S pc1 S1} h => ?_
  unfold xs_ldI at h
  split at h
  · rename_i x h1; cases h; exact ⟨_, h1, rfl, rfl, fun ad H locs cells slots ls rest h2 k => row H locs cells slots ls rest x h2 k⟩
  · cases h
theorem sn_ldL (hG : xm_IsG p l e R s m args below meth c Q cA D A tS nL ad0 o0 G) {pc n i : Nat}
    (row : ∀ (H : Heap) (locs : List Loc) (cells slots : Nat) (ls : Array Slot) (rest : List Value) (x : Int64), ls[i]? = some (.val (.long x)) → W p l e R s m args below meth c H locs cells slots Q (F0 m n ls (.long x :: rest)) → W p l e R s m args below meth c H locs cells slots Q (F0 m pc ls rest)) : xm_Snd R G pc (xs_ldL n i) := by
  refine sn_ld hG (n := n) (i := i) fun {S pc1 S1} h => ?_
  unfold xs_ldL at h
  split at h
  · rename_i x h1; cases h; exact ⟨_, h1, rfl, rfl, fun ad H locs cells slots ls rest h2 k => row H locs cells slots ls rest x h2 k⟩
  · cases h
theorem sn_ldR (hG : xm_IsG p l e R s m args below meth c Q cA D A tS nL ad0 o0 G) {pc n i : Nat}
    (row : ∀ (H : Heap) (locs : List Loc) (cells slots : Nat) (ls : Array Slot) (rest : List Value) (x : Nat), ls[i]? = some (.val (.ref x)) → W p l e R s m args below meth c H locs cells slots Q (F0 m n ls (.ref x :: rest)) → W p l e R s m args below meth c H locs cells slots Q (F0 m pc ls rest)) : xm_Snd R G pc (xs_ldR n i) := by
  refine sn_ld hG (n := n) (i := i) fun {S pc1 S1} h => ?_
  unfold xs_ldR at h
  split at h
  · rename_i q h1; cases h; exact ⟨_, h1, rfl, rfl, fun ad H locs cells slots ls rest h2 k => row H locs cells slots ls rest (ad q) h2 k⟩
  · cases h
theorem sn_stI (hG : xm_IsG p l e R s m args below meth c Q cA D A tS nL ad0 o0 G) {pc n i : Nat}
    (row : ∀ (H : Heap) (locs : List Loc) (cells slots : Nat) (ls : Array Slot) (rest : List Value) (x : Int32) (lv lv' : List (Nat × Value)), lv_has ls nL lv → (i, Value.int x) :: lv.filter (fun q => !(q.1 == i) && !(q.1 + 1 == i && q.2.category == 2)) = lv' → (∀ ls' : Array Slot, lv_has ls' nL lv' → W p l e R s m args below meth c H locs cells slots Q (F0 m n ls' rest)) → W p l e R s m args below meth c H locs cells slots Q (F0 m pc ls (.int x :: rest))) : xm_Snd R G pc (xs_stI n i) := by
  intro S pc1 S1 h
  obtain ⟨lv, st, M, kc, ks⟩ := S
  unfold xs_stI at h
  dsimp only at h
  split at h
  · rename_i x r
    cases h
    refine ⟨⟨Nat.le_refl _, Nat.le_refl _⟩, fun _ _ k => (hG _ _).mpr fun ad H locs ls hA => ?_⟩
    obtain ⟨q1, q2, q3, q4, q5, q6, q7⟩ := hA
    refine row H locs _ _ ls _ x _ _ q4 (xm_st1_map (v := .inl x)) fun ls' hl' => (hG _ _).mp k ad H locs ls' ⟨q1, q2, q3, hl', ⟨xm_st1_ok q5.1 trivial, fun w hw => q5.2.1 w (List.mem_cons_of_mem _ hw), q5.2.2⟩, q6, q7⟩
  · cases h
theorem sn_stL (hG : xm_IsG p l e R s m args below meth c Q cA D A tS nL ad0 o0 G) {pc n i : Nat}
    (row : ∀ (H : Heap) (locs : List Loc) (cells slots : Nat) (ls : Array Slot) (rest : List Value) (x : Int64) (lv lv' : List (Nat × Value)), lv_has ls nL lv → (i, Value.long x) :: lv.filter (fun q => !(q.1 == i) && (!(q.1 == i + 1) && !(q.1 + 1 == i && q.2.category == 2))) = lv' → (∀ ls' : Array Slot, lv_has ls' nL lv' → W p l e R s m args below meth c H locs cells slots Q (F0 m n ls' rest)) → W p l e R s m args below meth c H locs cells slots Q (F0 m pc ls (.long x :: rest))) : xm_Snd R G pc (xs_stL n i) := by
  intro S pc1 S1 h
  obtain ⟨lv, st, M, kc, ks⟩ := S
  unfold xs_stL at h
  dsimp only at h
  split at h
  · rename_i x r
    cases h
    refine ⟨⟨Nat.le_refl _, Nat.le_refl _⟩, fun _ _ k => (hG _ _).mpr fun ad H locs ls hA => ?_⟩
    obtain ⟨q1, q2, q3, q4, q5, q6, q7⟩ := hA
    refine row H locs _ _ ls _ x _ _ q4 (xm_st2_map (v := .inr (.inl x))) fun ls' hl' => (hG _ _).mp k ad H locs ls' ⟨q1, q2, q3, hl', ⟨xm_st2_ok q5.1 trivial, fun w hw => q5.2.1 w (List.mem_cons_of_mem _ hw), q5.2.2⟩, q6, q7⟩
  · cases h
theorem sn_stR (hG : xm_IsG p l e R s m args below meth c Q cA D A tS nL ad0 o0 G) {pc n i : Nat}
    (row : ∀ (H : Heap) (locs : List Loc) (cells slots : Nat) (ls : Array Slot) (rest : List Value) (x : Nat) (lv lv' : List (Nat × Value)), lv_has ls nL lv → (i, Value.ref x) :: lv.filter (fun q => !(q.1 == i) && !(q.1 + 1 == i && q.2.category == 2)) = lv' → (∀ ls' : Array Slot, lv_has ls' nL lv' → W p l e R s m args below meth c H locs cells slots Q (F0 m n ls' rest)) → W p l e R s m args below meth c H locs cells slots Q (F0 m pc ls (.ref x :: rest))) : xm_Snd R G pc (xs_stR n i) := by
  intro S pc1 S1 h
  obtain ⟨lv, st, M, kc, ks⟩ := S
  unfold xs_stR at h
  dsimp only at h
  split at h
  · rename_i q r
    cases h
    refine ⟨⟨Nat.le_refl _, Nat.le_refl _⟩, fun _ _ k => (hG _ _).mpr fun ad H locs ls hA => ?_⟩
    obtain ⟨q1, q2, q3, q4, q5, q6, q7⟩ := hA
    refine row H locs _ _ ls _ (ad q) _ _ q4 (xm_st1_map (v := .inr (.inr (some q)))) fun ls' hl' => (hG _ _).mp k ad H locs ls' ⟨q1, q2, q3, hl', ⟨xm_st1_ok q5.1 (q5.2.1 _ List.mem_cons_self), fun w hw => q5.2.1 w (List.mem_cons_of_mem _ hw), q5.2.2⟩, q6, q7⟩
  · cases h
theorem sn_inc (hG : xm_IsG p l e R s m args below meth c Q cA D A tS nL ad0 o0 G) {pc n i : Nat} {d : Int32}
    (row : ∀ (H : Heap) (locs : List Loc) (cells slots : Nat) (ls : Array Slot) (rest : List Value) (x : Int32) (lv lv' : List (Nat × Value)) (k : Nat), lv_has ls nL lv → lv[k]? = some (i, .int x) → (i, Value.int (x + d)) :: lv.filter (fun q => !(q.1 == i) && !(q.1 + 1 == i && q.2.category == 2)) = lv' → (∀ ls' : Array Slot, lv_has ls' nL lv' → W p l e R s m args below meth c H locs cells slots Q (F0 m n ls' rest)) → W p l e R s m args below meth c H locs cells slots Q (F0 m pc ls rest)) : xm_Snd R G pc (xs_inc n i d) := by
  intro S pc1 S1 h
  obtain ⟨lv, st, M, kc, ks⟩ := S
  unfold xs_inc at h
  dsimp only at h
  split at h
  · rename_i x h1
    cases h
    refine ⟨⟨Nat.le_refl _, Nat.le_refl _⟩, fun _ _ k => (hG _ _).mpr fun ad H locs ls hA => ?_⟩
    obtain ⟨q1, q2, q3, q4, q5, q6, q7⟩ := hA
    obtain ⟨j, hj⟩ := List.getElem?_of_mem (List.mem_map.mpr ⟨(i, .inl x), xm_ld_mem h1, rfl⟩ : (i, Value.int x) ∈ lv.map (fun q => (q.1, xm_rv ad q.2)))
    refine row H locs _ _ ls _ x _ _ j q4 hj (xm_st1_map (v := .inl (x + d))) fun ls' hl' => (hG _ _).mp k ad H locs ls' ⟨q1, q2, q3, hl', ⟨xm_st1_ok q5.1 trivial, q5.2.1, q5.2.2⟩, q6, q7⟩
  · cases h
theorem sn_goto (hG : xm_IsG p l e R s m args below meth c Q cA D A tS nL ad0 o0 G) {pc t : Nat}
    (row : ∀ (H : Heap) (locs : List Loc) (cells slots : Nat) (ls : Array Slot) (rest : List Value), W p l e R s m args below meth c H locs cells slots Q (F0 m t ls rest) → W p l e R s m args below meth c H locs cells slots Q (F0 m pc ls rest)) : xm_Snd R G pc (xs_goto t) := by
  intro S pc1 S1 h
  cases h
  exact ⟨⟨Nat.le_refl _, Nat.le_refl _⟩, fun _ _ k => (hG _ _).mpr fun ad H locs ls hA => row H locs _ _ ls _ ((hG _ _).mp k ad H locs ls hA)⟩
theorem sn_if (hG : xm_IsG p l e R s m args below meth c Q cA D A tS nL ad0 o0 G) {pc n t : Nat} {P : Int32 → Prop} {dp : ∀ x, Decidable (P x)}
    (row : ∀ (H : Heap) (locs : List Loc) (cells slots : Nat) (ls : Array Slot) (rest : List Value) (x : Int32), (P x → W p l e R s m args below meth c H locs cells slots Q (F0 m t ls rest)) → (¬ P x → W p l e R s m args below meth c H locs cells slots Q (F0 m n ls rest)) → W p l e R s m args below meth c H locs cells slots Q (F0 m pc ls (.int x :: rest))) : xm_Snd R G pc (xs_if n t P dp) := by
  intro S pc1 S1 h
  obtain ⟨lv, st, M, kc, ks⟩ := S
  unfold xs_if at h
  dsimp only at h
  split at h
  · rename_i x r
    by_cases hP : P x
    · rw [if_pos hP] at h
      cases h
      refine ⟨⟨Nat.le_refl _, Nat.le_refl _⟩, fun _ _ k => (hG _ _).mpr fun ad H locs ls hA => ?_⟩
      obtain ⟨q1, q2, q3, q4, q5, q6, q7⟩ := hA
      exact row H locs _ _ ls _ x (fun _ => (hG _ _).mp k ad H locs ls ⟨q1, q2, q3, q4, ⟨q5.1, fun w hw => q5.2.1 w (List.mem_cons_of_mem _ hw), q5.2.2⟩, q6, q7⟩) (fun h9 => absurd hP h9)
    · rw [if_neg hP] at h
      cases h
      refine ⟨⟨Nat.le_refl _, Nat.le_refl _⟩, fun _ _ k => (hG _ _).mpr fun ad H locs ls hA => ?_⟩
      obtain ⟨q1, q2, q3, q4, q5, q6, q7⟩ := hA
      exact row H locs _ _ ls _ x (fun h9 => absurd h9 hP) (fun _ => (hG _ _).mp k ad H locs ls ⟨q1, q2, q3, q4, ⟨q5.1, fun w hw => q5.2.1 w (List.mem_cons_of_mem _ hw), q5.2.2⟩, q6, q7⟩)
  · cases h
theorem sn_icmp (hG : xm_IsG p l e R s m args below meth c Q cA D A tS nL ad0 o0 G) {pc n t : Nat} {P : Int32 → Int32 → Prop} {dp : ∀ x y, Decidable (P x y)}
    (row : ∀ (H : Heap) (locs : List Loc) (cells slots : Nat) (ls : Array Slot) (rest : List Value) (x y : Int32), (P x y → W p l e R s m args below meth c H locs cells slots Q (F0 m t ls rest)) → (¬ P x y → W p l e R s m args below meth c H locs cells slots Q (F0 m n ls rest)) → W p l e R s m args below meth c H locs cells slots Q (F0 m pc ls (.int y :: .int x :: rest))) : xm_Snd R G pc (xs_icmp n t P dp) := by
  intro S pc1 S1 h
  obtain ⟨lv, st, M, kc, ks⟩ := S
  unfold xs_icmp at h
  dsimp only at h
  split at h
  · rename_i y x r
    by_cases hP : P x y
    · rw [if_pos hP] at h
      cases h
      refine ⟨⟨Nat.le_refl _, Nat.le_refl _⟩, fun _ _ k => (hG _ _).mpr fun ad H locs ls hA => ?_⟩
      obtain ⟨q1, q2, q3, q4, q5, q6, q7⟩ := hA
      exact row H locs _ _ ls _ x y (fun _ => (hG _ _).mp k ad H locs ls ⟨q1, q2, q3, q4, ⟨q5.1, fun w hw => q5.2.1 w (List.mem_cons_of_mem _ (List.mem_cons_of_mem _ hw)), q5.2.2⟩, q6, q7⟩) (fun h9 => absurd hP h9)
    · rw [if_neg hP] at h
      cases h
      refine ⟨⟨Nat.le_refl _, Nat.le_refl _⟩, fun _ _ k => (hG _ _).mpr fun ad H locs ls hA => ?_⟩
      obtain ⟨q1, q2, q3, q4, q5, q6, q7⟩ := hA
      exact row H locs _ _ ls _ x y (fun h9 => absurd h9 hP) (fun _ => (hG _ _).mp k ad H locs ls ⟨q1, q2, q3, q4, ⟨q5.1, fun w hw => q5.2.1 w (List.mem_cons_of_mem _ (List.mem_cons_of_mem _ hw)), q5.2.2⟩, q6, q7⟩)
  · cases h
/-- two references: one or not, by their addresses (neither is a table) -/
theorem sn_acmp (hG : xm_IsG p l e R s m args below meth c Q cA D A tS nL ad0 o0 G) {pc n t : Nat}
    (row : ∀ (H : Heap) (locs : List Loc) (cells slots : Nat) (ls : Array Slot) (rest : List Value) (x y : Nat), (x = y → W p l e R s m args below meth c H locs cells slots Q (F0 m t ls rest)) → (¬ x = y → W p l e R s m args below meth c H locs cells slots Q (F0 m n ls rest)) → W p l e R s m args below meth c H locs cells slots Q (F0 m pc ls (.ref y :: .ref x :: rest))) : xm_Snd R G pc (fun S => match S.2.1 with
      | .inr (.inr (some b)) :: .inr (.inr (some a)) :: _ => if a.1 < 21 ∧ b.1 < 21 then xs_acmp n t S else none
      | _ => none) := by
  intro S pc1 S1 h
  obtain ⟨lv, st, M, kc, ks⟩ := S
  dsimp only at h
  split at h
  · rename_i b a r
    split at h
    · rename_i hab
      unfold xs_acmp at h
      dsimp only at h
      by_cases hP : a = b
      · rw [if_pos hP] at h
        cases h
        refine ⟨⟨Nat.le_refl _, Nat.le_refl _⟩, fun _ _ k => (hG _ _).mpr fun ad H locs ls hA => ?_⟩
        obtain ⟨q1, q2, q3, q4, q5, q6, q7⟩ := hA
        exact row H locs _ _ ls _ (ad a) (ad b) (fun _ => (hG _ _).mp k ad H locs ls ⟨q1, q2, q3, q4, ⟨q5.1, fun w hw => q5.2.1 w (List.mem_cons_of_mem _ (List.mem_cons_of_mem _ hw)), q5.2.2⟩, q6, q7⟩) (fun h9 => absurd (by rw [hP]) h9)
      · rw [if_neg hP] at h
        cases h
        refine ⟨⟨Nat.le_refl _, Nat.le_refl _⟩, fun _ _ k => (hG _ _).mpr fun ad H locs ls hA => ?_⟩
        obtain ⟨q1, q2, q3, q4, q5, q6, q7⟩ := hA
        have hb : b ∈ xm_o M := by
          rcases q5.2.1 _ List.mem_cons_self with h1 | h1
          · exact h1
          · omega
        have ha : a ∈ xm_o M := by
          rcases q5.2.1 _ (List.mem_cons_of_mem _ List.mem_cons_self) with h1 | h1
          · exact h1
          · omega
        exact row H locs _ _ ls _ (ad a) (ad b) (fun h9 => absurd (xm_inj q2 ha hb h9) hP) (fun _ => (hG _ _).mp k ad H locs ls ⟨q1, q2, q3, q4, ⟨q5.1, fun w hw => q5.2.1 w (List.mem_cons_of_mem _ (List.mem_cons_of_mem _ hw)), q5.2.2⟩, q6, q7⟩)
    · cases h
  · cases h
theorem sn_sw (hG : xm_IsG p l e R s m args below meth c Q cA D A tS nL ad0 o0 G) {pc d : Nat} {ts : List Nat}
    (row : ∀ (H : Heap) (locs : List Loc) (cells slots : Nat) (ls : Array Slot) (rest : List Value) (x : Int32), W p l e R s m args below meth c H locs cells slots Q (F0 m (if x.toInt < 0 then d else ts.getD x.toInt.toNat d) ls rest) → W p l e R s m args below meth c H locs cells slots Q (F0 m pc ls (.int x :: rest))) : xm_Snd R G pc (xs_sw ts d) := by
  intro S pc1 S1 h
  obtain ⟨lv, st, M, kc, ks⟩ := S
  unfold xs_sw at h
  dsimp only at h
  split at h
  · rename_i x r
    cases h
    refine ⟨⟨Nat.le_refl _, Nat.le_refl _⟩, fun _ _ k => (hG _ _).mpr fun ad H locs ls hA => ?_⟩
    obtain ⟨q1, q2, q3, q4, q5, q6, q7⟩ := hA
    exact row H locs _ _ ls _ x ((hG _ _).mp k ad H locs ls ⟨q1, q2, q3, q4, ⟨q5.1, fun w hw => q5.2.1 w (List.mem_cons_of_mem _ hw), q5.2.2⟩, q6, q7⟩)
  · cases h
/-- a field read: fs its object's fields -/
theorem sn_get (hG : xm_IsG p l e R s m args below meth c Q cA D A tS nL ad0 o0 G) {pc n c0 k t ci : Nat} {ts : List Nat} (hk : xm_kd c0 = (0, ci, ts)) (ht : ts[k]? = some t) (hc : c0 < 21) {f : xm_F}
    (inv : ∀ {S pc1 S1}, f S = some (pc1, S1) → ∃ i r v, S.2.1 = xm_r c0 i :: r ∧ pc1 = n ∧ S1 = (S.1, v :: r, S.2.2) ∧ (∀ ad, xm_rv ad v = xm_fv ad S.2.2.1 (c0, i) k t) ∧ (∀ q, v = .inr (.inr (some q)) → S.2.2.1.2.2.1 c0 k i = some q))
    (row : ∀ (H : Heap) (locs : List Loc) (cells slots : Nat) (ls : Array Slot) (rest : List Value) (q0 : Nat) (ws : va_W) (a : Nat) (fs : List Value) (v : Value), va_P D vwCl ws H → ws[q0]? = some (a, .inr (ci, fs)) → fs[k]? = some v → W p l e R s m args below meth c H locs cells slots Q (F0 m n ls (v :: rest)) → W p l e R s m args below meth c H locs cells slots Q (F0 m pc ls (.ref a :: rest))) : xm_Snd R G pc f := by
  intro S pc1 S1 h
  obtain ⟨i, r, v, h1, rfl, rfl, hv, hr⟩ := inv h
  obtain ⟨lv, st, M, kc, ks⟩ := S
  dsimp only at h1 hv hr ⊢
  subst h1
  refine ⟨⟨Nat.le_refl _, Nat.le_refl _⟩, fun _ _ kk => (hG _ _).mpr fun ad H locs ls hA => ?_⟩
  obtain ⟨q1, q2, q3, q4, q5, q6, q7⟩ := hA
  have hq : (c0, i) ∈ xm_o M := by
    rcases q5.2.1 _ List.mem_cons_self with h9 | h9
    · exact h9
    · exact absurd hc (Nat.not_lt.mpr h9)
  obtain ⟨j, hj, hw⟩ := xm_in (cA := cA) (ad := ad) hq
  rw [xm_obj (q := (c0, i)) hk] at hw
  refine row H locs _ _ ls _ j _ (ad (c0, i)) _ _ q1 hw (xm_fld ht) ?_
  rw [← hv]
  refine (hG _ _).mp kk ad H locs ls ⟨q1, q2, q3, q4, ⟨q5.1, fun w hw => ?_, q5.2.2⟩, q6, q7⟩
  rcases List.mem_cons.mp hw with rfl | hw
  · rcases w with x | x | r9
    · trivial
    · trivial
    · cases r9 with
      | none => trivial
      | some z => exact Or.inl (q5.2.2 _ hq k z (hr z rfl))
  · exact q5.2.1 w (List.mem_cons_of_mem _ hw)
theorem sn_getI (hG : xm_IsG p l e R s m args below meth c Q cA D A tS nL ad0 o0 G) {pc n c0 k t ci : Nat} {ts : List Nat} (hk : xm_kd c0 = (0, ci, ts)) (ht : ts[k]? = some t) (hc : c0 < 21) (hn : t ≠ 1 ∧ t ≠ 2)
    (row : ∀ (H : Heap) (locs : List Loc) (cells slots : Nat) (ls : Array Slot) (rest : List Value) (q0 : Nat) (ws : va_W) (a : Nat) (fs : List Value) (v : Value), va_P D vwCl ws H → ws[q0]? = some (a, .inr (ci, fs)) → fs[k]? = some v → W p l e R s m args below meth c H locs cells slots Q (F0 m n ls (v :: rest)) → W p l e R s m args below meth c H locs cells slots Q (F0 m pc ls (.ref a :: rest))) : xm_Snd R G pc (xs_getI n c0 k) := by
  refine sn_get hG hk ht hc (fun {S pc1 S1} h => ?_) row
  unfold xs_getI at h
  split at h
  · rename_i q r h1
    split at h
    · rename_i h2
      cases h
      obtain ⟨q1, q2⟩ := q
      cases h2
      refine ⟨q2, r, _, h1, rfl, rfl, fun ad => ?_, fun q9 h9 => by cases h9⟩
      show Value.int _ = xm_fv ad _ _ k t
      unfold xm_fv
      split
      · exact absurd rfl hn.1
      · exact absurd rfl hn.2
      · rfl
    · cases h
  · cases h
theorem sn_getL (hG : xm_IsG p l e R s m args below meth c Q cA D A tS nL ad0 o0 G) {pc n c0 k ci : Nat} {ts : List Nat} (hk : xm_kd c0 = (0, ci, ts)) (ht : ts[k]? = some 1) (hc : c0 < 21)
    (row : ∀ (H : Heap) (locs : List Loc) (cells slots : Nat) (ls : Array Slot) (rest : List Value) (q0 : Nat) (ws : va_W) (a : Nat) (fs : List Value) (v : Value), va_P D vwCl ws H → ws[q0]? = some (a, .inr (ci, fs)) → fs[k]? = some v → W p l e R s m args below meth c H locs cells slots Q (F0 m n ls (v :: rest)) → W p l e R s m args below meth c H locs cells slots Q (F0 m pc ls (.ref a :: rest))) : xm_Snd R G pc (xs_getL n c0 k) := by
  refine sn_get hG hk ht hc (fun {S pc1 S1} h => ?_) row
  unfold xs_getL at h
  split at h
  · rename_i q r h1
    split at h
    · rename_i h2
      cases h
      obtain ⟨q1, q2⟩ := q
      cases h2
      exact ⟨q2, r, _, h1, rfl, rfl, fun ad => rfl, fun q9 h9 => by cases h9⟩
    · cases h
  · cases h
theorem sn_getR (hG : xm_IsG p l e R s m args below meth c Q cA D A tS nL ad0 o0 G) {pc n c0 k ci : Nat} {ts : List Nat} (hk : xm_kd c0 = (0, ci, ts)) (ht : ts[k]? = some 2) (hc : c0 < 21)
    (row : ∀ (H : Heap) (locs : List Loc) (cells slots : Nat) (ls : Array Slot) (rest : List Value) (q0 : Nat) (ws : va_W) (a : Nat) (fs : List Value) (v : Value), va_P D vwCl ws H → ws[q0]? = some (a, .inr (ci, fs)) → fs[k]? = some v → W p l e R s m args below meth c H locs cells slots Q (F0 m n ls (v :: rest)) → W p l e R s m args below meth c H locs cells slots Q (F0 m pc ls (.ref a :: rest))) : xm_Snd R G pc (xs_getR n c0 k) := by
  refine sn_get hG hk ht hc (fun {S pc1 S1} h => ?_) row
  unfold xs_getR at h
  split at h
  · rename_i q r h1
    split at h
    · rename_i h2
      split at h
      · rename_i z h3
        cases h
        obtain ⟨q1, q2⟩ := q
        cases h2
        refine ⟨q2, r, _, h1, rfl, rfl, fun ad => ?_, fun q9 h9 => by cases h9; exact h3⟩
        show va_rf ((some z).map ad) = va_rf ((S.2.2.1.2.2.1 q1 k q2).map ad)
        rw [show S.2.2.1.2.2.1 q1 k q2 = some z from h3]
      · cases h
    · cases h
  · cases h
end XG2
end
section
/-! THE MACHINE KEEPS THE STEPS (3): stores, arrays -/
theorem xm_up_o {α : Type} {f : Nat → Nat → Nat → α} {c k i : Nat} {v : α} {c' k' i' : Nat} (h : ¬ (c' = c ∧ i' = i)) : xm_up f c k i v c' k' i' = f c' k' i' := by
  unfold xm_up
  split
  · split
    · split
      · rename_i h1 h2 h3; exact absurd ⟨h1, h3⟩ h
      · rfl
    · rfl
  · rfl
theorem xm_up_k {α : Type} {f : Nat → Nat → Nat → α} {c k i : Nat} {v : α} {c' k' i' : Nat} (h : k' ≠ k) : xm_up f c k i v c' k' i' = f c' k' i' := by
  simp [xm_up, h]
theorem xm_up_s {α : Type} {f : Nat → Nat → Nat → α} {c k i : Nat} {v : α} : xm_up f c k i v c k i = v := by simp [xm_up]
theorem xm_up_at {α : Type} {f : Nat → Nat → Nat → α} {c k i j : Nat} {v : α} : xm_up f c k i v c j i = if j = k then v else f c j i := by simp [xm_up]
theorem xm_ne {q : Nat × Nat} {c i : Nat} (h : q ≠ (c, i)) : ¬ (q.1 = c ∧ q.2 = i) := fun h9 => h (Prod.ext h9.1 h9.2)
theorem xm_cell_congr {cA : Nat → ClassId} {ad ad' : xm_A} {M M' : xm_M} {q : Nat × Nat} (hI : ∀ j, M'.1 q.1 j q.2 = M.1 q.1 j q.2) (hL : ∀ j, M'.2.1 q.1 j q.2 = M.2.1 q.1 j q.2) (hR : ∀ j, (M'.2.2.1 q.1 j q.2).map ad' = (M.2.2.1 q.1 j q.2).map ad) (hN : M'.2.2.2.1 q.1 q.2 = M.2.2.2.1 q.1 q.2) : xm_cell cA ad' M' q = xm_cell cA ad M q := by
  have hf : xm_fv ad' M' q = xm_fv ad M q := by
    funext k t
    unfold xm_fv
    split
    · rw [hL]
    · rw [hR]
    · rw [hI]
  unfold xm_cell
  rw [hf]
  simp only [hI, hL, hR, hN]
theorem xm_vok_o {M M' : xm_M} {v : xm_V} (h : xm_o M' = xm_o M) (hv : xm_vok M v) : xm_vok M' v := by
  unfold xm_vok at hv ⊢
  split
  · rw [h]; exact hv
  · trivial
section XG3
variable {p : Program} {l : Launch} {e : Env} {R : Room} {s : State} {m : MethodId} {args : Array Value} {below : List Frame} {meth : Method} {c : Code} {Q : State → Prop}
variable {cc : ByteArray} {nL : Nat} {own : String} {Ts : List Cond} {cA : Nat → ClassId} {D : va_G} {A : Nat → Prop} {tS : Nat → Nat} {ad0 : xm_A} {o0 : List (Nat × Nat)} {G : Nat → xm_S → Prop}
theorem xm_Sd_put {ad : xm_A} {H H1 : Heap} {locs locs1 : List Loc} {ls : Array Slot} {lv : xm_L} {st st' : List xm_V} {M M' : xm_M} (hA : xm_Sd s cA D A tS nL ad0 o0 ad H locs ls lv st M) (ho : xm_o M' = xm_o M) (hst : ∀ v ∈ st', v ∈ st)
    (hR : ∀ q ∈ xm_o M, ∀ k q', M'.2.2.1 q.1 k q.2 = some q' → M.2.2.1 q.1 k q.2 = some q' ∨ q' ∈ xm_o M) (p1 : va_P D vwCl (xm_ws cA ad M') H1) (p2 : va_D A (xm_ws cA ad M')) (p3 : va_S A s.heap H1 locs1) : xm_Sd s cA D A tS nL ad0 o0 ad H1 locs1 ls lv st' M' := by
  obtain ⟨q1, q2, q3, q4, q5, q6, q7⟩ := hA
  refine ⟨p1, p2, p3, q4, ⟨fun x hx => xm_vok_o ho (q5.1 x hx), fun v hv => xm_vok_o ho (q5.2.1 v (hst v hv)), fun q hq k q' h => ?_⟩, q6, fun q hq => by rw [ho]; exact q7 q hq⟩
  rw [ho] at hq ⊢
  rcases hR q hq k q' h with h9 | h9
  · exact q5.2.2 q hq k q' h9
  · exact h9
theorem sn_put (hG : xm_IsG p l e R s m args below meth c Q cA D A tS nL ad0 o0 G) {pc n c0 k t ci : Nat} {ts : List Nat} (hk : xm_kd c0 = (0, ci, ts)) (ht : ts[k]? = some t) (hc : c0 < 21) {f : xm_F} {Vp : Value → Prop}
    (inv : ∀ {S pc1 S1}, f S = some (pc1, S1) → ∃ i r v M', S.2.1 = v :: xm_r c0 i :: r ∧ pc1 = n ∧ S1 = (S.1, r, M', S.2.2.2) ∧ xm_o M' = xm_o S.2.2.1 ∧ (∀ ad, xm_fv ad M' (c0, i) k t = xm_rv ad v) ∧ (∀ ad j t', j ≠ k → xm_fv ad M' (c0, i) j t' = xm_fv ad S.2.2.1 (c0, i) j t') ∧ (∀ ad q', q' ≠ (c0, i) → xm_cell cA ad M' q' = xm_cell cA ad S.2.2.1 q') ∧ (∀ (q : Nat × Nat) (k' : Nat) (q' : Nat × Nat), M'.2.2.1 q.1 k' q.2 = some q' → S.2.2.1.2.2.1 q.1 k' q.2 = some q' ∨ (v = .inr (.inr (some q')) ∧ q'.1 < 21)) ∧ ∀ ad, Vp (xm_rv ad v))
    (row : ∀ (H : Heap) (locs : List Loc) (cells slots : Nat) (ls : Array Slot) (rest : List Value) (q0 : Nat) (ws : va_W) (a : Nat) (fs : List Value) (v : Value), va_P D vwCl ws H → va_D A ws → va_S A s.heap H locs → ws[q0]? = some (a, .inr (ci, fs)) → Vp v → k < fs.length → (∀ (H1 : Heap) (locs1 : List Loc), va_P D vwCl (ws.set q0 (a, .inr (ci, fs.set k v))) H1 → va_D A (ws.set q0 (a, .inr (ci, fs.set k v))) → va_S A s.heap H1 locs1 → W p l e R s m args below meth c H1 locs1 cells slots Q (F0 m n ls rest)) → W p l e R s m args below meth c H locs cells slots Q (F0 m pc ls (v :: .ref a :: rest))) : xm_Snd R G pc f := by
  intro S pc1 S1 h
  obtain ⟨i, r, v, M', h1, rfl, rfl, ho, hv, hj, hcell, hR, hVp⟩ := inv h
  obtain ⟨lv, st, M, kc, ks⟩ := S
  dsimp only at h1 ho hv hj hcell hR ⊢
  subst h1
  refine ⟨⟨Nat.le_refl _, Nat.le_refl _⟩, fun _ _ kk => (hG _ _).mpr fun ad H locs ls hA => ?_⟩
  obtain ⟨q1, q2, q3, q4, q5, q6, q7⟩ := id hA
  have hq : (c0, i) ∈ xm_o M := by
    rcases q5.2.1 _ (List.mem_cons_of_mem _ List.mem_cons_self) with h9 | h9
    · exact h9
    · exact absurd hc (Nat.not_lt.mpr h9)
  obtain ⟨j, hj0, hw⟩ := xm_in (cA := cA) (ad := ad) hq
  rw [xm_obj (q := (c0, i)) hk] at hw
  have hlt : k < ts.length := (List.getElem?_eq_some_iff.mp ht).1
  refine row H locs _ _ ls _ j _ (ad (c0, i)) _ (xm_rv ad v) q1 q2 q3 hw (hVp ad) (by rw [List.length_mapIdx]; exact hlt) fun H1 locs1 p1 p2 p3 => ?_
  have e9 : (xm_ws cA ad M).set j (ad (c0, i), .inr (ci, (ts.mapIdx (xm_fv ad M (c0, i))).set k (xm_rv ad v))) = xm_ws cA ad M' := by
    rw [xm_setf ht (hv ad) (hj ad), ← xm_obj (cA := cA) (q := (c0, i)) hk]
    exact xm_set q2 hj0 ho (hcell ad)
  rw [e9] at p1 p2
  refine (hG _ _).mp kk ad H1 locs1 ls (xm_Sd_put hA ho (fun w hw => List.mem_cons_of_mem _ (List.mem_cons_of_mem _ hw)) (fun q hq k' q' h9 => ?_) p1 p2 p3)
  rcases hR q k' q' h9 with h9 | ⟨h9, h8⟩
  · exact Or.inl h9
  · refine Or.inr ?_
    have := q5.2.1 v List.mem_cons_self
    rw [h9] at this
    rcases this with h7 | h7
    · exact h7
    · exact absurd h8 (Nat.not_lt.mpr h7)
theorem xm_wI_fv {ad : xm_A} {M : xm_M} {c0 k i j t : Nat} {v : Int32} (h : j ≠ k) : xm_fv ad (xm_wI M c0 k i v) (c0, i) j t = xm_fv ad M (c0, i) j t := by
  unfold xm_fv xm_wI
  split
  · rfl
  · rfl
  · show Value.int (xm_up _ _ _ _ _ _ _ _) = _
    rw [xm_up_k h]
theorem xm_wI_cell {ad : xm_A} {M : xm_M} {c0 k i : Nat} {v : Int32} {q : Nat × Nat} (h : q ≠ (c0, i)) : xm_cell cA ad (xm_wI M c0 k i v) q = xm_cell cA ad M q :=
  xm_cell_congr (fun _ => xm_up_o (xm_ne h)) (fun _ => rfl) (fun _ => rfl) rfl
theorem xm_wL_cell {ad : xm_A} {M : xm_M} {c0 k i : Nat} {v : Int64} {q : Nat × Nat} (h : q ≠ (c0, i)) : xm_cell cA ad (xm_wL M c0 k i v) q = xm_cell cA ad M q :=
  xm_cell_congr (fun _ => rfl) (fun _ => xm_up_o (xm_ne h)) (fun _ => rfl) rfl
theorem xm_wR_cell {ad : xm_A} {M : xm_M} {c0 k i : Nat} {v : Option (Nat × Nat)} {q : Nat × Nat} (h : q ≠ (c0, i)) : xm_cell cA ad (xm_wR M c0 k i v) q = xm_cell cA ad M q :=
  xm_cell_congr (fun _ => rfl) (fun _ => rfl) (fun j => by show (xm_up M.2.2.1 c0 k i v q.1 j q.2).map ad = _; rw [xm_up_o (xm_ne h)]) rfl
theorem sn_putI (hG : xm_IsG p l e R s m args below meth c Q cA D A tS nL ad0 o0 G) {pc n c0 k t ci : Nat} {ts : List Nat} (hk : xm_kd c0 = (0, ci, ts)) (ht : ts[k]? = some t) (hc : c0 < 21) (hn : t ≠ 1 ∧ t ≠ 2)
    (row : ∀ (H : Heap) (locs : List Loc) (cells slots : Nat) (ls : Array Slot) (rest : List Value) (q0 : Nat) (ws : va_W) (a : Nat) (fs : List Value) (v : Value), va_P D vwCl ws H → va_D A ws → va_S A s.heap H locs → ws[q0]? = some (a, .inr (ci, fs)) → (∃ x, v = .int x) → k < fs.length → (∀ (H1 : Heap) (locs1 : List Loc), va_P D vwCl (ws.set q0 (a, .inr (ci, fs.set k v))) H1 → va_D A (ws.set q0 (a, .inr (ci, fs.set k v))) → va_S A s.heap H1 locs1 → W p l e R s m args below meth c H1 locs1 cells slots Q (F0 m n ls rest)) → W p l e R s m args below meth c H locs cells slots Q (F0 m pc ls (v :: .ref a :: rest))) : xm_Snd R G pc (xs_putI n c0 k) := by
  refine sn_put hG hk ht hc (fun {S pc1 S1} h => ?_) row
  unfold xs_putI at h
  split at h
  · rename_i v q r h1
    split at h
    · rename_i h2
      cases h
      obtain ⟨q1, q2⟩ := q
      cases h2
      refine ⟨q2, r, _, _, h1, rfl, rfl, rfl, fun ad => ?_, fun ad j t' hj => xm_wI_fv hj, fun ad q' hq => xm_wI_cell hq, fun _ _ _ h9 => Or.inl h9, fun ad => ⟨_, rfl⟩⟩
      show xm_fv ad _ _ k t = Value.int v
      unfold xm_fv
      split
      · exact absurd rfl hn.1
      · exact absurd rfl hn.2
      · show Value.int (xm_up _ _ _ _ _ _ _ _) = _
        rw [xm_up_s]
    · cases h
  · cases h
theorem sn_putZ (hG : xm_IsG p l e R s m args below meth c Q cA D A tS nL ad0 o0 G) {pc n c0 k t ci : Nat} {ts : List Nat} (hk : xm_kd c0 = (0, ci, ts)) (ht : ts[k]? = some t) (hc : c0 < 21) (hn : t ≠ 1 ∧ t ≠ 2)
    (row : ∀ (H : Heap) (locs : List Loc) (cells slots : Nat) (ls : Array Slot) (rest : List Value) (q0 : Nat) (ws : va_W) (a : Nat) (fs : List Value) (v : Value), va_P D vwCl ws H → va_D A ws → va_S A s.heap H locs → ws[q0]? = some (a, .inr (ci, fs)) → (v = .int 0 ∨ v = .int 1) → k < fs.length → (∀ (H1 : Heap) (locs1 : List Loc), va_P D vwCl (ws.set q0 (a, .inr (ci, fs.set k v))) H1 → va_D A (ws.set q0 (a, .inr (ci, fs.set k v))) → va_S A s.heap H1 locs1 → W p l e R s m args below meth c H1 locs1 cells slots Q (F0 m n ls rest)) → W p l e R s m args below meth c H locs cells slots Q (F0 m pc ls (v :: .ref a :: rest))) : xm_Snd R G pc (xs_putZ n c0 k) := by
  refine sn_put hG hk ht hc (fun {S pc1 S1} h => ?_) row
  unfold xs_putZ at h
  split at h
  · rename_i v q r h1
    split at h
    · rename_i h2
      cases h
      obtain ⟨q1, q2⟩ := q
      obtain ⟨h2, h3⟩ := h2
      cases h2
      refine ⟨q2, r, _, _, h1, rfl, rfl, rfl, fun ad => ?_, fun ad j t' hj => xm_wI_fv hj, fun ad q' hq => xm_wI_cell hq, fun _ _ _ h9 => Or.inl h9, fun ad => ?_⟩
      · show xm_fv ad _ _ k t = Value.int v
        unfold xm_fv
        split
        · exact absurd rfl hn.1
        · exact absurd rfl hn.2
        · show Value.int (xm_up _ _ _ _ _ _ _ _) = _
          rw [xm_up_s]
      · rcases h3 with rfl | rfl
        · exact Or.inl rfl
        · exact Or.inr rfl
    · cases h
  · cases h
theorem sn_putL (hG : xm_IsG p l e R s m args below meth c Q cA D A tS nL ad0 o0 G) {pc n c0 k ci : Nat} {ts : List Nat} (hk : xm_kd c0 = (0, ci, ts)) (ht : ts[k]? = some 1) (hc : c0 < 21)
    (row : ∀ (H : Heap) (locs : List Loc) (cells slots : Nat) (ls : Array Slot) (rest : List Value) (q0 : Nat) (ws : va_W) (a : Nat) (fs : List Value) (v : Value), va_P D vwCl ws H → va_D A ws → va_S A s.heap H locs → ws[q0]? = some (a, .inr (ci, fs)) → (∃ x, v = .long x) → k < fs.length → (∀ (H1 : Heap) (locs1 : List Loc), va_P D vwCl (ws.set q0 (a, .inr (ci, fs.set k v))) H1 → va_D A (ws.set q0 (a, .inr (ci, fs.set k v))) → va_S A s.heap H1 locs1 → W p l e R s m args below meth c H1 locs1 cells slots Q (F0 m n ls rest)) → W p l e R s m args below meth c H locs cells slots Q (F0 m pc ls (v :: .ref a :: rest))) : xm_Snd R G pc (xs_putL n c0 k) := by
  refine sn_put hG hk ht hc (fun {S pc1 S1} h => ?_) row
  unfold xs_putL at h
  split at h
  · rename_i v q r h1
    split at h
    · rename_i h2
      cases h
      obtain ⟨q1, q2⟩ := q
      cases h2
      refine ⟨q2, r, _, _, h1, rfl, rfl, rfl, fun ad => ?_, fun ad j t' hj => ?_, fun ad q' hq => xm_wL_cell hq, fun _ _ _ h9 => Or.inl h9, fun ad => ⟨_, rfl⟩⟩
      · show Value.long (xm_up _ _ _ _ _ _ _ _) = Value.long v
        rw [xm_up_s]
      · unfold xm_fv xm_wL
        split
        · show Value.long (xm_up _ _ _ _ _ _ _ _) = _
          rw [xm_up_k hj]
        · rfl
        · rfl
    · cases h
  · cases h
theorem sn_putR (hG : xm_IsG p l e R s m args below meth c Q cA D A tS nL ad0 o0 G) {pc n c0 k ci : Nat} {ts : List Nat} (hk : xm_kd c0 = (0, ci, ts)) (ht : ts[k]? = some 2) (hc : c0 < 21)
    (row : ∀ (H : Heap) (locs : List Loc) (cells slots : Nat) (ls : Array Slot) (rest : List Value) (q0 : Nat) (ws : va_W) (a : Nat) (fs : List Value) (v : Value), va_P D vwCl ws H → va_D A ws → va_S A s.heap H locs → ws[q0]? = some (a, .inr (ci, fs)) → (∃ x, v = .ref x) → k < fs.length → (∀ (H1 : Heap) (locs1 : List Loc), va_P D vwCl (ws.set q0 (a, .inr (ci, fs.set k v))) H1 → va_D A (ws.set q0 (a, .inr (ci, fs.set k v))) → va_S A s.heap H1 locs1 → W p l e R s m args below meth c H1 locs1 cells slots Q (F0 m n ls rest)) → W p l e R s m args below meth c H locs cells slots Q (F0 m pc ls (v :: .ref a :: rest))) : xm_Snd R G pc (xs_putR n c0 k) := by
  refine sn_put hG hk ht hc (fun {S pc1 S1} h => ?_) row
  unfold xs_putR at h
  split at h
  · rename_i z q r h1
    split at h
    · rename_i h2
      cases h
      obtain ⟨q1, q2⟩ := q
      obtain ⟨h2, h3⟩ := h2
      cases h2
      refine ⟨q2, r, _, _, h1, rfl, rfl, rfl, fun ad => ?_, fun ad j t' hj => ?_, fun ad q' hq => xm_wR_cell hq, fun y k' q' h9 => ?_, fun ad => ⟨_, rfl⟩⟩
      · show va_rf (Option.map ad (xm_up _ _ _ _ _ _ _ _)) = va_rf (Option.map ad (some z))
        rw [xm_up_s]
      · unfold xm_fv xm_wR
        split
        · rfl
        · show va_rf (Option.map ad (xm_up _ _ _ _ _ _ _ _)) = _
          rw [xm_up_k hj]
        · rfl
      · have h8 : xm_up S.2.2.1.2.2.1 q1 k q2 (some z) y.1 k' y.2 = some q' := h9
        by_cases e1 : y.1 = q1 ∧ y.2 = q2
        · by_cases e2 : k' = k
          · rw [e1.1, e1.2, e2, xm_up_s] at h8
            cases h8
            exact Or.inr ⟨rfl, h3⟩
          · rw [xm_up_k e2] at h8
            exact Or.inl h8
        · rw [xm_up_o e1] at h8
          exact Or.inl h8
    · cases h
  · cases h
end XG3
end
section
/-! THE MACHINE KEEPS THE STEPS (4): arrays, tables, new cells -/
theorem xm_kd_lt {c : Nat} (h : (xm_kd c).1 ≠ 6) : c < 21 := by
  apply Classical.byContradiction
  intro h9
  apply h
  unfold xm_kd
  split <;> first | rfl | omega
theorem xm_arrI {cA : Nat → ClassId} {ad : xm_A} {M : xm_M} {q : Nat × Nat} (h : (xm_kd q.1).1 = 1) : xm_cell cA ad M q = .inl (cA 1, M.2.2.2.1 q.1 q.2, .inl (fun j => M.1 q.1 j q.2)) := by
  unfold xm_cell
  rw [h]
  rfl
theorem xm_arrZ {cA : Nat → ClassId} {ad : xm_A} {M : xm_M} {q : Nat × Nat} (h : (xm_kd q.1).1 = 3) : xm_cell cA ad M q = .inl (cA 3, M.2.2.2.1 q.1 q.2, .inl (fun j => M.1 q.1 j q.2)) := by
  unfold xm_cell
  rw [h]
  rfl
theorem xm_arrL {cA : Nat → ClassId} {ad : xm_A} {M : xm_M} {q : Nat × Nat} (h : (xm_kd q.1).1 = 2) : xm_cell cA ad M q = .inl (cA 2, M.2.2.2.1 q.1 q.2, .inr (.inl (fun j => M.2.1 q.1 j q.2))) := by
  unfold xm_cell
  rw [h]
  rfl
theorem xm_arrR {cA : Nat → ClassId} {ad : xm_A} {M : xm_M} {q : Nat × Nat} {t : Nat} (h : (xm_kd q.1).1 = t) (ht : t = 4 ∨ t = 5) : xm_cell cA ad M q = .inl (cA t, M.2.2.2.1 q.1 q.2, .inr (.inr (.inr (.inr (fun j => (M.2.2.1 q.1 j q.2).map ad))))) := by
  unfold xm_cell
  rw [h]
  rcases ht with rfl | rfl <;> rfl
theorem xm_arr {cA : Nat → ClassId} {ad : xm_A} {M : xm_M} {q : Nat × Nat} {t : Nat} (h : (xm_kd q.1).1 = t) (h0 : t ≠ 0) (h6 : t ≠ 6) : ∃ z, xm_cell cA ad M q = .inl (cA t, M.2.2.2.1 q.1 q.2, z) ∧ 1 ≤ t ∧ t ≤ 5 := by
  have ht : t = 1 ∨ t = 2 ∨ t = 3 ∨ t = 4 ∨ t = 5 := by
    subst h
    unfold xm_kd at h0 h6 ⊢
    split at h0 <;> simp_all
  unfold xm_cell
  rw [h]
  rcases ht with rfl | rfl | rfl | rfl | rfl <;> exact ⟨_, rfl, by omega, by omega⟩
section XG4
variable {p : Program} {l : Launch} {e : Env} {R : Room} {s : State} {m : MethodId} {args : Array Value} {below : List Frame} {meth : Method} {c : Code} {Q : State → Prop}
variable {cc : ByteArray} {nL : Nat} {own : String} {Ts : List Cond} {cA : Nat → ClassId} {D : va_G} {A : Nat → Prop} {tS : Nat → Nat} {ad0 : xm_A} {o0 : List (Nat × Nat)} {G : Nat → xm_S → Prop}
theorem xm_q {M : xm_M} {q : Nat × Nat} (h : xm_vok M (.inr (.inr (some q)))) (hk : (xm_kd q.1).1 ≠ 6) : q ∈ xm_o M := by
  rcases h with h | h
  · exact h
  · exact absurd (xm_kd_lt hk) (Nat.not_lt.mpr h)
/-- reading an array of the world -/
theorem sn_ald (hG : xm_IsG p l e R s m args below meth c Q cA D A tS nL ad0 o0 G) {pc n : Nat} {f : xm_F}
    (inv : ∀ {S pc1 S1}, f S = some (pc1, S1) → ∃ q x r v, S.2.1 = .inl x :: .inr (.inr (some q)) :: r ∧ pc1 = n ∧ S1 = (S.1, v :: r, S.2.2) ∧ (xm_kd q.1).1 ≠ 6 ∧ (∀ z, v = .inr (.inr (some z)) → ∃ j, S.2.2.1.2.2.1 q.1 j q.2 = some z) ∧
      ∀ (ad : xm_A) (H : Heap) (locs : List Loc) (cells slots : Nat) (ls : Array Slot) (rest : List Value) (q0 : Nat) (ws : va_W), va_P D vwCl ws H → ws[q0]? = some (ad q, xm_cell cA ad S.2.2.1 q) → W p l e R s m args below meth c H locs cells slots Q (F0 m n ls (xm_rv ad v :: rest)) → W p l e R s m args below meth c H locs cells slots Q (F0 m pc ls (.int x :: .ref (ad q) :: rest))) : xm_Snd R G pc f := by
  intro S pc1 S1 h
  obtain ⟨q, x, r, v, h1, rfl, rfl, h6, hv, row⟩ := inv h
  obtain ⟨lv, st, M, kc, ks⟩ := S
  dsimp only at h1 hv row ⊢
  subst h1
  refine ⟨⟨Nat.le_refl _, Nat.le_refl _⟩, fun _ _ kk => (hG _ _).mpr fun ad H locs ls hA => ?_⟩
  obtain ⟨q1, q2, q3, q4, q5, q6, q7⟩ := id hA
  have hq : q ∈ xm_o M := xm_q (q5.2.1 _ (List.mem_cons_of_mem _ List.mem_cons_self)) h6
  obtain ⟨j, hj, hw⟩ := xm_in (cA := cA) (ad := ad) hq
  refine row ad H locs _ _ ls _ j _ q1 hw ((hG _ _).mp kk ad H locs ls ⟨q1, q2, q3, q4, ⟨q5.1, fun w hw => ?_, q5.2.2⟩, q6, q7⟩)
  rcases List.mem_cons.mp hw with rfl | hw
  · rcases w with x9 | x9 | r9
    · trivial
    · trivial
    · cases r9 with
      | none => trivial
      | some z =>
        obtain ⟨j9, h9⟩ := hv z rfl
        exact Or.inl (q5.2.2 _ hq j9 z h9)
  · exact q5.2.1 w (List.mem_cons_of_mem _ (List.mem_cons_of_mem _ hw))
theorem sn_iald (hG : xm_IsG p l e R s m args below meth c Q cA D A tS nL ad0 o0 G) {pc n : Nat}
    (row : ∀ (H : Heap) (locs : List Loc) (cells slots : Nat) (ls : Array Slot) (rest : List Value) (q0 : Nat) (ws : va_W) (a N : Nat) (f : Nat → Int32) (x : Int32), va_P D vwCl ws H → ws[q0]? = some (a, .inl (cA 1, N, .inl f)) → vp_in x N → W p l e R s m args below meth c H locs cells slots Q (F0 m n ls (.int (f x.toNatClampNeg) :: rest)) → W p l e R s m args below meth c H locs cells slots Q (F0 m pc ls (.int x :: .ref a :: rest))) : xm_Snd R G pc (xs_iald n) := by
  refine sn_ald hG (n := n) fun {S pc1 S1} h => ?_
  unfold xs_iald at h
  split at h
  · rename_i x q r h1
    split at h
    · rename_i hk
      split at h
      · rename_i hin
        cases h
        refine ⟨q, x, r, _, h1, rfl, rfl, (by rw [hk]; decide), (fun z h9 => by cases h9), fun ad H locs cells slots ls rest q0 ws hP hw k => ?_⟩
        rw [xm_arrI hk] at hw
        exact row H locs cells slots ls rest q0 ws _ _ _ x hP hw (vp_in_iff.mpr hin) k
      · cases h
    · cases h
  · cases h
theorem sn_zald (hG : xm_IsG p l e R s m args below meth c Q cA D A tS nL ad0 o0 G) {pc n : Nat}
    (row : ∀ (H : Heap) (locs : List Loc) (cells slots : Nat) (ls : Array Slot) (rest : List Value) (q0 : Nat) (ws : va_W) (a N : Nat) (f : Nat → Int32) (x : Int32), va_P D vwCl ws H → ws[q0]? = some (a, .inl (cA 3, N, .inl f)) → vp_in x N → W p l e R s m args below meth c H locs cells slots Q (F0 m n ls (.int (f x.toNatClampNeg) :: rest)) → W p l e R s m args below meth c H locs cells slots Q (F0 m pc ls (.int x :: .ref a :: rest))) : xm_Snd R G pc (xs_zald n) := by
  refine sn_ald hG (n := n) fun {S pc1 S1} h => ?_
  unfold xs_zald at h
  split at h
  · rename_i x q r h1
    split at h
    · rename_i hk
      split at h
      · rename_i hin
        cases h
        refine ⟨q, x, r, _, h1, rfl, rfl, (by rw [hk]; decide), (fun z h9 => by cases h9), fun ad H locs cells slots ls rest q0 ws hP hw k => ?_⟩
        rw [xm_arrZ hk] at hw
        exact row H locs cells slots ls rest q0 ws _ _ _ x hP hw (vp_in_iff.mpr hin) k
      · cases h
    · cases h
  · cases h
theorem sn_lald (hG : xm_IsG p l e R s m args below meth c Q cA D A tS nL ad0 o0 G) {pc n : Nat}
    (row : ∀ (H : Heap) (locs : List Loc) (cells slots : Nat) (ls : Array Slot) (rest : List Value) (q0 : Nat) (ws : va_W) (a N : Nat) (f : Nat → Int64) (x : Int32), va_P D vwCl ws H → ws[q0]? = some (a, .inl (cA 2, N, .inr (.inl f))) → vp_in x N → W p l e R s m args below meth c H locs cells slots Q (F0 m n ls (.long (f x.toNatClampNeg) :: rest)) → W p l e R s m args below meth c H locs cells slots Q (F0 m pc ls (.int x :: .ref a :: rest))) : xm_Snd R G pc (xs_lald n) := by
  refine sn_ald hG (n := n) fun {S pc1 S1} h => ?_
  unfold xs_lald at h
  split at h
  · rename_i x q r h1
    split at h
    · rename_i hk
      split at h
      · rename_i hin
        cases h
        refine ⟨q, x, r, _, h1, rfl, rfl, (by rw [hk]; decide), (fun z h9 => by cases h9), fun ad H locs cells slots ls rest q0 ws hP hw k => ?_⟩
        rw [xm_arrL hk] at hw
        exact row H locs cells slots ls rest q0 ws _ _ _ x hP hw (vp_in_iff.mpr hin) k
      · cases h
    · cases h
  · cases h
theorem sn_aald (hG : xm_IsG p l e R s m args below meth c Q cA D A tS nL ad0 o0 G) {pc n t : Nat} (ht : t = 4 ∨ t = 5)
    (row : ∀ (H : Heap) (locs : List Loc) (cells slots : Nat) (ls : Array Slot) (rest : List Value) (q0 : Nat) (ws : va_W) (a N : Nat) (f : Nat → Option Nat) (x : Int32), va_P D vwCl ws H → ws[q0]? = some (a, .inl (cA t, N, .inr (.inr (.inr (.inr f))))) → vp_in x N → W p l e R s m args below meth c H locs cells slots Q (F0 m n ls (va_rf (f x.toNatClampNeg) :: rest)) → W p l e R s m args below meth c H locs cells slots Q (F0 m pc ls (.int x :: .ref a :: rest))) : xm_Snd R G pc (xs_aald n t) := by
  refine sn_ald hG (n := n) fun {S pc1 S1} h => ?_
  unfold xs_aald at h
  split at h
  · rename_i x q r h1
    split at h
    · rename_i hk
      split at h
      · rename_i z hz
        cases h
        refine ⟨q, x, r, _, h1, rfl, rfl, (by rw [hk.1]; omega), (fun z h9 => by cases h9; exact ⟨_, hz⟩), fun ad H locs cells slots ls rest q0 ws hP hw k => ?_⟩
        rw [xm_arrR hk.1 ht] at hw
        refine row H locs cells slots ls rest q0 ws _ _ _ x hP hw (vp_in_iff.mpr hk.2) ?_
        rw [hz]
        exact k
      · cases h
    · cases h
  · cases h
/-- writing an array of the world -/
theorem sn_ast (hG : xm_IsG p l e R s m args below meth c Q cA D A tS nL ad0 o0 G) {pc n : Nat} {f : xm_F}
    (inv : ∀ {S pc1 S1}, f S = some (pc1, S1) → ∃ q x r v M', S.2.1 = v :: .inl x :: .inr (.inr (some q)) :: r ∧ pc1 = n ∧ S1 = (S.1, r, M', S.2.2.2) ∧ (xm_kd q.1).1 ≠ 6 ∧ xm_o M' = xm_o S.2.2.1 ∧ (∀ ad q', q' ≠ q → xm_cell cA ad M' q' = xm_cell cA ad S.2.2.1 q') ∧ (∀ (y : Nat × Nat) (k' : Nat) (q' : Nat × Nat), M'.2.2.1 y.1 k' y.2 = some q' → S.2.2.1.2.2.1 y.1 k' y.2 = some q' ∨ v = .inr (.inr (some q'))) ∧ (∀ z, v = .inr (.inr (some z)) → (xm_kd z.1).1 ≠ 6) ∧
      ∀ (ad : xm_A) (H : Heap) (locs : List Loc) (cells slots : Nat) (ls : Array Slot) (rest : List Value) (q0 : Nat) (ws : va_W), va_P D vwCl ws H → va_D A ws → va_S A s.heap H locs → ws[q0]? = some (ad q, xm_cell cA ad S.2.2.1 q) → (∀ z, v = .inr (.inr (some z)) → ∃ k : Nat, ws[k]? = some (ad z, xm_cell cA ad S.2.2.1 z)) → (∀ (H1 : Heap) (locs1 : List Loc), va_P D vwCl (ws.set q0 (ad q, xm_cell cA ad M' q)) H1 → va_D A (ws.set q0 (ad q, xm_cell cA ad M' q)) → va_S A s.heap H1 locs1 → W p l e R s m args below meth c H1 locs1 cells slots Q (F0 m n ls rest)) → W p l e R s m args below meth c H locs cells slots Q (F0 m pc ls (xm_rv ad v :: .int x :: .ref (ad q) :: rest))) : xm_Snd R G pc f := by
  intro S pc1 S1 h
  obtain ⟨q, x, r, v, M', h1, rfl, rfl, h6, ho, hcell, hR, hv6, row⟩ := inv h
  obtain ⟨lv, st, M, kc, ks⟩ := S
  dsimp only at h1 ho hcell hR row ⊢
  subst h1
  refine ⟨⟨Nat.le_refl _, Nat.le_refl _⟩, fun _ _ kk => (hG _ _).mpr fun ad H locs ls hA => ?_⟩
  obtain ⟨q1, q2, q3, q4, q5, q6, q7⟩ := id hA
  have hq : q ∈ xm_o M := xm_q (q5.2.1 _ (List.mem_cons_of_mem _ (List.mem_cons_of_mem _ List.mem_cons_self))) h6
  obtain ⟨j, hj, hw⟩ := xm_in (cA := cA) (ad := ad) hq
  have hz : ∀ z, v = .inr (.inr (some z)) → (xm_kd z.1).1 ≠ 6 → z ∈ xm_o M := fun z h9 h8 => xm_q (h9 ▸ q5.2.1 v List.mem_cons_self) h8
  refine row ad H locs _ _ ls _ j _ q1 q2 q3 hw (fun z h9 => ?_) fun H1 locs1 p1 p2 p3 => ?_
  · obtain ⟨k, -, h8⟩ := xm_in (cA := cA) (ad := ad) (hz z h9 (hv6 z h9))
    exact ⟨k, h8⟩
  · rw [xm_set q2 hj ho (hcell ad)] at p1 p2
    exact (hG _ _).mp kk ad H1 locs1 ls (xm_Sd_put hA ho (fun w hw => List.mem_cons_of_mem _ (List.mem_cons_of_mem _ (List.mem_cons_of_mem _ hw))) (fun y hy k' q' h9 => (hR y k' q' h9).imp id fun h8 => hz q' h8 (hv6 q' h8)) p1 p2 p3)
end XG4
end
section
/-! THE MACHINE KEEPS THE STEPS (5): writing arrays, lengths, tables, new cells -/
theorem xm_kd_ge {c : Nat} (h : (xm_kd c).1 = 6) : 21 ≤ c := by
  apply Classical.byContradiction
  intro h9
  have h8 : c < 21 := by omega
  have key : ∀ c, c < 21 → (xm_kd c).1 ≠ 6 := by decide
  exact key c h8 h
section XG5
variable {p : Program} {l : Launch} {e : Env} {R : Room} {s : State} {m : MethodId} {args : Array Value} {below : List Frame} {meth : Method} {c : Code} {Q : State → Prop}
variable {cc : ByteArray} {nL : Nat} {own : String} {Ts : List Cond} {cA : Nat → ClassId} {D : va_G} {A : Nat → Prop} {tS : Nat → Nat} {ad0 : xm_A} {o0 : List (Nat × Nat)} {G : Nat → xm_S → Prop}
theorem xm_updI {f : Nat → Nat → Nat → Int32} {c0 k i : Nat} {v : Int32} : (fun j => xm_up f c0 k i v c0 j i) = upd (fun j => f c0 j i) k v := by
  funext j
  rw [xm_up_at]
  by_cases h : j = k
  · subst h; rw [if_pos rfl, pk_us]
  · rw [if_neg h, pk_un h]
theorem xm_updL {f : Nat → Nat → Nat → Int64} {c0 k i : Nat} {v : Int64} : (fun j => xm_up f c0 k i v c0 j i) = vp_updL (fun j => f c0 j i) k v := by
  funext j
  rw [xm_up_at]
  by_cases h : j = k
  · subst h; rw [if_pos rfl, pk_uLs]
  · rw [if_neg h, pk_uLn h]
theorem xm_updR {ad : xm_A} {f : Nat → Nat → Nat → Option (Nat × Nat)} {c0 k i : Nat} {v : Option (Nat × Nat)} : (fun j => (xm_up f c0 k i v c0 j i).map ad) = va_up (fun j => (f c0 j i).map ad) k (v.map ad) := by
  funext j
  rw [xm_up_at]
  by_cases h : j = k
  · subst h; rw [if_pos rfl, va_up_self]
  · rw [if_neg h, va_up_ne _ _ h]
theorem sn_iast (hG : xm_IsG p l e R s m args below meth c Q cA D A tS nL ad0 o0 G) {pc n : Nat}
    (row : ∀ (H : Heap) (locs : List Loc) (cells slots : Nat) (ls : Array Slot) (rest : List Value) (q0 : Nat) (ws : va_W) (a N : Nat) (f : Nat → Int32) (x v : Int32), va_P D vwCl ws H → va_D A ws → va_S A s.heap H locs → ws[q0]? = some (a, .inl (cA 1, N, .inl f)) → vp_in x N → (∀ (H1 : Heap) (locs1 : List Loc), va_P D vwCl (ws.set q0 (a, .inl (cA 1, N, .inl (upd f x.toNatClampNeg v)))) H1 → va_D A (ws.set q0 (a, .inl (cA 1, N, .inl (upd f x.toNatClampNeg v)))) → va_S A s.heap H1 locs1 → W p l e R s m args below meth c H1 locs1 cells slots Q (F0 m n ls rest)) → W p l e R s m args below meth c H locs cells slots Q (F0 m pc ls (.int v :: .int x :: .ref a :: rest))) : xm_Snd R G pc (xs_iast n) := by
  refine sn_ast hG (n := n) fun {S pc1 S1} h => ?_
  unfold xs_iast at h
  split at h
  · rename_i v x q r h1
    split at h
    · rename_i hk
      cases h
      refine ⟨q, x, r, _, _, h1, rfl, rfl, (by rw [hk.1]; decide), rfl, fun ad q' hq => xm_wI_cell hq, fun _ _ _ h9 => Or.inl h9, (fun z h9 => by cases h9), fun ad H locs cells slots ls rest q0 ws hP hD hS hw _ k => ?_⟩
      rw [xm_arrI hk.1] at hw
      refine row H locs cells slots ls rest q0 ws _ _ _ x v hP hD hS hw (vp_in_iff.mpr hk.2) ?_
      have e9 : xm_cell cA ad (xm_wI S.2.2.1 q.1 x.toNatClampNeg q.2 v) q = .inl (cA 1, S.2.2.1.2.2.2.1 q.1 q.2, .inl (upd (fun j => S.2.2.1.1 q.1 j q.2) x.toNatClampNeg v)) := by
        rw [xm_arrI hk.1, ← xm_updI]
        rfl
      rw [e9] at k
      exact k
    · cases h
  · cases h
theorem vp_narZ {v : Int32} (h : v = 0 ∨ v = 1) : vp_nar .boolean v = v := by
  rcases h with rfl | rfl <;> rfl
theorem sn_zast (hG : xm_IsG p l e R s m args below meth c Q cA D A tS nL ad0 o0 G) {pc n : Nat}
    (row : ∀ (H : Heap) (locs : List Loc) (cells slots : Nat) (ls : Array Slot) (rest : List Value) (q0 : Nat) (ws : va_W) (a N : Nat) (f : Nat → Int32) (x v : Int32), va_P D vwCl ws H → va_D A ws → va_S A s.heap H locs → ws[q0]? = some (a, .inl (cA 3, N, .inl f)) → vp_in x N → (∀ (H1 : Heap) (locs1 : List Loc), va_P D vwCl (ws.set q0 (a, .inl (cA 3, N, .inl (upd f x.toNatClampNeg (vp_nar .boolean v))))) H1 → va_D A (ws.set q0 (a, .inl (cA 3, N, .inl (upd f x.toNatClampNeg (vp_nar .boolean v))))) → va_S A s.heap H1 locs1 → W p l e R s m args below meth c H1 locs1 cells slots Q (F0 m n ls rest)) → W p l e R s m args below meth c H locs cells slots Q (F0 m pc ls (.int v :: .int x :: .ref a :: rest))) : xm_Snd R G pc (xs_zast n) := by
  refine sn_ast hG (n := n) fun {S pc1 S1} h => ?_
  unfold xs_zast at h
  split at h
  · rename_i v x q r h1
    split at h
    · rename_i hk
      cases h
      refine ⟨q, x, r, _, _, h1, rfl, rfl, (by rw [hk.1]; decide), rfl, fun ad q' hq => xm_wI_cell hq, fun _ _ _ h9 => Or.inl h9, (fun z h9 => by cases h9), fun ad H locs cells slots ls rest q0 ws hP hD hS hw _ k => ?_⟩
      rw [xm_arrZ hk.1] at hw
      refine row H locs cells slots ls rest q0 ws _ _ _ x v hP hD hS hw (vp_in_iff.mpr hk.2.2) ?_
      have e9 : xm_cell cA ad (xm_wI S.2.2.1 q.1 x.toNatClampNeg q.2 v) q = .inl (cA 3, S.2.2.1.2.2.2.1 q.1 q.2, .inl (upd (fun j => S.2.2.1.1 q.1 j q.2) x.toNatClampNeg v)) := by
        rw [xm_arrZ hk.1, ← xm_updI]
        rfl
      rw [e9] at k
      rw [vp_narZ hk.2.1]
      exact k
    · cases h
  · cases h
theorem sn_last (hG : xm_IsG p l e R s m args below meth c Q cA D A tS nL ad0 o0 G) {pc n : Nat}
    (row : ∀ (H : Heap) (locs : List Loc) (cells slots : Nat) (ls : Array Slot) (rest : List Value) (q0 : Nat) (ws : va_W) (a N : Nat) (f : Nat → Int64) (x : Int32) (v : Int64), va_P D vwCl ws H → va_D A ws → va_S A s.heap H locs → ws[q0]? = some (a, .inl (cA 2, N, .inr (.inl f))) → vp_in x N → (∀ (H1 : Heap) (locs1 : List Loc), va_P D vwCl (ws.set q0 (a, .inl (cA 2, N, .inr (.inl (vp_updL f x.toNatClampNeg v))))) H1 → va_D A (ws.set q0 (a, .inl (cA 2, N, .inr (.inl (vp_updL f x.toNatClampNeg v))))) → va_S A s.heap H1 locs1 → W p l e R s m args below meth c H1 locs1 cells slots Q (F0 m n ls rest)) → W p l e R s m args below meth c H locs cells slots Q (F0 m pc ls (.long v :: .int x :: .ref a :: rest))) : xm_Snd R G pc (xs_last n) := by
  refine sn_ast hG (n := n) fun {S pc1 S1} h => ?_
  unfold xs_last at h
  split at h
  · rename_i v x q r h1
    split at h
    · rename_i hk
      cases h
      refine ⟨q, x, r, _, _, h1, rfl, rfl, (by rw [hk.1]; decide), rfl, fun ad q' hq => xm_wL_cell hq, fun _ _ _ h9 => Or.inl h9, (fun z h9 => by cases h9), fun ad H locs cells slots ls rest q0 ws hP hD hS hw _ k => ?_⟩
      rw [xm_arrL hk.1] at hw
      refine row H locs cells slots ls rest q0 ws _ _ _ x v hP hD hS hw (vp_in_iff.mpr hk.2) ?_
      have e9 : xm_cell cA ad (xm_wL S.2.2.1 q.1 x.toNatClampNeg q.2 v) q = .inl (cA 2, S.2.2.1.2.2.2.1 q.1 q.2, .inr (.inl (vp_updL (fun j => S.2.2.1.2.1 q.1 j q.2) x.toNatClampNeg v))) := by
        rw [xm_arrL hk.1, ← xm_updL]
        rfl
      rw [e9] at k
      exact k
    · cases h
  · cases h
theorem sn_aast (hG : xm_IsG p l e R s m args below meth c Q cA D A tS nL ad0 o0 G) {pc n a0 t ci : Nat} {ts : List Nat} (ha : a0 = 4 ∨ a0 = 5) (hkt : xm_kd t = (0, ci, ts))
    (row : ∀ (H : Heap) (locs : List Loc) (cells slots : Nat) (ls : Array Slot) (rest : List Value) (q0 qk : Nat) (ws : va_W) (a N v : Nat) (vs : List Value) (f : Nat → Option Nat) (x : Int32), va_P D vwCl ws H → va_D A ws → va_S A s.heap H locs → ws[q0]? = some (a, .inl (cA a0, N, .inr (.inr (.inr (.inr f))))) → ws[qk]? = some (v, .inr (ci, vs)) → vp_in x N → (∀ (H1 : Heap) (locs1 : List Loc), va_P D vwCl (ws.set q0 (a, .inl (cA a0, N, .inr (.inr (.inr (.inr (va_up f x.toNatClampNeg (some v)))))))) H1 → va_D A (ws.set q0 (a, .inl (cA a0, N, .inr (.inr (.inr (.inr (va_up f x.toNatClampNeg (some v)))))))) → va_S A s.heap H1 locs1 → W p l e R s m args below meth c H1 locs1 cells slots Q (F0 m n ls rest)) → W p l e R s m args below meth c H locs cells slots Q (F0 m pc ls (.ref v :: .int x :: .ref a :: rest))) : xm_Snd R G pc (xs_aast n a0 t) := by
  refine sn_ast hG (n := n) fun {S pc1 S1} h => ?_
  unfold xs_aast at h
  split at h
  · rename_i z x q r h1
    split at h
    · rename_i hk
      cases h
      obtain ⟨z1, z2⟩ := z
      obtain ⟨hk1, hk2, hk3⟩ := hk
      dsimp only at hk2
      subst hk2
      refine ⟨q, x, r, _, _, h1, rfl, rfl, (by rw [hk1]; omega), rfl, fun ad q' hq => xm_wR_cell hq, fun y k' q' h9 => ?_, (fun z h9 => by cases h9; show (xm_kd z1).1 ≠ 6; rw [hkt]; show (0 : Nat) ≠ 6; decide), fun ad H locs cells slots ls rest q0 ws hP hD hS hw hz k => ?_⟩
      · have h8 : xm_up S.2.2.1.2.2.1 q.1 x.toNatClampNeg q.2 (some (z1, z2)) y.1 k' y.2 = some q' := h9
        by_cases e1 : y.1 = q.1 ∧ y.2 = q.2
        · by_cases e2 : k' = x.toNatClampNeg
          · rw [e1.1, e1.2, e2, xm_up_s] at h8
            cases h8
            exact Or.inr rfl
          · rw [xm_up_k e2] at h8
            exact Or.inl h8
        · rw [xm_up_o e1] at h8
          exact Or.inl h8
      · rw [xm_arrR hk1 ha] at hw
        obtain ⟨qk, hqk⟩ := hz (z1, z2) rfl
        rw [xm_obj (q := (z1, z2)) hkt] at hqk
        refine row H locs cells slots ls rest q0 qk ws _ _ _ _ _ x hP hD hS hw hqk (vp_in_iff.mpr hk3) ?_
        have e9 : xm_cell cA ad (xm_wR S.2.2.1 q.1 x.toNatClampNeg q.2 (some (z1, z2))) q = .inl (cA a0, S.2.2.1.2.2.2.1 q.1 q.2, .inr (.inr (.inr (.inr (va_up (fun j => (S.2.2.1.2.2.1 q.1 j q.2).map ad) x.toNatClampNeg (some (ad (z1, z2)))))))) := by
          rw [xm_arrR hk1 ha, show some (ad (z1, z2)) = (some (z1, z2)).map ad from rfl, ← xm_updR]
          rfl
        rw [e9] at k
        exact k
    · cases h
  · cases h
theorem sn_alen (hG : xm_IsG p l e R s m args below meth c Q cA D A tS nL ad0 o0 G) (hC : xm_Cx p s m args c cc nL own Ts cA D A tS) {pc n : Nat}
    (row : ∀ (H : Heap) (locs : List Loc) (cells slots : Nat) (ls : Array Slot) (rest : List Value) (q0 t : Nat) (ws : va_W) (a N : Nat) (z : (Nat → Int32) ⊕ (Nat → Int64) ⊕ (Nat → UInt32) ⊕ (Nat → UInt64) ⊕ (Nat → Option Nat)), va_P D vwCl ws H → ws[q0]? = some (a, .inl (cA t, N, z)) → 1 ≤ t → t ≤ 5 → W p l e R s m args below meth c H locs cells slots Q (F0 m n ls (.int (Int32.ofNat N) :: rest)) → W p l e R s m args below meth c H locs cells slots Q (F0 m pc ls (.ref a :: rest)))
    (rowT : ∀ (H : Heap) (locs : List Loc) (cells slots : Nat) (ls : Array Slot) (rest : List Value) (t k : Nat), xm_Tb t k A s s.heap → va_S A s.heap H locs → W p l e R s m args below meth c H locs cells slots Q (F0 m n ls (.int 7 :: rest)) → W p l e R s m args below meth c H locs cells slots Q (F0 m pc ls (.ref t :: rest))) : xm_Snd R G pc (xs_alen n) := by
  intro S pc1 S1 h
  unfold xs_alen at h
  split at h
  · rename_i q r h1
    obtain ⟨lv, st, M, kc, ks⟩ := S
    dsimp only at h1 h
    subst h1
    split at h
    · cases h
    · rename_i hk
      split at h
      case isFalse => cases h
      rename_i hq9
      cases h
      obtain ⟨k, hk3, rfl⟩ : ∃ k, k < 3 ∧ q = (21 + k, 0) := by
        have h21 := xm_kd_ge hk
        exact ⟨q.1 - 21, by omega, Prod.ext (by show q.1 = 21 + (q.1 - 21); omega) hq9.1⟩
      refine ⟨⟨Nat.le_refl _, Nat.le_refl _⟩, fun _ _ kk => (hG _ _).mpr fun ad H locs ls hA => ?_⟩
      obtain ⟨q1, q2, q3, q4, q5, q6, q7⟩ := id hA
      have e9 : (List.map (xm_rv ad) (.inr (.inr (some (21 + k, 0))) :: r)) = .ref (tS k) :: r.map (xm_rv ad) := by
        rw [List.map_cons, ← q6.k k]; rfl
      rw [e9]
      refine rowT H locs _ _ ls _ (tS k) k (hC.2.2.2.2.2.2.2.1.1 k hk3).2 q3 ((hG _ _).mp kk ad H locs ls ⟨q1, q2, q3, q4, ⟨q5.1, fun w hw => ?_, q5.2.2⟩, q6, q7⟩)
      rcases List.mem_cons.mp hw with rfl | hw
      · trivial
      · exact q5.2.1 w (List.mem_cons_of_mem _ hw)
    · rename_i t h0 h6
      cases h
      refine ⟨⟨Nat.le_refl _, Nat.le_refl _⟩, fun _ _ kk => (hG _ _).mpr fun ad H locs ls hA => ?_⟩
      obtain ⟨q1, q2, q3, q4, q5, q6, q7⟩ := id hA
      have hq : q ∈ xm_o M := xm_q (q5.2.1 _ List.mem_cons_self) h6
      obtain ⟨j, hj, hw⟩ := xm_in (cA := cA) (ad := ad) hq
      obtain ⟨z, hz1, hz2, hz3⟩ := xm_arr (cA := cA) (ad := ad) (M := M) (q := q) rfl h0 h6
      rw [hz1] at hw
      refine row H locs _ _ ls _ j _ _ (ad q) _ z q1 hw hz2 hz3 ((hG _ _).mp kk ad H locs ls ⟨q1, q2, q3, q4, ⟨q5.1, fun w hw => ?_, q5.2.2⟩, q6, q7⟩)
      rcases List.mem_cons.mp hw with rfl | hw
      · trivial
      · exact q5.2.1 w (List.mem_cons_of_mem _ hw)
  · cases h
theorem sn_gst (hG : xm_IsG p l e R s m args below meth c Q cA D A tS nL ad0 o0 G) (hC : xm_Cx p s m args c cc nL own Ts cA D A tS) {pc n k : Nat} (hk : k < 3)
    (row : ∀ (H : Heap) (locs : List Loc) (cells slots : Nat) (ls : Array Slot) (rest : List Value) (t : Nat), va_Z RX2 (xm_nm k) "[I" (.ref t) A s s.heap → va_S A s.heap H locs → W p l e R s m args below meth c H locs cells slots Q (F0 m n ls (.ref t :: rest)) → W p l e R s m args below meth c H locs cells slots Q (F0 m pc ls rest)) : xm_Snd R G pc (xs_gst n k) := by
  intro S pc1 S1 h
  cases h
  refine ⟨⟨Nat.le_refl _, Nat.le_refl _⟩, fun _ _ kk => (hG _ _).mpr fun ad H locs ls hA => ?_⟩
  obtain ⟨q1, q2, q3, q4, q5, q6, q7⟩ := id hA
  refine row H locs _ _ ls _ (tS k) (hC.2.2.2.2.2.2.2.1.1 k hk).1 q3 ?_
  rw [← q6.k k]
  refine (hG _ _).mp kk ad H locs ls ⟨q1, q2, q3, q4, ⟨q5.1, fun w hw => ?_, q5.2.2⟩, q6, q7⟩
  rcases List.mem_cons.mp hw with rfl | hw
  · exact Or.inr (Nat.le_add_right 21 k)
  · exact q5.2.1 w hw
theorem sn_tald (hG : xm_IsG p l e R s m args below meth c Q cA D A tS nL ad0 o0 G) (hC : xm_Cx p s m args c cc nL own Ts cA D A tS) {pc n k : Nat} (hk : k < 3)
    (row : ∀ (H : Heap) (locs : List Loc) (cells slots : Nat) (ls : Array Slot) (rest : List Value) (t : Nat) (x : Int32), xm_Tb t k A s s.heap → va_S A s.heap H locs → vp_in x 7 → W p l e R s m args below meth c H locs cells slots Q (F0 m n ls (.int (xm_tb k x.toNatClampNeg) :: rest)) → W p l e R s m args below meth c H locs cells slots Q (F0 m pc ls (.int x :: .ref t :: rest))) : xm_Snd R G pc (xs_tald n k) := by
  intro S pc1 S1 h
  unfold xs_tald at h
  split at h
  · rename_i x q r h1
    split at h
    · rename_i h2
      obtain ⟨rfl, hin⟩ := h2
      obtain ⟨lv, st, M, kc, ks⟩ := S
      dsimp only at h1 h
      subst h1
      cases h
      refine ⟨⟨Nat.le_refl _, Nat.le_refl _⟩, fun _ _ kk => (hG _ _).mpr fun ad H locs ls hA => ?_⟩
      obtain ⟨q1, q2, q3, q4, q5, q6, q7⟩ := id hA
      have e9 : (List.map (xm_rv ad) (.inl x :: .inr (.inr (some (21 + k, 0))) :: r)) = .int x :: .ref (tS k) :: r.map (xm_rv ad) := by
        rw [List.map_cons, List.map_cons, ← q6.k k]; rfl
      rw [e9]
      refine row H locs _ _ ls _ (tS k) x (hC.2.2.2.2.2.2.2.1.1 k hk).2 q3 (vp_in_iff.mpr hin) ((hG _ _).mp kk ad H locs ls ⟨q1, q2, q3, q4, ⟨q5.1, fun w hw => ?_, q5.2.2⟩, q6, q7⟩)
      rcases List.mem_cons.mp hw with rfl | hw
      · trivial
      · exact q5.2.1 w (List.mem_cons_of_mem _ (List.mem_cons_of_mem _ hw))
    · cases h
  · cases h
end XG5
end
section
/-! THE MACHINE KEEPS THE STEPS (6): new cells -/
def xm_df (t : Nat) : Value := match t with
  | 1 => .long 0
  | 2 => .null
  | _ => .int 0
def xm_ad (ad : xm_A) (z : Nat × Nat) (a : Nat) : xm_A := fun q => if q = z then a else ad q
theorem xm_ad_ne {ad : xm_A} {z q : Nat × Nat} {a : Nat} (h : q ≠ z) : xm_ad ad z a q = ad q := if_neg h
theorem xm_nin {q z : Nat × Nat} {o : List (Nat × Nat)} (hz : z ∉ o) (hq : q ∈ o) : q ≠ z := fun e9 => hz (e9 ▸ hq)
theorem xm_fv_i {ad : xm_A} {M : xm_M} {q : Nat × Nat} {k t : Nat} (h1 : t ≠ 1) (h2 : t ≠ 2) : xm_fv ad M q k t = .int (M.1 q.1 k q.2) := by
  unfold xm_fv
  split
  · exact absurd rfl h1
  · exact absurd rfl h2
  · rfl
theorem xm_df_i {t : Nat} (h1 : t ≠ 1) (h2 : t ≠ 2) : xm_df t = .int 0 := by
  unfold xm_df
  split
  · exact absurd rfl h1
  · exact absurd rfl h2
  · rfl
theorem xm_ad_s {ad : xm_A} {z : Nat × Nat} {a : Nat} : xm_ad ad z a z = a := if_pos rfl
theorem xm_rv_ad {ad : xm_A} {M : xm_M} {z : Nat × Nat} {a : Nat} {v : xm_V} (hz : z ∉ xm_o M) (hc : z.1 < 21) (hv : xm_vok M v) : xm_rv (xm_ad ad z a) v = xm_rv ad v := by
  rcases v with x | x | r
  · rfl
  · rfl
  · cases r with
    | none => rfl
    | some q =>
      have hne : q ≠ z := by
        intro e9
        subst e9
        rcases hv with h | h
        · exact hz h
        · exact absurd hc (Nat.not_lt.mpr h)
      show va_rf (some (xm_ad ad z a q)) = va_rf (some (ad q))
      rw [xm_ad_ne hne]
theorem xm_rv_map {ad : xm_A} {M : xm_M} {z : Nat × Nat} {a : Nat} {st : List xm_V} (hz : z ∉ xm_o M) (hc : z.1 < 21) (hv : ∀ v ∈ st, xm_vok M v) : st.map (xm_rv (xm_ad ad z a)) = st.map (xm_rv ad) :=
  List.map_congr_left fun v h => xm_rv_ad hz hc (hv v h)
section XG6
variable {p : Program} {l : Launch} {e : Env} {R : Room} {s : State} {m : MethodId} {args : Array Value} {below : List Frame} {meth : Method} {c : Code} {Q : State → Prop}
variable {cc : ByteArray} {nL : Nat} {own : String} {Ts : List Cond} {cA : Nat → ClassId} {D : va_G} {A : Nat → Prop} {tS : Nat → Nat} {ad0 : xm_A} {o0 : List (Nat × Nat)} {G : Nat → xm_S → Prop}
/-- the world behind a new cell -/
theorem xm_ws_new {ad : xm_A} {M : xm_M} {c0 N a : Nat} {E : va_E} (hz : (c0, xm_cnt c0 (xm_o M)) ∉ xm_o M) (hR : ∀ q ∈ xm_o M, ∀ k q', M.2.2.1 q.1 k q.2 = some q' → q' ∈ xm_o M)
    (hE : xm_cell cA (xm_ad ad (c0, xm_cnt c0 (xm_o M)) a) (xm_nw M c0 N) (c0, xm_cnt c0 (xm_o M)) = E) : xm_ws cA (xm_ad ad (c0, xm_cnt c0 (xm_o M)) a) (xm_nw M c0 N) = xm_ws cA ad M ++ [(a, E)] := by
  unfold xm_ws
  show List.map _ (xm_o M ++ [(c0, xm_cnt c0 (xm_o M))]) = _
  rw [List.map_append]
  congr 1
  · refine List.map_congr_left fun q hq => ?_
    have hne : q ≠ (c0, xm_cnt c0 (xm_o M)) := fun e9 => hz (e9 ▸ hq)
    have hn : ¬ (q.1 = c0 ∧ q.2 = xm_cnt c0 (xm_o M)) := xm_ne hne
    rw [xm_ad_ne hne]
    congr 1
    refine xm_cell_congr (fun j => if_neg hn) (fun j => if_neg hn) (fun j => ?_) (if_neg hn)
    show Option.map _ (if q.1 = c0 ∧ q.2 = xm_cnt c0 (xm_o M) then none else M.2.2.1 q.1 j q.2) = _
    rw [if_neg hn]
    cases h9 : M.2.2.1 q.1 j q.2 with
    | none => rfl
    | some q' =>
      show some (xm_ad ad _ a q') = some (ad q')
      rw [xm_ad_ne (xm_nin hz (hR q hq j q' h9))]
  · show [(xm_ad ad _ a _, _)] = _
    rw [xm_ad_s, hE]
theorem xm_Sd_new {ad : xm_A} {H H1 : Heap} {locs : List Loc} {ls : Array Slot} {lv : xm_L} {st st' : List xm_V} {M : xm_M} {c0 N a : Nat} {E : va_E} (hA : xm_Sd s cA D A tS nL ad0 o0 ad H locs ls lv st M) (hst : ∀ v ∈ st', v ∈ st) (hz : (c0, xm_cnt c0 (xm_o M)) ∉ xm_o M) (hc : c0 < 21)
    (hE : xm_cell cA (xm_ad ad (c0, xm_cnt c0 (xm_o M)) a) (xm_nw M c0 N) (c0, xm_cnt c0 (xm_o M)) = E) (p1 : va_P D vwCl (xm_ws cA ad M ++ [(a, E)]) H1) (p2 : va_D A (xm_ws cA ad M ++ [(a, E)])) (p3 : va_S A s.heap H1 locs) :
    xm_Sd s cA D A tS nL ad0 o0 (xm_ad ad (c0, xm_cnt c0 (xm_o M)) a) H1 locs ls lv (.inr (.inr (some (c0, xm_cnt c0 (xm_o M)))) :: st') (xm_nw M c0 N) := by
  obtain ⟨q1, q2, q3, q4, q5, q6, q7⟩ := hA
  rw [← xm_ws_new hz q5.2.2 hE] at p1 p2
  have hin : ∀ q, q ∈ xm_o M → q ∈ xm_o (xm_nw M c0 N) := fun q h => List.mem_append_left _ h
  have hvo : ∀ v, xm_vok M v → xm_vok (xm_nw M c0 N) v := fun v hv => by
    unfold xm_vok at hv ⊢
    split
    · exact hv.imp (hin _) id
    · trivial
  refine ⟨p1, p2, p3, ?_, ⟨fun x hx => hvo _ (q5.1 x hx), fun v hv => ?_, fun q hq k q' h => ?_⟩, fun q hq => ?_, fun q hq => ?_⟩
  · rw [show lv.map (fun q => (q.1, xm_rv (xm_ad ad (c0, xm_cnt c0 (xm_o M)) a) q.2)) = lv.map (fun q => (q.1, xm_rv ad q.2)) from List.map_congr_left fun x hx => by rw [xm_rv_ad hz hc (q5.1 x hx)]]
    exact q4
  · rcases List.mem_cons.mp hv with rfl | hv
    · exact Or.inl (List.mem_append_right _ List.mem_cons_self)
    · exact hvo _ (q5.2.1 v (hst v hv))
  · have h8 : (if q.1 = c0 ∧ q.2 = xm_cnt c0 (xm_o M) then none else M.2.2.1 q.1 k q.2) = some q' := h
    split at h8
    · cases h8
    · rename_i hn
      have hq9 : q ∈ xm_o M := by
        rcases List.mem_append.mp hq with h9 | h9
        · exact h9
        · rw [List.mem_singleton.mp h9] at hn
          exact absurd ⟨rfl, rfl⟩ hn
      exact hin _ (q5.2.2 q hq9 k q' h8)
  · rw [xm_ad_ne (fun e9 => by rw [e9] at hq; dsimp only at hq; omega)]
    exact q6 q hq
  · obtain ⟨h8, h9⟩ := q7 q hq
    exact ⟨by rw [xm_ad_ne (xm_nin hz h9)]; exact h8, hin _ h9⟩
theorem sn_new (hG : xm_IsG p l e R s m args below meth c Q cA D A tS nL ad0 o0 G) {pc n c0 ci : Nat} {ts : List Nat} (hk : xm_kd c0 = (0, ci, ts)) (hc : c0 < 21)
    (row : ∀ (H : Heap) (locs : List Loc) (cells slots : Nat) (ls : Array Slot) (rest : List Value) (ws : va_W), va_P D vwCl ws H → va_D A ws → va_S A s.heap H locs → cells + 1 ≤ R.cells → slots + ts.length ≤ R.slots → (∀ (q : Nat) (H1 : Heap), va_P D vwCl (ws ++ [(q, .inr (ci, ts.map xm_df))]) H1 → va_D A (ws ++ [(q, .inr (ci, ts.map xm_df))]) → va_S A s.heap H1 locs → W p l e R s m args below meth c H1 locs (cells + 1) (slots + ts.length) Q (F0 m n ls (.ref q :: rest))) → W p l e R s m args below meth c H locs cells slots Q (F0 m pc ls rest)) : xm_Snd R G pc (xs_new n c0) := by
  intro S pc1 S1 h
  unfold xs_new at h
  split at h
  · cases h
  · rename_i hz
    obtain ⟨lv, st, M, kc, ks⟩ := S
    dsimp only at h hz
    rw [hk] at h
    cases h
    refine ⟨⟨Nat.le_succ _, Nat.le_add_right _ _⟩, fun h1 h2 kk => (hG _ _).mpr fun ad H locs ls hA => ?_⟩
    refine row H locs _ _ ls _ _ hA.1 hA.2.1 hA.2.2.1 h1 h2 fun a H1 p1 p2 p3 => ?_
    have hE : xm_cell cA (xm_ad ad (c0, xm_cnt c0 (xm_o M)) a) (xm_nw M c0 0) (c0, xm_cnt c0 (xm_o M)) = .inr (ci, ts.map xm_df) := by
      rw [xm_obj (q := (c0, xm_cnt c0 (xm_o M))) hk]
      congr 2
      apply List.ext_getElem?
      intro j
      rw [List.getElem?_mapIdx, List.getElem?_map]
      cases ts[j]? with
      | none => rfl
      | some t =>
        show some (xm_fv _ _ _ j t) = some (xm_df t)
        congr 1
        rcases (show t = 1 ∨ t = 2 ∨ (t ≠ 1 ∧ t ≠ 2) by omega) with rfl | rfl | ⟨h8, h9⟩
        · show Value.long (if c0 = c0 ∧ xm_cnt c0 (xm_o M) = xm_cnt c0 (xm_o M) then 0 else _) = Value.long 0
          rw [if_pos ⟨rfl, rfl⟩]
        · show va_rf (Option.map _ (if c0 = c0 ∧ xm_cnt c0 (xm_o M) = xm_cnt c0 (xm_o M) then none else _)) = Value.null
          rw [if_pos ⟨rfl, rfl⟩]
          rfl
        · rw [xm_fv_i h8 h9, xm_df_i h8 h9]
          show Value.int (if c0 = c0 ∧ xm_cnt c0 (xm_o M) = xm_cnt c0 (xm_o M) then 0 else _) = Value.int 0
          rw [if_pos ⟨rfl, rfl⟩]
    have := (hG _ _).mp kk _ H1 locs ls (xm_Sd_new hA (fun v hv => hv) hz hc hE p1 p2 p3)
    dsimp only at this
    rw [List.map_cons, xm_rv_map hz hc hA.2.2.2.2.1.2.1] at this
    have e9 : xm_rv (xm_ad ad (c0, xm_cnt c0 (xm_o M)) a) (.inr (.inr (some (c0, xm_cnt c0 (xm_o M))))) = .ref a := by
      show va_rf (some (xm_ad ad _ a _)) = _
      rw [xm_ad_s]
      rfl
    rw [e9] at this
    exact this
/-- an array's cell just made -/
theorem sn_newa (hG : xm_IsG p l e R s m args below meth c Q cA D A tS nL ad0 o0 G) {pc n c0 t : Nat} (hk : (xm_kd c0).1 = t) (hc : c0 < 21) {z : (Nat → Int32) ⊕ (Nat → Int64) ⊕ (Nat → UInt32) ⊕ (Nat → UInt64) ⊕ (Nat → Option Nat)}
    (hE : ∀ (ad : xm_A) (M : xm_M) (N : Nat), xm_cell cA ad (xm_nw M c0 N) (c0, xm_cnt c0 (xm_o M)) = .inl (cA t, N, z))
    (row : ∀ (H : Heap) (locs : List Loc) (cells slots : Nat) (ls : Array Slot) (rest : List Value) (ws : va_W) (x : Int32) (N : Nat), va_P D vwCl ws H → va_D A ws → va_S A s.heap H locs → x.toNatClampNeg = N → ¬ x < 0 → N ≤ 1000 → cells + 1 ≤ R.cells → slots + N ≤ R.slots → (∀ (q : Nat) (H1 : Heap), va_P D vwCl (ws ++ [(q, .inl (cA t, N, z))]) H1 → va_D A (ws ++ [(q, .inl (cA t, N, z))]) → va_S A s.heap H1 locs → W p l e R s m args below meth c H1 locs (cells + 1) (slots + N) Q (F0 m n ls (.ref q :: rest))) → W p l e R s m args below meth c H locs cells slots Q (F0 m pc ls (.int x :: rest))) : xm_Snd R G pc (xs_newa n c0) := by
  intro S pc1 S1 h
  unfold xs_newa at h
  split at h
  · rename_i x r h0
    split at h
    · cases h
    · rename_i hz
      split at h
      · rename_i hx
        obtain ⟨lv, st, M, kc, ks⟩ := S
        dsimp only at h hz h0
        subst h0
        cases h
        have hN : ¬ x < 0 := by
          rw [Int32.lt_iff_toInt_lt, Int32.toInt_zero]; omega
        have hN2 : x.toNatClampNeg ≤ 1000 := by
          rw [Int32.toNatClampNeg]; omega
        refine ⟨⟨Nat.le_succ _, Nat.le_add_right _ _⟩, fun h1 h2 kk => (hG _ _).mpr fun ad H locs ls hA => ?_⟩
        refine row H locs _ _ ls _ _ x _ hA.1 hA.2.1 hA.2.2.1 rfl hN hN2 h1 h2 fun a H1 p1 p2 p3 => ?_
        have := (hG _ _).mp kk _ H1 locs ls (xm_Sd_new hA (fun v hv => List.mem_cons_of_mem _ hv) hz hc (hE _ _ _) p1 p2 p3)
        dsimp only at this
        rw [List.map_cons, xm_rv_map hz hc (fun v hv => hA.2.2.2.2.1.2.1 v (List.mem_cons_of_mem _ hv))] at this
        have e9 : xm_rv (xm_ad ad (c0, xm_cnt c0 (xm_o M)) a) (.inr (.inr (some (c0, xm_cnt c0 (xm_o M))))) = .ref a := by
          show va_rf (some (xm_ad ad _ a _)) = _
          rw [xm_ad_s]
          rfl
        rw [e9] at this
        exact this
      · cases h
  · cases h
end XG6
end
section
/-! CALLS, and the whole: what the calculus says of a method, the machine does -/
def xm_room (d mc ms : Nat) : Room := { frames := d, cells := mc, slots := ms, locals := 40 * d }
def xm_Pc (cA : Nat → ClassId) (D : va_G) (tS : Nat → Nat) (ad : xm_A) (M : xm_M) (as : List xm_V) (sz : Nat) : Array Value → State → Prop :=
  va_Pc (as.map (xm_rv ad)) (fun U => U.heap.size = sz ∧ va_P D vwCl (xm_ws cA ad M) U.heap ∧ va_K D vwCl (xm_tys cA) U ∧ va_D (fun _ => True) (xm_ws cA ad M) ∧ xm_Sx tS (va_A (xm_ws cA ad M) sz) U U.heap ∧ xm_Nx U)
def xm_Qc (cA : Nat → ClassId) (D : va_G) (tS : Nat → Nat) (ad : xm_A) (M : xm_M) (sz : Nat) (v : Option xm_V) (M' : xm_M) : Array Value → State → Outcome → State → Prop := fun _ st oc t =>
  (∃ ad' : xm_A, oc = .returned (v.map (xm_rv ad')) ∧ va_P D vwCl (xm_ws cA ad' M') t.heap ∧ va_D (va_A (xm_ws cA ad M) sz) (xm_ws cA ad' M') ∧ (∀ q ∈ xm_o M, ad' q = ad q ∧ q ∈ xm_o M') ∧ xm_St ad' tS ∧ xm_Ok M' [] v.toList) ∧ va_F (va_A (xm_ws cA ad M) sz) st t
theorem xm_Pc_blind {cA : Nat → ClassId} {D : va_G} {tS : Nat → Nat} {ad : xm_A} {M : xm_M} {as : List xm_V} {sz : Nat} : FrameBlind (xm_Pc cA D tS ad M as sz) := by
  intro a U g mk h
  obtain ⟨h1, h2, h3, h4, h5, h6, h7⟩ := h
  exact ⟨h1, h2, h3, va_K.moved (u := U) (U := U.calling g mk a) (Vm.Alike.refl U.vm) h4, h5, xm_Sx.moved (u := U) (U := U.calling g mk a) (Vm.Alike.refl U.vm) h6, xm_Nx.same (u := U) (U := U.calling g mk a) rfl h7⟩
section XC
variable {p : Program} {l : Launch} {e : Env} {R : Room} {s : State} {m : MethodId} {args : Array Value} {below : List Frame} {meth : Method} {c : Code} {Q : State → Prop}
variable {cc : ByteArray} {nL : Nat} {own : String} {Ts : List Cond} {cA : Nat → ClassId} {D : va_G} {A : Nat → Prop} {tS : Nat → Nat} {ad0 : xm_A} {o0 : List (Nat × Nat)} {G : Nat → xm_S → Prop}
/-- what a call's row gives: any contract of the callee runs here. C: the receiver's class -/
def xm_Call (p : Program) (l : Launch) (e : Env) (R : Room) (s : State) (m : MethodId) (args : Array Value) (below : List Frame) (meth : Method) (c : Code) (nL pc : Nat) (y : MethodName) (wsy : List Cond) (maxL k : Nat) (C : Option String) : Prop :=
  ∀ (rm : Room) (Pc : Array Value → State → Prop) (Qc : Array Value → State → Outcome → State → Prop) (mc ms : Nat) (free : Addr → Prop) (H : Heap) (locs : List Loc) (cells slots : Nat) (ls : Array Slot) (As rest : List Value), Met l y wsy rm Pc Qc mc ms free → rm.cells = mc → rm.slots = ms → rm.frames + 1 ≤ R.frames → 8 + (maxL + 11) + rm.locals ≤ R.locals → FrameBlind Pc →
    (∀ C0, C = some C0 → ∃ b As', As = .ref b :: As' ∧ ∃ cellB : Cell, H[b]? = some cellB ∧ cellB.vm.isStatics = false ∧ s.vm.findClass C0 = some cellB.cls) → (∀ U : State, U.heap = H → s.WarmedH U.vm → Pc As.toArray U) → As.length = k → (rest.map fun v => v.category).sum ≤ 8 → ls.size = nL → cells + mc ≤ R.cells ∧ slots + ms ≤ R.slots →
    va_Run p l e R s m args below meth c H locs cells slots mc ms (F0 m pc ls (As.reverse ++ rest)) rest (Qc As.toArray) free
theorem xm_goodIn {y z : MethodName} {b b' : ByteArray} {n n' : Nat} {r r' : Option FieldType} {us : List Cond} (hz : Cond.code z b' n' r' ∈ xm_W) (hu : ∀ w ∈ us, w ∈ xm_W) : GoodIn (Cond.code y b n r :: xm_W) (us ++ (Cond.code z b' n' r' :: xm_W)) := by
  intro w hw
  have h9 : w ∈ xm_W := by
    rcases List.mem_append.mp hw with h | h
    · exact hu w h
    · rcases List.mem_cons.mp h with rfl | h
      · exact hz
      · exact h
  exact ⟨List.mem_cons_of_mem _ h9, xm_W_good h9⟩
theorem xm_callV {x y : MethodName} {bx by' : ByteArray} {nx ny k pc index : Nat} {rx ry : Option FieldType} {C : String} (S : CallFix p m c cc nL s args (Cond.code x bx nx rx :: xm_W) own) (w1 : Cond.methodLink own index y ∈ xm_W) (w2 : Cond.instanceMethod y ∈ xm_W) (w3 : Cond.selects C y y ∈ xm_W) (w4 : Cond.initialized C ∈ xm_W) (w5 : Cond.code y by' ny ry ∈ xm_W)
    (hd : y.cls = C ∧ y.cls ≠ "java/lang/invoke/MethodHandle" ∧ y.cls ≠ "java/lang/invoke/VarHandle" ∧ (parseMethodDescriptor y.desc).map (fun d => d.parameters.length) = some k) (hdg : decode cc pc = .ok (.invokevirtual index, 3)) : xm_Call p l e R s m args below meth c nL pc y (Cond.code y by' ny ry :: xm_W) ny (k + 1) (some C) := by
  intro rm Pc Qc mc ms free H locs cells slots ls As rest hM h1 h2 h3 h4 hbl hrecv hpre hlen hcat hsz hf
  obtain ⟨b, As', rfl, hc⟩ := hrecv C rfl
  have hg : GoodIn (Cond.code x bx nx rx :: xm_W) (wsV own index C y (Cond.code y by' ny ry :: xm_W)) := xm_goodIn w5 (fun w hw => by
    simp only [List.mem_cons, List.not_mem_nil, or_false] at hw
    rcases hw with rfl | rfl | rfl | rfl
    · exact w1
    · exact w2
    · exact w3
    · exact w4)
  have := va_runV (As := As') (rest := rest) (g := F0 m pc ls (As'.reverse ++ .ref b :: rest)) (H := H) (e := e) (R := R) (below := below) (meth := meth) (locs := locs) (cells := cells) (slots := slots) S hM (cwV k S.2.2.2.2 hg rfl h1 h2 hd ⟨h3, h4⟩) ⟨hbl, hc, hpre⟩ rfl (by simpa using hlen) hsz rfl (lv_room hcat) hdg hf
  rw [List.reverse_cons, List.append_assoc]
  exact this
theorem xm_callS {x y : MethodName} {bx by' : ByteArray} {nx ny k pc index : Nat} {rx ry : Option FieldType} (S : CallFix p m c cc nL s args (Cond.code x bx nx rx :: xm_W) own) (w1 : Cond.methodLink own index y ∈ xm_W) (w2 : Cond.static y ∈ xm_W) (w4 : Cond.initialized y.cls ∈ xm_W) (w5 : Cond.code y by' ny ry ∈ xm_W)
    (hd : y.cls ≠ "java/lang/invoke/MethodHandle" ∧ y.cls ≠ "java/lang/invoke/VarHandle" ∧ (parseMethodDescriptor y.desc).map (fun d => d.parameters.length) = some k) (hdg : decode cc pc = .ok (.invokestatic index, 3)) : xm_Call p l e R s m args below meth c nL pc y (Cond.code y by' ny ry :: xm_W) ny k none := by
  intro rm Pc Qc mc ms free H locs cells slots ls As rest hM h1 h2 h3 h4 hbl hrecv hpre hlen hcat hsz hf
  have hg : GoodIn (Cond.code x bx nx rx :: xm_W) (va_wsS own index y (Cond.code y by' ny ry :: xm_W)) := xm_goodIn w5 (fun w hw => by
    simp only [List.mem_cons, List.not_mem_nil, or_false] at hw
    rcases hw with rfl | rfl | rfl
    · exact w1
    · exact w2
    · exact w4)
  exact va_runS (As := As) (rest := rest) (g := F0 m pc ls (As.reverse ++ rest)) S hM (va_cwS k S.2.2.2.2 hg rfl h1 h2 hd ⟨h3, h4⟩) ⟨hbl, hpre⟩ rfl hlen hsz rfl (lv_room hcat) hdg hf
theorem xm_callI {x y : MethodName} {bx by' : ByteArray} {nx ny k pc index : Nat} {rx : Option FieldType} {C : String} (S : CallFix p m c cc nL s args (Cond.code x bx nx rx :: xm_W) own) (w1 : Cond.methodLink own index y ∈ xm_W) (w2 : Cond.instanceMethod y ∈ xm_W) (w4 : Cond.initialized y.cls ∈ xm_W) (w5 : Cond.code y by' ny none ∈ xm_W) (hy : y.name = "<init>")
    (hd : y.cls ≠ "java/lang/invoke/MethodHandle" ∧ y.cls ≠ "java/lang/invoke/VarHandle" ∧ (parseMethodDescriptor y.desc).map (fun d => d.parameters.length) = some k) (hdg : decode cc pc = .ok (.invokespecial index, 3)) : xm_Call p l e R s m args below meth c nL pc y (Cond.code y by' ny none :: xm_W) ny (k + 1) (some C) := by
  intro rm Pc Qc mc ms free H locs cells slots ls As rest hM h1 h2 h3 h4 hbl hrecv hpre hlen hcat hsz hf
  obtain ⟨b, As', rfl, hc⟩ := hrecv C rfl
  have hg : GoodIn (Cond.code x bx nx rx :: xm_W) (Cond.code y by' ny none :: xm_W) := xm_goodIn (us := []) w5 (fun w hw => by cases hw)
  have hb : ∀ w ∈ xm_W, w.before args s = true := fun w hw => S.2.2.2.2 w (List.mem_cons_of_mem _ hw)
  have := va_runI (As := As') (rest := rest) (b := b) (g := F0 m pc ls (As'.reverse ++ .ref b :: rest)) (H := H) (e := e) (R := R) (below := below) (meth := meth) (locs := locs) (cells := cells) (slots := slots) S hM (cwI k S.2.2.2.2 hg rfl h1 h2 (hb _ w4) (hb _ w1) (hb _ w2) hy hd ⟨h3, h4⟩) ⟨hbl, hpre⟩ rfl (by simpa using hlen) hsz rfl (lv_room hcat) hdg hf
  rw [List.reverse_cons, List.append_assoc]
  exact this
theorem xm_callIN {x y : MethodName} {bx by' : ByteArray} {nx ny k pc index : Nat} {rx : Option FieldType} {C host : String} (S : CallFix p m c cc nL s args (Cond.code x bx nx rx :: xm_W) own) (w1 : va_Nw (.methodLinkNest own index y host) s) (w2 : Cond.instanceMethod y ∈ xm_W) (w4 : Cond.initialized y.cls ∈ xm_W) (w5 : Cond.code y by' ny none ∈ xm_W) (hy : y.name = "<init>")
    (hd : y.cls ≠ "java/lang/invoke/MethodHandle" ∧ y.cls ≠ "java/lang/invoke/VarHandle" ∧ (parseMethodDescriptor y.desc).map (fun d => d.parameters.length) = some k) (hdg : decode cc pc = .ok (.invokespecial index, 3)) : xm_Call p l e R s m args below meth c nL pc y (Cond.code y by' ny none :: xm_W) ny (k + 1) (some C) := by
  intro rm Pc Qc mc ms free H locs cells slots ls As rest hM h1 h2 h3 h4 hbl hrecv hpre hlen hcat hsz hf
  obtain ⟨b, As', rfl, hc⟩ := hrecv C rfl
  have hg : GoodIn (Cond.code x bx nx rx :: xm_W) (Cond.code y by' ny none :: xm_W) := xm_goodIn (us := []) w5 (fun w hw => by cases hw)
  have hb : ∀ w ∈ xm_W, w.before args s = true := fun w hw => S.2.2.2.2 w (List.mem_cons_of_mem _ hw)
  have := va_runIN (As := As') (rest := rest) (b := b) (g := F0 m pc ls (As'.reverse ++ .ref b :: rest)) (H := H) (e := e) (R := R) (below := below) (meth := meth) (locs := locs) (cells := cells) (slots := slots) S hM ⟨va_cnB k S.2.2.2.2 hg rfl h1 h2 w1 (hb _ w4) hd ⟨h3, h4⟩, hy, hb _ w2⟩ ⟨hbl, hpre⟩ rfl (by simpa using hlen) hsz rfl (lv_room hcat) hdg hf
  rw [List.reverse_cons, List.append_assoc]
  exact this
theorem xm_rv_agree {ad ad' : xm_A} {tS : Nat → Nat} {M : xm_M} {v : xm_V} (h : ∀ q ∈ xm_o M, ad' q = ad q) (ha : xm_St ad tS) (ha' : xm_St ad' tS) (hv : xm_vok M v) : xm_rv ad' v = xm_rv ad v := by
  rcases v with x | x | r
  · rfl
  · rfl
  · cases r with
    | none => rfl
    | some q =>
      show va_rf (some (ad' q)) = va_rf (some (ad q))
      rcases hv with h9 | h9
      · rw [h q h9]
      · rw [ha q h9, ha' q h9]
end XC
end
section
/-! A CALL in the calculus is a call of the machine; a method's table gives its contract -/
section XD
variable {p : Program} {l : Launch} {e : Env} {R : Room} {s : State} {m : MethodId} {args : Array Value} {below : List Frame} {meth : Method} {c : Code} {Q : State → Prop}
variable {cc : ByteArray} {nL : Nat} {own : String} {Ts : List Cond} {cA : Nat → ClassId} {D : va_G} {A : Nat → Prop} {tS : Nat → Nat} {ad0 : xm_A} {o0 : List (Nat × Nat)} {G : Nat → xm_S → Prop}
theorem xm_goes {H : Heap} {locs : List Loc} {cells slots mc ms pc : Nat} {ls : Array Slot} {st0 rest : List Value} {ad : xm_A} {M M' : xm_M} {v : Option xm_V} {a : Array Value} {free : Addr → Prop} (hr : va_Run p l e R s m args below meth c H locs cells slots mc ms (F0 m pc ls st0) rest (xm_Qc cA D tS ad M H.size v M' a) free) (hS : va_S A s.heap H locs) (hA : ∀ q, va_A (xm_ws cA ad M) H.size q → A q) (hf : ∀ q, free q → A q)
    (kk : ∀ (ad' : xm_A) (H1 : Heap) (locs1 : List Loc), va_P D vwCl (xm_ws cA ad' M') H1 → va_D (va_A (xm_ws cA ad M) H.size) (xm_ws cA ad' M') → (∀ q ∈ xm_o M, ad' q = ad q ∧ q ∈ xm_o M') → xm_St ad' tS → xm_Ok M' [] v.toList → va_S A s.heap H1 locs1 → W p l e R s m args below meth c H1 locs1 (cells + mc) (slots + ms) Q (F0 m (pc + 3) ls ((v.map (xm_rv ad')).toList ++ rest))) : W p l e R s m args below meth c H locs cells slots Q (F0 m pc ls st0) := by
  intro T hT X
  obtain ⟨v', st₀, t, T', L, h0, X', hL, e1, e2, ⟨⟨ad', hv, hP, hD, hq, hs, hok⟩, hz, hk⟩, st⟩ := hr T hT X
  have hv' : v' = v.map (xm_rv ad') := by
    have := hv
    injection this
  subst hv'
  rw [h0] at hz hk
  obtain ⟨t2, a1, b1⟩ := kk ad' T'.heap (locs ++ L) (by rw [e1]; exact hP) hD hq hs hok
    ⟨Nat.le_trans hS.1 (by rw [e1]; exact hz), fun q h1 h2 => by rw [e1, hk q (Nat.lt_of_lt_of_le h1 hS.1) (fun z => h2 (hA q z))]; exact hS.2.1 q h1 h2, fun q hq => by
      rcases List.mem_append.mp hq with h | h
      · exact hS.2.2 q h
      · exact hf _ (hL q h)⟩ T' rfl X'
  exact ⟨t2, st t2 a1, b1⟩
def xm_SndC (R : Room) (G : Nat → xm_S → Prop) (cal : xm_Cal) (pc mi k t : Nat) : Prop := ∀ lv as rest M kc ks v M1 mc ms, as.length = k → xm_rc t as → (rest.map xm_cat).sum ≤ 8 → cal mi as M v M1 mc ms → kc + mc ≤ R.cells → ks + ms ≤ R.slots → G (pc + 3) (lv, v.toList ++ rest, M1, kc + mc, ks + ms) → G pc (lv, as.reverse ++ rest, M, kc, ks)
theorem xm_sndC (hG : xm_IsG p l e R s m args below meth c Q cA D A tS nL ad0 o0 G) (hC : xm_Cx p s m args c cc nL own Ts cA D A tS) {cal : xm_Cal} {pc mi k t maxL d : Nat} {y : MethodName} {wsy : List Cond} {C : Option String} (hc : xm_Call p l e R s m args below meth c nL pc y wsy maxL k C) (hR : d + 1 ≤ R.frames) (hL : 8 + (maxL + 11) + 40 * d ≤ R.locals)
    (hCt : ∀ C0, C = some C0 → ∃ ci q ts, 0 < t ∧ t ≤ 21 ∧ xm_kd (t - 1) = (0, ci, ts) ∧ vwCl[ci]? = some q ∧ q.1 = C0)
    (hcal : ∀ as M v M1 mc ms, cal mi as M v M1 mc ms → ∀ (ad : xm_A) (sz : Nat), xm_Ok M [] as → xm_St ad tS → Met l y wsy (xm_room d mc ms) (xm_Pc cA D tS ad M as sz) (xm_Qc cA D tS ad M sz v M1) mc ms (va_A (xm_ws cA ad M) sz)) : xm_SndC R G cal pc mi k t := by
  intro lv as rest M kc ks v M1 mc ms hk ht hcat hcl hcell hslot kk
  refine (hG _ _).mpr fun ad H locs ls hA => ?_
  obtain ⟨q1, q2, q3, q4, q5, q6, q7⟩ := id hA
  obtain ⟨hx, hb, hml, hown, hts, hK, hA0, hSx, hNx⟩ := hC
  have hokA : xm_Ok M [] as := ⟨(fun x hx => by cases hx), fun w hw => q5.2.1 w (List.mem_append_left _ (List.mem_reverse.mpr hw)), q5.2.2⟩
  have hFc : ∀ q, va_A (xm_ws cA ad M) H.size q → A q := by
    intro q hq
    rcases hq with ⟨j, E, h9⟩ | h9
    · exact q2.2 j _ h9
    · exact hA0 q (Nat.le_trans q3.1 h9)
  have hrun := hc (xm_room d mc ms) _ _ mc ms _ H locs kc ks ls (as.map (xm_rv ad)) (rest.map (xm_rv ad)) (hcal as M v M1 mc ms hcl ad H.size hokA q6) rfl rfl hR hL xm_Pc_blind (fun C0 hC0 => by
      obtain ⟨ci, qc, ts, ht0, ht1, hkd, hvc, hcn⟩ := hCt C0 hC0
      rcases ht with h9 | ⟨i, r, rfl⟩
      · omega
      · have hq : (t - 1, i) ∈ xm_o M := by
          rcases q5.2.1 (xm_r (t - 1) i) (List.mem_append_left _ (List.mem_reverse.mpr List.mem_cons_self)) with h9 | h9
          · exact h9
          · exact absurd h9 (by show ¬ 21 ≤ t - 1; omega)
        obtain ⟨j, hj, hw⟩ := xm_in (cA := cA) (ad := ad) hq
        rw [xm_obj (q := (t - 1, i)) hkd] at hw
        refine ⟨ad (t - 1, i), r.map (xm_rv ad), rfl, ?_⟩
        rw [← hcn]
        exact va_recv hK q1 hvc hw) (fun U hU hW => ⟨rfl, by rw [hU], by rw [hU]; exact q1, va_K.moved hW.alike hK, q2.weaken (fun _ _ _ _ => trivial), by rw [hU]; exact xm_Sx.moved hW.alike ((hSx.kept q3.2.1).narrow hFc), hNx.warm hW⟩) (by rw [List.length_map]; exact hk) (by rw [xm_cat_sum]; exact hcat) q4.1 ⟨hcell, hslot⟩
  rw [List.map_append, List.map_reverse]
  refine xm_goes hrun q3 hFc (fun q h9 => hFc q h9) fun ad' H1 locs1 p1 p2 p3 p4 p5 p6 => ?_
  have hag : ∀ w, xm_vok M w → xm_rv ad' w = xm_rv ad w := fun w hw => xm_rv_agree (fun q hq => (p3 q hq).1) q6 p4 hw
  have hvo : ∀ w, xm_vok M w → xm_vok M1 w := fun w hw => by
    unfold xm_vok at hw ⊢
    split
    · exact hw.imp (fun h9 => (p3 _ h9).2) id
    · trivial
  have hst : (v.map (xm_rv ad')).toList ++ rest.map (xm_rv ad) = (v.toList ++ rest).map (xm_rv ad') := by
    rw [List.map_append]
    congr 1
    · cases v <;> rfl
    · exact (List.map_congr_left fun w hw => hag w (q5.2.1 w (List.mem_append_right _ hw))).symm
  rw [hst]
  refine (hG _ _).mp kk ad' H1 locs1 ls ⟨p1, p2.weaken (fun _ _ _ h9 => hFc _ h9), p6, ?_, ⟨fun x hx => hvo _ (q5.1 x hx), fun w hw => ?_, p5.2.2⟩, p4, fun q hq => ?_⟩
  · rw [show lv.map (fun q => (q.1, xm_rv ad' q.2)) = lv.map (fun q => (q.1, xm_rv ad q.2)) from List.map_congr_left fun x hx => by rw [hag _ (q5.1 x hx)]]
    exact q4
  · rcases List.mem_append.mp hw with h9 | h9
    · exact p5.2.1 w h9
    · exact hvo _ (q5.2.1 w (List.mem_append_right _ h9))
  · obtain ⟨h8, h9⟩ := q7 q hq
    exact ⟨by rw [(p3 q h9).1]; exact h8, (p3 q h9).2⟩
/-- n steps of the calculus -/
theorem xm_sound {cal : xm_Cal} {tb : xm_T} (h1 : ∀ pc f, xm_at tb pc = some (.inl f) → xm_Snd R G pc f) (h2 : ∀ pc mi k t, xm_at tb pc = some (.inr (.inl (mi, k, t))) → xm_SndC R G cal pc mi k t) :
    ∀ (n pc : Nat) (S : xm_S) (pc' : Nat) (S' : xm_S), xm_Rn cal tb n pc S pc' S' → S'.2.2.2.1 ≤ R.cells → S'.2.2.2.2 ≤ R.slots → (S.2.2.2.1 ≤ S'.2.2.2.1 ∧ S.2.2.2.2 ≤ S'.2.2.2.2) ∧ (G pc' S' → G pc S) := by
  intro n
  induction n with
  | zero =>
    intro pc S pc' S' h _ _
    obtain ⟨rfl, rfl, -⟩ := h
    exact ⟨⟨Nat.le_refl _, Nat.le_refl _⟩, id⟩
  | succ n ih =>
    intro pc S pc' S' h hc hs
    rcases h with ⟨f, pc1, S1, ha, hf, hr⟩ | ⟨mi, k, t, lv, as, rest, M, kc, ks, v, M1, mc, ms, ha, rfl, hk, ht, hcat, hcl, hr⟩
    · obtain ⟨⟨i1, i2⟩, i3⟩ := ih pc1 S1 pc' S' hr hc hs
      obtain ⟨⟨j1, j2⟩, j3⟩ := h1 pc f ha S pc1 S1 hf
      exact ⟨⟨Nat.le_trans j1 i1, Nat.le_trans j2 i2⟩, fun g => j3 (Nat.le_trans i1 hc) (Nat.le_trans i2 hs) (i3 g)⟩
    · obtain ⟨⟨i1, i2⟩, i3⟩ := ih _ _ pc' S' hr hc hs
      dsimp only at i1 i2 ⊢
      exact ⟨⟨Nat.le_trans (Nat.le_add_right _ _) i1, Nat.le_trans (Nat.le_add_right _ _) i2⟩, fun g => h2 pc mi k t ha lv as rest M kc ks v M1 mc ms hk ht hcat hcl (Nat.le_trans i1 hc) (Nat.le_trans i2 hs) (i3 g)⟩
end XD
theorem xm_args {ad : xm_A} : ∀ (as : List xm_V) (k : Nat), lv_args k (as.map (xm_rv ad)) = (xm_en k as).map (fun q => (q.1, xm_rv ad q.2)) := by
  intro as
  induction as with
  | nil => intro k; rfl
  | cons v r ih =>
    intro k
    show (k, xm_rv ad v) :: lv_args (if (xm_rv ad v).category = 2 then k + 2 else k + 1) (r.map (xm_rv ad)) = (k, xm_rv ad v) :: (xm_en (k + xm_cat v) r).map _
    rw [xm_rv_cat]
    congr 1
    rw [← ih]
    congr 1
    rcases v with x | x | x <;> rfl
theorem xm_sl {ad : xm_A} : ∀ (as : List xm_V), (lg_sl (as.map (xm_rv ad))).length = (as.map xm_cat).sum := by
  intro as
  induction as with
  | nil => rfl
  | cons v r ih =>
    show (List.flatMap _ (xm_rv ad v :: r.map (xm_rv ad))).length = _
    rw [List.flatMap_cons, List.length_append, List.map_cons, List.sum_cons]
    congr 1
    rcases v with x | x | x
    · rfl
    · rfl
    · cases x <;> rfl
theorem xm_en_ok {M : xm_M} : ∀ (as : List xm_V) (k : Nat), (∀ v ∈ as, xm_vok M v) → ∀ x ∈ xm_en k as, xm_vok M x.2 := by
  intro as
  induction as with
  | nil => intro k _ x hx; cases hx
  | cons v r ih =>
    intro k h x hx
    rcases List.mem_cons.mp hx with rfl | hx
    · exact h _ List.mem_cons_self
    · exact ih _ (fun w hw => h w (List.mem_cons_of_mem _ hw)) x hx
end
section
/-! A METHOD's TABLE GIVES ITS CONTRACT; all methods at once, by the depth of calls -/
def xm_Stop (cc : ByteArray) (ret : Option FieldType) (pc k : Nat) : Prop := match k with
  | 0 => decode cc pc = .ok (.return_, 1) ∧ ret = none
  | 1 => decode cc pc = .ok (.ireturn, 1) ∧ ret = some .int
  | 2 => decode cc pc = .ok (.lreturn, 1) ∧ ret = some .long
  | 3 => decode cc pc = .ok (.areturn, 1) ∧ ∃ n, ret = some (.object n)
  | 4 => decode cc pc = .ok (.ireturn, 1) ∧ ret = some .boolean
  | _ => True
abbrev xm_PM : Type := Nat → MethodName × ByteArray × Nat × Option FieldType
abbrev xm_wm (pm : xm_PM) (mi : Nat) : List Cond := Cond.code (pm mi).1 (pm mi).2.1 (pm mi).2.2.1 (pm mi).2.2.2 :: xm_W
/-- the contracts of all methods, to a depth -/
def xm_All (pg : Nat → Nat × xm_T) (pm : xm_PM) (l : Launch) (cA : Nat → ClassId) (D : va_G) (tS : Nat → Nat) (d : Nat) : Prop := ∀ mi as M v M1 mc ms, xm_Do pg d mi as M v M1 mc ms → ∀ (ad : xm_A) (sz : Nat), xm_Ok M [] as → xm_St ad tS → Met l (pm mi).1 (xm_wm pm mi) (xm_room d mc ms) (xm_Pc cA D tS ad M as sz) (xm_Qc cA D tS ad M sz v M1) mc ms (va_A (xm_ws cA ad M) sz)
def xm_Ent (R : Room) (G : Nat → xm_S → Prop) (cal : xm_Cal) (pc : Nat) (e : xm_E) : Prop := match e with
  | .inl f => xm_Snd R G pc f
  | .inr (.inl (mi, k, t)) => xm_SndC R G cal pc mi k t
  | .inr (.inr _) => True
def xm_Oks (P : Nat → xm_E → Prop) : xm_T → Prop
  | [] => True
  | q :: r => P q.1 q.2 ∧ xm_Oks P r
theorem xm_Oks.of {P : Nat → xm_E → Prop} : ∀ {tb : xm_T} {pc : Nat} {e : xm_E}, xm_Oks P tb → xm_at tb pc = some e → P pc e := by
  intro tb
  induction tb with
  | nil => intro pc e _ h; cases h
  | cons q r ih =>
    intro pc e h h1
    obtain ⟨q1, q2⟩ := q
    unfold xm_at at h1
    split at h1
    · rename_i h2
      cases h1
      subst h2
      exact h.1
    · exact ih h.2 h1
/-- what is to be shown of each method's table -/
def xm_MOk (pg : Nat → Nat × xm_T) (pm : xm_PM) (mi : Nat) : Prop := plainName (pm mi).1.cls = true ∧ (pg mi).1 = (pm mi).2.2.1 ∧ xm_Oks (fun pc e => match e with | .inr (.inr k) => xm_Stop (pm mi).2.1 (pm mi).2.2.2 pc k | _ => True) (pg mi).2 ∧
  ∀ (d mc ms : Nat) (p : Program) (l : Launch) (e : Env) (s : State) (m : MethodId) (args : Array Value) (below : List Frame) (meth : Method) (c : Code) (Q : State → Prop) (cA : Nat → ClassId) (D : va_G) (A : Nat → Prop) (tS : Nat → Nat) (ad0 : xm_A) (o0 : List (Nat × Nat)) (G : Nat → xm_S → Prop), xm_IsG p l e (xm_room (d + 1) mc ms) s m args below meth c Q cA D A tS (pm mi).2.2.1 ad0 o0 G → xm_Cx p s m args c (pm mi).2.1 (pm mi).2.2.1 (pm mi).1.cls (xm_wm pm mi) cA D A tS → meth.name = (pm mi).1.name → xm_All pg pm l cA D tS d → xm_Oks (xm_Ent (xm_room (d + 1) mc ms) G (xm_Do pg d)) (pg mi).2
theorem xm_narZ {v : Int32} (h : v = 0 ∨ v = 1) : narrow .boolean (.int v) = .int v := by
  rcases h with rfl | rfl <;> rfl
theorem xm_all {pg : Nat → Nat × xm_T} {pm : xm_PM} (hok : ∀ mi, xm_MOk pg pm mi) (l : Launch) (cA : Nat → ClassId) (D : va_G) (tS : Nat → Nat) : ∀ d, xm_All pg pm l cA D tS d := by
  intro d
  induction d with
  | zero =>
    intro mi as M v M1 mc ms h
    exact h.elim
  | succ d ih =>
    intro mi as M v M1 mc ms h ad sz hokA hst
    obtain ⟨hlen, pc, lv, st, k, ⟨n, hRn⟩, hstop, hret⟩ := h
    obtain ⟨hy, hnl, hstops, htab⟩ := hok mi
    have hS9 := hstops.of hstop
    dsimp only at hS9
    refine Met.ofW (cc := (pm mi).2.1) (maxL := (pm mi).2.2.1) (ret := (pm mi).2.2.2) hy rfl ?_
    intro p e s m args below meth c s₁ B hml hv
    obtain ⟨rfl, hsz, hP, hK, hD0, hSx, hNx⟩ := hv
    have hx := B.exec
    have hb := B.bytes
    have hr := B.returns
    have hts := atoms_spec (ws := xm_wm pm mi) B.pre
    have hown : s.vm.findClass (pm mi).1.cls = some m.cls := findClass_of_methodNamed B.named
    have hlocks := B.notSynchronized
    have hin : meth.name = (pm mi).1.name := (name_of_methodNamed B.named B.method).1
    subst hsz
    have hD := hD0.self (sz := s.heap.size)
    obtain ⟨A, hAe⟩ : ∃ A, A = va_A (xm_ws cA ad M) s.heap.size := ⟨_, rfl⟩
    rw [← hAe] at hD hSx ⊢
    have hA : ∀ q : Nat, s.heap.size ≤ q → A q := fun q h => by rw [hAe]; exact Or.inr h
    have hS : va_S A s.heap s.heap [] := va_S.rf
    have hl := lv_entry (as.map (xm_rv ad)) (n := (pm mi).2.2.1) (by rw [xm_sl, ← hnl]; exact hlen)
    rw [lg_entry_eq]
    generalize (lg_sl (as.map (xm_rv ad)) ++ List.replicate ((pm mi).2.2.1 - (lg_sl (as.map (xm_rv ad))).length) Slot.unset).toArray = ls at hl ⊢
    rw [xm_args] at hl
    have hC : xm_Cx p s m (as.map (xm_rv ad)).toArray c (pm mi).2.1 (pm mi).2.2.1 (pm mi).1.cls (xm_wm pm mi) cA D A tS := ⟨hx, hb, hml, hown, hts, hK, hA, hSx, hNx⟩
    obtain ⟨G, hG⟩ : ∃ G : Nat → xm_S → Prop, xm_IsG p l e (xm_room (d + 1) mc ms) s m (as.map (xm_rv ad)).toArray below meth c (MQ below (xm_Qc cA D tS ad M s.heap.size v M1) (as.map (xm_rv ad)).toArray s mc ms A) cA D A tS (pm mi).2.2.1 ad (xm_o M) G := ⟨_, fun pc S => Iff.rfl⟩
    have hT := htab d mc ms p l e s m _ below meth c _ cA D A tS ad (xm_o M) G hG hC hin ih
    have key := (xm_sound (R := xm_room (d + 1) mc ms) (G := G) (cal := xm_Do pg d) (tb := (pg mi).2) (fun pc f h9 => hT.of h9) (fun pc mi' k t h9 => hT.of h9) n 0 _ pc _ hRn (Nat.le_refl _) (Nat.le_refl _)).2
    have hend : G pc (lv, st, M1, mc, ms) := by
      refine (hG _ _).mpr fun ad' H locs ls hA9 => ?_
      obtain ⟨q1, q2, q3, q4, q5, q6, q7⟩ := hA9
      have hq9 : ∀ (w : Option xm_V), xm_Ok M1 [] w.toList → ∀ t : State, t.heap = H → s.WarmedH t.vm → v = w → xm_Qc cA D tS ad M s.heap.size v M1 (as.map (xm_rv ad)).toArray s (.returned (w.map (xm_rv ad'))) t := by
        intro w hw t ht hW e9
        subst e9
        exact ⟨⟨ad', rfl, by rw [ht]; exact q1, by rw [← hAe]; exact q2, q7, q6, hw⟩, by rw [← hAe]; exact q3.F ht⟩
      have hok1 : ∀ w, w ∈ st → xm_Ok M1 [] [w] := fun w hw => ⟨(fun x hx => by cases hx), (fun x hx => by rw [List.mem_singleton.mp hx]; exact q5.2.1 w hw), q5.2.2⟩
      have hok0 : xm_Ok M1 [] [] := ⟨(fun x hx => by cases hx), (fun x hx => by cases hx), q5.2.2⟩
      unfold xm_ret at hret
      split at hret
      · obtain ⟨rfl, hv⟩ := hret
        exact W.vret hx hb (hr.trans hS9.2) (fun t ht hW => hq9 none hok0 t ht hW hv) q3.2.2 hS9.1
      · obtain ⟨x, rfl, hv⟩ := hret
        exact W.iret hx hb (hr.trans hS9.2) (fun t ht hW => hq9 (some (xm_i x)) (hok1 _ List.mem_cons_self) t ht hW hv) q3.2.2 hS9.1
      · obtain ⟨x, rfl, hv⟩ := hret
        exact W.lret hx hb (hr.trans hS9.2) (fun t ht hW => hq9 (some (xm_l x)) (hok1 _ List.mem_cons_self) t ht hW hv) q3.2.2 hS9.1
      · obtain ⟨c9, i9, rfl, hv⟩ := hret
        obtain ⟨h8, n9, h7⟩ := hS9
        exact W.aret hx hb (hr.trans h7) (Or.inl ⟨n9, rfl⟩) (Or.inr ⟨ad' (c9, i9), rfl⟩) (fun t ht hW => hq9 (some (xm_r c9 i9)) (hok1 _ List.mem_cons_self) t ht hW hv) q3.2.2 h8
      · obtain ⟨x, hx01, rfl, hv⟩ := hret
        exact W.zret hx hb (hr.trans hS9.2) (xm_narZ hx01) (fun t ht hW => hq9 (some (xm_i x)) (hok1 _ List.mem_cons_self) t ht hW hv) q3.2.2 hS9.1
      · exact hret.elim
    exact (hG _ _).mp (key hend) ad s.heap [] ls ⟨hP, hD, hS, hl, ⟨xm_en_ok _ _ hokA.2.1, (fun x hx => by cases hx), hokA.2.2⟩, hst, fun q hq => ⟨rfl, hq⟩⟩
end
section
/-! ROWS for the tables: what several instructions share -/
theorem xm_Oks.step {R : Room} {G : Nat → xm_S → Prop} {cal : xm_Cal} {pc : Nat} {f : xm_F} {r : xm_T} (h : xm_Snd R G pc f) (k : xm_Oks (xm_Ent R G cal) r) : xm_Oks (xm_Ent R G cal) ((pc, .inl f) :: r) := ⟨h, k⟩
theorem xm_Oks.call {R : Room} {G : Nat → xm_S → Prop} {cal : xm_Cal} {pc mi n t : Nat} {r : xm_T} (h : xm_SndC R G cal pc mi n t) (k : xm_Oks (xm_Ent R G cal) r) : xm_Oks (xm_Ent R G cal) ((pc, .inr (.inl (mi, n, t))) :: r) := ⟨h, k⟩
theorem xm_Oks.stop {R : Room} {G : Nat → xm_S → Prop} {cal : xm_Cal} {pc n : Nat} {r : xm_T} (k : xm_Oks (xm_Ent R G cal) r) : xm_Oks (xm_Ent R G cal) ((pc, .inr (.inr n)) :: r) := ⟨trivial, k⟩
def xs_cast (n : Nat) : xm_F := fun S => match S.2.1 with
  | .inr (.inr (some q)) :: _ => if (xm_kd q.1).1 = 1 then some (n, S) else none
  | _ => none
def xm_cl (M : xm_M) : xm_M := ((fun c k i => if c = 6 ∧ i = xm_cnt 6 (xm_o M) then xm_tb 2 k else M.1 c k i), (xm_nw M 6 7).2)
/-- the table AT_FIRST cloned -/
def xs_clone (n : Nat) : xm_F := fun S => match S.2.1 with
  | .inr (.inr (some q)) :: r => if q = (23, 0) ∧ (6, xm_cnt 6 (xm_o S.2.2.1)) ∉ xm_o S.2.2.1 then some (n, S.1, .inr (.inr (some (6, xm_cnt 6 (xm_o S.2.2.1)))) :: r, xm_cl S.2.2.1, S.2.2.2.1 + 1, S.2.2.2.2 + 7) else none
  | _ => none
section XR
variable {p : Program} {l : Launch} {e : Env} {R : Room} {s : State} {m : MethodId} {args : Array Value} {below : List Frame} {meth : Method} {c : Code} {Q : State → Prop}
variable {cc : ByteArray} {nL : Nat} {own : String} {Ts : List Cond} {cA : Nat → ClassId} {D : va_G} {A : Nat → Prop} {tS : Nat → Nat} {ad0 : xm_A} {o0 : List (Nat × Nat)} {G : Nat → xm_S → Prop}
theorem xr_alen (hx : p.tables.exec = Jvm.exec) (hb : c.code = cc) (hK : va_K D vwCl (xm_tys cA) s) {pc : Nat} (hdg : decode cc pc = .ok (.arraylength, 1)) (H : Heap) (locs : List Loc) (cells slots : Nat) (ls : Array Slot) (rest : List Value) (q0 t : Nat) (ws : va_W) (a N : Nat) (z : (Nat → Int32) ⊕ (Nat → Int64) ⊕ (Nat → UInt32) ⊕ (Nat → UInt64) ⊕ (Nat → Option Nat)) (hP : va_P D vwCl ws H) (hw : ws[q0]? = some (a, .inl (cA t, N, z))) (h1 : 1 ≤ t) (h5 : t ≤ 5) (k : W p l e R s m args below meth c H locs cells slots Q (F0 m (pc + 1) ls (.int (Int32.ofNat N) :: rest))) : W p l e R s m args below meth c H locs cells slots Q (F0 m pc ls (.ref a :: rest)) := by
  rcases (show t = 1 ∨ t = 2 ∨ t = 3 ∨ t = 4 ∨ t = 5 by omega) with rfl | rfl | rfl | rfl | rfl
  · exact va_alen hx hb hK hP q0 1 hw rfl rfl hdg k
  · exact va_alen hx hb hK hP q0 2 hw rfl rfl hdg k
  · exact va_alen hx hb hK hP q0 3 hw rfl rfl hdg k
  · exact va_alen hx hb hK hP q0 4 hw rfl rfl hdg k
  · exact va_alen hx hb hK hP q0 5 hw rfl rfl hdg k
theorem xr_newI (hx : p.tables.exec = Jvm.exec) (hb : c.code = cc) (hK : va_K D vwCl (xm_tys cA) s) (hA : ∀ q : Nat, s.heap.size ≤ q → A q) (harr : (Cond.arrayClass .int).before args s = true) {pc : Nat} (hdg : decode cc pc = .ok (.newarray .int, 2)) (H : Heap) (locs : List Loc) (cells slots : Nat) (ls : Array Slot) (rest : List Value) (ws : va_W) (x : Int32) (N : Nat) (hP : va_P D vwCl ws H) (hD : va_D A ws) (hS : va_S A s.heap H locs) (hN : x.toNatClampNeg = N) (hn0 : ¬ x < 0) (hle : N ≤ 1000) (h1 : cells + 1 ≤ R.cells) (h2 : slots + N ≤ R.slots)
    (k : ∀ (q : Nat) (H1 : Heap), va_P D vwCl (ws ++ [(q, .inl (cA 1, N, .inl (fun _ => 0)))]) H1 → va_D A (ws ++ [(q, .inl (cA 1, N, .inl (fun _ => 0)))]) → va_S A s.heap H1 locs → W p l e R s m args below meth c H1 locs (cells + 1) (slots + N) Q (F0 m (pc + 2) ls (.ref q :: rest))) : W p l e R s m args below meth c H locs cells slots Q (F0 m pc ls (.int x :: rest)) := by
  refine va_newa (atype := .int) (ty := .int) (a0 := (N, .inl fun _ => 0)) hx hb harr rfl hK hP hD hS hA (fun _ => rfl) hn0 hN (by show N * 4 ≤ _; omega) h1 h2 hdg fun q cB H1 hK' p1 p2 p3 => ?_
  have h9 : cB = cA 1 := Option.some.inj ((hK'.2 6 (cB, .int) rfl).2.symm.trans (hK.2 1 (cA 1, .int) rfl).2)
  subst h9
  exact k q H1 p1 p2 p3
theorem xr_newL (hx : p.tables.exec = Jvm.exec) (hb : c.code = cc) (hK : va_K D vwCl (xm_tys cA) s) (hA : ∀ q : Nat, s.heap.size ≤ q → A q) (harr : (Cond.arrayClass .long).before args s = true) {pc : Nat} (hdg : decode cc pc = .ok (.newarray .long, 2)) (H : Heap) (locs : List Loc) (cells slots : Nat) (ls : Array Slot) (rest : List Value) (ws : va_W) (x : Int32) (N : Nat) (hP : va_P D vwCl ws H) (hD : va_D A ws) (hS : va_S A s.heap H locs) (hN : x.toNatClampNeg = N) (hn0 : ¬ x < 0) (hle : N ≤ 1000) (h1 : cells + 1 ≤ R.cells) (h2 : slots + N ≤ R.slots)
    (k : ∀ (q : Nat) (H1 : Heap), va_P D vwCl (ws ++ [(q, .inl (cA 2, N, .inr (.inl (fun _ => 0))))]) H1 → va_D A (ws ++ [(q, .inl (cA 2, N, .inr (.inl (fun _ => 0))))]) → va_S A s.heap H1 locs → W p l e R s m args below meth c H1 locs (cells + 1) (slots + N) Q (F0 m (pc + 2) ls (.ref q :: rest))) : W p l e R s m args below meth c H locs cells slots Q (F0 m pc ls (.int x :: rest)) := by
  refine va_newa (atype := .long) (ty := .long) (a0 := (N, .inr (.inl fun _ => 0))) hx hb harr rfl hK hP hD hS hA (fun _ => rfl) hn0 hN (by show N * 8 ≤ _; omega) h1 h2 hdg fun q cB H1 hK' p1 p2 p3 => ?_
  have h9 : cB = cA 2 := Option.some.inj ((hK'.2 6 (cB, .long) rfl).2.symm.trans (hK.2 2 (cA 2, .long) rfl).2)
  subst h9
  exact k q H1 p1 p2 p3
theorem xr_newZ (hx : p.tables.exec = Jvm.exec) (hb : c.code = cc) (hK : va_K D vwCl (xm_tys cA) s) (hA : ∀ q : Nat, s.heap.size ≤ q → A q) (harr : (Cond.arrayClass .boolean).before args s = true) {pc : Nat} (hdg : decode cc pc = .ok (.newarray .boolean, 2)) (H : Heap) (locs : List Loc) (cells slots : Nat) (ls : Array Slot) (rest : List Value) (ws : va_W) (x : Int32) (N : Nat) (hP : va_P D vwCl ws H) (hD : va_D A ws) (hS : va_S A s.heap H locs) (hN : x.toNatClampNeg = N) (hn0 : ¬ x < 0) (hle : N ≤ 1000) (h1 : cells + 1 ≤ R.cells) (h2 : slots + N ≤ R.slots)
    (k : ∀ (q : Nat) (H1 : Heap), va_P D vwCl (ws ++ [(q, .inl (cA 3, N, .inl (fun _ => 0)))]) H1 → va_D A (ws ++ [(q, .inl (cA 3, N, .inl (fun _ => 0)))]) → va_S A s.heap H1 locs → W p l e R s m args below meth c H1 locs (cells + 1) (slots + N) Q (F0 m (pc + 2) ls (.ref q :: rest))) : W p l e R s m args below meth c H locs cells slots Q (F0 m pc ls (.int x :: rest)) := by
  refine va_newa (atype := .boolean) (ty := .boolean) (a0 := (N, .inl fun _ => 0)) hx hb harr rfl hK hP hD hS hA (fun _ => rfl) hn0 hN (by show N * 1 ≤ _; omega) h1 h2 hdg fun q cB H1 hK' p1 p2 p3 => ?_
  have h9 : cB = cA 3 := Option.some.inj ((hK'.2 6 (cB, .boolean) rfl).2.symm.trans (hK.2 3 (cA 3, .boolean) rfl).2)
  subst h9
  exact k q H1 p1 p2 p3
theorem xr_newQ {C : String} {t : Nat} (hx : p.tables.exec = Jvm.exec) (hb : c.code = cc) (hown : s.vm.findClass own = some m.cls) {index : Nat} (hl : (Cond.classLink own index C).before args s = true) (ho : va_AO C s) (hK : va_K D vwCl (xm_tys cA) s) (ht : (xm_tys cA)[t]? = some (cA t, .object C)) (hA : ∀ q : Nat, s.heap.size ≤ q → A q) {pc : Nat} (hdg : decode cc pc = .ok (.anewarray index, 3)) (H : Heap) (locs : List Loc) (cells slots : Nat) (ls : Array Slot) (rest : List Value) (ws : va_W) (x : Int32) (N : Nat) (hP : va_P D vwCl ws H) (hD : va_D A ws) (hS : va_S A s.heap H locs) (hN : x.toNatClampNeg = N) (hn0 : ¬ x < 0) (hle : N ≤ 1000) (h1 : cells + 1 ≤ R.cells) (h2 : slots + N ≤ R.slots)
    (k : ∀ (q : Nat) (H1 : Heap), va_P D vwCl (ws ++ [(q, .inl (cA t, N, .inr (.inr (.inr (.inr (fun _ => none))))))]) H1 → va_D A (ws ++ [(q, .inl (cA t, N, .inr (.inr (.inr (.inr (fun _ => none))))))]) → va_S A s.heap H1 locs → W p l e R s m args below meth c H1 locs (cells + 1) (slots + N) Q (F0 m (pc + 3) ls (.ref q :: rest))) : W p l e R s m args below meth c H locs cells slots Q (F0 m pc ls (.int x :: rest)) := by
  refine va_newq hx hb hown hl ho hK hP hD hS hA hn0 hN (by omega) h1 h2 hdg fun q cB H1 hK' p1 p2 p3 => ?_
  obtain ⟨kA, comp, -, -, -, g1⟩ := (hK'.2 6 (cB, .object C) rfl).2
  obtain ⟨kA', comp', -, -, -, g2⟩ := (hK.2 t (cA t, .object C) ht).2
  have h9 : cB = cA t := Option.some.inj (g1.symm.trans g2)
  subst h9
  exact k q H1 p1 p2 p3
theorem xm_nwI {ad : xm_A} {M : xm_M} {c0 N : Nat} (h : (xm_kd c0).1 = 1) : xm_cell cA ad (xm_nw M c0 N) (c0, xm_cnt c0 (xm_o M)) = .inl (cA 1, N, .inl (fun _ => 0)) := by
  rw [xm_arrI h]
  simp [xm_nw]
theorem xm_nwZ {ad : xm_A} {M : xm_M} {c0 N : Nat} (h : (xm_kd c0).1 = 3) : xm_cell cA ad (xm_nw M c0 N) (c0, xm_cnt c0 (xm_o M)) = .inl (cA 3, N, .inl (fun _ => 0)) := by
  rw [xm_arrZ h]
  simp [xm_nw]
theorem xm_nwL {ad : xm_A} {M : xm_M} {c0 N : Nat} (h : (xm_kd c0).1 = 2) : xm_cell cA ad (xm_nw M c0 N) (c0, xm_cnt c0 (xm_o M)) = .inl (cA 2, N, .inr (.inl (fun _ => 0))) := by
  rw [xm_arrL h]
  simp [xm_nw]
theorem xm_nwQ {ad : xm_A} {M : xm_M} {c0 N t : Nat} (h : (xm_kd c0).1 = t) (ht : t = 4 ∨ t = 5) : xm_cell cA ad (xm_nw M c0 N) (c0, xm_cnt c0 (xm_o M)) = .inl (cA t, N, .inr (.inr (.inr (.inr (fun _ => none))))) := by
  rw [xm_arrR h ht]
  simp [xm_nw]
theorem xr_sw (hx : p.tables.exec = Jvm.exec) (hb : c.code = cc) {pc d len : Nat} {ts : List Nat} {dflt hi : Int} {offs : Array Int} (hdg : decode cc pc = .ok (.tableswitch dflt 0 hi offs, len)) (hd : (pc : Int) + dflt = (d : Nat)) (hhi : hi + 1 = (ts.length : Nat)) (hof : ∀ k, k < ts.length → ∃ off, offs[k]? = some off ∧ (pc : Int) + off = (ts.getD k d : Nat)) (H : Heap) (locs : List Loc) (cells slots : Nat) (ls : Array Slot) (rest : List Value) (x : Int32) (k : W p l e R s m args below meth c H locs cells slots Q (F0 m (if x.toInt < 0 then d else ts.getD x.toInt.toNat d) ls rest)) : W p l e R s m args below meth c H locs cells slots Q (F0 m pc ls (.int x :: rest)) := by
  by_cases h0 : x.toInt < 0
  · rw [if_pos h0] at k
    exact lv_tableOut hx hb hdg (Or.inl h0) hd k
  · rw [if_neg h0] at k
    by_cases h1 : hi < x.toInt
    · have e9 : ts.getD x.toInt.toNat d = d := by
        rw [List.getD_eq_getElem?_getD, List.getElem?_eq_none (by omega)]
        rfl
      rw [e9] at k
      exact lv_tableOut hx hb hdg (Or.inr h1) hd k
    · obtain ⟨off, g1, g2⟩ := hof x.toInt.toNat (by omega)
      exact lv_tableIn hx hb hdg h0 h1 (by rw [Int.sub_zero]; exact g1) g2 k
theorem sn_cast (hG : xm_IsG p l e R s m args below meth c Q cA D A tS nL ad0 o0 G) {pc n : Nat}
    (row : ∀ (H : Heap) (locs : List Loc) (cells slots : Nat) (ls : Array Slot) (rest : List Value) (q0 : Nat) (ws : va_W) (a : Nat) (z : vp_A), va_P D vwCl ws H → ws[q0]? = some (a, .inl (cA 1, z)) → W p l e R s m args below meth c H locs cells slots Q (F0 m n ls (.ref a :: rest)) → W p l e R s m args below meth c H locs cells slots Q (F0 m pc ls (.ref a :: rest))) : xm_Snd R G pc (xs_cast n) := by
  intro S pc1 S1 h
  obtain ⟨lv, st, M, kc, ks⟩ := S
  unfold xs_cast at h
  dsimp only at h
  split at h
  · rename_i q r
    split at h
    · rename_i hk
      cases h
      refine ⟨⟨Nat.le_refl _, Nat.le_refl _⟩, fun _ _ kk => (hG _ _).mpr fun ad H locs ls hA => ?_⟩
      obtain ⟨q1, q2, q3, q4, q5, q6, q7⟩ := id hA
      have hq : q ∈ xm_o M := xm_q (q5.2.1 _ List.mem_cons_self) (by rw [hk]; decide)
      obtain ⟨j, hj, hw⟩ := xm_in (cA := cA) (ad := ad) hq
      rw [xm_arrI hk] at hw
      exact row H locs _ _ ls _ j _ (ad q) _ q1 hw ((hG _ _).mp kk ad H locs ls hA)
    · cases h
  · cases h
end XR
end
