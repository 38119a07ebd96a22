section
-- ===== PART A: goes FIRST, ahead of the names: the tables' words, and 'selects' of the private methods out of them =====
/-- a private method of a class that the tables say can be made, by its rows of tables_1 -/
def lw_okq (q : MethodName × Nat) : Prop := (q.1.cls ≠ "java/lang/invoke/MethodHandle" ∧ q.1.cls ≠ "java/lang/invoke/VarHandle") ∧ Cond.instantiable q.1.cls q.2 ∈ tables_1 ∧ Cond.privateMethod q.1 ∈ tables_1 ∧ Cond.instanceMethod q.1 ∈ tables_1
theorem lw_p0 : lw_okq (⟨"java/lang/Throwable", "fillInStackTrace", "(I)Ljava/lang/Throwable;"⟩, 6) := ⟨⟨by decide +kernel, by decide +kernel⟩, List.mem_of_getElem? (i := 216) (by decide +kernel), List.mem_of_getElem? (i := 214) (by decide +kernel), List.mem_of_getElem? (i := 215) (by decide +kernel)⟩
theorem lw_p1 : lw_okq (⟨"SkyAdvisor", "dropAdviceOf", "(LSkyAdvisor$Aircraft;)V"⟩, 4) := ⟨⟨by decide +kernel, by decide +kernel⟩, List.mem_of_getElem? (i := 13) (by decide +kernel), List.mem_of_getElem? (i := 276) (by decide +kernel), List.mem_of_getElem? (i := 277) (by decide +kernel)⟩
theorem lw_p2 : lw_okq (⟨"SkyAdvisor", "restartLeastOf", "(LSkyAdvisor$Aircraft;)V"⟩, 4) := ⟨⟨by decide +kernel, by decide +kernel⟩, List.mem_of_getElem? (i := 13) (by decide +kernel), List.mem_of_getElem? (i := 288) (by decide +kernel), List.mem_of_getElem? (i := 289) (by decide +kernel)⟩
theorem lw_p3 : lw_okq (⟨"SkyAdvisor$Pair", "distanceSquared", "()J"⟩, 11) := ⟨⟨by decide +kernel, by decide +kernel⟩, List.mem_of_getElem? (i := 110) (by decide +kernel), List.mem_of_getElem? (i := 296) (by decide +kernel), List.mem_of_getElem? (i := 297) (by decide +kernel)⟩
theorem lw_p4 : lw_okq (⟨"SkyAdvisor$Pair", "heightBetween", "()I"⟩, 11) := ⟨⟨by decide +kernel, by decide +kernel⟩, List.mem_of_getElem? (i := 110) (by decide +kernel), List.mem_of_getElem? (i := 300) (by decide +kernel), List.mem_of_getElem? (i := 301) (by decide +kernel)⟩
theorem lw_p5 : lw_okq (⟨"SkyAdvisor", "isThere", "(I)Z"⟩, 4) := ⟨⟨by decide +kernel, by decide +kernel⟩, List.mem_of_getElem? (i := 13) (by decide +kernel), List.mem_of_getElem? (i := 314) (by decide +kernel), List.mem_of_getElem? (i := 315) (by decide +kernel)⟩
theorem lw_p6 : lw_okq (⟨"SkyAdvisor", "passSecond", "()V"⟩, 4) := ⟨⟨by decide +kernel, by decide +kernel⟩, List.mem_of_getElem? (i := 13) (by decide +kernel), List.mem_of_getElem? (i := 346) (by decide +kernel), List.mem_of_getElem? (i := 347) (by decide +kernel)⟩
theorem lw_p7 : lw_okq (⟨"SkyAdvisor", "heedAdvice", "(LSkyAdvisor$Aircraft;)V"⟩, 4) := ⟨⟨by decide +kernel, by decide +kernel⟩, List.mem_of_getElem? (i := 13) (by decide +kernel), List.mem_of_getElem? (i := 363) (by decide +kernel), List.mem_of_getElem? (i := 364) (by decide +kernel)⟩
theorem lw_p8 : lw_okq (⟨"SkyAdvisor$Aircraft", "levelOff", "(I)V"⟩, 8) := ⟨⟨by decide +kernel, by decide +kernel⟩, List.mem_of_getElem? (i := 69) (by decide +kernel), List.mem_of_getElem? (i := 388) (by decide +kernel), List.mem_of_getElem? (i := 389) (by decide +kernel)⟩
theorem lw_p9 : lw_okq (⟨"SkyAdvisor$Pair", "alerts", "()Z"⟩, 11) := ⟨⟨by decide +kernel, by decide +kernel⟩, List.mem_of_getElem? (i := 110) (by decide +kernel), List.mem_of_getElem? (i := 408) (by decide +kernel), List.mem_of_getElem? (i := 409) (by decide +kernel)⟩
theorem lw_p10 : lw_okq (⟨"SkyAdvisor$Pair", "isNear", "()Z"⟩, 11) := ⟨⟨by decide +kernel, by decide +kernel⟩, List.mem_of_getElem? (i := 110) (by decide +kernel), List.mem_of_getElem? (i := 412) (by decide +kernel), List.mem_of_getElem? (i := 413) (by decide +kernel)⟩
theorem lw_p11 : lw_okq (⟨"SkyAdvisor$Pair", "nearSquared", "()J"⟩, 11) := ⟨⟨by decide +kernel, by decide +kernel⟩, List.mem_of_getElem? (i := 110) (by decide +kernel), List.mem_of_getElem? (i := 416) (by decide +kernel), List.mem_of_getElem? (i := 417) (by decide +kernel)⟩
theorem lw_p12 : lw_okq (⟨"SkyAdvisor$Pair", "comesNearInTime", "()Z"⟩, 11) := ⟨⟨by decide +kernel, by decide +kernel⟩, List.mem_of_getElem? (i := 110) (by decide +kernel), List.mem_of_getElem? (i := 424) (by decide +kernel), List.mem_of_getElem? (i := 425) (by decide +kernel)⟩
theorem lw_p13 : lw_okq (⟨"SkyAdvisor$Pair", "closing", "()J"⟩, 11) := ⟨⟨by decide +kernel, by decide +kernel⟩, List.mem_of_getElem? (i := 110) (by decide +kernel), List.mem_of_getElem? (i := 428) (by decide +kernel), List.mem_of_getElem? (i := 429) (by decide +kernel)⟩
theorem lw_p14 : lw_okq (⟨"SkyAdvisor$Pair", "passesNear", "()Z"⟩, 11) := ⟨⟨by decide +kernel, by decide +kernel⟩, List.mem_of_getElem? (i := 110) (by decide +kernel), List.mem_of_getElem? (i := 436) (by decide +kernel), List.mem_of_getElem? (i := 437) (by decide +kernel)⟩
theorem lw_p15 : lw_okq (⟨"SkyAdvisor$Pair", "meetsInHeight", "()Z"⟩, 11) := ⟨⟨by decide +kernel, by decide +kernel⟩, List.mem_of_getElem? (i := 110) (by decide +kernel), List.mem_of_getElem? (i := 444) (by decide +kernel), List.mem_of_getElem? (i := 445) (by decide +kernel)⟩
def lw_privs_1 : List (MethodName × Nat) := [(⟨"java/lang/Throwable", "fillInStackTrace", "(I)Ljava/lang/Throwable;"⟩, 6), (⟨"SkyAdvisor", "dropAdviceOf", "(LSkyAdvisor$Aircraft;)V"⟩, 4), (⟨"SkyAdvisor", "restartLeastOf", "(LSkyAdvisor$Aircraft;)V"⟩, 4), (⟨"SkyAdvisor$Pair", "distanceSquared", "()J"⟩, 11), (⟨"SkyAdvisor$Pair", "heightBetween", "()I"⟩, 11), (⟨"SkyAdvisor", "isThere", "(I)Z"⟩, 4), (⟨"SkyAdvisor", "passSecond", "()V"⟩, 4), (⟨"SkyAdvisor", "heedAdvice", "(LSkyAdvisor$Aircraft;)V"⟩, 4), (⟨"SkyAdvisor$Aircraft", "levelOff", "(I)V"⟩, 8), (⟨"SkyAdvisor$Pair", "alerts", "()Z"⟩, 11), (⟨"SkyAdvisor$Pair", "isNear", "()Z"⟩, 11), (⟨"SkyAdvisor$Pair", "nearSquared", "()J"⟩, 11), (⟨"SkyAdvisor$Pair", "comesNearInTime", "()Z"⟩, 11), (⟨"SkyAdvisor$Pair", "closing", "()J"⟩, 11), (⟨"SkyAdvisor$Pair", "passesNear", "()Z"⟩, 11), (⟨"SkyAdvisor$Pair", "meetsInHeight", "()Z"⟩, 11)]
theorem lw_r1 : ∀ q ∈ lw_privs_1, lw_okq q := List.forall_mem_cons.mpr ⟨lw_p0, List.forall_mem_cons.mpr ⟨lw_p1, List.forall_mem_cons.mpr ⟨lw_p2, List.forall_mem_cons.mpr ⟨lw_p3, List.forall_mem_cons.mpr ⟨lw_p4, List.forall_mem_cons.mpr ⟨lw_p5, List.forall_mem_cons.mpr ⟨lw_p6, List.forall_mem_cons.mpr ⟨lw_p7, List.forall_mem_cons.mpr ⟨lw_p8, List.forall_mem_cons.mpr ⟨lw_p9, List.forall_mem_cons.mpr ⟨lw_p10, List.forall_mem_cons.mpr ⟨lw_p11, List.forall_mem_cons.mpr ⟨lw_p12, List.forall_mem_cons.mpr ⟨lw_p13, List.forall_mem_cons.mpr ⟨lw_p14, List.forall_mem_cons.mpr ⟨lw_p15, fun _ h => absurd h List.not_mem_nil⟩⟩⟩⟩⟩⟩⟩⟩⟩⟩⟩⟩⟩⟩⟩⟩
theorem lw_p16 : lw_okq (⟨"SkyAdvisor$Pair", "timeLeft", "()I"⟩, 11) := ⟨⟨by decide +kernel, by decide +kernel⟩, List.mem_of_getElem? (i := 110) (by decide +kernel), List.mem_of_getElem? (i := 452) (by decide +kernel), List.mem_of_getElem? (i := 453) (by decide +kernel)⟩
theorem lw_p17 : lw_okq (⟨"SkyAdvisor$Pair", "chosenSense", "(I)Z"⟩, 11) := ⟨⟨by decide +kernel, by decide +kernel⟩, List.mem_of_getElem? (i := 110) (by decide +kernel), List.mem_of_getElem? (i := 456) (by decide +kernel), List.mem_of_getElem? (i := 457) (by decide +kernel)⟩
theorem lw_p18 : lw_okq (⟨"SkyAdvisor$Pair", "enough", "(ZIII)I"⟩, 11) := ⟨⟨by decide +kernel, by decide +kernel⟩, List.mem_of_getElem? (i := 110) (by decide +kernel), List.mem_of_getElem? (i := 460) (by decide +kernel), List.mem_of_getElem? (i := 461) (by decide +kernel)⟩
theorem lw_p19 : lw_okq (⟨"SkyAdvisor$Pair", "parting", "(ZIII)I"⟩, 11) := ⟨⟨by decide +kernel, by decide +kernel⟩, List.mem_of_getElem? (i := 110) (by decide +kernel), List.mem_of_getElem? (i := 464) (by decide +kernel), List.mem_of_getElem? (i := 465) (by decide +kernel)⟩
theorem lw_p20 : lw_okq (⟨"SkyAdvisor$Pair", "takeSense", "(ZI)V"⟩, 11) := ⟨⟨by decide +kernel, by decide +kernel⟩, List.mem_of_getElem? (i := 110) (by decide +kernel), List.mem_of_getElem? (i := 481) (by decide +kernel), List.mem_of_getElem? (i := 482) (by decide +kernel)⟩
theorem lw_p21 : lw_okq (⟨"SkyAdvisor$Pair", "mustTurn", "(I)Z"⟩, 11) := ⟨⟨by decide +kernel, by decide +kernel⟩, List.mem_of_getElem? (i := 110) (by decide +kernel), List.mem_of_getElem? (i := 486) (by decide +kernel), List.mem_of_getElem? (i := 487) (by decide +kernel)⟩
theorem lw_p22 : lw_okq (⟨"SkyAdvisor$Pair", "strengthen", "(I)V"⟩, 11) := ⟨⟨by decide +kernel, by decide +kernel⟩, List.mem_of_getElem? (i := 110) (by decide +kernel), List.mem_of_getElem? (i := 490) (by decide +kernel), List.mem_of_getElem? (i := 491) (by decide +kernel)⟩
theorem lw_p23 : lw_okq (⟨"SkyAdvisor", "countAdvised", "()I"⟩, 4) := ⟨⟨by decide +kernel, by decide +kernel⟩, List.mem_of_getElem? (i := 13) (by decide +kernel), List.mem_of_getElem? (i := 494) (by decide +kernel), List.mem_of_getElem? (i := 495) (by decide +kernel)⟩
theorem lw_p24 : lw_okq (⟨"SkyAdvisor$Pair", "chosenParting", "(I)I"⟩, 11) := ⟨⟨by decide +kernel, by decide +kernel⟩, List.mem_of_getElem? (i := 110) (by decide +kernel), List.mem_of_getElem? (i := 529) (by decide +kernel), List.mem_of_getElem? (i := 530) (by decide +kernel)⟩
theorem lw_p25 : lw_okq (⟨"SkyAdvisorModel", "endAll", "(I)V"⟩, 22) := ⟨⟨by decide +kernel, by decide +kernel⟩, List.mem_of_getElem? (i := 546) (by decide +kernel), List.mem_of_getElem? (i := 640) (by decide +kernel), List.mem_of_getElem? (i := 641) (by decide +kernel)⟩
theorem lw_p26 : lw_okq (⟨"SkyAdvisorModel", "measure", "(II)V"⟩, 22) := ⟨⟨by decide +kernel, by decide +kernel⟩, List.mem_of_getElem? (i := 546) (by decide +kernel), List.mem_of_getElem? (i := 649) (by decide +kernel), List.mem_of_getElem? (i := 650) (by decide +kernel)⟩
theorem lw_p27 : lw_okq (⟨"SkyAdvisorModel", "isThere", "(I)Z"⟩, 22) := ⟨⟨by decide +kernel, by decide +kernel⟩, List.mem_of_getElem? (i := 546) (by decide +kernel), List.mem_of_getElem? (i := 657) (by decide +kernel), List.mem_of_getElem? (i := 658) (by decide +kernel)⟩
theorem lw_p28 : lw_okq (⟨"SkyAdvisorModel", "move", "()V"⟩, 22) := ⟨⟨by decide +kernel, by decide +kernel⟩, List.mem_of_getElem? (i := 546) (by decide +kernel), List.mem_of_getElem? (i := 673) (by decide +kernel), List.mem_of_getElem? (i := 674) (by decide +kernel)⟩
theorem lw_p29 : lw_okq (⟨"SkyAdvisorModel", "obey", "(I)V"⟩, 22) := ⟨⟨by decide +kernel, by decide +kernel⟩, List.mem_of_getElem? (i := 546) (by decide +kernel), List.mem_of_getElem? (i := 680) (by decide +kernel), List.mem_of_getElem? (i := 681) (by decide +kernel)⟩
theorem lw_p30 : lw_okq (⟨"SkyAdvisorModel", "look", "(II)V"⟩, 22) := ⟨⟨by decide +kernel, by decide +kernel⟩, List.mem_of_getElem? (i := 546) (by decide +kernel), List.mem_of_getElem? (i := 684) (by decide +kernel), List.mem_of_getElem? (i := 685) (by decide +kernel)⟩
theorem lw_p31 : lw_okq (⟨"SkyAdvisorModel", "advise", "(I)V"⟩, 22) := ⟨⟨by decide +kernel, by decide +kernel⟩, List.mem_of_getElem? (i := 546) (by decide +kernel), List.mem_of_getElem? (i := 688) (by decide +kernel), List.mem_of_getElem? (i := 689) (by decide +kernel)⟩
def lw_privs_2 : List (MethodName × Nat) := [(⟨"SkyAdvisor$Pair", "timeLeft", "()I"⟩, 11), (⟨"SkyAdvisor$Pair", "chosenSense", "(I)Z"⟩, 11), (⟨"SkyAdvisor$Pair", "enough", "(ZIII)I"⟩, 11), (⟨"SkyAdvisor$Pair", "parting", "(ZIII)I"⟩, 11), (⟨"SkyAdvisor$Pair", "takeSense", "(ZI)V"⟩, 11), (⟨"SkyAdvisor$Pair", "mustTurn", "(I)Z"⟩, 11), (⟨"SkyAdvisor$Pair", "strengthen", "(I)V"⟩, 11), (⟨"SkyAdvisor", "countAdvised", "()I"⟩, 4), (⟨"SkyAdvisor$Pair", "chosenParting", "(I)I"⟩, 11), (⟨"SkyAdvisorModel", "endAll", "(I)V"⟩, 22), (⟨"SkyAdvisorModel", "measure", "(II)V"⟩, 22), (⟨"SkyAdvisorModel", "isThere", "(I)Z"⟩, 22), (⟨"SkyAdvisorModel", "move", "()V"⟩, 22), (⟨"SkyAdvisorModel", "obey", "(I)V"⟩, 22), (⟨"SkyAdvisorModel", "look", "(II)V"⟩, 22), (⟨"SkyAdvisorModel", "advise", "(I)V"⟩, 22)]
theorem lw_r2 : ∀ q ∈ lw_privs_2, lw_okq q := List.forall_mem_cons.mpr ⟨lw_p16, List.forall_mem_cons.mpr ⟨lw_p17, List.forall_mem_cons.mpr ⟨lw_p18, List.forall_mem_cons.mpr ⟨lw_p19, List.forall_mem_cons.mpr ⟨lw_p20, List.forall_mem_cons.mpr ⟨lw_p21, List.forall_mem_cons.mpr ⟨lw_p22, List.forall_mem_cons.mpr ⟨lw_p23, List.forall_mem_cons.mpr ⟨lw_p24, List.forall_mem_cons.mpr ⟨lw_p25, List.forall_mem_cons.mpr ⟨lw_p26, List.forall_mem_cons.mpr ⟨lw_p27, List.forall_mem_cons.mpr ⟨lw_p28, List.forall_mem_cons.mpr ⟨lw_p29, List.forall_mem_cons.mpr ⟨lw_p30, List.forall_mem_cons.mpr ⟨lw_p31, fun _ h => absurd h List.not_mem_nil⟩⟩⟩⟩⟩⟩⟩⟩⟩⟩⟩⟩⟩⟩⟩⟩
theorem lw_p32 : lw_okq (⟨"SkyAdvisorModel", "alerts", "()Z"⟩, 22) := ⟨⟨by decide +kernel, by decide +kernel⟩, List.mem_of_getElem? (i := 546) (by decide +kernel), List.mem_of_getElem? (i := 692) (by decide +kernel), List.mem_of_getElem? (i := 693) (by decide +kernel)⟩
theorem lw_p33 : lw_okq (⟨"SkyAdvisorModel", "chosen", "()I"⟩, 22) := ⟨⟨by decide +kernel, by decide +kernel⟩, List.mem_of_getElem? (i := 546) (by decide +kernel), List.mem_of_getElem? (i := 699) (by decide +kernel), List.mem_of_getElem? (i := 700) (by decide +kernel)⟩
theorem lw_p34 : lw_okq (⟨"SkyAdvisorModel", "enough", "(III)I"⟩, 22) := ⟨⟨by decide +kernel, by decide +kernel⟩, List.mem_of_getElem? (i := 546) (by decide +kernel), List.mem_of_getElem? (i := 703) (by decide +kernel), List.mem_of_getElem? (i := 704) (by decide +kernel)⟩
theorem lw_p35 : lw_okq (⟨"SkyAdvisorModel", "part", "(III)J"⟩, 22) := ⟨⟨by decide +kernel, by decide +kernel⟩, List.mem_of_getElem? (i := 546) (by decide +kernel), List.mem_of_getElem? (i := 707) (by decide +kernel), List.mem_of_getElem? (i := 708) (by decide +kernel)⟩
theorem lw_p36 : lw_okq (⟨"SkyAdvisorModel", "height", "(IZII)J"⟩, 22) := ⟨⟨by decide +kernel, by decide +kernel⟩, List.mem_of_getElem? (i := 546) (by decide +kernel), List.mem_of_getElem? (i := 711) (by decide +kernel), List.mem_of_getElem? (i := 712) (by decide +kernel)⟩
theorem lw_p37 : lw_okq (⟨"SkyAdvisorModel", "begin", "(II)V"⟩, 22) := ⟨⟨by decide +kernel, by decide +kernel⟩, List.mem_of_getElem? (i := 546) (by decide +kernel), List.mem_of_getElem? (i := 717) (by decide +kernel), List.mem_of_getElem? (i := 718) (by decide +kernel)⟩
def lw_privs_3 : List (MethodName × Nat) := [(⟨"SkyAdvisorModel", "alerts", "()Z"⟩, 22), (⟨"SkyAdvisorModel", "chosen", "()I"⟩, 22), (⟨"SkyAdvisorModel", "enough", "(III)I"⟩, 22), (⟨"SkyAdvisorModel", "part", "(III)J"⟩, 22), (⟨"SkyAdvisorModel", "height", "(IZII)J"⟩, 22), (⟨"SkyAdvisorModel", "begin", "(II)V"⟩, 22)]
theorem lw_r3 : ∀ q ∈ lw_privs_3, lw_okq q := List.forall_mem_cons.mpr ⟨lw_p32, List.forall_mem_cons.mpr ⟨lw_p33, List.forall_mem_cons.mpr ⟨lw_p34, List.forall_mem_cons.mpr ⟨lw_p35, List.forall_mem_cons.mpr ⟨lw_p36, List.forall_mem_cons.mpr ⟨lw_p37, fun _ h => absurd h List.not_mem_nil⟩⟩⟩⟩⟩⟩
def lw_privs : List (MethodName × Nat) := lw_privs_1 ++ (lw_privs_2 ++ (lw_privs_3))
def lw_tbl : List Cond := k2_sels lw_privs ++ tables_1
theorem lw_privs_ok : ∀ q ∈ lw_privs, lw_okq q := by
  show ∀ q ∈ lw_privs_1 ++ (lw_privs_2 ++ (lw_privs_3)), lw_okq q
  exact List.forall_mem_append.mpr ⟨lw_r1, List.forall_mem_append.mpr ⟨lw_r2, lw_r3⟩⟩
/-! ===== BEGIN words of one list among another's, by their places ===== -/
theorem goodIn_r {big : List Cond} (ws : List Cond) (ps : List Nat) (hp : ws = ps.filterMap (fun i => big[i]?)) (h : ws.all goodWord = true) : GoodIn big ws := by
  intro w hw
  have h1 := List.all_eq_true.mp h w hw
  rw [hp] at hw
  obtain ⟨i, -, hi⟩ := List.mem_filterMap.mp hw
  have hm : w ∈ big := by first | exact List.mem_of_getElem? hi | exact List.getElem?_mem hi
  exact ⟨hm, good_of_word h1⟩
theorem goodIn_app {big a b : List Cond} (ha : GoodIn big a) (hb : GoodIn big b) : GoodIn big (a ++ b) := fun w h => (List.mem_append.mp h).elim (ha w) (hb w)
theorem goodIn_ca {big a b : List Cond} {c : Cond} (ha : GoodIn big (c :: a)) (hb : GoodIn big b) : GoodIn big (c :: (a ++ b)) := fun w h => (List.mem_cons.mp h).elim (fun e => ha w (List.mem_cons.mpr (Or.inl e))) (fun h => (List.mem_append.mp h).elim (fun h => ha w (List.mem_cons.mpr (Or.inr h))) (hb w))
theorem goodIn_sub {big ws : List Cond} (hm : ∀ w ∈ ws, w ∈ big) (h : ws.all goodWord = true) : GoodIn big ws := fun w hw => ⟨hm w hw, good_of_word (List.all_eq_true.mp h w hw)⟩
/-! ===== END ===== -/

/-! ===== BEGIN exceptions that leave a method, and their catching by the caller (launches without stack traces) ===== -/
section VXA
/-! The laws vx_back, vx_callV, vx_callS, vx_callSW, vx_throw0, vx_throwS follow proofs of the library, with one case more: JvmDerived/Free/Laws.lean (Back.of_free), Shelf42/LK1.lean (callV, callS), Shelf/KitTraced.lean (throwNew0V, throwNewS). -/

/-- where a method has thrown q: the class by its name, the cell, what was written, the world -/
def vx_T (XC : String → State → State → Prop) (st : State) (q : Addr) (t : State) (mc ms : Nat) (free : Addr → Prop) : Prop :=
  ∃ (E : String) (ce : Cell) (L : List Loc), XC E st t ∧ t.heap[q]? = some ce ∧ ce.vm = .none ∧ st.vm.findClass E = some ce.cls ∧ st.WarmedH t.vm ∧ st.sameButNew ({ t with vm := st.vm } : State) L mc ms ∧ ∀ z ∈ L, free z.base
def vx_Q (Qc : Array Value → State → Outcome → State → Prop) (XC : String → State → State → Prop) (mc ms : Nat) (free : Addr → Prop) : Array Value → State → Outcome → State → Prop := fun a st o t =>
  (Qc a st o t ∧ ∃ L, FrameEnd st o t L mc ms ∧ ∀ q ∈ L, free q.base) ∨ ∃ q, o = .threw q ∧ vx_T XC st q t mc ms free
/-- a callee that returns or throws -/
def vx_Met (l : Launch) (y : MethodName) (ws : List Cond) (rm : Room) (Pc : Array Value → State → Prop) (Qc : Array Value → State → Outcome → State → Prop) (XC : String → State → State → Prop) (mc ms : Nat) (free : Addr → Prop) : Prop :=
  MetFree l y (headSpec ws rm) Pc (fun _ _ _ _ _ => True) (vx_Q Qc XC mc ms free)
def vx_Post (XC : String → State → State → Prop) (mc ms : Nat) (free : Addr → Prop) : Pt → Array Value → Addr → Pt → Prop := fun A a q B =>
  ∃ (g : JFrame) (mk : MethodId) (t : State) (L : List Loc) (E : String) (ce : Cell), B.U.heap = t.heap ∧ B.U.vm = t.vm ∧ XC E (A.U.calling g mk a) t ∧ t.heap[q]? = some ce ∧ ce.vm = .none ∧ A.U.vm.findClass E = some ce.cls ∧ B.locs = A.locs ++ L ∧ (∀ z ∈ L, free z.base) ∧ B.cells = A.cells + mc ∧ B.slots = A.slots + ms
def vx_Back (l : Launch) (R : Room) (p : Program) (e : Env) (below : List Frame) (s : State) (sargs : Array Value) (y : MethodName) (len W9 : Nat)
    (Pre : Pt → Array Value → Prop) (Post : Pt → Array Value → Option Value → Pt → Prop) (PostX : Pt → Array Value → Addr → Pt → Prop) : Prop :=
  ∀ (m : MethodId) (meth : Method) (c : Code) (A : Pt) (g : JFrame) (ig : Instr) (mk : MethodId) (a : Array Value),
    Stand p l e R s m sargs below meth c A.U A.locs A.cells A.slots → g.method = m → g.locals.size = c.maxLocals → decode c.code g.pc = .ok (ig, len) →
    2 * g.monitorRoom + (g.stack.map fun v => v.category).sum ≤ W9 → A.U.methodNamed? y = some mk → Pre A a →
    (∃ (v : Option Value) (B : Pt), Stand p l e R s m sargs below meth c B.U B.locs B.cells B.slots ∧ Post A a v B ∧
      Steps p.tables e below (doInvoke e (A.U.setTop g) [] mk a).1 (B.U.setTop { g with pc := g.pc + len, stack := v.toList ++ g.stack })) ∨
    (∃ (q : Addr) (B : Pt), Stand p l e R s m sargs below meth c B.U B.locs B.cells B.slots ∧ PostX A a q B ∧
      Steps p.tables e below (doInvoke e (A.U.setTop g) [] mk a).1 ((B.U.setTop g).pushFrame (.throwing q)))
section Payer
variable {l : Launch} {R : Room} {p : Program} {e : Env} {below : List Frame} {s : State} {sargs : Array Value} {y : MethodName} {len W9 : Nat}
theorem vx_back {ws : List Cond} {rm : Room} {Pc : Array Value → State → Prop} {Qc : Array Value → State → Outcome → State → Prop} {XC : String → State → State → Prop} {mc ms : Nat} {free : Addr → Prop} {bytes : ByteArray} {maxL : Nat} {ret : Option FieldType}
    (hM : vx_Met l y ws rm Pc Qc XC mc ms free) (hblind : FrameBlind Pc) (hrc : rm.cells = mc) (hrs : rm.slots = ms)
    (hframes : rm.frames + 1 ≤ R.frames) (hlocals : W9 + (maxL + 11) + rm.locals ≤ R.locals)
    (hws : ∀ w ∈ ws, ∀ a' U, s.WarmedH U.vm → w.before a' U = true) (hcode : Cond.code y bytes maxL ret ∈ ws) (hinit : ∀ a' U, s.WarmedH U.vm → (Cond.initialized y.cls).before a' U = true) :
    vx_Back l R p e below s sargs y len W9 (PreOf R mc ms Pc) (PostOf Qc mc ms free) (vx_Post XC mc ms free) := by
  intro m meth c A g ig mk a X hg hsize hdg hW hn hp
  have h1 : (headSpec ws rm).pre.before a A.U = true := atoms_intro fun w hw => hws w hw _ _ X.warmed
  have h2 : (Cond.code y bytes maxL ret).before a A.U = true := hws _ hcode _ _ X.warmed
  have h3 : (Cond.initialized y.cls).before a A.U = true := hinit _ _ X.warmed
  have h4 : A.cells + (headSpec ws rm).room.cells ≤ R.cells := by rw [show (headSpec ws rm).room.cells = mc from hrc]; exact hp.1
  have h5 : A.slots + (headSpec ws rm).room.slots ≤ R.slots := by rw [show (headSpec ws rm).room.slots = ms from hrs]; exact hp.2.1
  have hPc : Pc a (A.U.calling g mk a) := hblind _ _ _ _ hp.2.2
  obtain ⟨U, Ls, c0, s0⟩ := A
  dsimp only [Pt.U, Pt.locs, Pt.cells, Pt.slots] at h1 h2 h3 h4 h5 X hn hPc ⊢
  obtain ⟨methY, cY, hmY, hcY, -, hlY, -, -, -, -⟩ := Cond.code_spec hn h2
  obtain ⟨kY, hkY, -⟩ := className_of_methodNamed hn
  have hinitY : kY.init = .initialized := Cond.initialized_spec (findClass_of_methodNamed hn) hkY h3
  have h : At U g.method c below := by rw [hg]; exact X.here
  have hlocals9 : W9 + (maxL + 11) + (headSpec ws rm).room.locals ≤ R.locals := hlocals
  have happ : (headSpec ws rm).appliesLoose y e.platform (U.calling g mk a) = true :=
    Spec.appliesLoose_calling (g := g) h hdg hn hkY hinitY
      (X.room_calling (g := g) (R' := (headSpec ws rm).room) hsize hmY hcY hframes (by rw [hlY]; omega) h4 h5) h1
  obtain ⟨mid, hmid⟩ := h.above
  have hfr : (U.setTop g).frames = (.java g :: mid) ++ below := by rw [State.frames_setTop' g h.top, hmid]; rfl
  obtain ⟨o, s₂, hsteps, -, hend, hq⟩ := Steps.callFree hM p X.admits X.cas X.clock (acts := []) hfr happ hPc trivial
  have hq' : vx_Q Qc XC mc ms free a (U.calling g mk a) o s₂ := hq
  rw [State.frames_setTop' g h.top] at hend
  obtain ⟨g₀, hg0⟩ := Option.isSome_iff_exists.mp h.top
  obtain ⟨r, hr⟩ := State.topJava?_eq_some.mp hg0
  have hr' : (({ U with heap := s₂.heap, slotsUsed := s₂.slotsUsed } : State).setVm s₂.vm).frames = .java g₀ :: r := hr
  rcases hq' with ⟨hqc, L, hfe, hL⟩ | ⟨q, rfl, E, ce, L, hx, hce, hcv, hcl, hW₂, hsm, hL⟩
  · obtain ⟨⟨v, rfl⟩, hW₂, e2, q2, q3, q4, q5, q6⟩ := id hfe
    have e3 : s₂ = ({ (U.calling g mk a).setFrames s₂.frames with heap := s₂.heap, slotsUsed := s₂.slotsUsed } : State).setVm s₂.vm := by
      have : s₂ = ({ s₂ with vm := (U.calling g mk a).vm } : State).setVm s₂.vm := rfl
      rw [e2] at this
      exact this
    obtain ⟨c₂, i₂, len₂, hc₂, hd₂, hf₂⟩ := hend
    have hW' : U.WarmedH s₂.vm := hW₂
    have hcc : c₂ = c := by
      have h1 : s₂.code? g.method = U.code? g.method := by
        rw [State.code?_eq, State.code?_eq, hW'.alike.method?]
      exact Option.some.inj (hc₂.symm.trans (h1.trans h.code))
    subst hcc
    have hlen : len₂ = len := by rw [hdg] at hd₂; cases hd₂; rfl
    subst hlen
    have hs₂ : s₂ = (({ U with heap := s₂.heap, slotsUsed := s₂.slotsUsed } : State).setVm s₂.vm).setTop { g with pc := g.pc + len₂, stack := v.toList ++ g.stack } := by
      refine e3.trans ?_
      rw [hf₂, State.calling_eq h.top, State.setFrames_setFrames, State.setTop_of_frames _ hr', hr]
      rfl
    have hsame : U.sameButNew ({ U with heap := s₂.heap, slotsUsed := s₂.slotsUsed } : State) L mc ms := by
      refine ⟨?_, q2, q3, q4, q5, q6⟩
      obtain ⟨t, ht, -⟩ := State.frames_cons hr
      show ({ U with heap := s₂.heap, slotsUsed := s₂.slotsUsed } : State) = { U.setFrames U.frames with heap := s₂.heap, slotsUsed := s₂.slotsUsed }
      rw [State.setFrames_self ht]
    subst hg
    refine Or.inl ⟨v, ⟨(({ U with heap := s₂.heap, slotsUsed := s₂.slotsUsed } : State).setVm s₂.vm), Ls ++ L, c0 + mc, s0 + ms⟩,
      ⟨X.admits, X.cas, X.clock, X.frames, X.room, X.hears, X.method, X.code, (X.here.setHeapUsed s₂.heap s₂.slotsUsed).setVm hW'.alike, X.tail, State.WarmedH.trans X.warmed hW', X.limits, X.bytes, X.same.trans (hsame.setVm s.vm)⟩,
      ⟨g, mk, s₂, L, rfl, rfl, hqc, rfl, hL, rfl, rfl⟩, ?_⟩
    show Steps p.tables e below _ ((({ U with heap := s₂.heap, slotsUsed := s₂.slotsUsed } : State).setVm s₂.vm).setTop { g with pc := g.pc + len₂, stack := v.toList ++ g.stack })
    rw [← hs₂]
    exact hsteps
  · obtain ⟨e2, q2, q3, q4, q5, q6⟩ := id hsm
    have e3 : s₂ = ({ (U.calling g mk a).setFrames s₂.frames with heap := s₂.heap, slotsUsed := s₂.slotsUsed } : State).setVm s₂.vm := by
      have : s₂ = ({ s₂ with vm := (U.calling g mk a).vm } : State).setVm s₂.vm := rfl
      rw [e2] at this
      exact this
    have hf₂ : s₂.frames = .throwing q :: .java g :: U.frames.tail := hend
    have hW' : U.WarmedH s₂.vm := hW₂
    have hs₂ : s₂ = ((({ U with heap := s₂.heap, slotsUsed := s₂.slotsUsed } : State).setVm s₂.vm).setTop g).pushFrame (.throwing q) := by
      refine e3.trans ?_
      rw [hf₂, State.calling_eq h.top, State.setFrames_setFrames, State.pushFrame, State.frames_setTop _ hr', State.setTop_of_frames _ hr', State.setFrames_setFrames, hr]
      rfl
    have hsame : U.sameButNew ({ U with heap := s₂.heap, slotsUsed := s₂.slotsUsed } : State) L mc ms := by
      refine ⟨?_, q2, q3, q4, q5, q6⟩
      obtain ⟨t, ht, -⟩ := State.frames_cons hr
      show ({ U with heap := s₂.heap, slotsUsed := s₂.slotsUsed } : State) = { U.setFrames U.frames with heap := s₂.heap, slotsUsed := s₂.slotsUsed }
      rw [State.setFrames_self ht]
    subst hg
    refine Or.inr ⟨q, ⟨(({ U with heap := s₂.heap, slotsUsed := s₂.slotsUsed } : State).setVm s₂.vm), Ls ++ L, c0 + mc, s0 + ms⟩,
      ⟨X.admits, X.cas, X.clock, X.frames, X.room, X.hears, X.method, X.code, (X.here.setHeapUsed s₂.heap s₂.slotsUsed).setVm hW'.alike, X.tail, State.WarmedH.trans X.warmed hW', X.limits, X.bytes, X.same.trans (hsame.setVm s.vm)⟩,
      ⟨g, mk, s₂, L, E, ce, rfl, rfl, hx, hce, hcv, hcl, rfl, hL, rfl, rfl⟩, ?_⟩
    show Steps p.tables e below _ (((({ U with heap := s₂.heap, slotsUsed := s₂.slotsUsed } : State).setVm s₂.vm).setTop g).pushFrame (.throwing q))
    rw [← hs₂]
    exact hsteps
end Payer
section Calls
variable {p : Program} {l : Launch} {e : Env} {R : Room} {s : State} {m : MethodId} {args : Array Value} {below : List Frame} {meth : Method} {c : Code} {T : State} {locs : List Loc} {cells slots : Nat}
theorem vx_callV (X : Stand p l e R s m args below meth c T locs cells slots) (hexec : p.tables.exec = Jvm.exec) {own C : String} {index : Nat} {y : MethodName} {bytes : ByteArray} {maxL : Nat} {ret : Option FieldType}
    (hown : s.vm.findClass own = some m.cls) (hlink : (Cond.methodLink own index y).before args s = true) (hinst : (Cond.instanceMethod y).before args s = true) (hsel : (Cond.selects C y y).before args s = true)
    (hcode : (Cond.code y bytes maxL ret).before args s = true) (hy : y.cls ≠ "java/lang/invoke/MethodHandle" ∧ y.cls ≠ "java/lang/invoke/VarHandle")
    {W9 : Nat} {Pre : Pt → Array Value → Prop} {Post : Pt → Array Value → Option Value → Pt → Prop} {PostX : Pt → Array Value → Addr → Pt → Prop} (hK : vx_Back l R p e below s args y 3 W9 Pre Post PostX)
    {b : Addr} {cellB : Cell} (hcell : T.heap[b]? = some cellB) (hobj : cellB.vm.isStatics = false) (hcls : s.vm.findClass C = some cellB.cls)
    {g : JFrame} (hg : g.method = m) (hsize : g.locals.size = c.maxLocals) {argsL rest : List Value} (hlen : ∀ sig, parseMethodDescriptor y.desc = some sig → argsL.length = sig.parameters.length)
    (hstack : g.stack = argsL.reverse ++ .ref b :: rest) (hW : 2 * g.monitorRoom + (rest.map fun v => v.category).sum ≤ W9) (hdg : decode c.code g.pc = .ok (.invokevirtual index, 3))
    (hpre : ∀ vm₁, s.WarmedH vm₁ → Pre ⟨T.setVm vm₁, locs, cells, slots⟩ (Value.ref b :: argsL).toArray) :
    (∃ (v : Option Value) (vm₁ : Vm) (B : Pt), s.WarmedH vm₁ ∧ Stand p l e R s m args below meth c B.U B.locs B.cells B.slots ∧ Post ⟨T.setVm vm₁, locs, cells, slots⟩ (Value.ref b :: argsL).toArray v B ∧
      ∀ target, Steps p.tables e below (B.U.setTop { g with pc := g.pc + 3, stack := v.toList ++ rest }) target → Steps p.tables e below (T.setTop g) target) ∨
    (∃ (q : Addr) (vm₁ : Vm) (B : Pt), s.WarmedH vm₁ ∧ Stand p l e R s m args below meth c B.U B.locs B.cells B.slots ∧ PostX ⟨T.setVm vm₁, locs, cells, slots⟩ (Value.ref b :: argsL).toArray q B ∧
      Steps p.tables e below (T.setTop g) ((B.U.setTop { g with stack := rest }).pushFrame (.throwing q))) := by
  obtain ⟨mk, methM, hnamed, hmethM, hstM, habM⟩ := Cond.instanceMethod_spec hinst
  obtain ⟨methM', cM, hmethM', -, -, -, -, -, -, hsigM⟩ := Cond.code_spec hnamed hcode
  cases hmethM.symm.trans hmethM'
  obtain ⟨c2, r2, m2, q1, q2, q3, q4, kP, hkP, hkPi⟩ := Cond.selects_spec hsel
  cases hcls.symm.trans q1
  cases (State.methodFound?_of_named hnamed hy).symm.trans q2
  cases hnamed.symm.trans q3
  have hselP : selectMethod e.platform s.vm cellB.cls mk = .method mk := by rw [Launch.admits_selectMethod X.admits]; exact q4
  obtain ⟨vm₁, X₁, hstep₁⟩ := X.invokevirtual hexec hown hlink hnamed hmethM hstM hkP hkPi hy (a := b) (cell := cellB) hcell
    (fun z h => by rw [h] at hobj; cases hobj) hselP hmethM habM hkP hkPi (g := g) hg (argsL := argsL) (rest := rest) (hlen _ hsigM) hstack hdg
  rcases hK m meth c ⟨T.setVm vm₁, locs, cells, slots⟩ { g with stack := rest } (.invokevirtual index) mk (Value.ref b :: argsL).toArray X₁ hg hsize hdg hW (X₁.named hnamed) (hpre vm₁ X₁.warmed) with ⟨v, B, X', hpost, hsteps⟩ | ⟨q, B, X', hpost, hsteps⟩
  · exact Or.inl ⟨v, vm₁, B, X₁.warmed, X', hpost, fun target h => hstep₁ _ fun acts => by rw [doInvoke_state]; exact hsteps.trans h⟩
  · exact Or.inr ⟨q, vm₁, B, X₁.warmed, X', hpost, hstep₁ _ fun acts => by rw [doInvoke_state]; exact hsteps⟩
theorem vx_callS (X : Stand p l e R s m args below meth c T locs cells slots) (hexec : p.tables.exec = Jvm.exec) {own : String} {index : Nat} {y : MethodName} {bytes : ByteArray} {maxL : Nat} {ret : Option FieldType}
    (hown : s.vm.findClass own = some m.cls) (hlink : (Cond.methodLink own index y).before args s = true) (hstat : (Cond.static y).before args s = true) (hinit : (Cond.initialized y.cls).before args s = true)
    (hcode : (Cond.code y bytes maxL ret).before args s = true) (hy : y.cls ≠ "java/lang/invoke/MethodHandle" ∧ y.cls ≠ "java/lang/invoke/VarHandle")
    {W9 : Nat} {Pre : Pt → Array Value → Prop} {Post : Pt → Array Value → Option Value → Pt → Prop} {PostX : Pt → Array Value → Addr → Pt → Prop} (hK : vx_Back l R p e below s args y 3 W9 Pre Post PostX)
    {g : JFrame} (hg : g.method = m) (hsize : g.locals.size = c.maxLocals) {argsL rest : List Value} (hlen : ∀ sig, parseMethodDescriptor y.desc = some sig → argsL.length = sig.parameters.length)
    (hstack : g.stack = argsL.reverse ++ rest) (hW : 2 * g.monitorRoom + (rest.map fun v => v.category).sum ≤ W9) (hdg : decode c.code g.pc = .ok (.invokestatic index, 3))
    (hpre : ∀ vm₁, s.WarmedH vm₁ → Pre ⟨T.setVm vm₁, locs, cells, slots⟩ argsL.toArray) :
    (∃ (v : Option Value) (vm₁ : Vm) (B : Pt), s.WarmedH vm₁ ∧ Stand p l e R s m args below meth c B.U B.locs B.cells B.slots ∧ Post ⟨T.setVm vm₁, locs, cells, slots⟩ argsL.toArray v B ∧
      ∀ target, Steps p.tables e below (B.U.setTop { g with pc := g.pc + 3, stack := v.toList ++ rest }) target → Steps p.tables e below (T.setTop g) target) ∨
    (∃ (q : Addr) (vm₁ : Vm) (B : Pt), s.WarmedH vm₁ ∧ Stand p l e R s m args below meth c B.U B.locs B.cells B.slots ∧ PostX ⟨T.setVm vm₁, locs, cells, slots⟩ argsL.toArray q B ∧
      Steps p.tables e below (T.setTop g) ((B.U.setTop { g with stack := rest }).pushFrame (.throwing q))) := by
  obtain ⟨mk, hnamed⟩ := Cond.code_named hcode
  obtain ⟨methM, cM, hmethM, -, -, -, -, -, -, hsigM⟩ := Cond.code_spec hnamed hcode
  have hstatic : methM.isStatic = true := Cond.static_spec hnamed hmethM hstat
  obtain ⟨kP, hkP, -⟩ := className_of_methodNamed hnamed
  have hinitP : kP.init = .initialized := Cond.initialized_spec (findClass_of_methodNamed hnamed) hkP hinit
  obtain ⟨vm₁, X₁, hstep₁⟩ := X.invokestatic hexec hown hlink hnamed hmethM hstatic hkP hinitP hy (g := g) hg (argsL := argsL) (rest := rest) (hlen _ hsigM) hstack hdg
  rcases hK m meth c ⟨T.setVm vm₁, locs, cells, slots⟩ { g with stack := rest } (.invokestatic index) mk argsL.toArray X₁ hg hsize hdg hW (X₁.named hnamed) (hpre vm₁ X₁.warmed) with ⟨v, B, X', hpost, hsteps⟩ | ⟨q, B, X', hpost, hsteps⟩
  · exact Or.inl ⟨v, vm₁, B, X₁.warmed, X', hpost, fun target h => hstep₁ _ fun acts => by rw [doInvoke_state]; exact hsteps.trans h⟩
  · exact Or.inr ⟨q, vm₁, B, X₁.warmed, X', hpost, hstep₁ _ fun acts => by rw [doInvoke_state]; exact hsteps⟩
end Calls
theorem vx_cls {s : State} {T : State} {vm₁ : Vm} {E : String} {k : ClassId} (hW : s.WarmedH vm₁) (h : (T.setVm vm₁).vm.findClass E = some k) : s.vm.findClass E = some k := by
  have h1 : vm₁.findClass E = some k := h
  rw [hW.alike.findClass] at h1
  exact h1
/-- the method's frame g, with q thrown over it -/
def vx_W (p : Program) (l : Launch) (e : Env) (R : Room) (s : State) (m : MethodId) (args : Array Value) (below : List Frame) (meth : Method) (c : Code) (H : Heap) (locs : List Loc) (cells slots : Nat) (Q : State → Prop) (g : JFrame) (q : Addr) : Prop :=
  ∀ T : State, T.heap = H → Stand p l e R s m args below meth c T locs cells slots → ∃ t, Steps p.tables e below ((T.setTop g).pushFrame (.throwing q)) t ∧ Q t
def vx_Run (p : Program) (l : Launch) (e : Env) (R : Room) (s : State) (m : MethodId) (args : Array Value) (below : List Frame) (meth : Method) (c : Code) (H : Heap) (locs : List Loc) (cells slots mc ms : Nat) (g : JFrame) (rest : List Value) (Qa : State → Outcome → State → Prop) (XC : String → State → State → Prop) (free : Addr → Prop) : Prop :=
  ∀ T : State, T.heap = H → Stand p l e R s m args below meth c T locs cells slots →
    (∃ (v : Option Value) (st₀ t T' : State) (L : List Loc), st₀.heap = H ∧ Stand p l e R s m args below meth c T' (locs ++ L) (cells + mc) (slots + ms) ∧ (∀ q ∈ L, free q.base) ∧ T'.heap = t.heap ∧ T'.vm = t.vm ∧ Qa st₀ (.returned v) t ∧
      Goes p e below T g T' { g with pc := g.pc + 3, stack := v.toList ++ rest }) ∨
    (∃ (q : Addr) (st₀ t T' : State) (L : List Loc) (E : String) (ce : Cell), st₀.heap = H ∧ Stand p l e R s m args below meth c T' (locs ++ L) (cells + mc) (slots + ms) ∧ (∀ z ∈ L, free z.base) ∧ T'.heap = t.heap ∧ T'.vm = t.vm ∧ XC E st₀ t ∧ t.heap[q]? = some ce ∧ ce.vm = .none ∧ s.vm.findClass E = some ce.cls ∧
      Steps p.tables e below (T.setTop g) ((T'.setTop { g with stack := rest }).pushFrame (.throwing q)))
def vx_X {S : Type} (px : S → Prop) (B : String → S → State → Prop) (A : Nat → Prop) : String → State → State → Prop := fun E st t => ∃ u : S, px u ∧ B E u t ∧ va_F A st t
section Runs
variable {p : Program} {l : Launch} {e : Env} {R : Room} {s : State} {m : MethodId} {args : Array Value} {below : List Frame} {meth : Method} {c : Code} {H : Heap} {locs : List Loc} {cells slots : Nat}
variable {y : MethodName} {bytes cc : ByteArray} {maxL nL mc ms n index : Nat} {ret : Option FieldType} {ws : List Cond} {rm : Room} {Pc : Array Value → State → Prop} {Qc : Array Value → State → Outcome → State → Prop} {XC : String → State → State → Prop} {free : Addr → Prop} {Ts : List Cond} {own C : String} {b : Addr} {As rest : List Value} {g : JFrame}
theorem vx_callBack (cb : CallB R s args own index y bytes maxL ret ws rm mc ms n) (hM : vx_Met l y ws rm Pc Qc XC mc ms free) (hbl : FrameBlind Pc) : vx_Back l R p e below s args y 3 8 (PreOf R mc ms Pc) (PostOf Qc mc ms free) (vx_Post XC mc ms free) := by
  obtain ⟨hrc, hrs, hfr, hlo, hws, hcw, -, hini, -⟩ := cb
  exact vx_back (bytes := bytes) (maxL := maxL) (ret := ret) hM hbl hrc hrs hfr hlo hws hcw (fun a' U hW => word_at hW (Or.inl (by first | rfl | simp [Cond.onTables, Cond.keeps, Cond.steady])) hini)
theorem vx_runV (S : CallFix p m c cc nL s args Ts own) (hM : vx_Met l y ws rm Pc Qc XC mc ms free) (cw : CallW R s args own C index y bytes maxL ret ws rm mc ms n) (hp : PreV s H C b Pc As)
    (hg : g.method = m) (hn : As.length = n) (hsize : g.locals.size = nL) (hstack : g.stack = As.reverse ++ .ref b :: rest) (hW : 2 * g.monitorRoom + (rest.map fun v => v.category).sum ≤ 8) (hdg : decode cc g.pc = .ok (.invokevirtual index, 3)) (hf : cells + mc ≤ R.cells ∧ slots + ms ≤ R.slots) :
    vx_Run p l e R s m args below meth c H locs cells slots mc ms g rest (Qc (Value.ref b :: As).toArray) XC free := by
  have hK : vx_Back l R p e below s args y 3 8 (PreOf R mc ms Pc) (PostOf Qc mc ms free) (vx_Post XC mc ms free) := vx_callBack cw.1 hM hp.1
  obtain ⟨⟨-, -, -, -, -, -, hcode, -, hy, hlen, hl⟩, hin, hse⟩ := cw
  obtain ⟨hx, hb, hml, ho, -⟩ := S
  obtain ⟨-, ⟨cellB, hcB, hoB, hclB⟩, hPc⟩ := hp
  intro T hT X
  rcases vx_callV X hx (C := C) (bytes := bytes) (maxL := maxL) (ret := ret) ho hl hin hse hcode hy hK (by rw [hT]; exact hcB) hoB hclB hg (hsize.trans hml.symm) (argsL := As) (rest := rest) (fun sig h => hn.trans (hlen sig h)) hstack hW (by rw [hb]; exact hdg)
    (fun vm₁ hW₁ => ⟨hf.1, hf.2, hPc (T.setVm vm₁) hT hW₁⟩) with ⟨v, vm₁, ⟨U', l2, c2, s2⟩, hW₁, X', ⟨g', mk, t, L, e1, e2, hq, h1, hL, h2, h3⟩, st⟩ | ⟨q, vm₁, ⟨U', l2, c2, s2⟩, hW₁, X', ⟨g', mk, t, L, E, ce, e1, e2, hq, hce, hcv, hcl, h1, hL, h2, h3⟩, st⟩
  · dsimp only [Pt.U, Pt.locs, Pt.cells, Pt.slots] at X' e1 e2 h1 h2 h3 st
    subst h1; subst h2; subst h3
    exact Or.inl ⟨v, (T.setVm vm₁).calling g' mk (Value.ref b :: As).toArray, t, U', L, hT, X', hL, e1, e2, hq, st⟩
  · dsimp only [Pt.U, Pt.locs, Pt.cells, Pt.slots] at X' e1 e2 h1 h2 h3 st hcl
    subst h1; subst h2; subst h3
    exact Or.inr ⟨q, (T.setVm vm₁).calling g' mk (Value.ref b :: As).toArray, t, U', L, E, ce, hT, X', hL, e1, e2, hq, hce, hcv, vx_cls hW₁ hcl, st⟩
theorem vx_runS (S : CallFix p m c cc nL s args Ts own) (hM : vx_Met l y ws rm Pc Qc XC mc ms free) (cw : CallB R s args own index y bytes maxL ret ws rm mc ms n ∧ (Cond.static y).before args s = true) (hp : PreS s H Pc As)
    (hg : g.method = m) (hn : As.length = n) (hsize : g.locals.size = nL) (hstack : g.stack = As.reverse ++ rest) (hW : 2 * g.monitorRoom + (rest.map fun v => v.category).sum ≤ 8) (hdg : decode cc g.pc = .ok (.invokestatic index, 3)) (hf : cells + mc ≤ R.cells ∧ slots + ms ≤ R.slots) :
    vx_Run p l e R s m args below meth c H locs cells slots mc ms g rest (Qc As.toArray) XC free := by
  have hK : vx_Back l R p e below s args y 3 8 (PreOf R mc ms Pc) (PostOf Qc mc ms free) (vx_Post XC mc ms free) := vx_callBack cw.1 hM hp.1
  obtain ⟨⟨-, -, -, -, -, -, hcode, hini, hy, hlen, hl⟩, hstt⟩ := cw
  obtain ⟨hx, hb, hml, ho, -⟩ := S
  intro T hT X
  rcases vx_callS X hx (bytes := bytes) (maxL := maxL) (ret := ret) ho hl hstt hini hcode hy hK hg (hsize.trans hml.symm) (argsL := As) (rest := rest) (fun sig h => hn.trans (hlen sig h)) hstack hW (by rw [hb]; exact hdg)
    (fun vm₁ hW₁ => ⟨hf.1, hf.2, hp.2 (T.setVm vm₁) hT hW₁⟩) with ⟨v, vm₁, ⟨U', l2, c2, s2⟩, hW₁, X', ⟨g', mk, t, L, e1, e2, hq, h1, hL, h2, h3⟩, st⟩ | ⟨q, vm₁, ⟨U', l2, c2, s2⟩, hW₁, X', ⟨g', mk, t, L, E, ce, e1, e2, hq, hce, hcv, hcl, h1, hL, h2, h3⟩, st⟩
  · dsimp only [Pt.U, Pt.locs, Pt.cells, Pt.slots] at X' e1 e2 h1 h2 h3 st
    subst h1; subst h2; subst h3
    exact Or.inl ⟨v, (T.setVm vm₁).calling g' mk As.toArray, t, U', L, hT, X', hL, e1, e2, hq, st⟩
  · dsimp only [Pt.U, Pt.locs, Pt.cells, Pt.slots] at X' e1 e2 h1 h2 h3 st hcl
    subst h1; subst h2; subst h3
    exact Or.inr ⟨q, (T.setVm vm₁).calling g' mk As.toArray, t, U', L, E, ce, hT, X', hL, e1, e2, hq, hce, hcv, vx_cls hW₁ hcl, st⟩
end Runs
section Rows
variable {p : Program} {l : Launch} {e : Env} {R : Room} {s : State} {m : MethodId} {args : Array Value} {below : List Frame} {meth : Method} {c : Code} {H : Heap} {locs : List Loc} {cells slots : Nat} {Q : State → Prop}
variable {mc ms : Nat} {free : Addr → Prop} {A0 A1 : Nat → Prop} {H0 : Heap} {a : Array Value} {pc : Nat} {ls : Array Slot} {st0 rest : List Value}
theorem vx_keep {st₀ t T' : State} {L : List Loc} (h0 : st₀.heap = H) (e1 : T'.heap = t.heap) (hS : va_S A0 H0 H locs) (hA : ∀ q, q < H.size → A1 q → A0 q) (hf : ∀ q, free q → A0 q) (hL : ∀ q ∈ L, free q.base) (hF : va_F A1 st₀ t) :
    H.size ≤ T'.heap.size ∧ (∀ q : Nat, q < H.size → ¬ A1 q → T'.heap[q]? = H[q]?) ∧ va_S A0 H0 T'.heap (locs ++ L) := by
  obtain ⟨hz, hk⟩ := hF
  rw [h0] at hz hk
  exact ⟨by rw [e1]; exact hz, fun q h1 h2 => by rw [e1]; exact hk q h1 h2,
    ⟨Nat.le_trans hS.1 (by rw [e1]; exact hz), fun q h1 h2 => by rw [e1, hk q (Nat.lt_of_lt_of_le h1 hS.1) (fun z => h2 (hA q (Nat.lt_of_lt_of_le h1 hS.1) z))]; exact hS.2.1 q h1 h2, fun q hq => by
      rcases List.mem_append.mp hq with h | h
      · exact hS.2.2 q h
      · exact hf _ (hL q h)⟩⟩
theorem vx_calli {S SX : Type} {post : Int32 → S → Prop} {px : SX → Prop} {B : S → State → Prop} {BX : String → SX → State → Prop} {AX : Nat → Prop} (hr : vx_Run p l e R s m args below meth c H locs cells slots mc ms (F0 m pc ls st0) rest (va_Qi post B A1 a) (vx_X px BX AX) free) (hS : va_S A0 H0 H locs) (hA : ∀ q, q < H.size → A1 q → A0 q) (hf : ∀ q, free q → A0 q) (hAX : ∀ q, q < H.size → AX q → A0 q)
    (kx : ∀ (E : String) (ce : Cell) (q9 : Addr) (u : SX) (t : State) (H1 : Heap) (locs1 : List Loc), t.heap = H1 → s.vm.Alike t.vm → px u → BX E u t → H.size ≤ H1.size → (∀ q : Nat, q < H.size → ¬ AX q → H1[q]? = H[q]?) → va_S A0 H0 H1 locs1 → H1[q9]? = some ce → ce.vm = .none → s.vm.findClass E = some ce.cls → vx_W p l e R s m args below meth c H1 locs1 (cells + mc) (slots + ms) Q (F0 m pc ls rest) q9)
    (kk : ∀ (r : Int32) (u : S) (t : State) (H1 : Heap) (locs1 : List Loc), t.heap = H1 → s.vm.Alike t.vm → post r u → B u t → H.size ≤ H1.size → (∀ q : Nat, q < H.size → ¬ A1 q → H1[q]? = H[q]?) → va_S A0 H0 H1 locs1 → W p l e R s m args below meth c H1 locs1 (cells + mc) (slots + ms) Q (F0 m (pc + 3) ls (.int r :: rest))) : W p l e R s m args below meth c H locs cells slots Q (F0 m pc ls st0) := by
  intro T hT X
  rcases hr T hT X with ⟨v, st₀, t, T', L, h0, X', hL, e1, e2, ⟨⟨r, u, hv, hp, hb⟩, hF⟩, st⟩ | ⟨q, st₀, t, T', L, E, ce, h0, X', hL, e1, e2, ⟨u, hp, hb, hF⟩, hce, hcv, hcl, st⟩
  · cases hv
    obtain ⟨k1, k2, k3⟩ := vx_keep h0 e1 hS hA hf hL hF
    obtain ⟨t2, a1, b1⟩ := kk r u t T'.heap (locs ++ L) e1.symm (by rw [← e2]; exact X'.warmed.alike) hp hb k1 k2 k3 T' rfl X'
    exact ⟨t2, st t2 a1, b1⟩
  · obtain ⟨k1, k2, k3⟩ := vx_keep h0 e1 hS hAX hf hL hF
    obtain ⟨t2, a1, b1⟩ := kx E ce q u t T'.heap (locs ++ L) e1.symm (by rw [← e2]; exact X'.warmed.alike) hp hb k1 k2 k3 (by rw [e1]; exact hce) hcv hcl T' rfl X'
    exact ⟨t2, st.trans a1, b1⟩
theorem vx_calll {S SX : Type} {post : Int64 → S → Prop} {px : SX → Prop} {B : S → State → Prop} {BX : String → SX → State → Prop} {AX : Nat → Prop} (hr : vx_Run p l e R s m args below meth c H locs cells slots mc ms (F0 m pc ls st0) rest (va_Ql post B A1 a) (vx_X px BX AX) free) (hS : va_S A0 H0 H locs) (hA : ∀ q, q < H.size → A1 q → A0 q) (hf : ∀ q, free q → A0 q) (hAX : ∀ q, q < H.size → AX q → A0 q)
    (kx : ∀ (E : String) (ce : Cell) (q9 : Addr) (u : SX) (t : State) (H1 : Heap) (locs1 : List Loc), t.heap = H1 → s.vm.Alike t.vm → px u → BX E u t → H.size ≤ H1.size → (∀ q : Nat, q < H.size → ¬ AX q → H1[q]? = H[q]?) → va_S A0 H0 H1 locs1 → H1[q9]? = some ce → ce.vm = .none → s.vm.findClass E = some ce.cls → vx_W p l e R s m args below meth c H1 locs1 (cells + mc) (slots + ms) Q (F0 m pc ls rest) q9)
    (kk : ∀ (r : Int64) (u : S) (t : State) (H1 : Heap) (locs1 : List Loc), t.heap = H1 → s.vm.Alike t.vm → post r u → B u t → H.size ≤ H1.size → (∀ q : Nat, q < H.size → ¬ A1 q → H1[q]? = H[q]?) → va_S A0 H0 H1 locs1 → W p l e R s m args below meth c H1 locs1 (cells + mc) (slots + ms) Q (F0 m (pc + 3) ls (.long r :: rest))) : W p l e R s m args below meth c H locs cells slots Q (F0 m pc ls st0) := by
  intro T hT X
  rcases hr T hT X with ⟨v, st₀, t, T', L, h0, X', hL, e1, e2, ⟨⟨r, u, hv, hp, hb⟩, hF⟩, st⟩ | ⟨q, st₀, t, T', L, E, ce, h0, X', hL, e1, e2, ⟨u, hp, hb, hF⟩, hce, hcv, hcl, st⟩
  · cases hv
    obtain ⟨k1, k2, k3⟩ := vx_keep h0 e1 hS hA hf hL hF
    obtain ⟨t2, a1, b1⟩ := kk r u t T'.heap (locs ++ L) e1.symm (by rw [← e2]; exact X'.warmed.alike) hp hb k1 k2 k3 T' rfl X'
    exact ⟨t2, st t2 a1, b1⟩
  · obtain ⟨k1, k2, k3⟩ := vx_keep h0 e1 hS hAX hf hL hF
    obtain ⟨t2, a1, b1⟩ := kx E ce q u t T'.heap (locs ++ L) e1.symm (by rw [← e2]; exact X'.warmed.alike) hp hb k1 k2 k3 (by rw [e1]; exact hce) hcv hcl T' rfl X'
    exact ⟨t2, st.trans a1, b1⟩
theorem vx_callf {S SX : Type} {post : UInt32 → S → Prop} {px : SX → Prop} {B : S → State → Prop} {BX : String → SX → State → Prop} {AX : Nat → Prop} (hr : vx_Run p l e R s m args below meth c H locs cells slots mc ms (F0 m pc ls st0) rest (va_Qf post B A1 a) (vx_X px BX AX) free) (hS : va_S A0 H0 H locs) (hA : ∀ q, q < H.size → A1 q → A0 q) (hf : ∀ q, free q → A0 q) (hAX : ∀ q, q < H.size → AX q → A0 q)
    (kx : ∀ (E : String) (ce : Cell) (q9 : Addr) (u : SX) (t : State) (H1 : Heap) (locs1 : List Loc), t.heap = H1 → s.vm.Alike t.vm → px u → BX E u t → H.size ≤ H1.size → (∀ q : Nat, q < H.size → ¬ AX q → H1[q]? = H[q]?) → va_S A0 H0 H1 locs1 → H1[q9]? = some ce → ce.vm = .none → s.vm.findClass E = some ce.cls → vx_W p l e R s m args below meth c H1 locs1 (cells + mc) (slots + ms) Q (F0 m pc ls rest) q9)
    (kk : ∀ (r : UInt32) (u : S) (t : State) (H1 : Heap) (locs1 : List Loc), t.heap = H1 → s.vm.Alike t.vm → post r u → B u t → H.size ≤ H1.size → (∀ q : Nat, q < H.size → ¬ A1 q → H1[q]? = H[q]?) → va_S A0 H0 H1 locs1 → W p l e R s m args below meth c H1 locs1 (cells + mc) (slots + ms) Q (F0 m (pc + 3) ls (.float r :: rest))) : W p l e R s m args below meth c H locs cells slots Q (F0 m pc ls st0) := by
  intro T hT X
  rcases hr T hT X with ⟨v, st₀, t, T', L, h0, X', hL, e1, e2, ⟨⟨r, u, hv, hp, hb⟩, hF⟩, st⟩ | ⟨q, st₀, t, T', L, E, ce, h0, X', hL, e1, e2, ⟨u, hp, hb, hF⟩, hce, hcv, hcl, st⟩
  · cases hv
    obtain ⟨k1, k2, k3⟩ := vx_keep h0 e1 hS hA hf hL hF
    obtain ⟨t2, a1, b1⟩ := kk r u t T'.heap (locs ++ L) e1.symm (by rw [← e2]; exact X'.warmed.alike) hp hb k1 k2 k3 T' rfl X'
    exact ⟨t2, st t2 a1, b1⟩
  · obtain ⟨k1, k2, k3⟩ := vx_keep h0 e1 hS hAX hf hL hF
    obtain ⟨t2, a1, b1⟩ := kx E ce q u t T'.heap (locs ++ L) e1.symm (by rw [← e2]; exact X'.warmed.alike) hp hb k1 k2 k3 (by rw [e1]; exact hce) hcv hcl T' rfl X'
    exact ⟨t2, st.trans a1, b1⟩
theorem vx_calld {S SX : Type} {post : UInt64 → S → Prop} {px : SX → Prop} {B : S → State → Prop} {BX : String → SX → State → Prop} {AX : Nat → Prop} (hr : vx_Run p l e R s m args below meth c H locs cells slots mc ms (F0 m pc ls st0) rest (va_Qd post B A1 a) (vx_X px BX AX) free) (hS : va_S A0 H0 H locs) (hA : ∀ q, q < H.size → A1 q → A0 q) (hf : ∀ q, free q → A0 q) (hAX : ∀ q, q < H.size → AX q → A0 q)
    (kx : ∀ (E : String) (ce : Cell) (q9 : Addr) (u : SX) (t : State) (H1 : Heap) (locs1 : List Loc), t.heap = H1 → s.vm.Alike t.vm → px u → BX E u t → H.size ≤ H1.size → (∀ q : Nat, q < H.size → ¬ AX q → H1[q]? = H[q]?) → va_S A0 H0 H1 locs1 → H1[q9]? = some ce → ce.vm = .none → s.vm.findClass E = some ce.cls → vx_W p l e R s m args below meth c H1 locs1 (cells + mc) (slots + ms) Q (F0 m pc ls rest) q9)
    (kk : ∀ (r : UInt64) (u : S) (t : State) (H1 : Heap) (locs1 : List Loc), t.heap = H1 → s.vm.Alike t.vm → post r u → B u t → H.size ≤ H1.size → (∀ q : Nat, q < H.size → ¬ A1 q → H1[q]? = H[q]?) → va_S A0 H0 H1 locs1 → W p l e R s m args below meth c H1 locs1 (cells + mc) (slots + ms) Q (F0 m (pc + 3) ls (.double r :: rest))) : W p l e R s m args below meth c H locs cells slots Q (F0 m pc ls st0) := by
  intro T hT X
  rcases hr T hT X with ⟨v, st₀, t, T', L, h0, X', hL, e1, e2, ⟨⟨r, u, hv, hp, hb⟩, hF⟩, st⟩ | ⟨q, st₀, t, T', L, E, ce, h0, X', hL, e1, e2, ⟨u, hp, hb, hF⟩, hce, hcv, hcl, st⟩
  · cases hv
    obtain ⟨k1, k2, k3⟩ := vx_keep h0 e1 hS hA hf hL hF
    obtain ⟨t2, a1, b1⟩ := kk r u t T'.heap (locs ++ L) e1.symm (by rw [← e2]; exact X'.warmed.alike) hp hb k1 k2 k3 T' rfl X'
    exact ⟨t2, st t2 a1, b1⟩
  · obtain ⟨k1, k2, k3⟩ := vx_keep h0 e1 hS hAX hf hL hF
    obtain ⟨t2, a1, b1⟩ := kx E ce q u t T'.heap (locs ++ L) e1.symm (by rw [← e2]; exact X'.warmed.alike) hp hb k1 k2 k3 (by rw [e1]; exact hce) hcv hcl T' rfl X'
    exact ⟨t2, st.trans a1, b1⟩
theorem vx_callv {S SX : Type} {post : S → Prop} {px : SX → Prop} {B : S → State → Prop} {BX : String → SX → State → Prop} {AX : Nat → Prop} (hr : vx_Run p l e R s m args below meth c H locs cells slots mc ms (F0 m pc ls st0) rest (va_Qv post B A1 a) (vx_X px BX AX) free) (hS : va_S A0 H0 H locs) (hA : ∀ q, q < H.size → A1 q → A0 q) (hf : ∀ q, free q → A0 q) (hAX : ∀ q, q < H.size → AX q → A0 q)
    (kx : ∀ (E : String) (ce : Cell) (q9 : Addr) (u : SX) (t : State) (H1 : Heap) (locs1 : List Loc), t.heap = H1 → s.vm.Alike t.vm → px u → BX E u t → H.size ≤ H1.size → (∀ q : Nat, q < H.size → ¬ AX q → H1[q]? = H[q]?) → va_S A0 H0 H1 locs1 → H1[q9]? = some ce → ce.vm = .none → s.vm.findClass E = some ce.cls → vx_W p l e R s m args below meth c H1 locs1 (cells + mc) (slots + ms) Q (F0 m pc ls rest) q9)
    (kk : ∀ (u : S) (t : State) (H1 : Heap) (locs1 : List Loc), t.heap = H1 → s.vm.Alike t.vm → post u → B u t → H.size ≤ H1.size → (∀ q : Nat, q < H.size → ¬ A1 q → H1[q]? = H[q]?) → va_S A0 H0 H1 locs1 → W p l e R s m args below meth c H1 locs1 (cells + mc) (slots + ms) Q (F0 m (pc + 3) ls (rest))) : W p l e R s m args below meth c H locs cells slots Q (F0 m pc ls st0) := by
  intro T hT X
  rcases hr T hT X with ⟨v, st₀, t, T', L, h0, X', hL, e1, e2, ⟨⟨u, hv, hp, hb⟩, hF⟩, st⟩ | ⟨q, st₀, t, T', L, E, ce, h0, X', hL, e1, e2, ⟨u, hp, hb, hF⟩, hce, hcv, hcl, st⟩
  · cases hv
    obtain ⟨k1, k2, k3⟩ := vx_keep h0 e1 hS hA hf hL hF
    obtain ⟨t2, a1, b1⟩ := kk u t T'.heap (locs ++ L) e1.symm (by rw [← e2]; exact X'.warmed.alike) hp hb k1 k2 k3 T' rfl X'
    exact ⟨t2, st t2 a1, b1⟩
  · obtain ⟨k1, k2, k3⟩ := vx_keep h0 e1 hS hAX hf hL hF
    obtain ⟨t2, a1, b1⟩ := kx E ce q u t T'.heap (locs ++ L) e1.symm (by rw [← e2]; exact X'.warmed.alike) hp hb k1 k2 k3 (by rw [e1]; exact hce) hcv hcl T' rfl X'
    exact ⟨t2, st.trans a1, b1⟩
end Rows
section Ends
variable {p : Program} {l : Launch} {e : Env} {R : Room} {s : State} {m : MethodId} {args : Array Value} {below : List Frame} {meth : Method} {c : Code} {H : Heap} {locs : List Loc} {cells slots : Nat} {Q : State → Prop}
variable {mc ms : Nat} {free : Addr → Prop} {A0 A1 : Nat → Prop} {H0 : Heap} {a : Array Value} {ls : Array Slot} {st0 rest : List Value}
variable {Qc : Array Value → State → Outcome → State → Prop} {XC : String → State → State → Prop}
/-- what a body that may throw owes at its end -/
def vx_MQ (below : List Frame) (Qc : Array Value → State → Outcome → State → Prop) (XC : String → State → State → Prop) (a : Array Value) (s : State) (mc ms : Nat) (free : Addr → Prop) : State → Prop := fun t =>
  ∃ o, t.status = .running ∧ Ended t below o ∧ vx_Q Qc XC mc ms free a s o t
theorem vx_ret {g : JFrame} {mc ms : Nat} (k : W p l e R s m args below meth c H locs cells slots (MQ below Qc args s mc ms free) g) : W p l e R s m args below meth c H locs cells slots (vx_MQ below Qc XC args s mc ms free) g := by
  intro T hT X
  obtain ⟨t, a1, o, b1, b2, b3, b4⟩ := k T hT X
  exact ⟨t, a1, o, b1, b2, Or.inl ⟨b3, b4⟩⟩
/-- not caught here: it goes on to the caller -/
theorem vx_widen {g : JFrame} {q : Addr} {k n : Nat} (h1 : cells ≤ k) (h2 : slots ≤ n) (kk : vx_W p l e R s m args below meth c H locs k n Q g q) : vx_W p l e R s m args below meth c H locs cells slots Q g q := fun T hT X => kk T hT (stand_widen X h1 h2)
theorem vx_out {pc : Nat} {E : String} {ce : Cell} {q : Addr} {mc ms : Nat} (hout : ∀ x ∈ c.exceptionTable.toList, covers x pc = false) (hlocks : meth.locks = false) (hcell : H[q]? = some ce) (hv : ce.vm = .none) (hcl : s.vm.findClass E = some ce.cls)
    (hx : ∀ t : State, t.heap = H → s.vm.Alike t.vm → XC E s t) (hf : ∀ z ∈ locs, free z.base) (hc : cells ≤ mc) (hs : slots ≤ ms) :
    vx_W p l e R s m args below meth c H locs cells slots (vx_MQ below Qc XC args s mc ms free) (F0 m pc ls rest) q := by
  intro T hT X
  obtain ⟨st1, hrun, hend, hW, hsm⟩ := X.leaveThrown q (g := F0 m pc ls rest) rfl rfl rfl hout hlocks
  have hcell9 : (T.setFrames (.throwing q :: below)).heap[q]? = some ce := by
    show T.heap[q]? = some ce
    rw [hT]; exact hcell
  exact ⟨_, st1, .threw q, hrun, hend, Or.inr ⟨q, rfl, E, ce, locs, hx _ hT hW.alike, hcell9, hv, hcl, hW, hsm.mono hc hs, hf⟩⟩
theorem vx_frame {U : State} {k n : Nat} (h : s.sameButNew ({ U with vm := s.vm } : State) locs k n) : s.heap.size ≤ U.heap.size ∧ ∀ q : Nat, q < s.heap.size → (∀ z ∈ locs, z.base ≠ q) → U.heap[q]? = s.heap[q]? := by
  obtain ⟨-, h2, -, -, -, h6⟩ := h
  refine ⟨h2, fun q hq hz => ?_⟩
  obtain ⟨c9, e1, e2, e3, e4⟩ := h6 q _ (Array.getElem?_eq_getElem hq)
  have hs : c9.slots = (s.heap[q]).slots := Array.ext_getElem? fun i => e4 i fun hm => hz _ hm rfl
  have h9 : c9 = s.heap[q] := by
    rw [hs] at e2
    exact e2
  have e5 : U.heap[q]? = some c9 := e1
  rw [e5, h9, Array.getElem?_eq_getElem hq]
/-- the words of a throw but the four that speak of the heap -/
def vx_no (w : Cond) : Bool := decide (w ≠ .isRef (.static Bundle.tN "UNASSIGNED_STACK" Bundle.steD)) && decide (w ≠ .isRef (.static Bundle.tN "SUPPRESSED_SENTINEL" Bundle.listD)) && decide (w ≠ .laysStatic Bundle.tN "UNASSIGNED_STACK" Bundle.steD) && decide (w ≠ .laysStatic Bundle.tN "SUPPRESSED_SENTINEL" Bundle.listD)
def vx_at0 (own : String) (ic : Nat) (X : String) (names : List String) : List Cond := (Bundle.ownAtoms0 own ic X names).filter vx_no
def vx_atS (own : String) (ic : Nat) (X : String) (names : List String) : List Cond := (Bundle.ownAtoms own ic X names).filter vx_no
/-- a word that the tables alone decide, or a good one -/
def vx_ot (w : Cond) : Bool := w.onTables || goodWord w
theorem vx_ot_at {args a' : Array Value} {s U : State} {w : Cond} (hW : s.WarmedH U.vm) (hvm : s.vm = U.vm) (hg : vx_ot w = true) (h : w.before args s = true) : w.before a' U = true := by
  simp only [vx_ot, Bool.or_eq_true] at hg
  rcases hg with hg | hg
  · exact va_tabs hg hvm h
  · exact word_at hW (good_of_word hg) h
/-- a list's words: the good ones out of the method's own list, the others by premises of their own -/
theorem vx_hat {args : Array Value} {s : State} {L B : List Cond} (h1 : ∀ w ∈ L.filter goodWord, w.before args s = true) (h2 : ∀ w ∈ L.filter (fun w => !goodWord w), w ∈ B) (h3 : ∀ w ∈ B, w.before args s = true) : ∀ w ∈ L, w.before args s = true := by
  intro w hw
  by_cases g : goodWord w = true
  · exact h1 w (List.mem_filter.mpr ⟨hw, g⟩)
  · refine h3 w (h2 w (List.mem_filter.mpr ⟨hw, ?_⟩))
    show (!goodWord w) = true
    cases hgw : goodWord w
    · rfl
    · exact absurd hgw g
theorem vx_c {args : Array Value} {s : State} {w : Cond} {B : List Cond} (h : w.before args s = true) (t : ∀ w ∈ B, w.before args s = true) : ∀ w' ∈ w :: B, w'.before args s = true := fun w' h' => (List.mem_cons.mp h').elim (fun e => by rw [e]; exact h) (t w')
theorem vx_n {args : Array Value} {s : State} : ∀ w ∈ ([] : List Cond), w.before args s = true := fun _ h => nomatch h
theorem vx_own {args : Array Value} {s : State} {L : List Cond} (h1 : ∀ w ∈ L.filter vx_no, w.before args s = true)
    (hU : (Cond.isRef (.static Bundle.tN "UNASSIGNED_STACK" Bundle.steD)).before args s = true) (hN : (Cond.isRef (.static Bundle.tN "SUPPRESSED_SENTINEL" Bundle.listD)).before args s = true)
    (lU : (Cond.laysStatic Bundle.tN "UNASSIGNED_STACK" Bundle.steD).before args s = true) (lN : (Cond.laysStatic Bundle.tN "SUPPRESSED_SENTINEL" Bundle.listD).before args s = true) : ∀ w ∈ L, w.before args s = true := by
  intro w hw
  by_cases e1 : w = .isRef (.static Bundle.tN "UNASSIGNED_STACK" Bundle.steD)
  · rw [e1]; exact hU
  · by_cases e2 : w = .isRef (.static Bundle.tN "SUPPRESSED_SENTINEL" Bundle.listD)
    · rw [e2]; exact hN
    · by_cases e3 : w = .laysStatic Bundle.tN "UNASSIGNED_STACK" Bundle.steD
      · rw [e3]; exact lU
      · by_cases e4 : w = .laysStatic Bundle.tN "SUPPRESSED_SENTINEL" Bundle.listD
        · rw [e4]; exact lN
        · exact h1 w (List.mem_filter.mpr ⟨hw, by unfold vx_no; rw [decide_eq_true e1, decide_eq_true e2, decide_eq_true e3, decide_eq_true e4]; rfl⟩)
/-- where a static field lies, its class's statics cell in H -/
def vx_L (C n d : String) (A : Nat → Prop) (U : State) (H : Heap) : Prop := ∃ (c : ClassId) (k : Class) (i : Nat) (f : Field) (a : Nat) (cell : Cell), U.vm.findClass C = some c ∧ U.fieldFound? C n d = some (c, k, i, f) ∧ f.isStatic = true ∧ k.statics = some a ∧ H[a]? = some cell ∧ cell.vm.isStatics = true ∧ cell.cls = c ∧ f.slot < cell.slots.size ∧ k.staticTypes[f.slot]? = some f.type ∧ ¬ A a
theorem vx_L.moved {C n d : String} {A : Nat → Prop} {u U : State} {H : Heap} (hvm : u.vm.Alike U.vm) (h : vx_L C n d A u H) : vx_L C n d A U H := by
  obtain ⟨c, k, i, f, a, cell, h1, h2, h3, h4, h5, h6, h7, h8, h9, h10⟩ := h
  obtain ⟨k', hi', he⟩ := State.fieldFound?_setVm hvm h2
  exact ⟨c, k', i, f, a, cell, by rw [hvm.findClass]; exact h1, hi', h3, by rw [he]; exact h4, h5, h6, h7, h8, by rw [he]; exact h9, h10⟩
theorem vx_L.kept {C n d : String} {A : Nat → Prop} {U : State} {H H1 : Heap} (h : vx_L C n d A U H) (hq : ∀ a : Nat, a < H.size → ¬ A a → H1[a]? = H[a]?) : vx_L C n d A U H1 := by
  obtain ⟨c, k, i, f, a, cell, h1, h2, h3, h4, h5, h6, h7, h8, h9, h10⟩ := h
  exact ⟨c, k, i, f, a, cell, h1, h2, h3, h4, by rw [hq a (Array.getElem?_eq_some_iff.mp h5).1 h10]; exact h5, h6, h7, h8, h9, h10⟩
theorem vx_L.narrow {C n d : String} {A B : Nat → Prop} {U : State} {H : Heap} (h : vx_L C n d A U H) (hAB : ∀ q, B q → A q) : vx_L C n d B U H := by
  obtain ⟨c, k, i, f, a, cell, h1, h2, h3, h4, h5, h6, h7, h8, h9, h10⟩ := h
  exact ⟨c, k, i, f, a, cell, h1, h2, h3, h4, h5, h6, h7, h8, h9, fun z => h10 (hAB _ z)⟩
theorem vx_L.word {C n d : String} {A : Nat → Prop} {s : State} {args : Array Value} (h : vx_L C n d A s s.heap) : (Cond.laysStatic C n d).before args s = true := by
  obtain ⟨c, k, i, f, a, cell, h1, h2, h3, h4, h5, h6, h7, h8, h9, -⟩ := h
  show (Cond.laysStatic C n d).holds args s none s [] = true
  exact Cond.laysStatic_of h1 h2 h3 h4 h5 h6 h7 h8 h9
/-- .. and what it holds: null or some reference -/
def vx_Zq (C n d : String) (A : Nat → Prop) (U : State) (H : Heap) : Prop := va_Zq C n d A U H ∧ vx_L C n d A U H
theorem vx_Zq.moved {C n d : String} {A : Nat → Prop} {u U : State} {H : Heap} (hvm : u.vm.Alike U.vm) (h : vx_Zq C n d A u H) : vx_Zq C n d A U H := ⟨va_Zq.moved hvm h.1, vx_L.moved hvm h.2⟩
theorem vx_Zq.kept {C n d : String} {A : Nat → Prop} {U : State} {H H1 : Heap} (h : vx_Zq C n d A U H) (hq : ∀ a : Nat, a < H.size → ¬ A a → H1[a]? = H[a]?) : vx_Zq C n d A U H1 := ⟨va_Zq.kept h.1 hq, vx_L.kept h.2 hq⟩
theorem vx_Zq.narrow {C n d : String} {A B : Nat → Prop} {U : State} {H : Heap} (h : vx_Zq C n d A U H) (hAB : ∀ q, B q → A q) : vx_Zq C n d B U H := ⟨va_Zq.narrow h.1 hAB, vx_L.narrow h.2 hAB⟩
theorem vx_Zqof {args : Array Value} {s : State} {C n d : String} {A : Nat → Prop} (hl : (Cond.laysStatic C n d).before args s = true) (hini : (Cond.initialized C).before args s = true) (h : (Cond.isRef (.static C n d)).before args s = true) (hA : ∀ a : Nat, a < s.heap.size → ¬ A a) : vx_Zq C n d A s s.heap := by
  refine ⟨va_Zqof hl hini h hA, ?_⟩
  obtain ⟨c, k, i, f, a, cell, h1, h2, h3, h4, h5, h6, h7, h8, h9⟩ := Cond.laysStatic_spec hl
  exact ⟨c, k, i, f, a, cell, h1, h2, h3, h4, h5, h6, h7, h8, h9, hA a (Array.getElem?_eq_some_iff.mp h5).1⟩
theorem vx_isRef {C n d : String} {v : Value} {A : Nat → Prop} {s : State} {args : Array Value} (h : va_Z C n d v A s s.heap) (hv : v.isRef = true) : (Cond.isRef (.static C n d)).before args s = true := by
  obtain ⟨cf, kf, fi, f, a, cell, h1, h2, h3, h4, h5, h6, h7, -⟩ := h
  have he : (Term.static C n d).eval args s none [] s = some v := by
    simp [Term.eval, State.fieldNamed?, h1, h2, h4, h5, h6, h7]
  simp only [Cond.before, Cond.holds, Cond.value, he]
  cases v <;> simp_all [Value.isRef]
theorem vx_isRefq {C n d : String} {A : Nat → Prop} {s : State} {args : Array Value} (h : va_Zq C n d A s s.heap) : (Cond.isRef (.static C n d)).before args s = true := by
  rcases h with h | ⟨t, h⟩
  · exact vx_isRef h rfl
  · exact vx_isRef h rfl
/-- the same frame, seen from here: as if the method were called anew in this heap -/
theorem vx_rebase {T : State} (X : Stand p l e R s m args below meth c T locs cells slots) {R' : Room} (hf : R'.frames ≤ R.frames) (hl : R'.locals ≤ R.locals) (hc : cells + R'.cells ≤ R.cells) (hs : slots + R'.slots ≤ R.slots) :
    Stand p l e R' ((T.setVm s.vm).setFrames (.invoking m args :: below)) m args below meth c T [] 0 0 := by
  have htop : (T.setVm s.vm).topJava?.isSome := X.here.top
  have hF : ((T.setVm s.vm).setFrames (.invoking m args :: below)).frames = .invoking m args :: below := State.frames_setFrames _ (State.cur_lt_of_top htop)
  obtain ⟨g₀, hg0⟩ := Option.isSome_iff_exists.mp htop
  obtain ⟨r, hr⟩ := State.topJava?_eq_some.mp hg0
  have hl9 : e.platform.stackLimits (T.setVm s.vm).me = e.platform.stackLimits s.me := X.limits
  have hb9 : (T.setVm s.vm).me.stackBytes = s.me.stackBytes := X.bytes
  refine ⟨X.admits, X.cas, X.clock, hF, ?_, X.hears, X.method, X.code, X.here, X.tail, X.warmed, ?_, ?_, ?_⟩
  · have h := X.room
    have hU : ((T.setVm s.vm).setFrames (.invoking m args :: below)).localsInUse = s.localsInUse := by
      rw [State.localsInUse_invoking hF (meth := meth) (c := c) X.method X.code, State.localsInUse_invoking X.frames X.method X.code]
    simp only [State.hasRoom, Bool.and_eq_true, decide_eq_true_eq] at h ⊢
    obtain ⟨⟨⟨⟨h1, h2, h3, h4, h5, h6⟩, h7⟩, h8⟩, h9⟩ := h
    rw [X.frames, List.length_cons] at h2 h3
    have q1 := X.heapSize
    have q2 := X.used
    simp only [hF, hU, List.length_cons, State.stackLimits_setFrames, State.stackBytes_setFrames, hl9, hb9]
    refine ⟨⟨⟨⟨by omega, by omega, by omega, by omega, by omega, h6⟩, ?_⟩, ?_⟩, X.book⟩
    · show T.heap.size + R'.cells ≤ e.platform.maxCells
      omega
    · show T.slotsUsed + R'.slots ≤ e.platform.maxSlots
      omega
  · rw [State.stackLimits_setFrames]; rfl
  · rw [State.stackBytes_setFrames]; rfl
  · refine ⟨?_, Nat.le_refl _, Nat.le_refl _, ?_, ?_, fun a c9 h9 => ⟨c9, h9, rfl, rfl, fun _ _ => rfl⟩⟩
    · obtain ⟨t, ht, -⟩ := State.frames_cons hr
      show T.setVm s.vm = { ((T.setVm s.vm).setFrames (.invoking m args :: below)).setFrames (T.setVm s.vm).frames with heap := T.heap, slotsUsed := T.slotsUsed }
      rw [State.setFrames_setFrames, State.setFrames_self ht]
      rfl
    · show T.slotsUsed = T.slotsUsed + ((T.heap.toList.drop T.heap.size).map (·.slots.size)).sum
      rw [List.drop_eq_nil_of_le (Nat.le_of_eq Array.length_toList)]
      rfl
    · show ((T.heap.toList.drop T.heap.size).map (·.slots.size)).sum ≤ 0
      rw [List.drop_eq_nil_of_le (Nat.le_of_eq Array.length_toList)]
      exact Nat.le_refl _
/-- 'throw new E()': new; dup; invokespecial; athrow -/
theorem vx_throw0 {cc : ByteArray} {pc : Nat} (hexec : p.tables.exec = Jvm.exec) (hb : c.code = cc) (hl : l.stackTraces = false) {own cls : String} {names : List String} {ik ic mc ms : Nat} {A : Nat → Prop}
    (hown : s.vm.findClass own = some m.cls) (hcls : Bundle.fit cls = true) (hnames : ∀ n ∈ names, Bundle.fit n = true)
    (hk : (Cond.classLink own ik cls).before args s = true) (hini : (Cond.initialized cls).before args s = true) (hat : ∀ w ∈ vx_at0 own ic cls names, w.before args s = true)
    (hgood : ∀ w ∈ Cond.classLink own ik cls :: Cond.initialized cls :: vx_at0 own ic cls names, vx_ot w = true)
    (hU : vx_Zq Bundle.tN "UNASSIGNED_STACK" Bundle.steD A s s.heap) (hN : vx_Zq Bundle.tN "SUPPRESSED_SENTINEL" Bundle.listD A s s.heap) (hS : va_S A s.heap H locs) (hsize : ls.size = c.maxLocals)
    (d0 : decode cc pc = .ok (.new ik, 3)) (d3 : decode cc (pc + 3) = .ok (.dup, 1)) (d4 : decode cc (pc + 4) = .ok (.invokespecial ic, 3)) (d7 : decode cc (pc + 7) = .ok (.athrow, 1))
    (hout : ∀ x ∈ c.exceptionTable.toList, covers x (pc + 7) = false)
    (hRframes : names.length + 3 < R.frames) (hRlocals : (rest.map fun v => v.category).sum + (13 * (names.length + 1) + 42) ≤ R.locals) (hRcells : cells + 1 ≤ R.cells) (hRslots : slots + 6 ≤ R.slots) (hlocks : meth.locks = false)
    (hx : ∀ t : State, s.vm.Alike t.vm → H.size ≤ t.heap.size → (∀ q : Nat, q < H.size → t.heap[q]? = H[q]?) → XC cls s t)
    (hf : ∀ z ∈ locs, free z.base) (hc : cells + 1 ≤ mc) (hs : slots + 6 ≤ ms) :
    W p l e R s m args below meth c H locs cells slots (vx_MQ below Qc XC args s mc ms free) (F0 m pc ls rest) := by
  intro T hT X
  have htr : e.platform.stackTraces = false := (show e.platform.stackTraces = l.stackTraces by rw [X.admits.platform]).trans hl
  have Y := vx_rebase X (R' := { frames := R.frames, locals := R.locals, cells := 1, slots := 6 }) (Nat.le_refl _) (Nat.le_refl _) hRcells hRslots
  obtain ⟨s', hA⟩ : ∃ z, z = (T.setVm s.vm).setFrames (.invoking m args :: below) := ⟨_, rfl⟩
  rw [← hA] at Y
  have hvm : s'.vm = s.vm := by rw [hA]; rfl
  have hhp : s'.heap = H := by rw [hA]; exact hT
  have hW0 : s.WarmedH s'.vm := by rw [hvm]; exact State.WarmedH.refl s
  have hat' : ∀ w ∈ vx_at0 own ic cls names, w.before args s' = true := fun w hw => vx_ot_at hW0 hvm.symm (hgood w (List.mem_cons_of_mem _ (List.mem_cons_of_mem _ hw))) (hat w hw)
  have hk' : (Cond.classLink own ik cls).before args s' = true := vx_ot_at hW0 hvm.symm (hgood _ List.mem_cons_self) hk
  have hini' : (Cond.initialized cls).before args s' = true := vx_ot_at hW0 hvm.symm (hgood _ (List.mem_cons_of_mem _ List.mem_cons_self)) hini
  have hU' : vx_Zq Bundle.tN "UNASSIGNED_STACK" Bundle.steD A s' s'.heap := by rw [hhp]; exact vx_Zq.moved hW0.alike (hU.kept hS.2.1)
  have hN' : vx_Zq Bundle.tN "SUPPRESSED_SENTINEL" Bundle.listD A s' s'.heap := by rw [hhp]; exact vx_Zq.moved hW0.alike (hN.kept hS.2.1)
  have h : ∀ w ∈ Bundle.ownAtoms0 own ic cls names, w.before args s' = true := vx_own hat' (vx_isRefq hU'.1) (vx_isRefq hN'.1) hU'.2.word hN'.2.word
  have hown' : s'.vm.findClass own = some m.cls := by rw [hvm]; exact hown
  have hins : (Cond.instantiable cls 6).before args s' = true := h _ (by simp [Bundle.ownAtoms0])
  obtain ⟨vm₁, cX, kX, hfX, hkX, -, -, X₁, st1⟩ := Y.newCold hexec (own := own) (C := cls) (index := ik) (n := 6) hown' hk' hins hini'
    (g := F0 m pc ls rest) rfl (by rw [hb]; exact d0) (Nat.le_refl _) (Nat.le_refl _)
  generalize hT1 : (T.setVm vm₁).pushCell { cls := cX, slots := kX.instanceTypes.map defaultValue, vm := .none } = T1 at X₁ st1
  have hcat : (Value.ref T.heap.size).category = 1 := rfl
  have hcellA : T1.heap[T.heap.size]? = some (freshCell cX kX) := by rw [← hT1]; exact State.heap_pushCell_size _ _
  have d3' : decode c.code (pc + 3) = .ok (.dup, 1) := by rw [hb]; exact d3
  obtain ⟨U, hsteps, hrun, hend, hW, hsame, ce, hce, hO⟩ := X₁.ctorThrow0 hexec htr (own := own) (cls := cls) (names := names) (ic := ic) hown' hcls hnames h (fun x hx => nomatch hx) hfX hkX hcellA (by rw [hhp, hT]; exact Nat.le_refl _)
    (g := { method := m, pc := pc + 4, locals := ls, stack := .ref T.heap.size :: .ref T.heap.size :: rest, locked := none }) rfl hsize rfl rfl (rest := rest) rfl
    (by rw [hb]; exact d4) (by rw [hb]; exact d7) hout hRframes (by simp only [List.map_cons, List.sum_cons, hcat]; omega) hlocks
  obtain ⟨f1, f2⟩ := vx_frame hsame
  rw [hhp] at f1 f2
  have hWs : s.WarmedH U.vm := State.WarmedH.trans hW0 hW
  have hcl : s.vm.findClass cls = some ce.cls := by
    have h9 := hO.cls
    rw [hvm] at h9
    exact h9
  have hall : s.sameButNew ({ U with vm := s.vm } : State) locs mc ms := by
    subst hA
    obtain ⟨e1, e2⟩ := hsame
    rw [State.setFrames_setFrames] at e1
    have h2 : (T.setVm s.vm).sameButNew ({ U with vm := s.vm } : State) [] (0 + 1) (0 + 6) := ⟨e1, e2⟩
    have h3 := X.same.trans h2
    rw [List.append_nil] at h3
    exact h3.mono hc hs
  refine ⟨U, ?_, .threw T.heap.size, hrun, hend, Or.inr ⟨T.heap.size, rfl, cls, ce, locs, hx U hWs.alike f1 (fun q hq => f2 q hq (fun z hz => nomatch hz)), hce, hO.vm, hcl, hWs, hall, hf⟩⟩
  refine st1 _ ?_
  show Steps p.tables e below (T1.setTop { method := m, pc := pc + 3, locals := ls, stack := .ref T.heap.size :: rest, locked := none }) _
  jvm_step X₁.here [X₁.here.top, hexec, d3', Value.category]
  exact hsteps
/-- 'throw new E("text")': new; dup; ldc; invokespecial; athrow -/
theorem vx_throwS {cc : ByteArray} {pc : Nat} (hexec : p.tables.exec = Jvm.exec) (hb : c.code = cc) (hl : l.stackTraces = false) {own cls text : String} {names : List String} {ik is ic mc ms sa : Nat} {A : Nat → Prop}
    (hown : s.vm.findClass own = some m.cls) (hcls : Bundle.fit cls = true) (hnames : ∀ n ∈ names, Bundle.fit n = true)
    (hk : (Cond.classLink own ik cls).before args s = true) (hini : (Cond.initialized cls).before args s = true) (hstr : vk_R own is text sa s) (hat : ∀ w ∈ vx_atS own ic cls names, w.before args s = true)
    (hgood : ∀ w ∈ Cond.classLink own ik cls :: Cond.initialized cls :: vx_atS own ic cls names, vx_ot w = true)
    (hU : vx_Zq Bundle.tN "UNASSIGNED_STACK" Bundle.steD A s s.heap) (hN : vx_Zq Bundle.tN "SUPPRESSED_SENTINEL" Bundle.listD A s s.heap) (hS : va_S A s.heap H locs) (hsize : ls.size = c.maxLocals)
    (d0 : decode cc pc = .ok (.new ik, 3)) (d3 : decode cc (pc + 3) = .ok (.dup, 1)) (d4 : decode cc (pc + 4) = .ok (.ldc is, 2)) (d6 : decode cc (pc + 6) = .ok (.invokespecial ic, 3)) (d9 : decode cc (pc + 9) = .ok (.athrow, 1))
    (hout : ∀ x ∈ c.exceptionTable.toList, covers x (pc + 9) = false)
    (hRframes : names.length + 3 < R.frames) (hRlocals : (rest.map fun v => v.category).sum + (13 * (names.length + 1) + 43) ≤ R.locals) (hRcells : cells + 1 ≤ R.cells) (hRslots : slots + 6 ≤ R.slots) (hlocks : meth.locks = false)
    (hx : ∀ t : State, s.vm.Alike t.vm → H.size ≤ t.heap.size → (∀ q : Nat, q < H.size → t.heap[q]? = H[q]?) → XC cls s t)
    (hf : ∀ z ∈ locs, free z.base) (hc : cells + 1 ≤ mc) (hs : slots + 6 ≤ ms) :
    W p l e R s m args below meth c H locs cells slots (vx_MQ below Qc XC args s mc ms free) (F0 m pc ls rest) := by
  intro T hT X
  have htr : e.platform.stackTraces = false := (show e.platform.stackTraces = l.stackTraces by rw [X.admits.platform]).trans hl
  have Y := vx_rebase X (R' := { frames := R.frames, locals := R.locals, cells := 1, slots := 6 }) (Nat.le_refl _) (Nat.le_refl _) hRcells hRslots
  obtain ⟨s', hA⟩ : ∃ z, z = (T.setVm s.vm).setFrames (.invoking m args :: below) := ⟨_, rfl⟩
  rw [← hA] at Y
  have hvm : s'.vm = s.vm := by rw [hA]; rfl
  have hhp : s'.heap = H := by rw [hA]; exact hT
  have hW0 : s.WarmedH s'.vm := by rw [hvm]; exact State.WarmedH.refl s
  have hat' : ∀ w ∈ vx_atS own ic cls names, w.before args s' = true := fun w hw => vx_ot_at hW0 hvm.symm (hgood w (List.mem_cons_of_mem _ (List.mem_cons_of_mem _ hw))) (hat w hw)
  have hk' : (Cond.classLink own ik cls).before args s' = true := vx_ot_at hW0 hvm.symm (hgood _ List.mem_cons_self) hk
  have hini' : (Cond.initialized cls).before args s' = true := vx_ot_at hW0 hvm.symm (hgood _ (List.mem_cons_of_mem _ List.mem_cons_self)) hini
  have hU' : vx_Zq Bundle.tN "UNASSIGNED_STACK" Bundle.steD A s' s'.heap := by rw [hhp]; exact vx_Zq.moved hW0.alike (hU.kept hS.2.1)
  have hN' : vx_Zq Bundle.tN "SUPPRESSED_SENTINEL" Bundle.listD A s' s'.heap := by rw [hhp]; exact vx_Zq.moved hW0.alike (hN.kept hS.2.1)
  have h : ∀ w ∈ Bundle.ownAtoms own ic cls names, w.before args s' = true := vx_own hat' (vx_isRefq hU'.1) (vx_isRefq hN'.1) hU'.2.word hN'.2.word
  have hown' : s'.vm.findClass own = some m.cls := by rw [hvm]; exact hown
  have hins : (Cond.instantiable cls 6).before args s' = true := h _ (by simp [Bundle.ownAtoms])
  obtain ⟨vm₁, cX, kX, hfX, hkX, -, -, X₁, st1⟩ := Y.newCold hexec (own := own) (C := cls) (index := ik) (n := 6) hown' hk' hins hini'
    (g := F0 m pc ls rest) rfl (by rw [hb]; exact d0) (Nat.le_refl _) (Nat.le_refl _)
  generalize hT1 : (T.setVm vm₁).pushCell { cls := cX, slots := kX.instanceTypes.map defaultValue, vm := .none } = T1 at X₁ st1
  have hcat : (Value.ref T.heap.size).category = 1 := rfl
  have hcellA : T1.heap[T.heap.size]? = some (freshCell cX kX) := by rw [← hT1]; exact State.heap_pushCell_size _ _
  have d3' : decode c.code (pc + 3) = .ok (.dup, 1) := by rw [hb]; exact d3
  have d4' : decode c.code (pc + 4) = .ok (.ldc is, 2) := by rw [hb]; exact d4
  have hstr' : vk_R own is text sa s' := vk_R.warm hW0 hstr
  obtain ⟨U, hsteps, hrun, hend, hW, hsame, ce, hce, hO⟩ := X₁.ctorThrowS hexec htr (own := own) (cls := cls) (names := names) (ic := ic) hown' hcls hnames h (fun x hx => nomatch hx) hfX hkX hcellA (by rw [hhp, hT]; exact Nat.le_refl _) (msg := .ref sa) rfl
    (g := { method := m, pc := pc + 6, locals := ls, stack := .ref sa :: .ref T.heap.size :: .ref T.heap.size :: rest, locked := none }) rfl hsize rfl rfl (rest := rest) rfl
    (by rw [hb]; exact d6) (by rw [hb]; exact d9) hout hRframes (by simp only [List.map_cons, List.sum_cons, hcat]; omega) hlocks
  obtain ⟨f1, f2⟩ := vx_frame hsame
  rw [hhp] at f1 f2
  have hWs : s.WarmedH U.vm := State.WarmedH.trans hW0 hW
  have hcl : s.vm.findClass cls = some ce.cls := by
    have h9 := hO.cls
    rw [hvm] at h9
    exact h9
  have hall : s.sameButNew ({ U with vm := s.vm } : State) locs mc ms := by
    subst hA
    obtain ⟨e1, e2⟩ := hsame
    rw [State.setFrames_setFrames] at e1
    have h2 : (T.setVm s.vm).sameButNew ({ U with vm := s.vm } : State) [] (0 + 1) (0 + 6) := ⟨e1, e2⟩
    have h3 := X.same.trans h2
    rw [List.append_nil] at h3
    exact h3.mono hc hs
  refine ⟨U, ?_, .threw T.heap.size, hrun, hend, Or.inr ⟨T.heap.size, rfl, cls, ce, locs, hx U hWs.alike f1 (fun q hq => f2 q hq (fun z hz => nomatch hz)), hce, hO.vm, hcl, hWs, hall, hf⟩⟩
  refine st1 _ ?_
  show Steps p.tables e below (T1.setTop { method := m, pc := pc + 3, locals := ls, stack := .ref T.heap.size :: rest, locked := none }) _
  jvm_step X₁.here [X₁.here.top, hexec, d3', Value.category]
  exact X₁.ldcString hexec (own := own) (text := text) (index := is) (a := sa) hown' hstr'.1 hstr'.2
    (g := { method := m, pc := pc + 4, locals := ls, stack := .ref T.heap.size :: .ref T.heap.size :: rest, locked := none }) rfl d4' _ hsteps
/-- 'throw new E("text")', the text by a wide index -/
theorem vx_throwSW {cc : ByteArray} {pc : Nat} (hexec : p.tables.exec = Jvm.exec) (hb : c.code = cc) (hl : l.stackTraces = false) {own cls text : String} {names : List String} {ik is ic mc ms sa : Nat} {A : Nat → Prop}
    (hown : s.vm.findClass own = some m.cls) (hcls : Bundle.fit cls = true) (hnames : ∀ n ∈ names, Bundle.fit n = true)
    (hk : (Cond.classLink own ik cls).before args s = true) (hini : (Cond.initialized cls).before args s = true) (hstr : vk_R own is text sa s) (hat : ∀ w ∈ vx_atS own ic cls names, w.before args s = true)
    (hgood : ∀ w ∈ Cond.classLink own ik cls :: Cond.initialized cls :: vx_atS own ic cls names, vx_ot w = true)
    (hU : vx_Zq Bundle.tN "UNASSIGNED_STACK" Bundle.steD A s s.heap) (hN : vx_Zq Bundle.tN "SUPPRESSED_SENTINEL" Bundle.listD A s s.heap) (hS : va_S A s.heap H locs) (hsize : ls.size = c.maxLocals)
    (d0 : decode cc pc = .ok (.new ik, 3)) (d3 : decode cc (pc + 3) = .ok (.dup, 1)) (d4 : decode cc (pc + 4) = .ok (.ldc_w is, 3)) (d7 : decode cc (pc + 7) = .ok (.invokespecial ic, 3)) (d10 : decode cc (pc + 10) = .ok (.athrow, 1))
    (hout : ∀ x ∈ c.exceptionTable.toList, covers x (pc + 10) = false)
    (hRframes : names.length + 3 < R.frames) (hRlocals : (rest.map fun v => v.category).sum + (13 * (names.length + 1) + 43) ≤ R.locals) (hRcells : cells + 1 ≤ R.cells) (hRslots : slots + 6 ≤ R.slots) (hlocks : meth.locks = false)
    (hx : ∀ t : State, s.vm.Alike t.vm → H.size ≤ t.heap.size → (∀ q : Nat, q < H.size → t.heap[q]? = H[q]?) → XC cls s t)
    (hf : ∀ z ∈ locs, free z.base) (hc : cells + 1 ≤ mc) (hs : slots + 6 ≤ ms) :
    W p l e R s m args below meth c H locs cells slots (vx_MQ below Qc XC args s mc ms free) (F0 m pc ls rest) := by
  intro T hT X
  have htr : e.platform.stackTraces = false := (show e.platform.stackTraces = l.stackTraces by rw [X.admits.platform]).trans hl
  have Y := vx_rebase X (R' := { frames := R.frames, locals := R.locals, cells := 1, slots := 6 }) (Nat.le_refl _) (Nat.le_refl _) hRcells hRslots
  obtain ⟨s', hA⟩ : ∃ z, z = (T.setVm s.vm).setFrames (.invoking m args :: below) := ⟨_, rfl⟩
  rw [← hA] at Y
  have hvm : s'.vm = s.vm := by rw [hA]; rfl
  have hhp : s'.heap = H := by rw [hA]; exact hT
  have hW0 : s.WarmedH s'.vm := by rw [hvm]; exact State.WarmedH.refl s
  have hat' : ∀ w ∈ vx_atS own ic cls names, w.before args s' = true := fun w hw => vx_ot_at hW0 hvm.symm (hgood w (List.mem_cons_of_mem _ (List.mem_cons_of_mem _ hw))) (hat w hw)
  have hk' : (Cond.classLink own ik cls).before args s' = true := vx_ot_at hW0 hvm.symm (hgood _ List.mem_cons_self) hk
  have hini' : (Cond.initialized cls).before args s' = true := vx_ot_at hW0 hvm.symm (hgood _ (List.mem_cons_of_mem _ List.mem_cons_self)) hini
  have hU' : vx_Zq Bundle.tN "UNASSIGNED_STACK" Bundle.steD A s' s'.heap := by rw [hhp]; exact vx_Zq.moved hW0.alike (hU.kept hS.2.1)
  have hN' : vx_Zq Bundle.tN "SUPPRESSED_SENTINEL" Bundle.listD A s' s'.heap := by rw [hhp]; exact vx_Zq.moved hW0.alike (hN.kept hS.2.1)
  have h : ∀ w ∈ Bundle.ownAtoms own ic cls names, w.before args s' = true := vx_own hat' (vx_isRefq hU'.1) (vx_isRefq hN'.1) hU'.2.word hN'.2.word
  have hown' : s'.vm.findClass own = some m.cls := by rw [hvm]; exact hown
  have hins : (Cond.instantiable cls 6).before args s' = true := h _ (by simp [Bundle.ownAtoms])
  obtain ⟨vm₁, cX, kX, hfX, hkX, -, -, X₁, st1⟩ := Y.newCold hexec (own := own) (C := cls) (index := ik) (n := 6) hown' hk' hins hini'
    (g := F0 m pc ls rest) rfl (by rw [hb]; exact d0) (Nat.le_refl _) (Nat.le_refl _)
  generalize hT1 : (T.setVm vm₁).pushCell { cls := cX, slots := kX.instanceTypes.map defaultValue, vm := .none } = T1 at X₁ st1
  have hcat : (Value.ref T.heap.size).category = 1 := rfl
  have hcellA : T1.heap[T.heap.size]? = some (freshCell cX kX) := by rw [← hT1]; exact State.heap_pushCell_size _ _
  have d3' : decode c.code (pc + 3) = .ok (.dup, 1) := by rw [hb]; exact d3
  have d4' : decode c.code (pc + 4) = .ok (.ldc_w is, 3) := by rw [hb]; exact d4
  have hstr' : vk_R own is text sa s' := vk_R.warm hW0 hstr
  obtain ⟨U, hsteps, hrun, hend, hW, hsame, ce, hce, hO⟩ := X₁.ctorThrowS hexec htr (own := own) (cls := cls) (names := names) (ic := ic) hown' hcls hnames h (fun x hx => nomatch hx) hfX hkX hcellA (by rw [hhp, hT]; exact Nat.le_refl _) (msg := .ref sa) rfl
    (g := { method := m, pc := pc + 7, locals := ls, stack := .ref sa :: .ref T.heap.size :: .ref T.heap.size :: rest, locked := none }) rfl hsize rfl rfl (rest := rest) rfl
    (by rw [hb]; exact d7) (by rw [hb]; exact d10) hout hRframes (by simp only [List.map_cons, List.sum_cons, hcat]; omega) hlocks
  obtain ⟨f1, f2⟩ := vx_frame hsame
  rw [hhp] at f1 f2
  have hWs : s.WarmedH U.vm := State.WarmedH.trans hW0 hW
  have hcl : s.vm.findClass cls = some ce.cls := by
    have h9 := hO.cls
    rw [hvm] at h9
    exact h9
  have hall : s.sameButNew ({ U with vm := s.vm } : State) locs mc ms := by
    subst hA
    obtain ⟨e1, e2⟩ := hsame
    rw [State.setFrames_setFrames] at e1
    have h2 : (T.setVm s.vm).sameButNew ({ U with vm := s.vm } : State) [] (0 + 1) (0 + 6) := ⟨e1, e2⟩
    have h3 := X.same.trans h2
    rw [List.append_nil] at h3
    exact h3.mono hc hs
  refine ⟨U, ?_, .threw T.heap.size, hrun, hend, Or.inr ⟨T.heap.size, rfl, cls, ce, locs, hx U hWs.alike f1 (fun q hq => f2 q hq (fun z hz => nomatch hz)), hce, hO.vm, hcl, hWs, hall, hf⟩⟩
  refine st1 _ ?_
  show Steps p.tables e below (T1.setTop { method := m, pc := pc + 3, locals := ls, stack := .ref T.heap.size :: rest, locked := none }) _
  jvm_step X₁.here [X₁.here.top, hexec, d3', Value.category]
  exact X₁.ldcStringW hexec (own := own) (text := text) (index := is) (a := sa) hown' hstr'.1 hstr'.2
    (g := { method := m, pc := pc + 4, locals := ls, stack := .ref T.heap.size :: .ref T.heap.size :: rest, locked := none }) rfl d4' _ hsteps
end Ends
section Bodies
variable {l : Launch}
theorem vx_ofW {y : MethodName} {ws ws' : List Cond} {rm : Room} {Pc : Array Value → State → Prop} {Qc : Array Value → State → Outcome → State → Prop} {XC : String → State → State → Prop} {mc ms : Nat} {free : Addr → Prop} {cc : ByteArray} {maxL : Nat} {ret : Option FieldType}
    (hy : plainName y.cls = true) (hw : ws = Cond.code y cc maxL ret :: ws')
    (body : ∀ p e s m args below meth c s₁, BodyLoose p l y (headSpec ws rm) cc maxL ret e s m args below meth c s₁ → c.maxLocals = maxL → (∀ x ∈ c.exceptionTable.toList, False) → Pc args s →
      W p l e (headSpec ws rm).room s m args below meth c s.heap [] 0 0 (vx_MQ below Qc XC args s mc ms free) (entryFrame m args maxL)) : vx_Met l y ws rm Pc Qc XC mc ms free := by
  refine MetFree.of_bodyS (code := cc) (maxLocals := maxL) (ret := ret) hy ?_ ?_
  · intro args s m h hn
    obtain ⟨meth, c, h1, h2, h3, h4, h5, h6, -, -⟩ := Cond.code_spec hn (atoms_spec (ws := ws) h _ (by rw [hw]; exact List.mem_cons_self))
    exact ⟨meth, c, h1, h2, h3, h4, h5, h6⟩
  · intro p e s m args below meth c s₁ B hml hP _
    have hh0 : s₁.heap = s.heap := by rw [B.state]; rfl
    have ht : ∀ x ∈ c.exceptionTable.toList, False := by
      obtain ⟨meth9, c9, h1, h2, -, -, -, -, h7, -⟩ := Cond.code_spec B.named (atoms_spec (ws := ws) B.pre _ (by rw [hw]; exact List.mem_cons_self))
      cases Option.some.inj (h1.symm.trans B.method)
      cases Option.some.inj (h2.symm.trans (Stand.of_body B).code)
      intro x hx
      rw [Array.isEmpty_iff.mp h7] at hx
      cases hx
    obtain ⟨t, a1, o, b1, b2, b3⟩ := body p e s m args below meth c s₁ B hml ht hP s₁ hh0 (Stand.of_body B)
    exact ⟨t, o, a1, b1, b2, b3⟩
/-- the table of a body with handlers -/
theorem vx_table {p : Program} {x y : MethodName} {S : Spec} {cc bytes : ByteArray} {maxL maxL' : Nat} {ret ret' : Option FieldType} {e : Env} {s s₁ : State} {m : MethodId} {args : Array Value} {below : List Frame} {meth : Method} {c : Code} {hh : List (Nat × Nat × Nat × Nat)}
    (B : BodyLoose p l y S cc maxL ret e s m args below meth c s₁) (h : (Cond.codeWith y bytes maxL' ret' hh).before args s = true) : c.exceptionTable.toList = tableOf hh := by
  obtain ⟨m9, meth9, c9, hn9, h1, h2, -, -, h6, -⟩ := Cond.codeWith_spec h
  cases Option.some.inj (hn9.symm.trans B.named)
  cases Option.some.inj (h1.symm.trans B.method)
  cases Option.some.inj (h2.symm.trans (Stand.of_body B).code)
  rw [← h6, table_eq]
end Bodies
end VXA
/-! ===== END ===== -/
/-! ===== BEGIN a static call of a method with an exception table ===== -/
section VXS
variable {p : Program} {l : Launch} {e : Env} {R : Room} {s : State} {m : MethodId} {args : Array Value} {below : List Frame} {meth : Method} {c : Code} {T : State} {H : Heap} {locs : List Loc} {cells slots : Nat}
abbrev vx_CSW (R : Room) (s : State) (args : Array Value) (own : String) (index : Nat) (y : MethodName) (bytes : ByteArray) (maxL : Nat) (ret : Option FieldType) (hh : List (Nat × Nat × Nat × Nat)) (ws : List Cond) (rm : Room) (mc ms n : Nat) : Prop :=
  (rm.cells = mc ∧ rm.slots = ms ∧ rm.frames + 1 ≤ R.frames ∧ 8 + (maxL + 11) + rm.locals ≤ R.locals ∧ (∀ w ∈ ws, ∀ (a' : Array Value) (U : State), s.WarmedH U.vm → w.before a' U = true) ∧ Cond.codeWith y bytes maxL ret hh ∈ ws) ∧
  (Cond.codeWith y bytes maxL ret hh).before args s = true ∧ (Cond.initialized y.cls).before args s = true ∧ (y.cls ≠ "java/lang/invoke/MethodHandle" ∧ y.cls ≠ "java/lang/invoke/VarHandle") ∧
  (∀ sig, parseMethodDescriptor y.desc = some sig → n = sig.parameters.length) ∧ (Cond.methodLink own index y).before args s = true ∧ (Cond.static y).before args s = true
theorem vx_cwSW {own : String} {index maxL mc ms : Nat} {y : MethodName} {bytes : ByteArray} {ret : Option FieldType} {hh : List (Nat × Nat × Nat × Nat)} {Ts ws ws' : List Cond} {rm : Room} (n : Nat) (ht : ∀ w ∈ Ts, w.before args s = true) (hT : GoodIn Ts (va_wsS own index y ws)) (hw : ws = Cond.codeWith y bytes maxL ret hh :: ws') (hrc : rm.cells = mc) (hrs : rm.slots = ms)
    (hd : y.cls ≠ "java/lang/invoke/MethodHandle" ∧ y.cls ≠ "java/lang/invoke/VarHandle" ∧ (parseMethodDescriptor y.desc).map (fun d => d.parameters.length) = some n) (hR : rm.frames + 1 ≤ R.frames ∧ 8 + (maxL + 11) + rm.locals ≤ R.locals) :
    vx_CSW R s args own index y bytes maxL ret hh ws rm mc ms n := by
  have ok : ∀ w ∈ va_wsS own index y ws, w.before args s = true := fun w h => ht w (hT w h).1
  have hG : GoodIn Ts ws := fun w h => hT w (by unfold va_wsS; exact List.mem_append_right _ h)
  have hc : Cond.codeWith y bytes maxL ret hh ∈ ws := by rw [hw]; exact List.mem_cons_self
  refine ⟨⟨hrc, hrs, hR.1, hR.2, pay_in ht hG, hc⟩, ht _ (hG _ hc).1, ok _ (by simp [va_wsS]), ⟨hd.1, hd.2.1⟩, fun sig h => ?_, ok _ (by simp [va_wsS]), ok _ (by simp [va_wsS])⟩
  have h2 := hd.2.2
  rw [h] at h2
  exact (Option.some.inj h2).symm
theorem vx_callSW (X : Stand p l e R s m args below meth c T locs cells slots) (hexec : p.tables.exec = Jvm.exec) {own : String} {index : Nat} {y : MethodName} {bytes : ByteArray} {maxL : Nat} {ret : Option FieldType} {hh : List (Nat × Nat × Nat × Nat)}
    (hown : s.vm.findClass own = some m.cls) (hlink : (Cond.methodLink own index y).before args s = true) (hstat : (Cond.static y).before args s = true) (hinit : (Cond.initialized y.cls).before args s = true)
    (hcode : (Cond.codeWith y bytes maxL ret hh).before args s = true) (hy : y.cls ≠ "java/lang/invoke/MethodHandle" ∧ y.cls ≠ "java/lang/invoke/VarHandle")
    {W9 : Nat} {Pre : Pt → Array Value → Prop} {Post : Pt → Array Value → Option Value → Pt → Prop} (hK : Back l R p e below s args y 3 W9 Pre Post)
    {g : JFrame} (hg : g.method = m) (hsize : g.locals.size = c.maxLocals) {argsL rest : List Value} (hlen : ∀ sig, parseMethodDescriptor y.desc = some sig → argsL.length = sig.parameters.length)
    (hstack : g.stack = argsL.reverse ++ rest) (hW : 2 * g.monitorRoom + (rest.map fun v => v.category).sum ≤ W9) (hdg : decode c.code g.pc = .ok (.invokestatic index, 3))
    (hpre : ∀ vm₁, s.WarmedH vm₁ → Pre ⟨T.setVm vm₁, locs, cells, slots⟩ argsL.toArray) :
    ∃ (v : Option Value) (vm₁ : Vm) (B : Pt), s.WarmedH vm₁ ∧ Stand p l e R s m args below meth c B.U B.locs B.cells B.slots ∧ Post ⟨T.setVm vm₁, locs, cells, slots⟩ argsL.toArray v B ∧
      ∀ target, Steps p.tables e below (B.U.setTop { g with pc := g.pc + 3, stack := v.toList ++ rest }) target → Steps p.tables e below (T.setTop g) target := by
  obtain ⟨mk, methM, cM, hnamed, hmethM, -, -, -, -, -, -, hsigM⟩ := Cond.codeWith_spec hcode
  have hstatic : methM.isStatic = true := Cond.static_spec hnamed hmethM hstat
  obtain ⟨kP, hkP, -⟩ := className_of_methodNamed hnamed
  have hinitP : kP.init = .initialized := Cond.initialized_spec (findClass_of_methodNamed hnamed) hkP hinit
  obtain ⟨vm₁, X₁, hstep₁⟩ := X.invokestatic hexec hown hlink hnamed hmethM hstatic hkP hinitP hy (g := g) hg (argsL := argsL) (rest := rest) (hlen _ hsigM) hstack hdg
  obtain ⟨v, B, X', hpost, hsteps⟩ := hK m meth c ⟨T.setVm vm₁, locs, cells, slots⟩ { g with stack := rest } (.invokestatic index) mk argsL.toArray X₁ hg hsize hdg hW (X₁.named hnamed) (hpre vm₁ X₁.warmed)
  exact ⟨v, vm₁, B, X₁.warmed, X', hpost, fun target h => hstep₁ _ fun acts => by rw [doInvoke_state]; exact hsteps.trans h⟩
theorem vx_runSW {y : MethodName} {bytes cc : ByteArray} {maxL nL mc ms n index : Nat} {ret : Option FieldType} {hh : List (Nat × Nat × Nat × Nat)} {ws : List Cond} {rm : Room} {Pc : Array Value → State → Prop} {Qc : Array Value → State → Outcome → State → Prop} {free : Addr → Prop} {Ts : List Cond} {own : String} {As rest : List Value} {g : JFrame}
    (S : CallFix p m c cc nL s args Ts own) (hM : Met l y ws rm Pc Qc mc ms free) (cw : vx_CSW R s args own index y bytes maxL ret hh ws rm mc ms n) (hp : PreS s H Pc As)
    (hg : g.method = m) (hn : As.length = n) (hsize : g.locals.size = nL) (hstack : g.stack = As.reverse ++ rest) (hW : 2 * g.monitorRoom + (rest.map fun v => v.category).sum ≤ 8) (hdg : decode cc g.pc = .ok (.invokestatic index, 3)) (hf : cells + mc ≤ R.cells ∧ slots + ms ≤ R.slots) :
    va_Run p l e R s m args below meth c H locs cells slots mc ms g rest (Qc As.toArray) (free) := by
  obtain ⟨⟨hrc, hrs, hfr, hlo, hws, hcw⟩, hcode, hini, hy, hlen, hl, hstt⟩ := cw
  have hK : Back l R p e below s args y 3 8 (PreOf R mc ms Pc) (PostOf Qc mc ms free) := va_backW (hh := hh) (bytes := bytes) (maxL := maxL) (ret := ret) hM hp.1 hrc hrs hfr hlo hws hcw (fun a' U hW => word_at hW (Or.inl (by first | rfl | simp [Cond.onTables, Cond.keeps, Cond.steady])) hini)
  obtain ⟨hx, hb, hml, ho, -⟩ := S
  intro T hT X
  obtain ⟨v, vm₁, ⟨U', l2, c2, s2⟩, hW₁, X', ⟨g', mk, t, L, e1, e2, hq, h1, hL, h2, h3⟩, st⟩ := vx_callSW X hx (hh := hh) (bytes := bytes) (maxL := maxL) (ret := ret) ho hl hstt hini hcode hy hK hg (hsize.trans hml.symm) (argsL := As) (rest := rest) (fun sig h => hn.trans (hlen sig h)) hstack hW (by rw [hb]; exact hdg)
    (fun vm₁ hW₁ => ⟨hf.1, hf.2, hp.2 (T.setVm vm₁) hT hW₁⟩)
  dsimp only [Pt.U, Pt.locs, Pt.cells, Pt.slots] at X' e1 e2 h1 h2 h3 st
  subst h1; subst h2; subst h3
  exact ⟨v, (T.setVm vm₁).calling g' mk As.toArray, t, U', L, hT, X', hL, e1, e2, hq, st⟩
/-- a thing of a world lies in the heap -/
theorem vx_lt {D : va_G} {cl : List vw_C} {ws : va_W} {H1 : Heap} (h : va_P D cl ws H1) {k : Nat} {q : Nat × va_E} (hk : ws[k]? = some q) : q.1 < H1.size := (h k q hk).lt
end VXS
/-! ===== END ===== -/
/-! ===== BEGIN methods with a table of their own: called by a name, returning or throwing ===== -/
section VXH
/-! vx_backW, vx_callVX, vx_callSX, vx_callVW, vx_runVW, vx_runVX, vx_runSX, vx_ofWH follow the same proofs as their sisters above (Free/Laws.lean, Shelf42/LK1.lean); vx_outP calls Shelf42/NT130.lean (outThrough). -/
section
variable {l : Launch} {R : Room} {p : Program} {e : Env} {below : List Frame} {s : State} {sargs : Array Value} {y : MethodName} {len W9 : Nat}
theorem vx_backW {ws : List Cond} {rm : Room} {Pc : Array Value → State → Prop} {Qc : Array Value → State → Outcome → State → Prop} {XC : String → State → State → Prop} {mc ms : Nat} {free : Addr → Prop} {bytes : ByteArray} {maxL : Nat} {ret : Option FieldType} {hh : List (Nat × Nat × Nat × Nat)}
    (hM : vx_Met l y ws rm Pc Qc XC mc ms free) (hblind : FrameBlind Pc) (hrc : rm.cells = mc) (hrs : rm.slots = ms)
    (hframes : rm.frames + 1 ≤ R.frames) (hlocals : W9 + (maxL + 11) + rm.locals ≤ R.locals)
    (hws : ∀ w ∈ ws, ∀ a' U, s.WarmedH U.vm → w.before a' U = true) (hcode : Cond.codeWith y bytes maxL ret hh ∈ ws) (hinit : ∀ a' U, s.WarmedH U.vm → (Cond.initialized y.cls).before a' U = true) :
    vx_Back l R p e below s sargs y len W9 (PreOf R mc ms Pc) (PostOf Qc mc ms free) (vx_Post XC mc ms free) := by
  intro m meth c A g ig mk a X hg hsize hdg hW hn hp
  have h1 : (headSpec ws rm).pre.before a A.U = true := atoms_intro fun w hw => hws w hw _ _ X.warmed
  have h2 : (Cond.codeWith y bytes maxL ret hh).before a A.U = true := hws _ hcode _ _ X.warmed
  have h3 : (Cond.initialized y.cls).before a A.U = true := hinit _ _ X.warmed
  have h4 : A.cells + (headSpec ws rm).room.cells ≤ R.cells := by rw [show (headSpec ws rm).room.cells = mc from hrc]; exact hp.1
  have h5 : A.slots + (headSpec ws rm).room.slots ≤ R.slots := by rw [show (headSpec ws rm).room.slots = ms from hrs]; exact hp.2.1
  have hPc : Pc a (A.U.calling g mk a) := hblind _ _ _ _ hp.2.2
  obtain ⟨U, Ls, c0, s0⟩ := A
  dsimp only [Pt.U, Pt.locs, Pt.cells, Pt.slots] at h1 h2 h3 h4 h5 X hn hPc ⊢
  obtain ⟨m9, methY, cY, hn9, hmY, hcY, -, hlY, -⟩ := Cond.codeWith_spec h2
  cases Option.some.inj (hn9.symm.trans hn)
  obtain ⟨kY, hkY, -⟩ := className_of_methodNamed hn
  have hinitY : kY.init = .initialized := Cond.initialized_spec (findClass_of_methodNamed hn) hkY h3
  have h : At U g.method c below := by rw [hg]; exact X.here
  have hlocals9 : W9 + (maxL + 11) + (headSpec ws rm).room.locals ≤ R.locals := hlocals
  have happ : (headSpec ws rm).appliesLoose y e.platform (U.calling g mk a) = true :=
    Spec.appliesLoose_calling (g := g) h hdg hn hkY hinitY
      (X.room_calling (g := g) (R' := (headSpec ws rm).room) hsize hmY hcY hframes (by rw [hlY]; omega) h4 h5) h1
  obtain ⟨mid, hmid⟩ := h.above
  have hfr : (U.setTop g).frames = (.java g :: mid) ++ below := by rw [State.frames_setTop' g h.top, hmid]; rfl
  obtain ⟨o, s₂, hsteps, -, hend, hq⟩ := Steps.callFree hM p X.admits X.cas X.clock (acts := []) hfr happ hPc trivial
  have hq' : vx_Q Qc XC mc ms free a (U.calling g mk a) o s₂ := hq
  rw [State.frames_setTop' g h.top] at hend
  obtain ⟨g₀, hg0⟩ := Option.isSome_iff_exists.mp h.top
  obtain ⟨r, hr⟩ := State.topJava?_eq_some.mp hg0
  have hr' : (({ U with heap := s₂.heap, slotsUsed := s₂.slotsUsed } : State).setVm s₂.vm).frames = .java g₀ :: r := hr
  rcases hq' with ⟨hqc, L, hfe, hL⟩ | ⟨q, rfl, E, ce, L, hx, hce, hcv, hcl, hW₂, hsm, hL⟩
  · obtain ⟨⟨v, rfl⟩, hW₂, e2, q2, q3, q4, q5, q6⟩ := id hfe
    have e3 : s₂ = ({ (U.calling g mk a).setFrames s₂.frames with heap := s₂.heap, slotsUsed := s₂.slotsUsed } : State).setVm s₂.vm := by
      have : s₂ = ({ s₂ with vm := (U.calling g mk a).vm } : State).setVm s₂.vm := rfl
      rw [e2] at this
      exact this
    obtain ⟨c₂, i₂, len₂, hc₂, hd₂, hf₂⟩ := hend
    have hW' : U.WarmedH s₂.vm := hW₂
    have hcc : c₂ = c := by
      have h1 : s₂.code? g.method = U.code? g.method := by
        rw [State.code?_eq, State.code?_eq, hW'.alike.method?]
      exact Option.some.inj (hc₂.symm.trans (h1.trans h.code))
    subst hcc
    have hlen : len₂ = len := by rw [hdg] at hd₂; cases hd₂; rfl
    subst hlen
    have hs₂ : s₂ = (({ U with heap := s₂.heap, slotsUsed := s₂.slotsUsed } : State).setVm s₂.vm).setTop { g with pc := g.pc + len₂, stack := v.toList ++ g.stack } := by
      refine e3.trans ?_
      rw [hf₂, State.calling_eq h.top, State.setFrames_setFrames, State.setTop_of_frames _ hr', hr]
      rfl
    have hsame : U.sameButNew ({ U with heap := s₂.heap, slotsUsed := s₂.slotsUsed } : State) L mc ms := by
      refine ⟨?_, q2, q3, q4, q5, q6⟩
      obtain ⟨t, ht, -⟩ := State.frames_cons hr
      show ({ U with heap := s₂.heap, slotsUsed := s₂.slotsUsed } : State) = { U.setFrames U.frames with heap := s₂.heap, slotsUsed := s₂.slotsUsed }
      rw [State.setFrames_self ht]
    subst hg
    refine Or.inl ⟨v, ⟨(({ U with heap := s₂.heap, slotsUsed := s₂.slotsUsed } : State).setVm s₂.vm), Ls ++ L, c0 + mc, s0 + ms⟩,
      ⟨X.admits, X.cas, X.clock, X.frames, X.room, X.hears, X.method, X.code, (X.here.setHeapUsed s₂.heap s₂.slotsUsed).setVm hW'.alike, X.tail, State.WarmedH.trans X.warmed hW', X.limits, X.bytes, X.same.trans (hsame.setVm s.vm)⟩,
      ⟨g, mk, s₂, L, rfl, rfl, hqc, rfl, hL, rfl, rfl⟩, ?_⟩
    show Steps p.tables e below _ ((({ U with heap := s₂.heap, slotsUsed := s₂.slotsUsed } : State).setVm s₂.vm).setTop { g with pc := g.pc + len₂, stack := v.toList ++ g.stack })
    rw [← hs₂]
    exact hsteps
  · obtain ⟨e2, q2, q3, q4, q5, q6⟩ := id hsm
    have e3 : s₂ = ({ (U.calling g mk a).setFrames s₂.frames with heap := s₂.heap, slotsUsed := s₂.slotsUsed } : State).setVm s₂.vm := by
      have : s₂ = ({ s₂ with vm := (U.calling g mk a).vm } : State).setVm s₂.vm := rfl
      rw [e2] at this
      exact this
    have hf₂ : s₂.frames = .throwing q :: .java g :: U.frames.tail := hend
    have hW' : U.WarmedH s₂.vm := hW₂
    have hs₂ : s₂ = ((({ U with heap := s₂.heap, slotsUsed := s₂.slotsUsed } : State).setVm s₂.vm).setTop g).pushFrame (.throwing q) := by
      refine e3.trans ?_
      rw [hf₂, State.calling_eq h.top, State.setFrames_setFrames, State.pushFrame, State.frames_setTop _ hr', State.setTop_of_frames _ hr', State.setFrames_setFrames, hr]
      rfl
    have hsame : U.sameButNew ({ U with heap := s₂.heap, slotsUsed := s₂.slotsUsed } : State) L mc ms := by
      refine ⟨?_, q2, q3, q4, q5, q6⟩
      obtain ⟨t, ht, -⟩ := State.frames_cons hr
      show ({ U with heap := s₂.heap, slotsUsed := s₂.slotsUsed } : State) = { U.setFrames U.frames with heap := s₂.heap, slotsUsed := s₂.slotsUsed }
      rw [State.setFrames_self ht]
    subst hg
    refine Or.inr ⟨q, ⟨(({ U with heap := s₂.heap, slotsUsed := s₂.slotsUsed } : State).setVm s₂.vm), Ls ++ L, c0 + mc, s0 + ms⟩,
      ⟨X.admits, X.cas, X.clock, X.frames, X.room, X.hears, X.method, X.code, (X.here.setHeapUsed s₂.heap s₂.slotsUsed).setVm hW'.alike, X.tail, State.WarmedH.trans X.warmed hW', X.limits, X.bytes, X.same.trans (hsame.setVm s.vm)⟩,
      ⟨g, mk, s₂, L, E, ce, rfl, rfl, hx, hce, hcv, hcl, rfl, hL, rfl, rfl⟩, ?_⟩
    show Steps p.tables e below _ (((({ U with heap := s₂.heap, slotsUsed := s₂.slotsUsed } : State).setVm s₂.vm).setTop g).pushFrame (.throwing q))
    rw [← hs₂]
    exact hsteps
end
variable {p : Program} {l : Launch} {e : Env} {R : Room} {s : State} {m : MethodId} {args : Array Value} {below : List Frame} {meth : Method} {c : Code} {T : State} {H : Heap} {locs : List Loc} {cells slots : Nat}
theorem vx_callVX (X : Stand p l e R s m args below meth c T locs cells slots) (hexec : p.tables.exec = Jvm.exec) {own C : String} {index : Nat} {y : MethodName} {bytes : ByteArray} {maxL : Nat} {ret : Option FieldType} {hh : List (Nat × Nat × Nat × Nat)}
    (hown : s.vm.findClass own = some m.cls) (hlink : (Cond.methodLink own index y).before args s = true) (hinst : (Cond.instanceMethod y).before args s = true) (hsel : (Cond.selects C y y).before args s = true)
    (hcode : (Cond.codeWith y bytes maxL ret hh).before args s = true) (hy : y.cls ≠ "java/lang/invoke/MethodHandle" ∧ y.cls ≠ "java/lang/invoke/VarHandle")
    {W9 : Nat} {Pre : Pt → Array Value → Prop} {Post : Pt → Array Value → Option Value → Pt → Prop} {PostX : Pt → Array Value → Addr → Pt → Prop} (hK : vx_Back l R p e below s args y 3 W9 Pre Post PostX)
    {b : Addr} {cellB : Cell} (hcell : T.heap[b]? = some cellB) (hobj : cellB.vm.isStatics = false) (hcls : s.vm.findClass C = some cellB.cls)
    {g : JFrame} (hg : g.method = m) (hsize : g.locals.size = c.maxLocals) {argsL rest : List Value} (hlen : ∀ sig, parseMethodDescriptor y.desc = some sig → argsL.length = sig.parameters.length)
    (hstack : g.stack = argsL.reverse ++ .ref b :: rest) (hW : 2 * g.monitorRoom + (rest.map fun v => v.category).sum ≤ W9) (hdg : decode c.code g.pc = .ok (.invokevirtual index, 3))
    (hpre : ∀ vm₁, s.WarmedH vm₁ → Pre ⟨T.setVm vm₁, locs, cells, slots⟩ (Value.ref b :: argsL).toArray) :
    (∃ (v : Option Value) (vm₁ : Vm) (B : Pt), s.WarmedH vm₁ ∧ Stand p l e R s m args below meth c B.U B.locs B.cells B.slots ∧ Post ⟨T.setVm vm₁, locs, cells, slots⟩ (Value.ref b :: argsL).toArray v B ∧
      ∀ target, Steps p.tables e below (B.U.setTop { g with pc := g.pc + 3, stack := v.toList ++ rest }) target → Steps p.tables e below (T.setTop g) target) ∨
    (∃ (q : Addr) (vm₁ : Vm) (B : Pt), s.WarmedH vm₁ ∧ Stand p l e R s m args below meth c B.U B.locs B.cells B.slots ∧ PostX ⟨T.setVm vm₁, locs, cells, slots⟩ (Value.ref b :: argsL).toArray q B ∧
      Steps p.tables e below (T.setTop g) ((B.U.setTop { g with stack := rest }).pushFrame (.throwing q))) := by
  obtain ⟨mk, methM, hnamed, hmethM, hstM, habM⟩ := Cond.instanceMethod_spec hinst
  obtain ⟨m8, methM', cM, hn8, hmethM', -, -, -, -, -, -, hsigM⟩ := Cond.codeWith_spec hcode
  cases Option.some.inj (hn8.symm.trans hnamed)
  cases hmethM.symm.trans hmethM'
  obtain ⟨c2, r2, m2, q1, q2, q3, q4, kP, hkP, hkPi⟩ := Cond.selects_spec hsel
  cases hcls.symm.trans q1
  cases (State.methodFound?_of_named hnamed hy).symm.trans q2
  cases hnamed.symm.trans q3
  have hselP : selectMethod e.platform s.vm cellB.cls mk = .method mk := by rw [Launch.admits_selectMethod X.admits]; exact q4
  obtain ⟨vm₁, X₁, hstep₁⟩ := X.invokevirtual hexec hown hlink hnamed hmethM hstM hkP hkPi hy (a := b) (cell := cellB) hcell
    (fun z h => by rw [h] at hobj; cases hobj) hselP hmethM habM hkP hkPi (g := g) hg (argsL := argsL) (rest := rest) (hlen _ hsigM) hstack hdg
  rcases hK m meth c ⟨T.setVm vm₁, locs, cells, slots⟩ { g with stack := rest } (.invokevirtual index) mk (Value.ref b :: argsL).toArray X₁ hg hsize hdg hW (X₁.named hnamed) (hpre vm₁ X₁.warmed) with ⟨v, B, X', hpost, hsteps⟩ | ⟨q, B, X', hpost, hsteps⟩
  · exact Or.inl ⟨v, vm₁, B, X₁.warmed, X', hpost, fun target h => hstep₁ _ fun acts => by rw [doInvoke_state]; exact hsteps.trans h⟩
  · exact Or.inr ⟨q, vm₁, B, X₁.warmed, X', hpost, hstep₁ _ fun acts => by rw [doInvoke_state]; exact hsteps⟩
theorem vx_callSX (X : Stand p l e R s m args below meth c T locs cells slots) (hexec : p.tables.exec = Jvm.exec) {own : String} {index : Nat} {y : MethodName} {bytes : ByteArray} {maxL : Nat} {ret : Option FieldType} {hh : List (Nat × Nat × Nat × Nat)}
    (hown : s.vm.findClass own = some m.cls) (hlink : (Cond.methodLink own index y).before args s = true) (hstat : (Cond.static y).before args s = true) (hinit : (Cond.initialized y.cls).before args s = true)
    (hcode : (Cond.codeWith y bytes maxL ret hh).before args s = true) (hy : y.cls ≠ "java/lang/invoke/MethodHandle" ∧ y.cls ≠ "java/lang/invoke/VarHandle")
    {W9 : Nat} {Pre : Pt → Array Value → Prop} {Post : Pt → Array Value → Option Value → Pt → Prop} {PostX : Pt → Array Value → Addr → Pt → Prop} (hK : vx_Back l R p e below s args y 3 W9 Pre Post PostX)
    {g : JFrame} (hg : g.method = m) (hsize : g.locals.size = c.maxLocals) {argsL rest : List Value} (hlen : ∀ sig, parseMethodDescriptor y.desc = some sig → argsL.length = sig.parameters.length)
    (hstack : g.stack = argsL.reverse ++ rest) (hW : 2 * g.monitorRoom + (rest.map fun v => v.category).sum ≤ W9) (hdg : decode c.code g.pc = .ok (.invokestatic index, 3))
    (hpre : ∀ vm₁, s.WarmedH vm₁ → Pre ⟨T.setVm vm₁, locs, cells, slots⟩ argsL.toArray) :
    (∃ (v : Option Value) (vm₁ : Vm) (B : Pt), s.WarmedH vm₁ ∧ Stand p l e R s m args below meth c B.U B.locs B.cells B.slots ∧ Post ⟨T.setVm vm₁, locs, cells, slots⟩ argsL.toArray v B ∧
      ∀ target, Steps p.tables e below (B.U.setTop { g with pc := g.pc + 3, stack := v.toList ++ rest }) target → Steps p.tables e below (T.setTop g) target) ∨
    (∃ (q : Addr) (vm₁ : Vm) (B : Pt), s.WarmedH vm₁ ∧ Stand p l e R s m args below meth c B.U B.locs B.cells B.slots ∧ PostX ⟨T.setVm vm₁, locs, cells, slots⟩ argsL.toArray q B ∧
      Steps p.tables e below (T.setTop g) ((B.U.setTop { g with stack := rest }).pushFrame (.throwing q))) := by
  obtain ⟨mk, methM, cM, hnamed, hmethM, -, -, -, -, -, -, hsigM⟩ := Cond.codeWith_spec hcode
  have hstatic : methM.isStatic = true := Cond.static_spec hnamed hmethM hstat
  obtain ⟨kP, hkP, -⟩ := className_of_methodNamed hnamed
  have hinitP : kP.init = .initialized := Cond.initialized_spec (findClass_of_methodNamed hnamed) hkP hinit
  obtain ⟨vm₁, X₁, hstep₁⟩ := X.invokestatic hexec hown hlink hnamed hmethM hstatic hkP hinitP hy (g := g) hg (argsL := argsL) (rest := rest) (hlen _ hsigM) hstack hdg
  rcases hK m meth c ⟨T.setVm vm₁, locs, cells, slots⟩ { g with stack := rest } (.invokestatic index) mk argsL.toArray X₁ hg hsize hdg hW (X₁.named hnamed) (hpre vm₁ X₁.warmed) with ⟨v, B, X', hpost, hsteps⟩ | ⟨q, B, X', hpost, hsteps⟩
  · exact Or.inl ⟨v, vm₁, B, X₁.warmed, X', hpost, fun target h => hstep₁ _ fun acts => by rw [doInvoke_state]; exact hsteps.trans h⟩
  · exact Or.inr ⟨q, vm₁, B, X₁.warmed, X', hpost, hstep₁ _ fun acts => by rw [doInvoke_state]; exact hsteps⟩
theorem vx_callVW (X : Stand p l e R s m args below meth c T locs cells slots) (hexec : p.tables.exec = Jvm.exec) {own C : String} {index : Nat} {y : MethodName} {bytes : ByteArray} {maxL : Nat} {ret : Option FieldType} {hh : List (Nat × Nat × Nat × Nat)}
    (hown : s.vm.findClass own = some m.cls) (hlink : (Cond.methodLink own index y).before args s = true) (hinst : (Cond.instanceMethod y).before args s = true) (hsel : (Cond.selects C y y).before args s = true)
    (hcode : (Cond.codeWith y bytes maxL ret hh).before args s = true) (hy : y.cls ≠ "java/lang/invoke/MethodHandle" ∧ y.cls ≠ "java/lang/invoke/VarHandle")
    {W9 : Nat} {Pre : Pt → Array Value → Prop} {Post : Pt → Array Value → Option Value → Pt → Prop} (hK : Back l R p e below s args y 3 W9 Pre Post)
    {b : Addr} {cellB : Cell} (hcell : T.heap[b]? = some cellB) (hobj : cellB.vm.isStatics = false) (hcls : s.vm.findClass C = some cellB.cls)
    {g : JFrame} (hg : g.method = m) (hsize : g.locals.size = c.maxLocals) {argsL rest : List Value} (hlen : ∀ sig, parseMethodDescriptor y.desc = some sig → argsL.length = sig.parameters.length)
    (hstack : g.stack = argsL.reverse ++ .ref b :: rest) (hW : 2 * g.monitorRoom + (rest.map fun v => v.category).sum ≤ W9) (hdg : decode c.code g.pc = .ok (.invokevirtual index, 3))
    (hpre : ∀ vm₁, s.WarmedH vm₁ → Pre ⟨T.setVm vm₁, locs, cells, slots⟩ (Value.ref b :: argsL).toArray) :
    ∃ (v : Option Value) (vm₁ : Vm) (B : Pt), s.WarmedH vm₁ ∧ Stand p l e R s m args below meth c B.U B.locs B.cells B.slots ∧ Post ⟨T.setVm vm₁, locs, cells, slots⟩ (Value.ref b :: argsL).toArray v B ∧
      ∀ target, Steps p.tables e below (B.U.setTop { g with pc := g.pc + 3, stack := v.toList ++ rest }) target → Steps p.tables e below (T.setTop g) target := by
  obtain ⟨mk, methM, hnamed, hmethM, hstM, habM⟩ := Cond.instanceMethod_spec hinst
  obtain ⟨m8, methM', cM, hn8, hmethM', -, -, -, -, -, -, hsigM⟩ := Cond.codeWith_spec hcode
  cases Option.some.inj (hn8.symm.trans hnamed)
  cases hmethM.symm.trans hmethM'
  obtain ⟨c2, r2, m2, q1, q2, q3, q4, kP, hkP, hkPi⟩ := Cond.selects_spec hsel
  cases hcls.symm.trans q1
  cases (State.methodFound?_of_named hnamed hy).symm.trans q2
  cases hnamed.symm.trans q3
  have hselP : selectMethod e.platform s.vm cellB.cls mk = .method mk := by rw [Launch.admits_selectMethod X.admits]; exact q4
  obtain ⟨vm₁, X₁, hstep₁⟩ := X.invokevirtual hexec hown hlink hnamed hmethM hstM hkP hkPi hy (a := b) (cell := cellB) hcell
    (fun z h => by rw [h] at hobj; cases hobj) hselP hmethM habM hkP hkPi (g := g) hg (argsL := argsL) (rest := rest) (hlen _ hsigM) hstack hdg
  obtain ⟨v, B, X', hpost, hsteps⟩ := hK m meth c ⟨T.setVm vm₁, locs, cells, slots⟩ { g with stack := rest } (.invokevirtual index) mk (Value.ref b :: argsL).toArray X₁ hg hsize hdg hW (X₁.named hnamed) (hpre vm₁ X₁.warmed)
  exact ⟨v, vm₁, B, X₁.warmed, X', hpost, fun target h => hstep₁ _ fun acts => by rw [doInvoke_state]; exact hsteps.trans h⟩
abbrev vx_CVW (R : Room) (s : State) (args : Array Value) (own C : String) (index : Nat) (y : MethodName) (bytes : ByteArray) (maxL : Nat) (ret : Option FieldType) (hh : List (Nat × Nat × Nat × Nat)) (ws : List Cond) (rm : Room) (mc ms n : Nat) : Prop :=
  (rm.cells = mc ∧ rm.slots = ms ∧ rm.frames + 1 ≤ R.frames ∧ 8 + (maxL + 11) + rm.locals ≤ R.locals ∧ (∀ w ∈ ws, ∀ (a' : Array Value) (U : State), s.WarmedH U.vm → w.before a' U = true) ∧ Cond.codeWith y bytes maxL ret hh ∈ ws) ∧
  (Cond.codeWith y bytes maxL ret hh).before args s = true ∧ (Cond.initialized y.cls).before args s = true ∧ (y.cls ≠ "java/lang/invoke/MethodHandle" ∧ y.cls ≠ "java/lang/invoke/VarHandle") ∧
  (∀ sig, parseMethodDescriptor y.desc = some sig → n = sig.parameters.length) ∧ (Cond.methodLink own index y).before args s = true ∧ (Cond.instanceMethod y).before args s = true ∧ (Cond.selects C y y).before args s = true
theorem vx_cwVW {own C : String} {index maxL mc ms : Nat} {y : MethodName} {bytes : ByteArray} {ret : Option FieldType} {hh : List (Nat × Nat × Nat × Nat)} {Ts ws ws' : List Cond} {rm : Room} (n : Nat) (ht : ∀ w ∈ Ts, w.before args s = true) (hT : GoodIn Ts (wsV own index C y ws)) (hw : ws = Cond.codeWith y bytes maxL ret hh :: ws') (hrc : rm.cells = mc) (hrs : rm.slots = ms)
    (hd : y.cls = C ∧ y.cls ≠ "java/lang/invoke/MethodHandle" ∧ y.cls ≠ "java/lang/invoke/VarHandle" ∧ (parseMethodDescriptor y.desc).map (fun d => d.parameters.length) = some n) (hR : rm.frames + 1 ≤ R.frames ∧ 8 + (maxL + 11) + rm.locals ≤ R.locals) :
    vx_CVW R s args own C index y bytes maxL ret hh ws rm mc ms n := by
  obtain ⟨hC, hd⟩ := hd
  subst hC
  have ok : ∀ w ∈ wsV own index y.cls y ws, w.before args s = true := fun w h => ht w (hT w h).1
  have hG : GoodIn Ts ws := fun w h => hT w (by unfold wsV; exact List.mem_append_right _ h)
  have hc : Cond.codeWith y bytes maxL ret hh ∈ ws := by rw [hw]; exact List.mem_cons_self
  refine ⟨⟨hrc, hrs, hR.1, hR.2, pay_in ht hG, hc⟩, ht _ (hG _ hc).1, ok _ (by simp [wsV]), ⟨hd.1, hd.2.1⟩, fun sig h => ?_, ok _ (by simp [wsV]), ok _ (by simp [wsV]), ok _ (by simp [wsV])⟩
  have h2 := hd.2.2
  rw [h] at h2
  exact (Option.some.inj h2).symm
theorem vx_runVW {y : MethodName} {bytes cc : ByteArray} {maxL nL mc ms n index : Nat} {ret : Option FieldType} {hh : List (Nat × Nat × Nat × Nat)} {ws : List Cond} {rm : Room} {Pc : Array Value → State → Prop} {Qc : Array Value → State → Outcome → State → Prop} {free : Addr → Prop} {Ts : List Cond} {own C : String} {b : Addr} {As rest : List Value} {g : JFrame}
    (S : CallFix p m c cc nL s args Ts own) (hM : Met l y ws rm Pc Qc mc ms free) (cw : vx_CVW R s args own C index y bytes maxL ret hh ws rm mc ms n) (hp : PreV s H C b Pc As)
    (hg : g.method = m) (hn : As.length = n) (hsize : g.locals.size = nL) (hstack : g.stack = As.reverse ++ .ref b :: rest) (hW : 2 * g.monitorRoom + (rest.map fun v => v.category).sum ≤ 8) (hdg : decode cc g.pc = .ok (.invokevirtual index, 3)) (hf : cells + mc ≤ R.cells ∧ slots + ms ≤ R.slots) :
    va_Run p l e R s m args below meth c H locs cells slots mc ms g rest (Qc (Value.ref b :: As).toArray) free := by
  obtain ⟨⟨hrc, hrs, hfr, hlo, hws, hcw⟩, hcode, hini, hy, hlen, hl, hin, hse⟩ := cw
  have hK : Back l R p e below s args y 3 8 (PreOf R mc ms Pc) (PostOf Qc mc ms free) := va_backW (hh := hh) (bytes := bytes) (maxL := maxL) (ret := ret) hM hp.1 hrc hrs hfr hlo hws hcw (fun a' U hW => word_at hW (Or.inl (by first | rfl | simp [Cond.onTables, Cond.keeps, Cond.steady])) hini)
  obtain ⟨hx, hb, hml, ho, -⟩ := S
  obtain ⟨-, ⟨cellB, hcB, hoB, hclB⟩, hPc⟩ := hp
  intro T hT X
  obtain ⟨v, vm₁, ⟨U', l2, c2, s2⟩, hW₁, X', ⟨g', mk, t, L, e1, e2, hq, h1, hL, h2, h3⟩, st⟩ := vx_callVW X hx (C := C) (hh := hh) (bytes := bytes) (maxL := maxL) (ret := ret) ho hl hin hse hcode hy hK (by rw [hT]; exact hcB) hoB hclB hg (hsize.trans hml.symm) (argsL := As) (rest := rest) (fun sig h => hn.trans (hlen sig h)) hstack hW (by rw [hb]; exact hdg)
    (fun vm₁ hW₁ => ⟨hf.1, hf.2, hPc (T.setVm vm₁) hT hW₁⟩)
  dsimp only [Pt.U, Pt.locs, Pt.cells, Pt.slots] at X' e1 e2 h1 h2 h3 st
  subst h1; subst h2; subst h3
  exact ⟨v, (T.setVm vm₁).calling g' mk (Value.ref b :: As).toArray, t, U', L, hT, X', hL, e1, e2, hq, st⟩
section
variable {y : MethodName} {bytes cc : ByteArray} {maxL nL mc ms n index : Nat} {ret : Option FieldType} {ws : List Cond} {rm : Room} {Pc : Array Value → State → Prop} {Qc : Array Value → State → Outcome → State → Prop} {XC : String → State → State → Prop} {free : Addr → Prop} {Ts : List Cond} {own C : String} {b : Addr} {As rest : List Value} {g : JFrame}
theorem vx_runVX {hh : List (Nat × Nat × Nat × Nat)} (S : CallFix p m c cc nL s args Ts own) (hM : vx_Met l y ws rm Pc Qc XC mc ms free) (cw : vx_CVW R s args own C index y bytes maxL ret hh ws rm mc ms n) (hp : PreV s H C b Pc As)
    (hg : g.method = m) (hn : As.length = n) (hsize : g.locals.size = nL) (hstack : g.stack = As.reverse ++ .ref b :: rest) (hW : 2 * g.monitorRoom + (rest.map fun v => v.category).sum ≤ 8) (hdg : decode cc g.pc = .ok (.invokevirtual index, 3)) (hf : cells + mc ≤ R.cells ∧ slots + ms ≤ R.slots) :
    vx_Run p l e R s m args below meth c H locs cells slots mc ms g rest (Qc (Value.ref b :: As).toArray) XC free := by
  obtain ⟨⟨hrc, hrs, hfr, hlo, hws, hcw⟩, hcode, hini, hy, hlen, hl, hin, hse⟩ := cw
  have hK : vx_Back l R p e below s args y 3 8 (PreOf R mc ms Pc) (PostOf Qc mc ms free) (vx_Post XC mc ms free) := vx_backW (hh := hh) (bytes := bytes) (maxL := maxL) (ret := ret) hM hp.1 hrc hrs hfr hlo hws hcw (fun a' U hW => word_at hW (Or.inl (by first | rfl | simp [Cond.onTables, Cond.keeps, Cond.steady])) hini)
  obtain ⟨hx, hb, hml, ho, -⟩ := S
  obtain ⟨-, ⟨cellB, hcB, hoB, hclB⟩, hPc⟩ := hp
  intro T hT X
  rcases vx_callVX X hx (C := C) (hh := hh) (bytes := bytes) (maxL := maxL) (ret := ret) ho hl hin hse hcode hy hK (by rw [hT]; exact hcB) hoB hclB hg (hsize.trans hml.symm) (argsL := As) (rest := rest) (fun sig h => hn.trans (hlen sig h)) hstack hW (by rw [hb]; exact hdg)
    (fun vm₁ hW₁ => ⟨hf.1, hf.2, hPc (T.setVm vm₁) hT hW₁⟩) with ⟨v, vm₁, ⟨U', l2, c2, s2⟩, hW₁, X', ⟨g', mk, t, L, e1, e2, hq, h1, hL, h2, h3⟩, st⟩ | ⟨q, vm₁, ⟨U', l2, c2, s2⟩, hW₁, X', ⟨g', mk, t, L, E, ce, e1, e2, hq, hce, hcv, hcl, h1, hL, h2, h3⟩, st⟩
  · dsimp only [Pt.U, Pt.locs, Pt.cells, Pt.slots] at X' e1 e2 h1 h2 h3 st
    subst h1; subst h2; subst h3
    exact Or.inl ⟨v, (T.setVm vm₁).calling g' mk (Value.ref b :: As).toArray, t, U', L, hT, X', hL, e1, e2, hq, st⟩
  · dsimp only [Pt.U, Pt.locs, Pt.cells, Pt.slots] at X' e1 e2 h1 h2 h3 st hcl
    subst h1; subst h2; subst h3
    exact Or.inr ⟨q, (T.setVm vm₁).calling g' mk (Value.ref b :: As).toArray, t, U', L, E, ce, hT, X', hL, e1, e2, hq, hce, hcv, vx_cls hW₁ hcl, st⟩
theorem vx_runSX {hh : List (Nat × Nat × Nat × Nat)} (S : CallFix p m c cc nL s args Ts own) (hM : vx_Met l y ws rm Pc Qc XC mc ms free) (cw : vx_CSW R s args own index y bytes maxL ret hh ws rm mc ms n) (hp : PreS s H Pc As)
    (hg : g.method = m) (hn : As.length = n) (hsize : g.locals.size = nL) (hstack : g.stack = As.reverse ++ rest) (hW : 2 * g.monitorRoom + (rest.map fun v => v.category).sum ≤ 8) (hdg : decode cc g.pc = .ok (.invokestatic index, 3)) (hf : cells + mc ≤ R.cells ∧ slots + ms ≤ R.slots) :
    vx_Run p l e R s m args below meth c H locs cells slots mc ms g rest (Qc As.toArray) XC free := by
  obtain ⟨⟨hrc, hrs, hfr, hlo, hws, hcw⟩, hcode, hini, hy, hlen, hl, hstt⟩ := cw
  have hK : vx_Back l R p e below s args y 3 8 (PreOf R mc ms Pc) (PostOf Qc mc ms free) (vx_Post XC mc ms free) := vx_backW (hh := hh) (bytes := bytes) (maxL := maxL) (ret := ret) hM hp.1 hrc hrs hfr hlo hws hcw (fun a' U hW => word_at hW (Or.inl (by first | rfl | simp [Cond.onTables, Cond.keeps, Cond.steady])) hini)
  obtain ⟨hx, hb, hml, ho, -⟩ := S
  intro T hT X
  rcases vx_callSX X hx (hh := hh) (bytes := bytes) (maxL := maxL) (ret := ret) ho hl hstt hini hcode hy hK hg (hsize.trans hml.symm) (argsL := As) (rest := rest) (fun sig h => hn.trans (hlen sig h)) hstack hW (by rw [hb]; exact hdg)
    (fun vm₁ hW₁ => ⟨hf.1, hf.2, hp.2 (T.setVm vm₁) hT hW₁⟩) with ⟨v, vm₁, ⟨U', l2, c2, s2⟩, hW₁, X', ⟨g', mk, t, L, e1, e2, hq, h1, hL, h2, h3⟩, st⟩ | ⟨q, vm₁, ⟨U', l2, c2, s2⟩, hW₁, X', ⟨g', mk, t, L, E, ce, e1, e2, hq, hce, hcv, hcl, h1, hL, h2, h3⟩, st⟩
  · dsimp only [Pt.U, Pt.locs, Pt.cells, Pt.slots] at X' e1 e2 h1 h2 h3 st
    subst h1; subst h2; subst h3
    exact Or.inl ⟨v, (T.setVm vm₁).calling g' mk As.toArray, t, U', L, hT, X', hL, e1, e2, hq, st⟩
  · dsimp only [Pt.U, Pt.locs, Pt.cells, Pt.slots] at X' e1 e2 h1 h2 h3 st hcl
    subst h1; subst h2; subst h3
    exact Or.inr ⟨q, (T.setVm vm₁).calling g' mk As.toArray, t, U', L, E, ce, hT, X', hL, e1, e2, hq, hce, hcv, vx_cls hW₁ hcl, st⟩
end
end VXH
theorem vx_ofWH {l : Launch} {y : MethodName} {ws ws' : List Cond} {rm : Room} {Pc : Array Value → State → Prop} {Qc : Array Value → State → Outcome → State → Prop} {XC : String → State → State → Prop} {mc ms : Nat} {free : Addr → Prop} {cc : ByteArray} {maxL : Nat} {ret : Option FieldType} {hh : List (Nat × Nat × Nat × Nat)}
    (hy : plainName y.cls = true) (hw : ws = Cond.codeWith y cc maxL ret hh :: ws')
    (body : ∀ p e s m args below meth c s₁, BodyLoose p l y (headSpec ws rm) cc maxL ret e s m args below meth c s₁ → c.maxLocals = maxL → Pc args s →
      W p l e (headSpec ws rm).room s m args below meth c s.heap [] 0 0 (vx_MQ below Qc XC args s mc ms free) (entryFrame m args maxL)) : vx_Met l y ws rm Pc Qc XC mc ms free := by
  refine MetFree.of_bodyS (code := cc) (maxLocals := maxL) (ret := ret) hy ?_ ?_
  · intro args s m h hn
    obtain ⟨m9, meth, c, hn9, h1, h2, h3, h4, -, h5, h6, -⟩ := Cond.codeWith_spec (atoms_spec (ws := ws) h _ (by rw [hw]; exact List.mem_cons_self))
    cases hn.symm.trans hn9
    exact ⟨meth, c, h1, h2, h3, h4, h5, h6⟩
  · intro p e s m args below meth c s₁ B hml hP _
    have hh0 : s₁.heap = s.heap := by rw [B.state]; rfl
    obtain ⟨t, a1, o, b1, b2, b3⟩ := body p e s m args below meth c s₁ B hml hP s₁ hh0 (Stand.of_body B)
    exact ⟨t, o, a1, b1, b2, b3⟩
/-! ===== END ===== -/
end
section
/-! ===== BEGIN printed: names, fields, word lists, decode rows ===== -/
def RX0 : String := "SkyAdvisor$Aircraft"
def TX0 : u_T := fun k => match k with
  | 0 => ("SkyAdvisor$Aircraft", "there", "Z", false)
  | 1 => ("SkyAdvisor$Aircraft", "follows", "Z", false)
  | 2 => ("SkyAdvisor$Aircraft", "x", "I", false)
  | 3 => ("SkyAdvisor$Aircraft", "y", "I", false)
  | 4 => ("SkyAdvisor$Aircraft", "z", "I", false)
  | 5 => ("SkyAdvisor$Aircraft", "vx", "I", false)
  | 6 => ("SkyAdvisor$Aircraft", "vy", "I", false)
  | _ => ("SkyAdvisor$Aircraft", "vz", "I", false)
def tyX0 : Nat → FieldType := fun k => match k with
  | 0 => .boolean
  | 1 => .boolean
  | 2 => .int
  | 3 => .int
  | 4 => .int
  | 5 => .int
  | 6 => .int
  | _ => .int
abbrev wsX00 : List Cond := u_ws RX0 TX0 8
theorem nmX0 : ∀ a, a < 8 → ∀ b, b < 8 → a ≠ b → (TX0 a).2.1 ≠ (TX0 b).2.1 := by decide +kernel
theorem tyX0_ok : ∀ k, k < 8 → parseFieldDescriptor (TX0 k).2.2.1 = some (tyX0 k) := by decide +kernel
abbrev cX0_init : ByteArray := prog_2_method_1_code
def yX0_init : MethodName := ⟨RX0, "<init>", "()V"⟩
abbrev cX0_isPlace : ByteArray := prog_2_method_2_code
def yX0_isPlace : MethodName := ⟨RX0, "isPlace", "(III)Z"⟩
abbrev cX0_isSpeed : ByteArray := prog_2_method_3_code
def yX0_isSpeed : MethodName := ⟨RX0, "isSpeed", "(III)Z"⟩
abbrev cX0_isWithin : ByteArray := prog_2_method_4_code
def yX0_isWithin : MethodName := ⟨RX0, "isWithin", "(II)Z"⟩
abbrev cX0_stopAt : ByteArray := prog_2_method_5_code
def yX0_stopAt : MethodName := ⟨RX0, "stopAt", "(II)I"⟩
abbrev cX0_putAt : ByteArray := prog_2_method_6_code
def yX0_putAt : MethodName := ⟨RX0, "putAt", "(III)V"⟩
abbrev cX0_flyWith : ByteArray := prog_2_method_7_code
def yX0_flyWith : MethodName := ⟨RX0, "flyWith", "(III)V"⟩
abbrev cX0_move : ByteArray := prog_2_method_8_code
def yX0_move : MethodName := ⟨RX0, "move", "()V"⟩
abbrev cX0_pull : ByteArray := prog_2_method_9_code
def yX0_pull : MethodName := ⟨RX0, "pull", "(III)V"⟩
abbrev cX0_levelOff : ByteArray := prog_2_method_10_code
def yX0_levelOff : MethodName := ⟨RX0, "levelOff", "(I)V"⟩
abbrev cX0_heightGoingUp : ByteArray := prog_2_method_11_code
def yX0_heightGoingUp : MethodName := ⟨RX0, "heightGoingUp", "(III)I"⟩
abbrev cX0_heightGoingDown : ByteArray := prog_2_method_12_code
def yX0_heightGoingDown : MethodName := ⟨RX0, "heightGoingDown", "(III)I"⟩
abbrev cX0_answer : ByteArray := prog_2_method_13_code
def yX0_answer : MethodName := ⟨RX0, "answer", "(I)I"⟩
def RX1 : String := "SkyAdvisor$Pair"
def TX1 : u_T := fun k => match k with
  | 0 => ("SkyAdvisor$Pair", "first", "LSkyAdvisor$Aircraft;", true)
  | 1 => ("SkyAdvisor$Pair", "second", "LSkyAdvisor$Aircraft;", true)
  | 2 => ("SkyAdvisor$Pair", "settings", "LSkyAdvisor$Settings;", true)
  | 3 => ("SkyAdvisor$Pair", "tally", "LSkyAdvisor$Tally;", true)
  | 4 => ("SkyAdvisor$Pair", "leastDistance", "J", false)
  | 5 => ("SkyAdvisor$Pair", "leastHeight", "I", false)
  | 6 => ("SkyAdvisor$Pair", "sense", "Z", false)
  | 7 => ("SkyAdvisor$Pair", "stood", "I", false)
  | 8 => ("SkyAdvisor$Pair", "turned", "Z", false)
  | 9 => ("SkyAdvisor$Pair", "advised", "Z", false)
  | _ => ("SkyAdvisor$Pair", "strength", "I", false)
def tyX1 : Nat → FieldType := fun k => match k with
  | 0 => .object "SkyAdvisor$Aircraft"
  | 1 => .object "SkyAdvisor$Aircraft"
  | 2 => .object "SkyAdvisor$Settings"
  | 3 => .object "SkyAdvisor$Tally"
  | 4 => .long
  | 5 => .int
  | 6 => .boolean
  | 7 => .int
  | 8 => .boolean
  | 9 => .boolean
  | _ => .int
abbrev wsX10 : List Cond := u_ws RX1 TX1 11
theorem nmX1 : ∀ a, a < 11 → ∀ b, b < 11 → a ≠ b → (TX1 a).2.1 ≠ (TX1 b).2.1 := by decide +kernel
theorem tyX1_ok : ∀ k, k < 11 → parseFieldDescriptor (TX1 k).2.2.1 = some (tyX1 k) := by decide +kernel
abbrev cX1_init : ByteArray := prog_3_method_1_code
def yX1_init : MethodName := ⟨RX1, "<init>", "(LSkyAdvisor$Aircraft;LSkyAdvisor$Aircraft;LSkyAdvisor$Settings;LSkyAdvisor$Tally;)V"⟩
abbrev cX1_isThere : ByteArray := prog_3_method_2_code
def yX1_isThere : MethodName := ⟨RX1, "isThere", "()Z"⟩
abbrev cX1_has : ByteArray := prog_3_method_3_code
def yX1_has : MethodName := ⟨RX1, "has", "(LSkyAdvisor$Aircraft;)Z"⟩
abbrev cX1_isHeeded : ByteArray := prog_3_method_4_code
def yX1_isHeeded : MethodName := ⟨RX1, "isHeeded", "()Z"⟩
abbrev cX1_sendsUp : ByteArray := prog_3_method_5_code
def yX1_sendsUp : MethodName := ⟨RX1, "sendsUp", "(LSkyAdvisor$Aircraft;)Z"⟩
abbrev cX1_dropAdvice : ByteArray := prog_3_method_6_code
def yX1_dropAdvice : MethodName := ⟨RX1, "dropAdvice", "()V"⟩
abbrev cX1_restartLeast : ByteArray := prog_3_method_7_code
def yX1_restartLeast : MethodName := ⟨RX1, "restartLeast", "()V"⟩
abbrev cX1_lookAtLeast : ByteArray := prog_3_method_8_code
def yX1_lookAtLeast : MethodName := ⟨RX1, "lookAtLeast", "()V"⟩
abbrev cX1_review : ByteArray := prog_3_method_9_code
def yX1_review : MethodName := ⟨RX1, "review", "()V"⟩
abbrev cX1_takeSense : ByteArray := prog_3_method_10_code
def yX1_takeSense : MethodName := ⟨RX1, "takeSense", "(ZI)V"⟩
abbrev cX1_strengthen : ByteArray := prog_3_method_11_code
def yX1_strengthen : MethodName := ⟨RX1, "strengthen", "(I)V"⟩
abbrev cX1_mustTurn : ByteArray := prog_3_method_12_code
def yX1_mustTurn : MethodName := ⟨RX1, "mustTurn", "(I)Z"⟩
abbrev cX1_answer : ByteArray := prog_3_method_13_code
def yX1_answer : MethodName := ⟨RX1, "answer", "(IZ)I"⟩
abbrev cX1_senseFor : ByteArray := prog_3_method_14_code
def yX1_senseFor : MethodName := ⟨RX1, "senseFor", "(ZZ)I"⟩
abbrev cX1_alerts : ByteArray := prog_3_method_15_code
def yX1_alerts : MethodName := ⟨RX1, "alerts", "()Z"⟩
abbrev cX1_isNear : ByteArray := prog_3_method_16_code
def yX1_isNear : MethodName := ⟨RX1, "isNear", "()Z"⟩
abbrev cX1_comesNearInTime : ByteArray := prog_3_method_17_code
def yX1_comesNearInTime : MethodName := ⟨RX1, "comesNearInTime", "()Z"⟩
abbrev cX1_passesNear : ByteArray := prog_3_method_18_code
def yX1_passesNear : MethodName := ⟨RX1, "passesNear", "()Z"⟩
abbrev cX1_meetsInHeight : ByteArray := prog_3_method_19_code
def yX1_meetsInHeight : MethodName := ⟨RX1, "meetsInHeight", "()Z"⟩
abbrev cX1_nearSquared : ByteArray := prog_3_method_20_code
def yX1_nearSquared : MethodName := ⟨RX1, "nearSquared", "()J"⟩
abbrev cX1_distanceSquared : ByteArray := prog_3_method_21_code
def yX1_distanceSquared : MethodName := ⟨RX1, "distanceSquared", "()J"⟩
abbrev cX1_heightBetween : ByteArray := prog_3_method_22_code
def yX1_heightBetween : MethodName := ⟨RX1, "heightBetween", "()I"⟩
abbrev cX1_closing : ByteArray := prog_3_method_23_code
def yX1_closing : MethodName := ⟨RX1, "closing", "()J"⟩
abbrev cX1_timeLeft : ByteArray := prog_3_method_24_code
def yX1_timeLeft : MethodName := ⟨RX1, "timeLeft", "()I"⟩
abbrev cX1_parting : ByteArray := prog_3_method_25_code
def yX1_parting : MethodName := ⟨RX1, "parting", "(ZIII)I"⟩
abbrev cX1_enough : ByteArray := prog_3_method_26_code
def yX1_enough : MethodName := ⟨RX1, "enough", "(ZIII)I"⟩
abbrev cX1_chosenSense : ByteArray := prog_3_method_27_code
def yX1_chosenSense : MethodName := ⟨RX1, "chosenSense", "(I)Z"⟩
abbrev cX1_chosenParting : ByteArray := prog_3_method_28_code
def yX1_chosenParting : MethodName := ⟨RX1, "chosenParting", "(I)I"⟩
def RX2 : String := "SkyAdvisor$Settings"
def TX2 : u_T := fun k => match k with
  | _ => ("SkyAdvisor$Settings", "values", "[I", true)
def tyX2 : Nat → FieldType := fun k => match k with
  | _ => .array .int
abbrev wsX20 : List Cond := u_ws RX2 TX2 1
theorem nmX2 : ∀ a, a < 1 → ∀ b, b < 1 → a ≠ b → (TX2 a).2.1 ≠ (TX2 b).2.1 := by decide +kernel
theorem tyX2_ok : ∀ k, k < 1 → parseFieldDescriptor (TX2 k).2.2.1 = some (tyX2 k) := by decide +kernel
abbrev cX2_init : ByteArray := prog_4_method_1_code
def yX2_init : MethodName := ⟨RX2, "<init>", "()V"⟩
abbrev cX2_allows : ByteArray := prog_4_method_2_code
def yX2_allows : MethodName := ⟨RX2, "allows", "(II)Z"⟩
abbrev cX2_exchange : ByteArray := prog_4_method_3_code
def yX2_exchange : MethodName := ⟨RX2, "exchange", "(II)I"⟩
abbrev cX2_time : ByteArray := prog_4_method_4_code
def yX2_time : MethodName := ⟨RX2, "time", "()I"⟩
abbrev cX2_near : ByteArray := prog_4_method_5_code
def yX2_near : MethodName := ⟨RX2, "near", "()I"⟩
abbrev cX2_miss : ByteArray := prog_4_method_6_code
def yX2_miss : MethodName := ⟨RX2, "miss", "()I"⟩
abbrev cX2_high : ByteArray := prog_4_method_7_code
def yX2_high : MethodName := ⟨RX2, "high", "()I"⟩
abbrev cX2_wanted : ByteArray := prog_4_method_8_code
def yX2_wanted : MethodName := ⟨RX2, "wanted", "()I"⟩
abbrev cX2_delay : ByteArray := prog_4_method_9_code
def yX2_delay : MethodName := ⟨RX2, "delay", "()I"⟩
abbrev cX2_pull : ByteArray := prog_4_method_10_code
def yX2_pull : MethodName := ⟨RX2, "pull", "()I"⟩
def RX3 : String := "SkyAdvisor$Tally"
def TX3 : u_T := fun k => match k with
  | 0 => ("SkyAdvisor$Tally", "begun", "I", false)
  | 1 => ("SkyAdvisor$Tally", "turned", "I", false)
  | 2 => ("SkyAdvisor$Tally", "strengthened", "I", false)
  | 3 => ("SkyAdvisor$Tally", "ended", "I", false)
  | _ => ("SkyAdvisor$Tally", "seconds", "I", false)
def tyX3 : Nat → FieldType := fun k => match k with
  | 0 => .int
  | 1 => .int
  | 2 => .int
  | 3 => .int
  | _ => .int
abbrev wsX30 : List Cond := u_ws RX3 TX3 5
theorem nmX3 : ∀ a, a < 5 → ∀ b, b < 5 → a ≠ b → (TX3 a).2.1 ≠ (TX3 b).2.1 := by decide +kernel
theorem tyX3_ok : ∀ k, k < 5 → parseFieldDescriptor (TX3 k).2.2.1 = some (tyX3 k) := by decide +kernel
abbrev cX3_init : ByteArray := prog_5_method_1_code
def yX3_init : MethodName := ⟨RX3, "<init>", "()V"⟩
abbrev cX3_answer : ByteArray := prog_5_method_2_code
def yX3_answer : MethodName := ⟨RX3, "answer", "(I)I"⟩
def RX4 : String := "SkyAdvisor"
def TX4 : u_T := fun k => match k with
  | 0 => ("SkyAdvisor", "settings", "LSkyAdvisor$Settings;", true)
  | 1 => ("SkyAdvisor", "tally", "LSkyAdvisor$Tally;", true)
  | 2 => ("SkyAdvisor", "fleet", "[LSkyAdvisor$Aircraft;", true)
  | _ => ("SkyAdvisor", "pairs", "[LSkyAdvisor$Pair;", true)
def tyX4 : Nat → FieldType := fun k => match k with
  | 0 => .object "SkyAdvisor$Settings"
  | 1 => .object "SkyAdvisor$Tally"
  | 2 => .array (.object "SkyAdvisor$Aircraft")
  | _ => .array (.object "SkyAdvisor$Pair")
abbrev wsX40 : List Cond := u_ws RX4 TX4 4
theorem nmX4 : ∀ a, a < 4 → ∀ b, b < 4 → a ≠ b → (TX4 a).2.1 ≠ (TX4 b).2.1 := by decide +kernel
theorem tyX4_ok : ∀ k, k < 4 → parseFieldDescriptor (TX4 k).2.2.1 = some (tyX4 k) := by decide +kernel
abbrev cX4_init : ByteArray := prog_1_method_1_code
def yX4_init : MethodName := ⟨RX4, "<init>", "()V"⟩
abbrev cX4_set : ByteArray := prog_1_method_2_code
def yX4_set : MethodName := ⟨RX4, "set", "(II)I"⟩
abbrev cX4_place : ByteArray := prog_1_method_3_code
def yX4_place : MethodName := ⟨RX4, "place", "(IIII)V"⟩
abbrev cX4_speed : ByteArray := prog_1_method_4_code
def yX4_speed : MethodName := ⟨RX4, "speed", "(IIII)V"⟩
abbrev cX4_follow : ByteArray := prog_1_method_5_code
def yX4_follow : MethodName := ⟨RX4, "follow", "(IZ)V"⟩
abbrev cX4_leave : ByteArray := prog_1_method_6_code
def yX4_leave : MethodName := ⟨RX4, "leave", "(I)V"⟩
abbrev cX4_step : ByteArray := prog_1_method_7_code
def yX4_step : MethodName := ⟨RX4, "step", "(I)I"⟩
abbrev cX4_told : ByteArray := prog_1_method_8_code
def yX4_told : MethodName := ⟨RX4, "told", "(II)I"⟩
abbrev cX4_pair : ByteArray := prog_1_method_9_code
def yX4_pair : MethodName := ⟨RX4, "pair", "(III)I"⟩
abbrev cX4_all : ByteArray := prog_1_method_10_code
def yX4_all : MethodName := ⟨RX4, "all", "(I)I"⟩
abbrev cX4_isNumber : ByteArray := prog_1_method_11_code
def yX4_isNumber : MethodName := ⟨RX4, "isNumber", "(I)Z"⟩
abbrev cX4_isThere : ByteArray := prog_1_method_12_code
def yX4_isThere : MethodName := ⟨RX4, "isThere", "(I)Z"⟩
abbrev cX4_pairNumber : ByteArray := prog_1_method_13_code
def yX4_pairNumber : MethodName := ⟨RX4, "pairNumber", "(II)I"⟩
abbrev cX4_dropAdviceOf : ByteArray := prog_1_method_14_code
def yX4_dropAdviceOf : MethodName := ⟨RX4, "dropAdviceOf", "(LSkyAdvisor$Aircraft;)V"⟩
abbrev cX4_restartLeastOf : ByteArray := prog_1_method_15_code
def yX4_restartLeastOf : MethodName := ⟨RX4, "restartLeastOf", "(LSkyAdvisor$Aircraft;)V"⟩
abbrev cX4_passSecond : ByteArray := prog_1_method_16_code
def yX4_passSecond : MethodName := ⟨RX4, "passSecond", "()V"⟩
abbrev cX4_heedAdvice : ByteArray := prog_1_method_17_code
def yX4_heedAdvice : MethodName := ⟨RX4, "heedAdvice", "(LSkyAdvisor$Aircraft;)V"⟩
abbrev cX4_countAdvised : ByteArray := prog_1_method_18_code
def yX4_countAdvised : MethodName := ⟨RX4, "countAdvised", "()I"⟩
def RX5 : String := "SkyAdvisorModel"
def TX5 : u_T := fun k => match k with
  | 0 => ("SkyAdvisorModel", "thrown", "I", false)
  | 1 => ("SkyAdvisorModel", "settings", "[I", true)
  | 2 => ("SkyAdvisorModel", "there", "[Z", true)
  | 3 => ("SkyAdvisorModel", "follows", "[Z", true)
  | 4 => ("SkyAdvisorModel", "track", "[I", true)
  | 5 => ("SkyAdvisorModel", "sense", "[I", true)
  | 6 => ("SkyAdvisorModel", "strength", "[I", true)
  | 7 => ("SkyAdvisorModel", "stood", "[I", true)
  | 8 => ("SkyAdvisorModel", "turned", "[Z", true)
  | 9 => ("SkyAdvisorModel", "nearest", "[J", true)
  | 10 => ("SkyAdvisorModel", "lowest", "[I", true)
  | 11 => ("SkyAdvisorModel", "counts", "[I", true)
  | 12 => ("SkyAdvisorModel", "one", "I", false)
  | 13 => ("SkyAdvisorModel", "other", "I", false)
  | 14 => ("SkyAdvisorModel", "x", "J", false)
  | 15 => ("SkyAdvisorModel", "y", "J", false)
  | 16 => ("SkyAdvisorModel", "z", "J", false)
  | 17 => ("SkyAdvisorModel", "u", "J", false)
  | 18 => ("SkyAdvisorModel", "v", "J", false)
  | 19 => ("SkyAdvisorModel", "w", "J", false)
  | 20 => ("SkyAdvisorModel", "closing", "J", false)
  | _ => ("SkyAdvisorModel", "left", "J", false)
def tyX5 : Nat → FieldType := fun k => match k with
  | 0 => .int
  | 1 => .array .int
  | 2 => .array .boolean
  | 3 => .array .boolean
  | 4 => .array .int
  | 5 => .array .int
  | 6 => .array .int
  | 7 => .array .int
  | 8 => .array .boolean
  | 9 => .array .long
  | 10 => .array .int
  | 11 => .array .int
  | 12 => .int
  | 13 => .int
  | 14 => .long
  | 15 => .long
  | 16 => .long
  | 17 => .long
  | 18 => .long
  | 19 => .long
  | 20 => .long
  | _ => .long
abbrev wsX50 : List Cond := u_ws RX5 TX5 22
theorem nmX5 : ∀ a, a < 22 → ∀ b, b < 22 → a ≠ b → (TX5 a).2.1 ≠ (TX5 b).2.1 := by decide +kernel
theorem tyX5_ok : ∀ k, k < 22 → parseFieldDescriptor (TX5 k).2.2.1 = some (tyX5 k) := by decide +kernel
abbrev cX5_init : ByteArray := prog_7_method_1_code
def yX5_init : MethodName := ⟨RX5, "<init>", "()V"⟩
abbrev cX5_thrown : ByteArray := prog_7_method_2_code
def yX5_thrown : MethodName := ⟨RX5, "thrown", "()I"⟩
abbrev cX5_set : ByteArray := prog_7_method_3_code
def yX5_set : MethodName := ⟨RX5, "set", "(II)I"⟩
abbrev cX5_isNumber : ByteArray := prog_7_method_4_code
def yX5_isNumber : MethodName := ⟨RX5, "isNumber", "(I)Z"⟩
abbrev cX5_isThere : ByteArray := prog_7_method_5_code
def yX5_isThere : MethodName := ⟨RX5, "isThere", "(I)Z"⟩
abbrev cX5_within : ByteArray := prog_7_method_6_code
def yX5_within : MethodName := ⟨RX5, "within", "(II)Z"⟩
abbrev cX5_pairOf : ByteArray := prog_7_method_7_code
def yX5_pairOf : MethodName := ⟨RX5, "pairOf", "(II)I"⟩
abbrev cX5_endAll : ByteArray := prog_7_method_8_code
def yX5_endAll : MethodName := ⟨RX5, "endAll", "(I)V"⟩
abbrev cX5_measure : ByteArray := prog_7_method_9_code
def yX5_measure : MethodName := ⟨RX5, "measure", "(II)V"⟩
abbrev cX5_place : ByteArray := prog_7_method_10_code
def yX5_place : MethodName := ⟨RX5, "place", "(IIII)V"⟩
abbrev cX5_speed : ByteArray := prog_7_method_11_code
def yX5_speed : MethodName := ⟨RX5, "speed", "(IIII)V"⟩
abbrev cX5_follow : ByteArray := prog_7_method_12_code
def yX5_follow : MethodName := ⟨RX5, "follow", "(IZ)V"⟩
abbrev cX5_leave : ByteArray := prog_7_method_13_code
def yX5_leave : MethodName := ⟨RX5, "leave", "(I)V"⟩
abbrev cX5_look : ByteArray := prog_7_method_14_code
def yX5_look : MethodName := ⟨RX5, "look", "(II)V"⟩
abbrev cX5_plain : ByteArray := prog_7_method_15_code
def yX5_plain : MethodName := ⟨RX5, "plain", "(J)J"⟩
abbrev cX5_alerts : ByteArray := prog_7_method_16_code
def yX5_alerts : MethodName := ⟨RX5, "alerts", "()Z"⟩
abbrev cX5_height : ByteArray := prog_7_method_17_code
def yX5_height : MethodName := ⟨RX5, "height", "(IZII)J"⟩
abbrev cX5_part : ByteArray := prog_7_method_18_code
def yX5_part : MethodName := ⟨RX5, "part", "(III)J"⟩
abbrev cX5_enough : ByteArray := prog_7_method_19_code
def yX5_enough : MethodName := ⟨RX5, "enough", "(III)I"⟩
abbrev cX5_chosen : ByteArray := prog_7_method_20_code
def yX5_chosen : MethodName := ⟨RX5, "chosen", "()I"⟩
abbrev cX5_bounded : ByteArray := prog_7_method_21_code
def yX5_bounded : MethodName := ⟨RX5, "bounded", "(II)I"⟩
abbrev cX5_move : ByteArray := prog_7_method_22_code
def yX5_move : MethodName := ⟨RX5, "move", "()V"⟩
abbrev cX5_obey : ByteArray := prog_7_method_23_code
def yX5_obey : MethodName := ⟨RX5, "obey", "(I)V"⟩
abbrev cX5_begin : ByteArray := prog_7_method_24_code
def yX5_begin : MethodName := ⟨RX5, "begin", "(II)V"⟩
abbrev cX5_advise : ByteArray := prog_7_method_25_code
def yX5_advise : MethodName := ⟨RX5, "advise", "(I)V"⟩
abbrev cX5_step : ByteArray := prog_7_method_26_code
def yX5_step : MethodName := ⟨RX5, "step", "(I)I"⟩
abbrev cX5_told : ByteArray := prog_7_method_27_code
def yX5_told : MethodName := ⟨RX5, "told", "(II)I"⟩
abbrev cX5_forFirst : ByteArray := prog_7_method_28_code
def yX5_forFirst : MethodName := ⟨RX5, "forFirst", "(IZ)I"⟩
abbrev cX5_pair : ByteArray := prog_7_method_29_code
def yX5_pair : MethodName := ⟨RX5, "pair", "(III)I"⟩
abbrev cX5_all : ByteArray := prog_7_method_30_code
def yX5_all : MethodName := ⟨RX5, "all", "(I)I"⟩
def RJx8e188 : String := "java/lang/Cloneable"
def TJx8e188 : u_T := fun k => match k with
  | _ => ("", "", "", false)
def tyJx8e188 : Nat → FieldType := fun k => match k with
  | _ => .int
abbrev wsJx8e1880 : List Cond := u_ws RJx8e188 TJx8e188 0
theorem nmJx8e188 : ∀ a, a < 0 → ∀ b, b < 0 → a ≠ b → (TJx8e188 a).2.1 ≠ (TJx8e188 b).2.1 := by decide +kernel
theorem tyJx8e188_ok : ∀ k, k < 0 → parseFieldDescriptor (TJx8e188 k).2.2.1 = some (tyJx8e188 k) := by decide +kernel
def RJ9 : String := "java/lang/Math"
def TJ9 : u_T := fun k => match k with
  | _ => ("", "", "", false)
def tyJ9 : Nat → FieldType := fun k => match k with
  | _ => .int
abbrev wsJ90 : List Cond := u_ws RJ9 TJ9 0
theorem nmJ9 : ∀ a, a < 0 → ∀ b, b < 0 → a ≠ b → (TJ9 a).2.1 ≠ (TJ9 b).2.1 := by decide +kernel
theorem tyJ9_ok : ∀ k, k < 0 → parseFieldDescriptor (TJ9 k).2.2.1 = some (tyJ9 k) := by decide +kernel
abbrev cJ9_abs_0f7a4 : ByteArray := prog_11_method_59_code
def yJ9_abs_0f7a4 : MethodName := ⟨RJ9, "abs", "(I)I"⟩
abbrev cJ9_max_7cf53 : ByteArray := prog_11_method_65_code
def yJ9_max_7cf53 : MethodName := ⟨RJ9, "max", "(II)I"⟩
abbrev cJ9_min_7cf53 : ByteArray := prog_11_method_69_code
def yJ9_min_7cf53 : MethodName := ⟨RJ9, "min", "(II)I"⟩
abbrev cJ9_min_f86c9 : ByteArray := prog_11_method_70_code
def yJ9_min_f86c9 : MethodName := ⟨RJ9, "min", "(JJ)J"⟩
def RJ0 : String := "java/lang/String"
def TJ0 : u_T := fun k => match k with
  | _ => ("", "", "", false)
def tyJ0 : Nat → FieldType := fun k => match k with
  | _ => .int
abbrev wsJ00 : List Cond := u_ws RJ0 TJ0 0
theorem nmJ0 : ∀ a, a < 0 → ∀ b, b < 0 → a ≠ b → (TJ0 a).2.1 ≠ (TJ0 b).2.1 := by decide +kernel
theorem tyJ0_ok : ∀ k, k < 0 → parseFieldDescriptor (TJ0 k).2.2.1 = some (tyJ0 k) := by decide +kernel
def RL : String := "SkyAdvisorLaw"
abbrev cL_set : ByteArray := method_3_code
def yL_set : MethodName := ⟨RL, "set", "(LSkyAdvisor;II[J)I"⟩
abbrev cL_place : ByteArray := method_4_code
def yL_place : MethodName := ⟨RL, "place", "(LSkyAdvisor;IIII)I"⟩
abbrev cL_speed : ByteArray := method_5_code
def yL_speed : MethodName := ⟨RL, "speed", "(LSkyAdvisor;IIII)I"⟩
abbrev cL_follow : ByteArray := method_6_code
def yL_follow : MethodName := ⟨RL, "follow", "(LSkyAdvisor;IZ)I"⟩
abbrev cL_leave : ByteArray := method_7_code
def yL_leave : MethodName := ⟨RL, "leave", "(LSkyAdvisor;I)I"⟩
abbrev cL_step : ByteArray := method_8_code
def yL_step : MethodName := ⟨RL, "step", "(LSkyAdvisor;I[J)I"⟩
abbrev cL_told : ByteArray := method_9_code
def yL_told : MethodName := ⟨RL, "told", "(LSkyAdvisor;II[J)I"⟩
abbrev cL_pair : ByteArray := method_10_code
def yL_pair : MethodName := ⟨RL, "pair", "(LSkyAdvisor;III[J)I"⟩
abbrev cL_all : ByteArray := method_11_code
def yL_all : MethodName := ⟨RL, "all", "(LSkyAdvisor;I[J)I"⟩
abbrev cL_law : ByteArray := code
def yL_law : MethodName := ⟨RL, "law", "([I)Z"⟩
abbrev vwCl : List vw_C := [(RX0, TX0, 8), (RX1, TX1, 11), (RX2, TX2, 1), (RX3, TX3, 5), (RX4, TX4, 4), (RX5, TX5, 22)]
end
section
/-! THE CALCULUS: a small machine of our own, over typed memory; no JVM in it. A value: an int, a long, or a reference (class tag, number) or null -/
abbrev xm_V : Type := Int32 ⊕ Int64 ⊕ Option (Nat × Nat)
abbrev xm_i (x : Int32) : xm_V := .inl x
abbrev xm_l (x : Int64) : xm_V := .inr (.inl x)
abbrev xm_r (c i : Nat) : xm_V := .inr (.inr (some (c, i)))
abbrev xm_n : xm_V := .inr (.inr none)
/-- memory: ints, longs, references by class tag, field (or place), object; lengths; which objects there are, in the order of their making -/
abbrev xm_M : Type := (Nat → Nat → Nat → Int32) × (Nat → Nat → Nat → Int64) × (Nat → Nat → Nat → Option (Nat × Nat)) × (Nat → Nat → Nat) × List (Nat × Nat)
def xm_up {α : Type} (f : Nat → Nat → Nat → α) (c k i : Nat) (v : α) : Nat → Nat → Nat → α := fun c' k' i' => if c' = c then (if k' = k then (if i' = i then v else f c' k' i') else f c' k' i') else f c' k' i'
abbrev xm_L : Type := List (Nat × xm_V)
abbrev xm_S : Type := xm_L × List xm_V × xm_M × Nat × Nat
/-- category of a value -/
def xm_cat (v : xm_V) : Nat := match v with
  | .inl _ => 1
  | .inr (.inl _) => 2
  | .inr (.inr _) => 1
def xm_ld (lv : xm_L) (i : Nat) : Option xm_V := match lv with
  | [] => none
  | q :: r => if q.1 = i then some q.2 else xm_ld r i
def xm_st1 (lv : xm_L) (i : Nat) (v : xm_V) : xm_L := (i, v) :: lv.filter (fun q => !(q.1 == i) && !(q.1 + 1 == i && xm_cat q.2 == 2))
def xm_st2 (lv : xm_L) (i : Nat) (v : xm_V) : xm_L := (i, v) :: lv.filter (fun q => !(q.1 == i) && (!(q.1 == i + 1) && !(q.1 + 1 == i && xm_cat q.2 == 2)))
abbrev xm_F : Type := xm_S → Option (Nat × xm_S)
/-- an entry of a method's table: a step; a call (method, how many arguments, the receiver's tag + 1 or 0); a stop (kind) -/
abbrev xm_E : Type := xm_F ⊕ (Nat × Nat × Nat) ⊕ Nat
abbrev xm_T : Type := List (Nat × xm_E)
def xm_at : xm_T → Nat → Option xm_E
  | [], _ => none
  | (q, e) :: r, pc => if q = pc then some e else xm_at r pc
abbrev xm_Cal : Type := Nat → List xm_V → xm_M → Option xm_V → xm_M → Nat → Nat → Prop
/-- the receiver is of the class that the call names -/
def xm_rc (t : Nat) (as : List xm_V) : Prop := t = 0 ∨ ∃ i r, as = xm_r (t - 1) i :: r
/-- n steps from (pc, S) come to the stop (pc', S') -/
def xm_Rn (cal : xm_Cal) (tb : xm_T) : Nat → Nat → xm_S → Nat → xm_S → Prop
  | 0, pc, S, pc', S' => pc = pc' ∧ S = S' ∧ ∃ k, xm_at tb pc = some (.inr (.inr k))
  | n + 1, pc, S, pc', S' => (∃ f pc1 S1, xm_at tb pc = some (.inl f) ∧ f S = some (pc1, S1) ∧ xm_Rn cal tb n pc1 S1 pc' S') ∨
      (∃ mi k t lv as rest M kc ks v M1 mc ms, xm_at tb pc = some (.inr (.inl (mi, k, t))) ∧ S = (lv, as.reverse ++ rest, M, kc, ks) ∧ as.length = k ∧ xm_rc t as ∧ (rest.map xm_cat).sum ≤ 8 ∧ cal mi as M v M1 mc ms ∧ xm_Rn cal tb n (pc + 3) (lv, v.toList ++ rest, M1, kc + mc, ks + ms) pc' S')
def xm_R (cal : xm_Cal) (tb : xm_T) (pc : Nat) (S : xm_S) (pc' : Nat) (S' : xm_S) : Prop := ∃ n, xm_Rn cal tb n pc S pc' S'
theorem xm_R.stop {cal : xm_Cal} {tb : xm_T} {pc : Nat} {S : xm_S} {k : Nat} (h : xm_at tb pc = some (.inr (.inr k))) : xm_R cal tb pc S pc S := ⟨0, rfl, rfl, k, h⟩
theorem xm_R.step {cal : xm_Cal} {tb : xm_T} {pc pc' pc1 : Nat} {S S' S1 : xm_S} {f : xm_F} (h : xm_at tb pc = some (.inl f)) (hf : f S = some (pc1, S1)) (k : xm_R cal tb pc1 S1 pc' S') : xm_R cal tb pc S pc' S' := by
  obtain ⟨n, k⟩ := k
  exact ⟨n + 1, Or.inl ⟨f, pc1, S1, h, hf, k⟩⟩
theorem xm_R.ite {cal : xm_Cal} {tb : xm_T} {pc pc' : Nat} {S S' : xm_S} {f : xm_F} {p : Prop} [Decidable p] {a b : Nat × xm_S} (h : xm_at tb pc = some (.inl f)) (hf : f S = some (if p then a else b)) (k1 : p → xm_R cal tb a.1 a.2 pc' S') (k2 : ¬ p → xm_R cal tb b.1 b.2 pc' S') : xm_R cal tb pc S pc' S' := by
  by_cases hp : p
  · rw [if_pos hp] at hf
    exact xm_R.step h hf (k1 hp)
  · rw [if_neg hp] at hf
    exact xm_R.step h hf (k2 hp)
theorem xm_R.call {cal : xm_Cal} {tb : xm_T} {pc pc' : Nat} {S' : xm_S} {mi k t : Nat} {lv : xm_L} {st : List xm_V} (as rest : List xm_V) {M M1 : xm_M} {kc ks mc ms : Nat} {v : Option xm_V} (h : xm_at tb pc = some (.inr (.inl (mi, k, t)))) (hs : st = as.reverse ++ rest) (hk : as.length = k) (ht : xm_rc t as) (hr : (rest.map xm_cat).sum ≤ 8) (hc : cal mi as M v M1 mc ms) (kk : xm_R cal tb (pc + 3) (lv, v.toList ++ rest, M1, kc + mc, ks + ms) pc' S') : xm_R cal tb pc (lv, st, M, kc, ks) pc' S' := by
  obtain ⟨n, kk⟩ := kk
  subst hs
  exact ⟨n + 1, Or.inr ⟨mi, k, t, lv, as, rest, M, kc, ks, v, M1, mc, ms, h, rfl, hk, ht, hr, hc, kk⟩⟩
/-- k straight steps -/
def xm_run (tb : xm_T) : Nat → Nat → xm_S → Option (Nat × xm_S)
  | 0, pc, S => some (pc, S)
  | k + 1, pc, S => match xm_at tb pc with
    | some (.inl f) => match f S with
      | some q => xm_run tb k q.1 q.2
      | none => none
    | _ => none
theorem xm_R.run {cal : xm_Cal} {tb : xm_T} (k : Nat) : ∀ {pc : Nat} {S : xm_S} {q : Nat × xm_S} {pc' : Nat} {S' : xm_S}, xm_run tb k pc S = some q → xm_R cal tb q.1 q.2 pc' S' → xm_R cal tb pc S pc' S' := by
  induction k with
  | zero =>
    intro pc S q pc' S' h kk
    cases h
    exact kk
  | succ k ih =>
    intro pc S q pc' S' h kk
    unfold xm_run at h
    cases ha : xm_at tb pc with
    | none => rw [ha] at h; cases h
    | some e =>
      rw [ha] at h
      cases e with
      | inr _ => cases h
      | inl f =>
        dsimp only at h
        cases hf : f S with
        | none => rw [hf] at h; cases h
        | some q1 =>
          rw [hf] at h
          exact xm_R.step ha hf (ih h kk)
/-- what stands on the stack at a stop of that kind: nothing (0), an int (1), a long (2), a reference (3), a boolean (4) -/
def xm_ret (k : Nat) (st : List xm_V) (v : Option xm_V) : Prop := match k with
  | 0 => st = [] ∧ v = none
  | 1 => ∃ x, st = [xm_i x] ∧ v = some (xm_i x)
  | 2 => ∃ x, st = [xm_l x] ∧ v = some (xm_l x)
  | 3 => ∃ c i, st = [xm_r c i] ∧ v = some (xm_r c i)
  | 4 => ∃ x, (x = 0 ∨ x = 1) ∧ st = [xm_i x] ∧ v = some (xm_i x)
  | _ => False
/-- arguments as locals: a long takes two places -/
def xm_en : Nat → List xm_V → xm_L
  | _, [] => []
  | k, v :: r => (k, v) :: xm_en (k + xm_cat v) r
/-- calls to a depth: method mi of the program (how many locals, its table), its arguments, memory; answer, memory, cells and slots made -/
def xm_Do (pg : Nat → Nat × xm_T) : Nat → xm_Cal
  | 0 => fun _ _ _ _ _ _ _ => False
  | d + 1 => fun mi as M v M' mc ms => (as.map xm_cat).sum ≤ (pg mi).1 ∧ ∃ pc lv st k, xm_R (xm_Do pg d) (pg mi).2 0 (xm_en 0 as, [], M, 0, 0) pc (lv, st, M', mc, ms) ∧ xm_at (pg mi).2 pc = some (.inr (.inr k)) ∧ xm_ret k st v
end
section
/-! THE WORLD that a memory stands for: which kind of cell each tag is -/
/-- kind (0 an object, 1 int[], 2 long[], 3 boolean[], 4 Aircraft[], 5 Pair[], 6 a table that nobody writes), the object's number among the names, its fields: 0 int, 1 long, 2 reference, 3 boolean -/
def xm_kd (c : Nat) : Nat × Nat × List Nat := match c with
  | 0 => (0, 0, [3, 3, 0, 0, 0, 0, 0, 0])
  | 1 => (0, 1, [2, 2, 2, 2, 1, 0, 3, 0, 3, 3, 0])
  | 2 => (0, 2, [2])
  | 3 => (0, 3, [0, 0, 0, 0, 0])
  | 4 => (0, 4, [2, 2, 2, 2])
  | 5 => (0, 5, [0, 2, 2, 2, 2, 2, 2, 2, 2, 2, 2, 2, 0, 0, 1, 1, 1, 1, 1, 1, 1, 1])
  | 6 => (1, 0, [])
  | 7 => (1, 0, [])
  | 8 => (3, 0, [])
  | 9 => (3, 0, [])
  | 10 => (1, 0, [])
  | 11 => (1, 0, [])
  | 12 => (1, 0, [])
  | 13 => (1, 0, [])
  | 14 => (3, 0, [])
  | 15 => (2, 0, [])
  | 16 => (1, 0, [])
  | 17 => (1, 0, [])
  | 18 => (4, 0, [])
  | 19 => (5, 0, [])
  | 20 => (2, 0, [])
  | _ => (6, 0, [])
abbrev xm_o (M : xm_M) : List (Nat × Nat) := M.2.2.2.2
abbrev xm_A : Type := Nat × Nat → Nat
def xm_rv (ad : xm_A) (v : xm_V) : Value := match v with
  | .inl x => .int x
  | .inr (.inl x) => .long x
  | .inr (.inr r) => va_rf (r.map ad)
theorem xm_rv_cat (ad : xm_A) (v : xm_V) : (xm_rv ad v).category = xm_cat v := by
  rcases v with x | x | r
  · rfl
  · rfl
  · cases r <;> rfl
def xm_fv (ad : xm_A) (M : xm_M) (q : Nat × Nat) (k t : Nat) : Value := match t with
  | 1 => .long (M.2.1 q.1 k q.2)
  | 2 => va_rf ((M.2.2.1 q.1 k q.2).map ad)
  | _ => .int (M.1 q.1 k q.2)
def xm_cell (cA : Nat → ClassId) (ad : xm_A) (M : xm_M) (q : Nat × Nat) : va_E := match (xm_kd q.1).1 with
  | 0 => .inr ((xm_kd q.1).2.1, (xm_kd q.1).2.2.mapIdx (xm_fv ad M q))
  | 2 => .inl (cA 2, M.2.2.2.1 q.1 q.2, .inr (.inl (fun j => M.2.1 q.1 j q.2)))
  | 4 => .inl (cA 4, M.2.2.2.1 q.1 q.2, .inr (.inr (.inr (.inr (fun j => (M.2.2.1 q.1 j q.2).map ad)))))
  | 5 => .inl (cA 5, M.2.2.2.1 q.1 q.2, .inr (.inr (.inr (.inr (fun j => (M.2.2.1 q.1 j q.2).map ad)))))
  | k => .inl (cA k, M.2.2.2.1 q.1 q.2, .inl (fun j => M.1 q.1 j q.2))
def xm_ws (cA : Nat → ClassId) (ad : xm_A) (M : xm_M) : va_W := (xm_o M).map (fun q => (ad q, xm_cell cA ad M q))
abbrev xm_tys (cA : Nat → ClassId) : List (ClassId × FieldType) := [(cA 0, .int), (cA 1, .int), (cA 2, .long), (cA 3, .boolean), (cA 4, .object RX0), (cA 5, .object RX1)]
theorem xm_in {cA : Nat → ClassId} {ad : xm_A} {M : xm_M} {q : Nat × Nat} (h : q ∈ xm_o M) : ∃ k : Nat, (xm_o M)[k]? = some q ∧ (xm_ws cA ad M)[k]? = some (ad q, xm_cell cA ad M q) := by
  obtain ⟨k, hk⟩ := List.getElem?_of_mem h
  exact ⟨k, hk, by simp [xm_ws, List.getElem?_map, hk]⟩
theorem xm_inj {cA : Nat → ClassId} {ad : xm_A} {M : xm_M} {A : Nat → Prop} (hD : va_D A (xm_ws cA ad M)) {q q' : Nat × Nat} (h : q ∈ xm_o M) (h' : q' ∈ xm_o M) (e : ad q = ad q') : q = q' := by
  obtain ⟨k, hk, hw⟩ := xm_in (cA := cA) (ad := ad) h
  obtain ⟨j, hj, hv⟩ := xm_in (cA := cA) (ad := ad) h'
  have := hD.1 k j _ _ hw hv e
  subst this
  exact Option.some.inj (hk.symm.trans hj)
theorem xm_set {cA : Nat → ClassId} {ad : xm_A} {M M' : xm_M} {A : Nat → Prop} {q : Nat × Nat} {k : Nat} (hD : va_D A (xm_ws cA ad M)) (hk : (xm_o M)[k]? = some q) (ho : xm_o M' = xm_o M) (hc : ∀ q', q' ≠ q → xm_cell cA ad M' q' = xm_cell cA ad M q') : (xm_ws cA ad M).set k (ad q, xm_cell cA ad M' q) = xm_ws cA ad M' := by
  have hlt : k < (xm_o M).length := (List.getElem?_eq_some_iff.mp hk).1
  apply List.ext_getElem?
  intro j
  rw [List.getElem?_set]
  by_cases hj : k = j
  · subst hj
    rw [if_pos rfl, if_pos (by simpa [xm_ws] using hlt)]
    simp only [xm_ws, ho, List.getElem?_map, hk]
    rfl
  · rw [if_neg hj]
    simp only [xm_ws, ho, List.getElem?_map]
    cases hq : (xm_o M)[j]? with
    | none => simp [hq]
    | some q' =>
      have hne : q' ≠ q := by
        intro e9
        subst e9
        exact hj (hD.1 k j (ad q', xm_cell cA ad M q') (ad q', xm_cell cA ad M q') (by simp [xm_ws, List.getElem?_map, hk]) (by simp [xm_ws, List.getElem?_map, hq]) rfl)
      simp [hq, hc q' hne]
/-- a reference is to something that is there, or to a table -/
def xm_vok (M : xm_M) (v : xm_V) : Prop := match v with
  | .inr (.inr (some q)) => q ∈ xm_o M ∨ 21 ≤ q.1
  | _ => True
def xm_Ok (M : xm_M) (lv : xm_L) (st : List xm_V) : Prop := (∀ x ∈ lv, xm_vok M x.2) ∧ (∀ v ∈ st, xm_vok M v) ∧ ∀ q ∈ xm_o M, ∀ k q', M.2.2.1 q.1 k q.2 = some q' → q' ∈ xm_o M
/-- the fields of an object, and one of them -/
theorem xm_obj {cA : Nat → ClassId} {ad : xm_A} {M : xm_M} {q : Nat × Nat} {ci : Nat} {ts : List Nat} (h : xm_kd q.1 = (0, ci, ts)) : xm_cell cA ad M q = .inr (ci, ts.mapIdx (xm_fv ad M q)) := by
  unfold xm_cell
  rw [h]
  rfl
theorem xm_fld {ad : xm_A} {M : xm_M} {q : Nat × Nat} {ts : List Nat} {k t : Nat} (h : ts[k]? = some t) : (ts.mapIdx (xm_fv ad M q))[k]? = some (xm_fv ad M q k t) := by
  rw [List.getElem?_mapIdx, h]
  rfl
theorem xm_setf {ad : xm_A} {M M' : xm_M} {q : Nat × Nat} {ts : List Nat} {k t : Nat} {v : Value} (h : ts[k]? = some t) (hv : xm_fv ad M' q k t = v) (ho : ∀ j t', j ≠ k → xm_fv ad M' q j t' = xm_fv ad M q j t') : (ts.mapIdx (xm_fv ad M q)).set k v = ts.mapIdx (xm_fv ad M' q) := by
  apply List.ext_getElem?
  intro j
  rw [List.getElem?_set, List.getElem?_mapIdx, List.getElem?_mapIdx]
  have hlt : k < ts.length := (List.getElem?_eq_some_iff.mp h).1
  by_cases hj : k = j
  · subst hj
    rw [if_pos rfl, if_pos (by simpa using hlt), h]
    simp [hv]
  · rw [if_neg hj]
    cases hq : ts[j]? with
    | none => rfl
    | some t' => simp [ho j t' (fun e9 => hj e9.symm)]
end
section
/-! THE STEPS of the calculus (no machine here) -/
def xs_lift (n : Nat) (g : List xm_V → Option (List xm_V)) : xm_F := fun S => match g S.2.1 with
  | some st1 => some (n, S.1, st1, S.2.2)
  | none => none
def xg_push (v : xm_V) : List xm_V → Option (List xm_V) := fun st => some (v :: st)
def xg_bin (op : Int32 → Int32 → Int32) : List xm_V → Option (List xm_V) := fun st => match st with
  | .inl y :: .inl x :: r => some (.inl (op x y) :: r)
  | _ => none
def xg_binL (op : Int64 → Int64 → Int64) : List xm_V → Option (List xm_V) := fun st => match st with
  | .inr (.inl y) :: .inr (.inl x) :: r => some (.inr (.inl (op x y)) :: r)
  | _ => none
def xg_div : List xm_V → Option (List xm_V) := fun st => match st with
  | .inl y :: .inl x :: r => if y = 0 then none else some (.inl (x / y) :: r)
  | _ => none
def xg_divL : List xm_V → Option (List xm_V) := fun st => match st with
  | .inr (.inl y) :: .inr (.inl x) :: r => if y = 0 then none else some (.inr (.inl (x / y)) :: r)
  | _ => none
def xg_un (op : Int32 → Int32) : List xm_V → Option (List xm_V) := fun st => match st with
  | .inl x :: r => some (.inl (op x) :: r)
  | _ => none
def xg_unL (op : Int64 → Int64) : List xm_V → Option (List xm_V) := fun st => match st with
  | .inr (.inl x) :: r => some (.inr (.inl (op x)) :: r)
  | _ => none
def xg_i2l : List xm_V → Option (List xm_V) := fun st => match st with
  | .inl x :: r => some (.inr (.inl x.toInt64) :: r)
  | _ => none
def xg_l2i : List xm_V → Option (List xm_V) := fun st => match st with
  | .inr (.inl x) :: r => some (.inl x.toInt32 :: r)
  | _ => none
def xg_lcmp : List xm_V → Option (List xm_V) := fun st => match st with
  | .inr (.inl y) :: .inr (.inl x) :: r => some (.inl (lg_cmp x y) :: r)
  | _ => none
def xg_dup : List xm_V → Option (List xm_V) := fun st => match st with
  | v :: r => if xm_cat v = 1 then some (v :: v :: r) else none
  | _ => none
def xg_dup2 : List xm_V → Option (List xm_V) := fun st => match st with
  | v :: w :: r => if xm_cat v = 1 ∧ xm_cat w = 1 then some (v :: w :: v :: w :: r) else none
  | _ => none
/-- Math.max, min, abs: calls, so that what lies below them is bounded -/
def xg_mbin (op : Int32 → Int32 → Int32) : List xm_V → Option (List xm_V) := fun st => match st with
  | .inl y :: .inl x :: r => if (r.map xm_cat).sum ≤ 8 then some (.inl (op x y) :: r) else none
  | _ => none
def xg_mun (op : Int32 → Int32) : List xm_V → Option (List xm_V) := fun st => match st with
  | .inl x :: r => if (r.map xm_cat).sum ≤ 8 then some (.inl (op x) :: r) else none
  | _ => none
def xg_mbinL (op : Int64 → Int64 → Int64) : List xm_V → Option (List xm_V) := fun st => match st with
  | .inr (.inl y) :: .inr (.inl x) :: r => if (r.map xm_cat).sum ≤ 8 then some (.inr (.inl (op x y)) :: r) else none
  | _ => none
def xo_max (x y : Int32) : Int32 := if x < y then y else x
def xo_min (x y : Int32) : Int32 := if y < x then y else x
def xo_abs (x : Int32) : Int32 := if 0 ≤ x then x else 0 - x
def xo_minL (x y : Int64) : Int64 := if y < x then y else x
/-- Object's constructor -/
def xg_obj : List xm_V → Option (List xm_V) := fun st => match st with
  | .inr (.inr (some _)) :: r => if (r.map xm_cat).sum ≤ 8 then some r else none
  | _ => none
def xs_ldI (n i : Nat) : xm_F := fun S => match xm_ld S.1 i with
  | some (.inl x) => some (n, S.1, .inl x :: S.2.1, S.2.2)
  | _ => none
def xs_ldL (n i : Nat) : xm_F := fun S => match xm_ld S.1 i with
  | some (.inr (.inl x)) => some (n, S.1, .inr (.inl x) :: S.2.1, S.2.2)
  | _ => none
def xs_ldR (n i : Nat) : xm_F := fun S => match xm_ld S.1 i with
  | some (.inr (.inr (some q))) => some (n, S.1, .inr (.inr (some q)) :: S.2.1, S.2.2)
  | _ => none
def xs_stI (n i : Nat) : xm_F := fun S => match S.2.1 with
  | .inl x :: r => some (n, xm_st1 S.1 i (.inl x), r, S.2.2)
  | _ => none
def xs_stL (n i : Nat) : xm_F := fun S => match S.2.1 with
  | .inr (.inl x) :: r => some (n, xm_st2 S.1 i (.inr (.inl x)), r, S.2.2)
  | _ => none
def xs_stR (n i : Nat) : xm_F := fun S => match S.2.1 with
  | .inr (.inr (some q)) :: r => some (n, xm_st1 S.1 i (.inr (.inr (some q))), r, S.2.2)
  | _ => none
def xs_inc (n i : Nat) (d : Int32) : xm_F := fun S => match xm_ld S.1 i with
  | some (.inl x) => some (n, xm_st1 S.1 i (.inl (x + d)), S.2)
  | _ => none
def xs_goto (t : Nat) : xm_F := fun S => some (t, S)
def xs_if (n t : Nat) (P : Int32 → Prop) (dp : ∀ x, Decidable (P x)) : xm_F := fun S => match S.2.1 with
  | .inl x :: r => some (@ite _ (P x) (dp x) (t, S.1, r, S.2.2) (n, S.1, r, S.2.2))
  | _ => none
def xs_icmp (n t : Nat) (P : Int32 → Int32 → Prop) (dp : ∀ x y, Decidable (P x y)) : xm_F := fun S => match S.2.1 with
  | .inl y :: .inl x :: r => some (@ite _ (P x y) (dp x y) (t, S.1, r, S.2.2) (n, S.1, r, S.2.2))
  | _ => none
/-- to t where the two are one, else to n -/
def xs_acmp (n t : Nat) : xm_F := fun S => match S.2.1 with
  | .inr (.inr (some b)) :: .inr (.inr (some a)) :: r => some (if a = b then (t, S.1, r, S.2.2) else (n, S.1, r, S.2.2))
  | _ => none
def xs_sw (ts : List Nat) (d : Nat) : xm_F := fun S => match S.2.1 with
  | .inl x :: r => some ((if x.toInt < 0 then d else ts.getD x.toInt.toNat d), S.1, r, S.2.2)
  | _ => none
def xs_getI (n c k : Nat) : xm_F := fun S => match S.2.1 with
  | .inr (.inr (some q)) :: r => if q.1 = c then some (n, S.1, .inl (S.2.2.1.1 c k q.2) :: r, S.2.2) else none
  | _ => none
def xs_getL (n c k : Nat) : xm_F := fun S => match S.2.1 with
  | .inr (.inr (some q)) :: r => if q.1 = c then some (n, S.1, .inr (.inl (S.2.2.1.2.1 c k q.2)) :: r, S.2.2) else none
  | _ => none
def xs_getR (n c k : Nat) : xm_F := fun S => match S.2.1 with
  | .inr (.inr (some q)) :: r => if q.1 = c then (match S.2.2.1.2.2.1 c k q.2 with
    | some z => some (n, S.1, .inr (.inr (some z)) :: r, S.2.2)
    | none => none) else none
  | _ => none
def xm_wI (M : xm_M) (c k i : Nat) (v : Int32) : xm_M := (xm_up M.1 c k i v, M.2)
def xm_wL (M : xm_M) (c k i : Nat) (v : Int64) : xm_M := (M.1, xm_up M.2.1 c k i v, M.2.2)
def xm_wR (M : xm_M) (c k i : Nat) (v : Option (Nat × Nat)) : xm_M := (M.1, M.2.1, xm_up M.2.2.1 c k i v, M.2.2.2)
def xs_putI (n c k : Nat) : xm_F := fun S => match S.2.1 with
  | .inl v :: .inr (.inr (some q)) :: r => if q.1 = c then some (n, S.1, r, xm_wI S.2.2.1 c k q.2 v, S.2.2.2) else none
  | _ => none
def xs_putZ (n c k : Nat) : xm_F := fun S => match S.2.1 with
  | .inl v :: .inr (.inr (some q)) :: r => if q.1 = c ∧ (v = 0 ∨ v = 1) then some (n, S.1, r, xm_wI S.2.2.1 c k q.2 v, S.2.2.2) else none
  | _ => none
def xs_putL (n c k : Nat) : xm_F := fun S => match S.2.1 with
  | .inr (.inl v) :: .inr (.inr (some q)) :: r => if q.1 = c then some (n, S.1, r, xm_wL S.2.2.1 c k q.2 v, S.2.2.2) else none
  | _ => none
def xs_putR (n c k : Nat) : xm_F := fun S => match S.2.1 with
  | .inr (.inr (some z)) :: .inr (.inr (some q)) :: r => if q.1 = c ∧ z.1 < 21 then some (n, S.1, r, xm_wR S.2.2.1 c k q.2 (some z), S.2.2.2) else none
  | _ => none
/-- a place of an array -/
def xm_at0 (x : Int32) (n : Nat) : Prop := 0 ≤ x.toInt ∧ x.toInt < n
/-- the tables: LEAST, MOST, AT_FIRST -/
def xm_tb (k j : Nat) : Int32 := match k with
  | 0 => (match j with | 0 => 1 | 6 => 1 | _ => 0)
  | 1 => (match j with | 0 => 100 | 1 => 5000 | 2 => 5000 | 3 => 2000 | 4 => 2000 | 5 => 20 | _ => 60)
  | _ => (match j with | 0 => 30 | 1 => 1000 | 2 => 2000 | 3 => 250 | 4 => 200 | 5 => 5 | _ => 8)
def xs_iald (n : Nat) : xm_F := fun S => match S.2.1 with
  | .inl x :: .inr (.inr (some q)) :: r => (match (xm_kd q.1).1 with
    | 1 => @ite _ (0 ≤ x.toInt ∧ x.toInt < S.2.2.1.2.2.2.1 q.1 q.2) instDecidableAnd (some (n, S.1, .inl (S.2.2.1.1 q.1 x.toNatClampNeg q.2) :: r, S.2.2)) none
    | _ => none)
  | _ => none
def xs_tald (n k : Nat) : xm_F := fun S => match S.2.1 with
  | .inl x :: .inr (.inr (some q)) :: r => if q = (21 + k, 0) ∧ 0 ≤ x.toInt ∧ x.toInt < 7 then some (n, S.1, .inl (xm_tb k x.toNatClampNeg) :: r, S.2.2) else none
  | _ => none
def xs_zald (n : Nat) : xm_F := fun S => match S.2.1 with
  | .inl x :: .inr (.inr (some q)) :: r => (match (xm_kd q.1).1 with
    | 3 => if 0 ≤ x.toInt ∧ x.toInt < S.2.2.1.2.2.2.1 q.1 q.2 then some (n, S.1, .inl (S.2.2.1.1 q.1 x.toNatClampNeg q.2) :: r, S.2.2) else none
    | _ => none)
  | _ => none
def xs_lald (n : Nat) : xm_F := fun S => match S.2.1 with
  | .inl x :: .inr (.inr (some q)) :: r => (match (xm_kd q.1).1 with
    | 2 => if 0 ≤ x.toInt ∧ x.toInt < S.2.2.1.2.2.2.1 q.1 q.2 then some (n, S.1, .inr (.inl (S.2.2.1.2.1 q.1 x.toNatClampNeg q.2)) :: r, S.2.2) else none
    | _ => none)
  | _ => none
/-- an array of references (kind t) -/
def xs_aald (n t : Nat) : xm_F := fun S => match S.2.1 with
  | .inl x :: .inr (.inr (some q)) :: r => if (xm_kd q.1).1 = t ∧ 0 ≤ x.toInt ∧ x.toInt < S.2.2.1.2.2.2.1 q.1 q.2 then (match S.2.2.1.2.2.1 q.1 x.toNatClampNeg q.2 with
    | some z => some (n, S.1, .inr (.inr (some z)) :: r, S.2.2)
    | none => none) else none
  | _ => none
def xs_iast (n : Nat) : xm_F := fun S => match S.2.1 with
  | .inl v :: .inl x :: .inr (.inr (some q)) :: r => if (xm_kd q.1).1 = 1 ∧ 0 ≤ x.toInt ∧ x.toInt < S.2.2.1.2.2.2.1 q.1 q.2 then some (n, S.1, r, xm_wI S.2.2.1 q.1 x.toNatClampNeg q.2 v, S.2.2.2) else none
  | _ => none
def xs_zast (n : Nat) : xm_F := fun S => match S.2.1 with
  | .inl v :: .inl x :: .inr (.inr (some q)) :: r => if (xm_kd q.1).1 = 3 ∧ (v = 0 ∨ v = 1) ∧ 0 ≤ x.toInt ∧ x.toInt < S.2.2.1.2.2.2.1 q.1 q.2 then some (n, S.1, r, xm_wI S.2.2.1 q.1 x.toNatClampNeg q.2 v, S.2.2.2) else none
  | _ => none
def xs_last (n : Nat) : xm_F := fun S => match S.2.1 with
  | .inr (.inl v) :: .inl x :: .inr (.inr (some q)) :: r => if (xm_kd q.1).1 = 2 ∧ 0 ≤ x.toInt ∧ x.toInt < S.2.2.1.2.2.2.1 q.1 q.2 then some (n, S.1, r, xm_wL S.2.2.1 q.1 x.toNatClampNeg q.2 v, S.2.2.2) else none
  | _ => none
/-- z, an object of tag t, into an array of references (kind a) -/
def xs_aast (n a t : Nat) : xm_F := fun S => match S.2.1 with
  | .inr (.inr (some z)) :: .inl x :: .inr (.inr (some q)) :: r => if (xm_kd q.1).1 = a ∧ z.1 = t ∧ 0 ≤ x.toInt ∧ x.toInt < S.2.2.1.2.2.2.1 q.1 q.2 then some (n, S.1, r, xm_wR S.2.2.1 q.1 x.toNatClampNeg q.2 (some z), S.2.2.2) else none
  | _ => none
def xs_alen (n : Nat) : xm_F := fun S => match S.2.1 with
  | .inr (.inr (some q)) :: r => (match (xm_kd q.1).1 with
    | 0 => none
    | 6 => if q.2 = 0 ∧ q.1 < 24 then some (n, S.1, .inl 7 :: r, S.2.2) else none
    | _ => some (n, S.1, .inl (Int32.ofNat (S.2.2.1.2.2.2.1 q.1 q.2)) :: r, S.2.2))
  | _ => none
/-- how many of a tag there are -/
def xm_cnt (c : Nat) : List (Nat × Nat) → Nat
  | [] => 0
  | q :: r => (if q.1 = c then 1 else 0) + xm_cnt c r
def xm_nw (M : xm_M) (c N : Nat) : xm_M := ((fun c' k' i' => if c' = c ∧ i' = xm_cnt c (xm_o M) then 0 else M.1 c' k' i'), (fun c' k' i' => if c' = c ∧ i' = xm_cnt c (xm_o M) then 0 else M.2.1 c' k' i'), (fun c' k' i' => if c' = c ∧ i' = xm_cnt c (xm_o M) then none else M.2.2.1 c' k' i'), (fun c' i' => if c' = c ∧ i' = xm_cnt c (xm_o M) then N else M.2.2.2.1 c' i'), xm_o M ++ [(c, xm_cnt c (xm_o M))])
def xs_new (n c : Nat) : xm_F := fun S => if (c, xm_cnt c (xm_o S.2.2.1)) ∈ xm_o S.2.2.1 then none else some (n, S.1, .inr (.inr (some (c, xm_cnt c (xm_o S.2.2.1)))) :: S.2.1, xm_nw S.2.2.1 c 0, S.2.2.2.1 + 1, S.2.2.2.2 + (xm_kd c).2.2.length)
def xs_newa (n c : Nat) : xm_F := fun S => match S.2.1 with
  | .inl x :: r => if (c, xm_cnt c (xm_o S.2.2.1)) ∈ xm_o S.2.2.1 then none else if 0 ≤ x.toInt ∧ x.toInt ≤ 1000 then some (n, S.1, .inr (.inr (some (c, xm_cnt c (xm_o S.2.2.1)))) :: r, xm_nw S.2.2.1 c x.toNatClampNeg, S.2.2.2.1 + 1, S.2.2.2.2 + x.toNatClampNeg) else none
  | _ => none
def xs_gst (n k : Nat) : xm_F := fun S => some (n, S.1, .inr (.inr (some (21 + k, 0))) :: S.2.1, S.2.2)
end
section
/-! THE MACHINE KEEPS THE STEPS -/
def xm_nm (k : Nat) : String := match k with
  | 0 => "LEAST"
  | 1 => "MOST"
  | _ => "AT_FIRST"
/-- a table at t: seven ints, written by nobody -/
def xm_Tb (t k : Nat) (A : Nat → Prop) (U : State) (H : Heap) : Prop := ∃ cell : Cell, H[t]? = some cell ∧ U.isArrayOf cell .int ∧ cell.vm ≠ .unknown ∧ cell.slots.size = 7 ∧ (∀ j : Nat, j < 7 → cell.slots[j]? = some (.int (xm_tb k j))) ∧ ¬ A t
theorem xm_Tb.moved {t k : Nat} {A : Nat → Prop} {u U : State} {H : Heap} (hvm : u.vm.Alike U.vm) (h : xm_Tb t k A u H) : xm_Tb t k A U H := by
  obtain ⟨cell, h1, h2, h3⟩ := h
  exact ⟨cell, h1, State.isArrayOf_alike hvm h2, h3⟩
theorem xm_Tb.kept {t k : Nat} {A : Nat → Prop} {U : State} {H H1 : Heap} (h : xm_Tb t k A U H) (hq : ∀ a : Nat, a < H.size → ¬ A a → H1[a]? = H[a]?) : xm_Tb t k A U H1 := by
  obtain ⟨cell, h1, h2, h3, h4, h5, h6⟩ := h
  exact ⟨cell, by rw [hq t (Array.getElem?_eq_some_iff.mp h1).1 h6]; exact h1, h2, h3, h4, h5, h6⟩
theorem xm_Tb.narrow {t k : Nat} {A B : Nat → Prop} {U : State} {H : Heap} (h : xm_Tb t k A U H) (hAB : ∀ q, B q → A q) : xm_Tb t k B U H := by
  obtain ⟨cell, h1, h2, h3, h4, h5, h6⟩ := h
  exact ⟨cell, h1, h2, h3, h4, h5, fun z => h6 (hAB t z)⟩
theorem xm_Tb.T {t k : Nat} {A : Nat → Prop} {U : State} {H : Heap} (h : xm_Tb t k A U H) : va_T .int t 7 (fun j => .int (xm_tb k j)) A U H := by
  obtain ⟨cell, h1, h2, h3, h4, h5, h6⟩ := h
  exact ⟨cell, h1, h2, h3, by omega, by rw [h4], h5, h6⟩
def xm_Sx (tS : Nat → Nat) (A : Nat → Prop) (U : State) (H : Heap) : Prop := (∀ k, k < 3 → va_Z RX2 (xm_nm k) "[I" (.ref (tS k)) A U H ∧ xm_Tb (tS k) k A U H) ∧ va_AO RX0 U ∧ va_AO RX1 U
theorem xm_Sx.moved {tS : Nat → Nat} {A : Nat → Prop} {u U : State} {H : Heap} (hvm : u.vm.Alike U.vm) (h : xm_Sx tS A u H) : xm_Sx tS A U H := ⟨fun k hk => ⟨va_Z.moved hvm (h.1 k hk).1, xm_Tb.moved hvm (h.1 k hk).2⟩, va_AO.moved hvm h.2.1, va_AO.moved hvm h.2.2⟩
theorem xm_Sx.kept {tS : Nat → Nat} {A : Nat → Prop} {U : State} {H H1 : Heap} (h : xm_Sx tS A U H) (hq : ∀ a : Nat, a < H.size → ¬ A a → H1[a]? = H[a]?) : xm_Sx tS A U H1 := ⟨fun k hk => ⟨(h.1 k hk).1.kept hq, (h.1 k hk).2.kept hq⟩, h.2⟩
theorem xm_Sx.narrow {tS : Nat → Nat} {A B : Nat → Prop} {U : State} {H : Heap} (h : xm_Sx tS A U H) (hAB : ∀ q, B q → A q) : xm_Sx tS B U H := ⟨fun k hk => ⟨(h.1 k hk).1.narrow hAB, (h.1 k hk).2.narrow hAB⟩, h.2⟩
/-- a frame's context -/
def xm_Cx (p : Program) (s : State) (m : MethodId) (args : Array Value) (c : Code) (cc : ByteArray) (nL : Nat) (own : String) (Ts : List Cond) (cA : Nat → ClassId) (D : va_G) (A : Nat → Prop) (tS : Nat → Nat) : Prop :=
  p.tables.exec = Jvm.exec ∧ c.code = cc ∧ c.maxLocals = nL ∧ s.vm.findClass own = some m.cls ∧ (∀ w ∈ Ts, w.before args s = true) ∧ va_K D vwCl (xm_tys cA) s ∧ (∀ q : Nat, s.heap.size ≤ q → A q) ∧ xm_Sx tS A s s.heap
/-- the tables' addresses -/
def xm_St (ad : xm_A) (tS : Nat → Nat) : Prop := ∀ q : Nat × Nat, 21 ≤ q.1 → ad q = tS (q.1 - 21)
theorem xm_St.k {ad : xm_A} {tS : Nat → Nat} (h : xm_St ad tS) (k : Nat) : ad (21 + k, 0) = tS k := by
  rw [h (21 + k, 0) (Nat.le_add_right 21 k)]
  congr 1
  exact Nat.add_sub_cancel_left 21 k
/-- the machine's side of a state of the calculus -/
def xm_Sd (s : State) (cA : Nat → ClassId) (D : va_G) (A : Nat → Prop) (tS : Nat → Nat) (nL : Nat) (ad0 : xm_A) (o0 : List (Nat × Nat)) (ad : xm_A) (H : Heap) (locs : List Loc) (ls : Array Slot) (lv : xm_L) (st : List xm_V) (M : xm_M) : Prop :=
  va_P D vwCl (xm_ws cA ad M) H ∧ va_D A (xm_ws cA ad M) ∧ va_S A s.heap H locs ∧ lv_has ls nL (lv.map (fun q => (q.1, xm_rv ad q.2))) ∧ xm_Ok M lv st ∧ xm_St ad tS ∧ ∀ q ∈ o0, ad q = ad0 q ∧ q ∈ xm_o M
def xm_IsG (p : Program) (l : Launch) (e : Env) (R : Room) (s : State) (m : MethodId) (args : Array Value) (below : List Frame) (meth : Method) (c : Code) (Q : State → Prop) (cA : Nat → ClassId) (D : va_G) (A : Nat → Prop) (tS : Nat → Nat) (nL : Nat) (ad0 : xm_A) (o0 : List (Nat × Nat)) (G : Nat → xm_S → Prop) : Prop :=
  ∀ pc S, G pc S ↔ ∀ (ad : xm_A) (H : Heap) (locs : List Loc) (ls : Array Slot), xm_Sd s cA D A tS nL ad0 o0 ad H locs ls S.1 S.2.1 S.2.2.1 → W p l e R s m args below meth c H locs S.2.2.2.1 S.2.2.2.2 Q (F0 m pc ls (S.2.1.map (xm_rv ad)))
def xm_Snd (R : Room) (G : Nat → xm_S → Prop) (pc : Nat) (f : xm_F) : Prop := ∀ S pc1 S1, f S = some (pc1, S1) → (S.2.2.2.1 ≤ S1.2.2.2.1 ∧ S.2.2.2.2 ≤ S1.2.2.2.2) ∧ (S1.2.2.2.1 ≤ R.cells → S1.2.2.2.2 ≤ R.slots → G pc1 S1 → G pc S)
theorem xm_ld_mem {lv : xm_L} {i : Nat} {v : xm_V} (h : xm_ld lv i = some v) : (i, v) ∈ lv := by
  induction lv with
  | nil => cases h
  | cons q r ih =>
    unfold xm_ld at h
    split at h
    · rename_i h1
      cases h
      subst h1
      exact List.mem_cons_self
    · exact List.mem_cons_of_mem _ (ih h)
theorem xm_ld_at {ls : Array Slot} {nL : Nat} {ad : xm_A} {lv : xm_L} {i : Nat} {v : xm_V} (hl : lv_has ls nL (lv.map (fun q => (q.1, xm_rv ad q.2)))) (h : xm_ld lv i = some v) : ls[i]? = some (.val (xm_rv ad v)) :=
  hl.2.2 (i, xm_rv ad v) (List.mem_map.mpr ⟨(i, v), xm_ld_mem h, rfl⟩)
theorem xm_st1_map {ad : xm_A} {lv : xm_L} {i : Nat} {v : xm_V} : (i, xm_rv ad v) :: (lv.map (fun q => (q.1, xm_rv ad q.2))).filter (fun q => !(q.1 == i) && !(q.1 + 1 == i && q.2.category == 2)) = (xm_st1 lv i v).map (fun q => (q.1, xm_rv ad q.2)) := by
  unfold xm_st1
  rw [List.map_cons, List.filter_map]
  congr 2
  apply List.filter_congr
  intro q _
  simp only [Function.comp, xm_rv_cat]
theorem xm_st2_map {ad : xm_A} {lv : xm_L} {i : Nat} {v : xm_V} : (i, xm_rv ad v) :: (lv.map (fun q => (q.1, xm_rv ad q.2))).filter (fun q => !(q.1 == i) && (!(q.1 == i + 1) && !(q.1 + 1 == i && q.2.category == 2))) = (xm_st2 lv i v).map (fun q => (q.1, xm_rv ad q.2)) := by
  unfold xm_st2
  rw [List.map_cons, List.filter_map]
  congr 2
  apply List.filter_congr
  intro q _
  simp only [Function.comp, xm_rv_cat]
theorem xm_st1_ok {M : xm_M} {lv : xm_L} {i : Nat} {v : xm_V} (h : ∀ x ∈ lv, xm_vok M x.2) (hv : xm_vok M v) : ∀ x ∈ xm_st1 lv i v, xm_vok M x.2 := by
  intro x hx
  rcases List.mem_cons.mp hx with rfl | hx
  · exact hv
  · exact h x (List.mem_filter.mp hx).1
theorem xm_st2_ok {M : xm_M} {lv : xm_L} {i : Nat} {v : xm_V} (h : ∀ x ∈ lv, xm_vok M x.2) (hv : xm_vok M v) : ∀ x ∈ xm_st2 lv i v, xm_vok M x.2 := by
  intro x hx
  rcases List.mem_cons.mp hx with rfl | hx
  · exact hv
  · exact h x (List.mem_filter.mp hx).1
section XG
variable {p : Program} {l : Launch} {e : Env} {R : Room} {s : State} {m : MethodId} {args : Array Value} {below : List Frame} {meth : Method} {c : Code} {Q : State → Prop}
variable {cc : ByteArray} {nL : Nat} {own : String} {Ts : List Cond} {cA : Nat → ClassId} {D : va_G} {A : Nat → Prop} {tS : Nat → Nat} {ad0 : xm_A} {o0 : List (Nat × Nat)} {G : Nat → xm_S → Prop}
/-- a step on the stack alone -/
theorem sn_lift (hG : xm_IsG p l e R s m args below meth c Q cA D A tS nL ad0 o0 G) {pc n : Nat} {g : List xm_V → Option (List xm_V)} (hv : ∀ (M : xm_M) st st1, g st = some st1 → (∀ v ∈ st, xm_vok M v) → ∀ v ∈ st1, xm_vok M v)
    (row : ∀ st st1, g st = some st1 → ∀ (ad : xm_A) (H : Heap) (locs : List Loc) (cells slots : Nat) (ls : Array Slot), ls.size = nL → cells ≤ R.cells → slots ≤ R.slots → W p l e R s m args below meth c H locs cells slots Q (F0 m n ls (st1.map (xm_rv ad))) → W p l e R s m args below meth c H locs cells slots Q (F0 m pc ls (st.map (xm_rv ad)))) : xm_Snd R G pc (xs_lift n g) := by
  intro S pc1 S1 h
  unfold xs_lift at h
  split at h
  · rename_i st1 h1
    cases h
    refine ⟨⟨Nat.le_refl _, Nat.le_refl _⟩, fun h2 h3 k => (hG _ _).mpr fun ad H locs ls hA => ?_⟩
    obtain ⟨q1, q2, q3, q4, q5, q6, q7⟩ := hA
    exact row _ _ h1 ad H locs _ _ ls q4.1 h2 h3 ((hG _ _).mp k ad H locs ls ⟨q1, q2, q3, q4, ⟨q5.1, hv _ _ _ h1 q5.2.1, q5.2.2⟩, q6, q7⟩)
  · cases h
theorem xg_bin_inv {op : Int32 → Int32 → Int32} {st st1 : List xm_V} (h : xg_bin op st = some st1) : ∃ x y r, st = .inl y :: .inl x :: r ∧ st1 = .inl (op x y) :: r := by
  unfold xg_bin at h
  split at h
  · cases h; exact ⟨_, _, _, rfl, rfl⟩
  · cases h
theorem sn_push (hG : xm_IsG p l e R s m args below meth c Q cA D A tS nL ad0 o0 G) {pc n : Nat} {v : xm_V} (hv : ∀ M, xm_vok M v)
    (row : ∀ (ad : xm_A) (H : Heap) (locs : List Loc) (cells slots : Nat) (ls : Array Slot) (rest : List Value), W p l e R s m args below meth c H locs cells slots Q (F0 m n ls (xm_rv ad v :: rest)) → W p l e R s m args below meth c H locs cells slots Q (F0 m pc ls rest)) : xm_Snd R G pc (xs_lift n (xg_push v)) := by
  refine sn_lift hG (fun M st st1 h h1 w hw => ?_) (fun st st1 h ad H locs cells slots ls _ _ _ k => ?_)
  · cases h
    rcases List.mem_cons.mp hw with rfl | hw
    · exact hv M
    · exact h1 w hw
  · cases h
    exact row ad H locs cells slots ls _ k
theorem sn_bin (hG : xm_IsG p l e R s m args below meth c Q cA D A tS nL ad0 o0 G) {pc n : Nat} {op : Int32 → Int32 → Int32}
    (row : ∀ (H : Heap) (locs : List Loc) (cells slots : Nat) (ls : Array Slot) (rest : List Value) (x y : Int32), W p l e R s m args below meth c H locs cells slots Q (F0 m n ls (.int (op x y) :: rest)) → W p l e R s m args below meth c H locs cells slots Q (F0 m pc ls (.int y :: .int x :: rest))) : xm_Snd R G pc (xs_lift n (xg_bin op)) := by
  refine sn_lift hG (fun M st st1 h h1 w hw => ?_) (fun st st1 h ad H locs cells slots ls _ _ _ k => ?_) <;> obtain ⟨x, y, r, rfl, rfl⟩ := xg_bin_inv h
  · rcases List.mem_cons.mp hw with rfl | hw
    · trivial
    · exact h1 w (List.mem_cons_of_mem _ (List.mem_cons_of_mem _ hw))
  · exact row H locs cells slots ls _ x y k
theorem sn_binL (hG : xm_IsG p l e R s m args below meth c Q cA D A tS nL ad0 o0 G) {pc n : Nat} {op : Int64 → Int64 → Int64}
    (row : ∀ (H : Heap) (locs : List Loc) (cells slots : Nat) (ls : Array Slot) (rest : List Value) (x y : Int64), W p l e R s m args below meth c H locs cells slots Q (F0 m n ls (.long (op x y) :: rest)) → W p l e R s m args below meth c H locs cells slots Q (F0 m pc ls (.long y :: .long x :: rest))) : xm_Snd R G pc (xs_lift n (xg_binL op)) := by
  have inv : ∀ {st st1 : List xm_V}, xg_binL op st = some st1 → ∃ x y r, st = .inr (.inl y) :: .inr (.inl x) :: r ∧ st1 = .inr (.inl (op x y)) :: r := by
    intro st st1 h
    unfold xg_binL at h
    split at h
    · cases h; exact ⟨_, _, _, rfl, rfl⟩
    · cases h
  refine sn_lift hG (fun M st st1 h h1 w hw => ?_) (fun st st1 h ad H locs cells slots ls _ _ _ k => ?_) <;> obtain ⟨x, y, r, rfl, rfl⟩ := inv h
  · rcases List.mem_cons.mp hw with rfl | hw
    · trivial
    · exact h1 w (List.mem_cons_of_mem _ (List.mem_cons_of_mem _ hw))
  · exact row H locs cells slots ls _ x y k
theorem sn_div (hG : xm_IsG p l e R s m args below meth c Q cA D A tS nL ad0 o0 G) {pc n : Nat}
    (row : ∀ (H : Heap) (locs : List Loc) (cells slots : Nat) (ls : Array Slot) (rest : List Value) (x y : Int32), ¬ y = 0 → W p l e R s m args below meth c H locs cells slots Q (F0 m n ls (.int (x / y) :: rest)) → W p l e R s m args below meth c H locs cells slots Q (F0 m pc ls (.int y :: .int x :: rest))) : xm_Snd R G pc (xs_lift n xg_div) := by
  have inv : ∀ {st st1 : List xm_V}, xg_div st = some st1 → ∃ x y r, ¬ y = 0 ∧ st = .inl y :: .inl x :: r ∧ st1 = .inl (x / y) :: r := by
    intro st st1 h
    unfold xg_div at h
    split at h
    · split at h
      · cases h
      · rename_i h0; cases h; exact ⟨_, _, _, h0, rfl, rfl⟩
    · cases h
  refine sn_lift hG (fun M st st1 h h1 w hw => ?_) (fun st st1 h ad H locs cells slots ls _ _ _ k => ?_) <;> obtain ⟨x, y, r, h0, rfl, rfl⟩ := inv h
  · rcases List.mem_cons.mp hw with rfl | hw
    · trivial
    · exact h1 w (List.mem_cons_of_mem _ (List.mem_cons_of_mem _ hw))
  · exact row H locs cells slots ls _ x y h0 k
theorem sn_divL (hG : xm_IsG p l e R s m args below meth c Q cA D A tS nL ad0 o0 G) {pc n : Nat}
    (row : ∀ (H : Heap) (locs : List Loc) (cells slots : Nat) (ls : Array Slot) (rest : List Value) (x y : Int64), ¬ y = 0 → W p l e R s m args below meth c H locs cells slots Q (F0 m n ls (.long (x / y) :: rest)) → W p l e R s m args below meth c H locs cells slots Q (F0 m pc ls (.long y :: .long x :: rest))) : xm_Snd R G pc (xs_lift n xg_divL) := by
  have inv : ∀ {st st1 : List xm_V}, xg_divL st = some st1 → ∃ x y r, ¬ y = 0 ∧ st = .inr (.inl y) :: .inr (.inl x) :: r ∧ st1 = .inr (.inl (x / y)) :: r := by
    intro st st1 h
    unfold xg_divL at h
    split at h
    · split at h
      · cases h
      · rename_i h0; cases h; exact ⟨_, _, _, h0, rfl, rfl⟩
    · cases h
  refine sn_lift hG (fun M st st1 h h1 w hw => ?_) (fun st st1 h ad H locs cells slots ls _ _ _ k => ?_) <;> obtain ⟨x, y, r, h0, rfl, rfl⟩ := inv h
  · rcases List.mem_cons.mp hw with rfl | hw
    · trivial
    · exact h1 w (List.mem_cons_of_mem _ (List.mem_cons_of_mem _ hw))
  · exact row H locs cells slots ls _ x y h0 k
/-- a step that takes one value and gives one -/
theorem sn_one (hG : xm_IsG p l e R s m args below meth c Q cA D A tS nL ad0 o0 G) {pc n : Nat} {T : Type} {a b : T → xm_V} {g : List xm_V → Option (List xm_V)} (inv : ∀ {st st1 : List xm_V}, g st = some st1 → ∃ x r, st = a x :: r ∧ st1 = b x :: r) (hb : ∀ x M, xm_vok M (b x))
    (row : ∀ (ad : xm_A) (H : Heap) (locs : List Loc) (cells slots : Nat) (ls : Array Slot) (rest : List Value) (x : T), W p l e R s m args below meth c H locs cells slots Q (F0 m n ls (xm_rv ad (b x) :: rest)) → W p l e R s m args below meth c H locs cells slots Q (F0 m pc ls (xm_rv ad (a x) :: rest))) : xm_Snd R G pc (xs_lift n g) := by
  refine sn_lift hG (fun M st st1 h h1 w hw => ?_) (fun st st1 h ad H locs cells slots ls _ _ _ k => ?_) <;> obtain ⟨x, r, rfl, rfl⟩ := inv h
  · rcases List.mem_cons.mp hw with rfl | hw
    · exact hb x M
    · exact h1 w (List.mem_cons_of_mem _ hw)
  · exact row ad H locs cells slots ls _ x k
theorem xg_un_inv {op : Int32 → Int32} {st st1 : List xm_V} (h : xg_un op st = some st1) : ∃ (x : Int32) (r : List xm_V), st = .inl x :: r ∧ st1 = .inl (op x) :: r := by
  unfold xg_un at h
  split at h
  · cases h; exact ⟨_, _, rfl, rfl⟩
  · cases h
theorem xg_unL_inv {op : Int64 → Int64} {st st1 : List xm_V} (h : xg_unL op st = some st1) : ∃ (x : Int64) (r : List xm_V), st = .inr (.inl x) :: r ∧ st1 = .inr (.inl (op x)) :: r := by
  unfold xg_unL at h
  split at h
  · cases h; exact ⟨_, _, rfl, rfl⟩
  · cases h
theorem xg_i2l_inv {st st1 : List xm_V} (h : xg_i2l st = some st1) : ∃ (x : Int32) (r : List xm_V), st = .inl x :: r ∧ st1 = .inr (.inl x.toInt64) :: r := by
  unfold xg_i2l at h
  split at h
  · cases h; exact ⟨_, _, rfl, rfl⟩
  · cases h
theorem xg_l2i_inv {st st1 : List xm_V} (h : xg_l2i st = some st1) : ∃ (x : Int64) (r : List xm_V), st = .inr (.inl x) :: r ∧ st1 = .inl x.toInt32 :: r := by
  unfold xg_l2i at h
  split at h
  · cases h; exact ⟨_, _, rfl, rfl⟩
  · cases h
theorem sn_lcmp (hG : xm_IsG p l e R s m args below meth c Q cA D A tS nL ad0 o0 G) {pc n : Nat}
    (row : ∀ (H : Heap) (locs : List Loc) (cells slots : Nat) (ls : Array Slot) (rest : List Value) (x y : Int64), W p l e R s m args below meth c H locs cells slots Q (F0 m n ls (.int (lg_cmp x y) :: rest)) → W p l e R s m args below meth c H locs cells slots Q (F0 m pc ls (.long y :: .long x :: rest))) : xm_Snd R G pc (xs_lift n xg_lcmp) := by
  have inv : ∀ {st st1 : List xm_V}, xg_lcmp st = some st1 → ∃ x y r, st = .inr (.inl y) :: .inr (.inl x) :: r ∧ st1 = .inl (lg_cmp x y) :: r := by
    intro st st1 h
    unfold xg_lcmp at h
    split at h
    · cases h; exact ⟨_, _, _, rfl, rfl⟩
    · cases h
  refine sn_lift hG (fun M st st1 h h1 w hw => ?_) (fun st st1 h ad H locs cells slots ls _ _ _ k => ?_) <;> obtain ⟨x, y, r, rfl, rfl⟩ := inv h
  · rcases List.mem_cons.mp hw with rfl | hw
    · trivial
    · exact h1 w (List.mem_cons_of_mem _ (List.mem_cons_of_mem _ hw))
  · exact row H locs cells slots ls _ x y k
theorem sn_dup (hG : xm_IsG p l e R s m args below meth c Q cA D A tS nL ad0 o0 G) {pc n : Nat}
    (row : ∀ (H : Heap) (locs : List Loc) (cells slots : Nat) (ls : Array Slot) (rest : List Value) (v : Value), v.category = 1 → W p l e R s m args below meth c H locs cells slots Q (F0 m n ls (v :: v :: rest)) → W p l e R s m args below meth c H locs cells slots Q (F0 m pc ls (v :: rest))) : xm_Snd R G pc (xs_lift n xg_dup) := by
  have inv : ∀ {st st1 : List xm_V}, xg_dup st = some st1 → ∃ v r, xm_cat v = 1 ∧ st = v :: r ∧ st1 = v :: v :: r := by
    intro st st1 h
    unfold xg_dup at h
    split at h
    · split at h
      · rename_i h0; cases h; exact ⟨_, _, h0, rfl, rfl⟩
      · cases h
    · cases h
  refine sn_lift hG (fun M st st1 h h1 w hw => ?_) (fun st st1 h ad H locs cells slots ls _ _ _ k => ?_) <;> obtain ⟨v, r, h0, rfl, rfl⟩ := inv h
  · rcases List.mem_cons.mp hw with rfl | hw
    · exact h1 _ List.mem_cons_self
    · exact h1 w hw
  · exact row H locs cells slots ls _ _ (by rw [xm_rv_cat]; exact h0) k
theorem sn_dup2 (hG : xm_IsG p l e R s m args below meth c Q cA D A tS nL ad0 o0 G) {pc n : Nat}
    (row : ∀ (H : Heap) (locs : List Loc) (cells slots : Nat) (ls : Array Slot) (rest : List Value) (v w : Value), v.category = 1 → w.category = 1 → W p l e R s m args below meth c H locs cells slots Q (F0 m n ls (v :: w :: v :: w :: rest)) → W p l e R s m args below meth c H locs cells slots Q (F0 m pc ls (v :: w :: rest))) : xm_Snd R G pc (xs_lift n xg_dup2) := by
  have inv : ∀ {st st1 : List xm_V}, xg_dup2 st = some st1 → ∃ v w r, (xm_cat v = 1 ∧ xm_cat w = 1) ∧ st = v :: w :: r ∧ st1 = v :: w :: v :: w :: r := by
    intro st st1 h
    unfold xg_dup2 at h
    split at h
    · split at h
      · rename_i h0; cases h; exact ⟨_, _, _, h0, rfl, rfl⟩
      · cases h
    · cases h
  refine sn_lift hG (fun M st st1 h h1 w hw => ?_) (fun st st1 h ad H locs cells slots ls _ _ _ k => ?_) <;> obtain ⟨v, z, r, h0, rfl, rfl⟩ := inv h
  · rcases List.mem_cons.mp hw with rfl | hw
    · exact h1 _ List.mem_cons_self
    · rcases List.mem_cons.mp hw with rfl | hw
      · exact h1 _ (List.mem_cons_of_mem _ List.mem_cons_self)
      · exact h1 w hw
  · exact row H locs cells slots ls _ _ _ (by rw [xm_rv_cat]; exact h0.1) (by rw [xm_rv_cat]; exact h0.2) k
theorem xm_cat_sum {ad : xm_A} {r : List xm_V} : ((r.map (xm_rv ad)).map (fun v => v.category)).sum = (r.map xm_cat).sum := by
  rw [List.map_map]
  congr 2
  funext v
  exact xm_rv_cat ad v
theorem sn_mbin (hG : xm_IsG p l e R s m args below meth c Q cA D A tS nL ad0 o0 G) {pc n : Nat} {op : Int32 → Int32 → Int32}
    (row : ∀ (H : Heap) (locs : List Loc) (cells slots : Nat) (ls : Array Slot) (rest : List Value) (x y : Int32), ls.size = nL → cells ≤ R.cells → slots ≤ R.slots → (rest.map fun v => v.category).sum ≤ 8 → W p l e R s m args below meth c H locs cells slots Q (F0 m n ls (.int (op x y) :: rest)) → W p l e R s m args below meth c H locs cells slots Q (F0 m pc ls (.int y :: .int x :: rest))) : xm_Snd R G pc (xs_lift n (xg_mbin op)) := by
  have inv : ∀ {st st1 : List xm_V}, xg_mbin op st = some st1 → ∃ x y r, (r.map xm_cat).sum ≤ 8 ∧ st = .inl y :: .inl x :: r ∧ st1 = .inl (op x y) :: r := by
    intro st st1 h
    unfold xg_mbin at h
    split at h
    · split at h
      · rename_i h0; cases h; exact ⟨_, _, _, h0, rfl, rfl⟩
      · cases h
    · cases h
  refine sn_lift hG (fun M st st1 h h1 w hw => ?_) (fun st st1 h ad H locs cells slots ls a1 a2 a3 k => ?_) <;> obtain ⟨x, y, r, h0, rfl, rfl⟩ := inv h
  · rcases List.mem_cons.mp hw with rfl | hw
    · trivial
    · exact h1 w (List.mem_cons_of_mem _ (List.mem_cons_of_mem _ hw))
  · exact row H locs cells slots ls _ x y a1 a2 a3 (by rw [xm_cat_sum]; exact h0) k
theorem sn_mun (hG : xm_IsG p l e R s m args below meth c Q cA D A tS nL ad0 o0 G) {pc n : Nat} {op : Int32 → Int32}
    (row : ∀ (H : Heap) (locs : List Loc) (cells slots : Nat) (ls : Array Slot) (rest : List Value) (x : Int32), ls.size = nL → cells ≤ R.cells → slots ≤ R.slots → (rest.map fun v => v.category).sum ≤ 8 → W p l e R s m args below meth c H locs cells slots Q (F0 m n ls (.int (op x) :: rest)) → W p l e R s m args below meth c H locs cells slots Q (F0 m pc ls (.int x :: rest))) : xm_Snd R G pc (xs_lift n (xg_mun op)) := by
  have inv : ∀ {st st1 : List xm_V}, xg_mun op st = some st1 → ∃ x r, (r.map xm_cat).sum ≤ 8 ∧ st = .inl x :: r ∧ st1 = .inl (op x) :: r := by
    intro st st1 h
    unfold xg_mun at h
    split at h
    · split at h
      · rename_i h0; cases h; exact ⟨_, _, h0, rfl, rfl⟩
      · cases h
    · cases h
  refine sn_lift hG (fun M st st1 h h1 w hw => ?_) (fun st st1 h ad H locs cells slots ls a1 a2 a3 k => ?_) <;> obtain ⟨x, r, h0, rfl, rfl⟩ := inv h
  · rcases List.mem_cons.mp hw with rfl | hw
    · trivial
    · exact h1 w (List.mem_cons_of_mem _ hw)
  · exact row H locs cells slots ls _ x a1 a2 a3 (by rw [xm_cat_sum]; exact h0) k
theorem sn_mbinL (hG : xm_IsG p l e R s m args below meth c Q cA D A tS nL ad0 o0 G) {pc n : Nat} {op : Int64 → Int64 → Int64}
    (row : ∀ (H : Heap) (locs : List Loc) (cells slots : Nat) (ls : Array Slot) (rest : List Value) (x y : Int64), ls.size = nL → cells ≤ R.cells → slots ≤ R.slots → (rest.map fun v => v.category).sum ≤ 8 → W p l e R s m args below meth c H locs cells slots Q (F0 m n ls (.long (op x y) :: rest)) → W p l e R s m args below meth c H locs cells slots Q (F0 m pc ls (.long y :: .long x :: rest))) : xm_Snd R G pc (xs_lift n (xg_mbinL op)) := by
  have inv : ∀ {st st1 : List xm_V}, xg_mbinL op st = some st1 → ∃ x y r, (r.map xm_cat).sum ≤ 8 ∧ st = .inr (.inl y) :: .inr (.inl x) :: r ∧ st1 = .inr (.inl (op x y)) :: r := by
    intro st st1 h
    unfold xg_mbinL at h
    split at h
    · split at h
      · rename_i h0; cases h; exact ⟨_, _, _, h0, rfl, rfl⟩
      · cases h
    · cases h
  refine sn_lift hG (fun M st st1 h h1 w hw => ?_) (fun st st1 h ad H locs cells slots ls a1 a2 a3 k => ?_) <;> obtain ⟨x, y, r, h0, rfl, rfl⟩ := inv h
  · rcases List.mem_cons.mp hw with rfl | hw
    · trivial
    · exact h1 w (List.mem_cons_of_mem _ (List.mem_cons_of_mem _ hw))
  · exact row H locs cells slots ls _ x y a1 a2 a3 (by rw [xm_cat_sum]; exact h0) k
theorem sn_obj (hG : xm_IsG p l e R s m args below meth c Q cA D A tS nL ad0 o0 G) {pc n : Nat}
    (row : ∀ (H : Heap) (locs : List Loc) (cells slots : Nat) (ls : Array Slot) (rest : List Value) (a : Nat), ls.size = nL → (rest.map fun v => v.category).sum ≤ 8 → W p l e R s m args below meth c H locs cells slots Q (F0 m n ls rest) → W p l e R s m args below meth c H locs cells slots Q (F0 m pc ls (.ref a :: rest))) : xm_Snd R G pc (xs_lift n xg_obj) := by
  have inv : ∀ {st st1 : List xm_V}, xg_obj st = some st1 → ∃ q, (st1.map xm_cat).sum ≤ 8 ∧ st = .inr (.inr (some q)) :: st1 := by
    intro st st1 h
    unfold xg_obj at h
    split at h
    · split at h
      · rename_i h0; cases h; exact ⟨_, h0, rfl⟩
      · cases h
    · cases h
  refine sn_lift hG (fun M st st1 h h1 w hw => ?_) (fun st st1 h ad H locs cells slots ls a1 _ _ k => ?_) <;> obtain ⟨q, h0, rfl⟩ := inv h
  · exact h1 w (List.mem_cons_of_mem _ hw)
  · exact row H locs cells slots ls _ (ad q) a1 (by rw [xm_cat_sum]; exact h0) k
end XG
end
section
/-! THE MACHINE KEEPS THE STEPS (2): locals, branches, fields -/
section XG2
variable {p : Program} {l : Launch} {e : Env} {R : Room} {s : State} {m : MethodId} {args : Array Value} {below : List Frame} {meth : Method} {c : Code} {Q : State → Prop}
variable {cc : ByteArray} {nL : Nat} {own : String} {Ts : List Cond} {cA : Nat → ClassId} {D : va_G} {A : Nat → Prop} {tS : Nat → Nat} {ad0 : xm_A} {o0 : List (Nat × Nat)} {G : Nat → xm_S → Prop}
/-- a load: what the local holds comes onto the stack -/
theorem sn_ld (hG : xm_IsG p l e R s m args below meth c Q cA D A tS nL ad0 o0 G) {pc n i : Nat} {f : xm_F} (inv : ∀ {S pc1 S1}, f S = some (pc1, S1) → ∃ v, xm_ld S.1 i = some v ∧ pc1 = n ∧ S1 = (S.1, v :: S.2.1, S.2.2) ∧
      ∀ (ad : xm_A) (H : Heap) (locs : List Loc) (cells slots : Nat) (ls : Array Slot) (rest : List Value), ls[i]? = some (.val (xm_rv ad v)) → W p l e R s m args below meth c H locs cells slots Q (F0 m n ls (xm_rv ad v :: rest)) → W p l e R s m args below meth c H locs cells slots Q (F0 m pc ls rest)) : xm_Snd R G pc f := by
  intro S pc1 S1 h
  obtain ⟨v, h1, rfl, rfl, row⟩ := inv h
  refine ⟨⟨Nat.le_refl _, Nat.le_refl _⟩, fun _ _ k => (hG _ _).mpr fun ad H locs ls hA => ?_⟩
  obtain ⟨q1, q2, q3, q4, q5, q6, q7⟩ := hA
  refine row ad H locs _ _ ls _ (xm_ld_at q4 h1) ((hG _ _).mp k ad H locs ls ⟨q1, q2, q3, q4, ⟨q5.1, fun w hw => ?_, q5.2.2⟩, q6, q7⟩)
  rcases List.mem_cons.mp hw with rfl | hw
  · exact q5.1 _ (xm_ld_mem h1)
  · exact q5.2.1 w hw
theorem sn_ldI (hG : xm_IsG p l e R s m args below meth c Q cA D A tS nL ad0 o0 G) {pc n i : Nat}
    (row : ∀ (H : Heap) (locs : List Loc) (cells slots : Nat) (ls : Array Slot) (rest : List Value) (x : Int32), ls[i]? = some (.val (.int x)) → W p l e R s m args below meth c H locs cells slots Q (F0 m n ls (.int x :: rest)) → W p l e R s m args below meth c H locs cells slots Q (F0 m pc ls rest)) : xm_Snd R G pc (xs_ldI n i) := by
  refine sn_ld hG (n := n) (i := i) fun {S pc1 S1} h => ?_
  unfold xs_ldI at h
  split at h
  · rename_i x h1; cases h; exact ⟨_, h1, rfl, rfl, fun ad H locs cells slots ls rest h2 k => row H locs cells slots ls rest x h2 k⟩
  · cases h
theorem sn_ldL (hG : xm_IsG p l e R s m args below meth c Q cA D A tS nL ad0 o0 G) {pc n i : Nat}
    (row : ∀ (H : Heap) (locs : List Loc) (cells slots : Nat) (ls : Array Slot) (rest : List Value) (x : Int64), ls[i]? = some (.val (.long x)) → W p l e R s m args below meth c H locs cells slots Q (F0 m n ls (.long x :: rest)) → W p l e R s m args below meth c H locs cells slots Q (F0 m pc ls rest)) : xm_Snd R G pc (xs_ldL n i) := by
  refine sn_ld hG (n := n) (i := i) fun {S pc1 S1} h => ?_
  unfold xs_ldL at h
  split at h
  · rename_i x h1; cases h; exact ⟨_, h1, rfl, rfl, fun ad H locs cells slots ls rest h2 k => row H locs cells slots ls rest x h2 k⟩
  · cases h
theorem sn_ldR (hG : xm_IsG p l e R s m args below meth c Q cA D A tS nL ad0 o0 G) {pc n i : Nat}
    (row : ∀ (H : Heap) (locs : List Loc) (cells slots : Nat) (ls : Array Slot) (rest : List Value) (x : Nat), ls[i]? = some (.val (.ref x)) → W p l e R s m args below meth c H locs cells slots Q (F0 m n ls (.ref x :: rest)) → W p l e R s m args below meth c H locs cells slots Q (F0 m pc ls rest)) : xm_Snd R G pc (xs_ldR n i) := by
  refine sn_ld hG (n := n) (i := i) fun {S pc1 S1} h => ?_
  unfold xs_ldR at h
  split at h
  · rename_i q h1; cases h; exact ⟨_, h1, rfl, rfl, fun ad H locs cells slots ls rest h2 k => row H locs cells slots ls rest (ad q) h2 k⟩
  · cases h
theorem sn_stI (hG : xm_IsG p l e R s m args below meth c Q cA D A tS nL ad0 o0 G) {pc n i : Nat}
    (row : ∀ (H : Heap) (locs : List Loc) (cells slots : Nat) (ls : Array Slot) (rest : List Value) (x : Int32) (lv lv' : List (Nat × Value)), lv_has ls nL lv → (i, Value.int x) :: lv.filter (fun q => !(q.1 == i) && !(q.1 + 1 == i && q.2.category == 2)) = lv' → (∀ ls' : Array Slot, lv_has ls' nL lv' → W p l e R s m args below meth c H locs cells slots Q (F0 m n ls' rest)) → W p l e R s m args below meth c H locs cells slots Q (F0 m pc ls (.int x :: rest))) : xm_Snd R G pc (xs_stI n i) := by
  intro S pc1 S1 h
  obtain ⟨lv, st, M, kc, ks⟩ := S
  unfold xs_stI at h
  dsimp only at h
  split at h
  · rename_i x r
    cases h
    refine ⟨⟨Nat.le_refl _, Nat.le_refl _⟩, fun _ _ k => (hG _ _).mpr fun ad H locs ls hA => ?_⟩
    obtain ⟨q1, q2, q3, q4, q5, q6, q7⟩ := hA
    refine row H locs _ _ ls _ x _ _ q4 (xm_st1_map (v := .inl x)) fun ls' hl' => (hG _ _).mp k ad H locs ls' ⟨q1, q2, q3, hl', ⟨xm_st1_ok q5.1 trivial, fun w hw => q5.2.1 w (List.mem_cons_of_mem _ hw), q5.2.2⟩, q6, q7⟩
  · cases h
theorem sn_stL (hG : xm_IsG p l e R s m args below meth c Q cA D A tS nL ad0 o0 G) {pc n i : Nat}
    (row : ∀ (H : Heap) (locs : List Loc) (cells slots : Nat) (ls : Array Slot) (rest : List Value) (x : Int64) (lv lv' : List (Nat × Value)), lv_has ls nL lv → (i, Value.long x) :: lv.filter (fun q => !(q.1 == i) && (!(q.1 == i + 1) && !(q.1 + 1 == i && q.2.category == 2))) = lv' → (∀ ls' : Array Slot, lv_has ls' nL lv' → W p l e R s m args below meth c H locs cells slots Q (F0 m n ls' rest)) → W p l e R s m args below meth c H locs cells slots Q (F0 m pc ls (.long x :: rest))) : xm_Snd R G pc (xs_stL n i) := by
  intro S pc1 S1 h
  obtain ⟨lv, st, M, kc, ks⟩ := S
  unfold xs_stL at h
  dsimp only at h
  split at h
  · rename_i x r
    cases h
    refine ⟨⟨Nat.le_refl _, Nat.le_refl _⟩, fun _ _ k => (hG _ _).mpr fun ad H locs ls hA => ?_⟩
    obtain ⟨q1, q2, q3, q4, q5, q6, q7⟩ := hA
    refine row H locs _ _ ls _ x _ _ q4 (xm_st2_map (v := .inr (.inl x))) fun ls' hl' => (hG _ _).mp k ad H locs ls' ⟨q1, q2, q3, hl', ⟨xm_st2_ok q5.1 trivial, fun w hw => q5.2.1 w (List.mem_cons_of_mem _ hw), q5.2.2⟩, q6, q7⟩
  · cases h
theorem sn_stR (hG : xm_IsG p l e R s m args below meth c Q cA D A tS nL ad0 o0 G) {pc n i : Nat}
    (row : ∀ (H : Heap) (locs : List Loc) (cells slots : Nat) (ls : Array Slot) (rest : List Value) (x : Nat) (lv lv' : List (Nat × Value)), lv_has ls nL lv → (i, Value.ref x) :: lv.filter (fun q => !(q.1 == i) && !(q.1 + 1 == i && q.2.category == 2)) = lv' → (∀ ls' : Array Slot, lv_has ls' nL lv' → W p l e R s m args below meth c H locs cells slots Q (F0 m n ls' rest)) → W p l e R s m args below meth c H locs cells slots Q (F0 m pc ls (.ref x :: rest))) : xm_Snd R G pc (xs_stR n i) := by
  intro S pc1 S1 h
  obtain ⟨lv, st, M, kc, ks⟩ := S
  unfold xs_stR at h
  dsimp only at h
  split at h
  · rename_i q r
    cases h
    refine ⟨⟨Nat.le_refl _, Nat.le_refl _⟩, fun _ _ k => (hG _ _).mpr fun ad H locs ls hA => ?_⟩
    obtain ⟨q1, q2, q3, q4, q5, q6, q7⟩ := hA
    refine row H locs _ _ ls _ (ad q) _ _ q4 (xm_st1_map (v := .inr (.inr (some q)))) fun ls' hl' => (hG _ _).mp k ad H locs ls' ⟨q1, q2, q3, hl', ⟨xm_st1_ok q5.1 (q5.2.1 _ List.mem_cons_self), fun w hw => q5.2.1 w (List.mem_cons_of_mem _ hw), q5.2.2⟩, q6, q7⟩
  · cases h
theorem sn_inc (hG : xm_IsG p l e R s m args below meth c Q cA D A tS nL ad0 o0 G) {pc n i : Nat} {d : Int32}
    (row : ∀ (H : Heap) (locs : List Loc) (cells slots : Nat) (ls : Array Slot) (rest : List Value) (x : Int32) (lv lv' : List (Nat × Value)) (k : Nat), lv_has ls nL lv → lv[k]? = some (i, .int x) → (i, Value.int (x + d)) :: lv.filter (fun q => !(q.1 == i) && !(q.1 + 1 == i && q.2.category == 2)) = lv' → (∀ ls' : Array Slot, lv_has ls' nL lv' → W p l e R s m args below meth c H locs cells slots Q (F0 m n ls' rest)) → W p l e R s m args below meth c H locs cells slots Q (F0 m pc ls rest)) : xm_Snd R G pc (xs_inc n i d) := by
  intro S pc1 S1 h
  obtain ⟨lv, st, M, kc, ks⟩ := S
  unfold xs_inc at h
  dsimp only at h
  split at h
  · rename_i x h1
    cases h
    refine ⟨⟨Nat.le_refl _, Nat.le_refl _⟩, fun _ _ k => (hG _ _).mpr fun ad H locs ls hA => ?_⟩
    obtain ⟨q1, q2, q3, q4, q5, q6, q7⟩ := hA
    obtain ⟨j, hj⟩ := List.getElem?_of_mem (List.mem_map.mpr ⟨(i, .inl x), xm_ld_mem h1, rfl⟩ : (i, Value.int x) ∈ lv.map (fun q => (q.1, xm_rv ad q.2)))
    refine row H locs _ _ ls _ x _ _ j q4 hj (xm_st1_map (v := .inl (x + d))) fun ls' hl' => (hG _ _).mp k ad H locs ls' ⟨q1, q2, q3, hl', ⟨xm_st1_ok q5.1 trivial, q5.2.1, q5.2.2⟩, q6, q7⟩
  · cases h
theorem sn_goto (hG : xm_IsG p l e R s m args below meth c Q cA D A tS nL ad0 o0 G) {pc t : Nat}
    (row : ∀ (H : Heap) (locs : List Loc) (cells slots : Nat) (ls : Array Slot) (rest : List Value), W p l e R s m args below meth c H locs cells slots Q (F0 m t ls rest) → W p l e R s m args below meth c H locs cells slots Q (F0 m pc ls rest)) : xm_Snd R G pc (xs_goto t) := by
  intro S pc1 S1 h
  cases h
  exact ⟨⟨Nat.le_refl _, Nat.le_refl _⟩, fun _ _ k => (hG _ _).mpr fun ad H locs ls hA => row H locs _ _ ls _ ((hG _ _).mp k ad H locs ls hA)⟩
theorem sn_if (hG : xm_IsG p l e R s m args below meth c Q cA D A tS nL ad0 o0 G) {pc n t : Nat} {P : Int32 → Prop} {dp : ∀ x, Decidable (P x)}
    (row : ∀ (H : Heap) (locs : List Loc) (cells slots : Nat) (ls : Array Slot) (rest : List Value) (x : Int32), (P x → W p l e R s m args below meth c H locs cells slots Q (F0 m t ls rest)) → (¬ P x → W p l e R s m args below meth c H locs cells slots Q (F0 m n ls rest)) → W p l e R s m args below meth c H locs cells slots Q (F0 m pc ls (.int x :: rest))) : xm_Snd R G pc (xs_if n t P dp) := by
  intro S pc1 S1 h
  obtain ⟨lv, st, M, kc, ks⟩ := S
  unfold xs_if at h
  dsimp only at h
  split at h
  · rename_i x r
    by_cases hP : P x
    · rw [if_pos hP] at h
      cases h
      refine ⟨⟨Nat.le_refl _, Nat.le_refl _⟩, fun _ _ k => (hG _ _).mpr fun ad H locs ls hA => ?_⟩
      obtain ⟨q1, q2, q3, q4, q5, q6, q7⟩ := hA
      exact row H locs _ _ ls _ x (fun _ => (hG _ _).mp k ad H locs ls ⟨q1, q2, q3, q4, ⟨q5.1, fun w hw => q5.2.1 w (List.mem_cons_of_mem _ hw), q5.2.2⟩, q6, q7⟩) (fun h9 => absurd hP h9)
    · rw [if_neg hP] at h
      cases h
      refine ⟨⟨Nat.le_refl _, Nat.le_refl _⟩, fun _ _ k => (hG _ _).mpr fun ad H locs ls hA => ?_⟩
      obtain ⟨q1, q2, q3, q4, q5, q6, q7⟩ := hA
      exact row H locs _ _ ls _ x (fun h9 => absurd h9 hP) (fun _ => (hG _ _).mp k ad H locs ls ⟨q1, q2, q3, q4, ⟨q5.1, fun w hw => q5.2.1 w (List.mem_cons_of_mem _ hw), q5.2.2⟩, q6, q7⟩)
  · cases h
theorem sn_icmp (hG : xm_IsG p l e R s m args below meth c Q cA D A tS nL ad0 o0 G) {pc n t : Nat} {P : Int32 → Int32 → Prop} {dp : ∀ x y, Decidable (P x y)}
    (row : ∀ (H : Heap) (locs : List Loc) (cells slots : Nat) (ls : Array Slot) (rest : List Value) (x y : Int32), (P x y → W p l e R s m args below meth c H locs cells slots Q (F0 m t ls rest)) → (¬ P x y → W p l e R s m args below meth c H locs cells slots Q (F0 m n ls rest)) → W p l e R s m args below meth c H locs cells slots Q (F0 m pc ls (.int y :: .int x :: rest))) : xm_Snd R G pc (xs_icmp n t P dp) := by
  intro S pc1 S1 h
  obtain ⟨lv, st, M, kc, ks⟩ := S
  unfold xs_icmp at h
  dsimp only at h
  split at h
  · rename_i y x r
    by_cases hP : P x y
    · rw [if_pos hP] at h
      cases h
      refine ⟨⟨Nat.le_refl _, Nat.le_refl _⟩, fun _ _ k => (hG _ _).mpr fun ad H locs ls hA => ?_⟩
      obtain ⟨q1, q2, q3, q4, q5, q6, q7⟩ := hA
      exact row H locs _ _ ls _ x y (fun _ => (hG _ _).mp k ad H locs ls ⟨q1, q2, q3, q4, ⟨q5.1, fun w hw => q5.2.1 w (List.mem_cons_of_mem _ (List.mem_cons_of_mem _ hw)), q5.2.2⟩, q6, q7⟩) (fun h9 => absurd hP h9)
    · rw [if_neg hP] at h
      cases h
      refine ⟨⟨Nat.le_refl _, Nat.le_refl _⟩, fun _ _ k => (hG _ _).mpr fun ad H locs ls hA => ?_⟩
      obtain ⟨q1, q2, q3, q4, q5, q6, q7⟩ := hA
      exact row H locs _ _ ls _ x y (fun h9 => absurd h9 hP) (fun _ => (hG _ _).mp k ad H locs ls ⟨q1, q2, q3, q4, ⟨q5.1, fun w hw => q5.2.1 w (List.mem_cons_of_mem _ (List.mem_cons_of_mem _ hw)), q5.2.2⟩, q6, q7⟩)
  · cases h
/-- two references: one or not, by their addresses (neither is a table) -/
theorem sn_acmp (hG : xm_IsG p l e R s m args below meth c Q cA D A tS nL ad0 o0 G) {pc n t : Nat}
    (row : ∀ (H : Heap) (locs : List Loc) (cells slots : Nat) (ls : Array Slot) (rest : List Value) (x y : Nat), (x = y → W p l e R s m args below meth c H locs cells slots Q (F0 m t ls rest)) → (¬ x = y → W p l e R s m args below meth c H locs cells slots Q (F0 m n ls rest)) → W p l e R s m args below meth c H locs cells slots Q (F0 m pc ls (.ref y :: .ref x :: rest))) : xm_Snd R G pc (fun S => match S.2.1 with
      | .inr (.inr (some b)) :: .inr (.inr (some a)) :: _ => if a.1 < 21 ∧ b.1 < 21 then xs_acmp n t S else none
      | _ => none) := by
  intro S pc1 S1 h
  obtain ⟨lv, st, M, kc, ks⟩ := S
  dsimp only at h
  split at h
  · rename_i b a r
    split at h
    · rename_i hab
      unfold xs_acmp at h
      dsimp only at h
      by_cases hP : a = b
      · rw [if_pos hP] at h
        cases h
        refine ⟨⟨Nat.le_refl _, Nat.le_refl _⟩, fun _ _ k => (hG _ _).mpr fun ad H locs ls hA => ?_⟩
        obtain ⟨q1, q2, q3, q4, q5, q6, q7⟩ := hA
        exact row H locs _ _ ls _ (ad a) (ad b) (fun _ => (hG _ _).mp k ad H locs ls ⟨q1, q2, q3, q4, ⟨q5.1, fun w hw => q5.2.1 w (List.mem_cons_of_mem _ (List.mem_cons_of_mem _ hw)), q5.2.2⟩, q6, q7⟩) (fun h9 => absurd (by rw [hP]) h9)
      · rw [if_neg hP] at h
        cases h
        refine ⟨⟨Nat.le_refl _, Nat.le_refl _⟩, fun _ _ k => (hG _ _).mpr fun ad H locs ls hA => ?_⟩
        obtain ⟨q1, q2, q3, q4, q5, q6, q7⟩ := hA
        have hb : b ∈ xm_o M := by
          rcases q5.2.1 _ List.mem_cons_self with h1 | h1
          · exact h1
          · omega
        have ha : a ∈ xm_o M := by
          rcases q5.2.1 _ (List.mem_cons_of_mem _ List.mem_cons_self) with h1 | h1
          · exact h1
          · omega
        exact row H locs _ _ ls _ (ad a) (ad b) (fun h9 => absurd (xm_inj q2 ha hb h9) hP) (fun _ => (hG _ _).mp k ad H locs ls ⟨q1, q2, q3, q4, ⟨q5.1, fun w hw => q5.2.1 w (List.mem_cons_of_mem _ (List.mem_cons_of_mem _ hw)), q5.2.2⟩, q6, q7⟩)
    · cases h
  · cases h
theorem sn_sw (hG : xm_IsG p l e R s m args below meth c Q cA D A tS nL ad0 o0 G) {pc d : Nat} {ts : List Nat}
    (row : ∀ (H : Heap) (locs : List Loc) (cells slots : Nat) (ls : Array Slot) (rest : List Value) (x : Int32), W p l e R s m args below meth c H locs cells slots Q (F0 m (if x.toInt < 0 then d else ts.getD x.toInt.toNat d) ls rest) → W p l e R s m args below meth c H locs cells slots Q (F0 m pc ls (.int x :: rest))) : xm_Snd R G pc (xs_sw ts d) := by
  intro S pc1 S1 h
  obtain ⟨lv, st, M, kc, ks⟩ := S
  unfold xs_sw at h
  dsimp only at h
  split at h
  · rename_i x r
    cases h
    refine ⟨⟨Nat.le_refl _, Nat.le_refl _⟩, fun _ _ k => (hG _ _).mpr fun ad H locs ls hA => ?_⟩
    obtain ⟨q1, q2, q3, q4, q5, q6, q7⟩ := hA
    exact row H locs _ _ ls _ x ((hG _ _).mp k ad H locs ls ⟨q1, q2, q3, q4, ⟨q5.1, fun w hw => q5.2.1 w (List.mem_cons_of_mem _ hw), q5.2.2⟩, q6, q7⟩)
  · cases h
/-- a field read: fs its object's fields -/
theorem sn_get (hG : xm_IsG p l e R s m args below meth c Q cA D A tS nL ad0 o0 G) {pc n c0 k t ci : Nat} {ts : List Nat} (hk : xm_kd c0 = (0, ci, ts)) (ht : ts[k]? = some t) (hc : c0 < 21) {f : xm_F}
    (inv : ∀ {S pc1 S1}, f S = some (pc1, S1) → ∃ i r v, S.2.1 = xm_r c0 i :: r ∧ pc1 = n ∧ S1 = (S.1, v :: r, S.2.2) ∧ (∀ ad, xm_rv ad v = xm_fv ad S.2.2.1 (c0, i) k t) ∧ (∀ q, v = .inr (.inr (some q)) → S.2.2.1.2.2.1 c0 k i = some q))
    (row : ∀ (H : Heap) (locs : List Loc) (cells slots : Nat) (ls : Array Slot) (rest : List Value) (q0 : Nat) (ws : va_W) (a : Nat) (fs : List Value) (v : Value), va_P D vwCl ws H → ws[q0]? = some (a, .inr (ci, fs)) → fs[k]? = some v → W p l e R s m args below meth c H locs cells slots Q (F0 m n ls (v :: rest)) → W p l e R s m args below meth c H locs cells slots Q (F0 m pc ls (.ref a :: rest))) : xm_Snd R G pc f := by
  intro S pc1 S1 h
  obtain ⟨i, r, v, h1, rfl, rfl, hv, hr⟩ := inv h
  obtain ⟨lv, st, M, kc, ks⟩ := S
  dsimp only at h1 hv hr ⊢
  subst h1
  refine ⟨⟨Nat.le_refl _, Nat.le_refl _⟩, fun _ _ kk => (hG _ _).mpr fun ad H locs ls hA => ?_⟩
  obtain ⟨q1, q2, q3, q4, q5, q6, q7⟩ := hA
  have hq : (c0, i) ∈ xm_o M := by
    rcases q5.2.1 _ List.mem_cons_self with h9 | h9
    · exact h9
    · exact absurd hc (Nat.not_lt.mpr h9)
  obtain ⟨j, hj, hw⟩ := xm_in (cA := cA) (ad := ad) hq
  rw [xm_obj (q := (c0, i)) hk] at hw
  refine row H locs _ _ ls _ j _ (ad (c0, i)) _ _ q1 hw (xm_fld ht) ?_
  rw [← hv]
  refine (hG _ _).mp kk ad H locs ls ⟨q1, q2, q3, q4, ⟨q5.1, fun w hw => ?_, q5.2.2⟩, q6, q7⟩
  rcases List.mem_cons.mp hw with rfl | hw
  · rcases w with x | x | r9
    · trivial
    · trivial
    · cases r9 with
      | none => trivial
      | some z => exact Or.inl (q5.2.2 _ hq k z (hr z rfl))
  · exact q5.2.1 w (List.mem_cons_of_mem _ hw)
theorem sn_getI (hG : xm_IsG p l e R s m args below meth c Q cA D A tS nL ad0 o0 G) {pc n c0 k t ci : Nat} {ts : List Nat} (hk : xm_kd c0 = (0, ci, ts)) (ht : ts[k]? = some t) (hc : c0 < 21) (hn : t ≠ 1 ∧ t ≠ 2)
    (row : ∀ (H : Heap) (locs : List Loc) (cells slots : Nat) (ls : Array Slot) (rest : List Value) (q0 : Nat) (ws : va_W) (a : Nat) (fs : List Value) (v : Value), va_P D vwCl ws H → ws[q0]? = some (a, .inr (ci, fs)) → fs[k]? = some v → W p l e R s m args below meth c H locs cells slots Q (F0 m n ls (v :: rest)) → W p l e R s m args below meth c H locs cells slots Q (F0 m pc ls (.ref a :: rest))) : xm_Snd R G pc (xs_getI n c0 k) := by
  refine sn_get hG hk ht hc (fun {S pc1 S1} h => ?_) row
  unfold xs_getI at h
  split at h
  · rename_i q r h1
    split at h
    · rename_i h2
      cases h
      obtain ⟨q1, q2⟩ := q
      cases h2
      refine ⟨q2, r, _, h1, rfl, rfl, fun ad => ?_, fun q9 h9 => by cases h9⟩
      show Value.int _ = xm_fv ad _ _ k t
      unfold xm_fv
      split
      · exact absurd rfl hn.1
      · exact absurd rfl hn.2
      · rfl
    · cases h
  · cases h
theorem sn_getL (hG : xm_IsG p l e R s m args below meth c Q cA D A tS nL ad0 o0 G) {pc n c0 k ci : Nat} {ts : List Nat} (hk : xm_kd c0 = (0, ci, ts)) (ht : ts[k]? = some 1) (hc : c0 < 21)
    (row : ∀ (H : Heap) (locs : List Loc) (cells slots : Nat) (ls : Array Slot) (rest : List Value) (q0 : Nat) (ws : va_W) (a : Nat) (fs : List Value) (v : Value), va_P D vwCl ws H → ws[q0]? = some (a, .inr (ci, fs)) → fs[k]? = some v → W p l e R s m args below meth c H locs cells slots Q (F0 m n ls (v :: rest)) → W p l e R s m args below meth c H locs cells slots Q (F0 m pc ls (.ref a :: rest))) : xm_Snd R G pc (xs_getL n c0 k) := by
  refine sn_get hG hk ht hc (fun {S pc1 S1} h => ?_) row
  unfold xs_getL at h
  split at h
  · rename_i q r h1
    split at h
    · rename_i h2
      cases h
      obtain ⟨q1, q2⟩ := q
      cases h2
      exact ⟨q2, r, _, h1, rfl, rfl, fun ad => rfl, fun q9 h9 => by cases h9⟩
    · cases h
  · cases h
theorem sn_getR (hG : xm_IsG p l e R s m args below meth c Q cA D A tS nL ad0 o0 G) {pc n c0 k ci : Nat} {ts : List Nat} (hk : xm_kd c0 = (0, ci, ts)) (ht : ts[k]? = some 2) (hc : c0 < 21)
    (row : ∀ (H : Heap) (locs : List Loc) (cells slots : Nat) (ls : Array Slot) (rest : List Value) (q0 : Nat) (ws : va_W) (a : Nat) (fs : List Value) (v : Value), va_P D vwCl ws H → ws[q0]? = some (a, .inr (ci, fs)) → fs[k]? = some v → W p l e R s m args below meth c H locs cells slots Q (F0 m n ls (v :: rest)) → W p l e R s m args below meth c H locs cells slots Q (F0 m pc ls (.ref a :: rest))) : xm_Snd R G pc (xs_getR n c0 k) := by
  refine sn_get hG hk ht hc (fun {S pc1 S1} h => ?_) row
  unfold xs_getR at h
  split at h
  · rename_i q r h1
    split at h
    · rename_i h2
      split at h
      · rename_i z h3
        cases h
        obtain ⟨q1, q2⟩ := q
        cases h2
        refine ⟨q2, r, _, h1, rfl, rfl, fun ad => ?_, fun q9 h9 => by cases h9; exact h3⟩
        show va_rf ((some z).map ad) = va_rf ((S.2.2.1.2.2.1 q1 k q2).map ad)
        rw [show S.2.2.1.2.2.1 q1 k q2 = some z from h3]
      · cases h
    · cases h
  · cases h
end XG2
end
section
/-! THE MACHINE KEEPS THE STEPS (3): stores, arrays -/
theorem xm_up_o {α : Type} {f : Nat → Nat → Nat → α} {c k i : Nat} {v : α} {c' k' i' : Nat} (h : ¬ (c' = c ∧ i' = i)) : xm_up f c k i v c' k' i' = f c' k' i' := by
  unfold xm_up
  split
  · split
    · split
      · rename_i h1 h2 h3; exact absurd ⟨h1, h3⟩ h
      · rfl
    · rfl
  · rfl
theorem xm_up_k {α : Type} {f : Nat → Nat → Nat → α} {c k i : Nat} {v : α} {c' k' i' : Nat} (h : k' ≠ k) : xm_up f c k i v c' k' i' = f c' k' i' := by
  simp [xm_up, h]
theorem xm_up_s {α : Type} {f : Nat → Nat → Nat → α} {c k i : Nat} {v : α} : xm_up f c k i v c k i = v := by simp [xm_up]
theorem xm_up_at {α : Type} {f : Nat → Nat → Nat → α} {c k i j : Nat} {v : α} : xm_up f c k i v c j i = if j = k then v else f c j i := by simp [xm_up]
theorem xm_ne {q : Nat × Nat} {c i : Nat} (h : q ≠ (c, i)) : ¬ (q.1 = c ∧ q.2 = i) := fun h9 => h (Prod.ext h9.1 h9.2)
theorem xm_cell_congr {cA : Nat → ClassId} {ad ad' : xm_A} {M M' : xm_M} {q : Nat × Nat} (hI : ∀ j, M'.1 q.1 j q.2 = M.1 q.1 j q.2) (hL : ∀ j, M'.2.1 q.1 j q.2 = M.2.1 q.1 j q.2) (hR : ∀ j, (M'.2.2.1 q.1 j q.2).map ad' = (M.2.2.1 q.1 j q.2).map ad) (hN : M'.2.2.2.1 q.1 q.2 = M.2.2.2.1 q.1 q.2) : xm_cell cA ad' M' q = xm_cell cA ad M q := by
  have hf : xm_fv ad' M' q = xm_fv ad M q := by
    funext k t
    unfold xm_fv
    split
    · rw [hL]
    · rw [hR]
    · rw [hI]
  unfold xm_cell
  rw [hf]
  simp only [hI, hL, hR, hN]
theorem xm_vok_o {M M' : xm_M} {v : xm_V} (h : xm_o M' = xm_o M) (hv : xm_vok M v) : xm_vok M' v := by
  unfold xm_vok at hv ⊢
  split
  · rw [h]; exact hv
  · trivial
section XG3
variable {p : Program} {l : Launch} {e : Env} {R : Room} {s : State} {m : MethodId} {args : Array Value} {below : List Frame} {meth : Method} {c : Code} {Q : State → Prop}
variable {cc : ByteArray} {nL : Nat} {own : String} {Ts : List Cond} {cA : Nat → ClassId} {D : va_G} {A : Nat → Prop} {tS : Nat → Nat} {ad0 : xm_A} {o0 : List (Nat × Nat)} {G : Nat → xm_S → Prop}
theorem xm_Sd_put {ad : xm_A} {H H1 : Heap} {locs locs1 : List Loc} {ls : Array Slot} {lv : xm_L} {st st' : List xm_V} {M M' : xm_M} (hA : xm_Sd s cA D A tS nL ad0 o0 ad H locs ls lv st M) (ho : xm_o M' = xm_o M) (hst : ∀ v ∈ st', v ∈ st)
    (hR : ∀ q ∈ xm_o M, ∀ k q', M'.2.2.1 q.1 k q.2 = some q' → M.2.2.1 q.1 k q.2 = some q' ∨ q' ∈ xm_o M) (p1 : va_P D vwCl (xm_ws cA ad M') H1) (p2 : va_D A (xm_ws cA ad M')) (p3 : va_S A s.heap H1 locs1) : xm_Sd s cA D A tS nL ad0 o0 ad H1 locs1 ls lv st' M' := by
  obtain ⟨q1, q2, q3, q4, q5, q6, q7⟩ := hA
  refine ⟨p1, p2, p3, q4, ⟨fun x hx => xm_vok_o ho (q5.1 x hx), fun v hv => xm_vok_o ho (q5.2.1 v (hst v hv)), fun q hq k q' h => ?_⟩, q6, fun q hq => by rw [ho]; exact q7 q hq⟩
  rw [ho] at hq ⊢
  rcases hR q hq k q' h with h9 | h9
  · exact q5.2.2 q hq k q' h9
  · exact h9
theorem sn_put (hG : xm_IsG p l e R s m args below meth c Q cA D A tS nL ad0 o0 G) {pc n c0 k t ci : Nat} {ts : List Nat} (hk : xm_kd c0 = (0, ci, ts)) (ht : ts[k]? = some t) (hc : c0 < 21) {f : xm_F} {Vp : Value → Prop}
    (inv : ∀ {S pc1 S1}, f S = some (pc1, S1) → ∃ i r v M', S.2.1 = v :: xm_r c0 i :: r ∧ pc1 = n ∧ S1 = (S.1, r, M', S.2.2.2) ∧ xm_o M' = xm_o S.2.2.1 ∧ (∀ ad, xm_fv ad M' (c0, i) k t = xm_rv ad v) ∧ (∀ ad j t', j ≠ k → xm_fv ad M' (c0, i) j t' = xm_fv ad S.2.2.1 (c0, i) j t') ∧ (∀ ad q', q' ≠ (c0, i) → xm_cell cA ad M' q' = xm_cell cA ad S.2.2.1 q') ∧ (∀ (q : Nat × Nat) (k' : Nat) (q' : Nat × Nat), M'.2.2.1 q.1 k' q.2 = some q' → S.2.2.1.2.2.1 q.1 k' q.2 = some q' ∨ (v = .inr (.inr (some q')) ∧ q'.1 < 21)) ∧ ∀ ad, Vp (xm_rv ad v))
    (row : ∀ (H : Heap) (locs : List Loc) (cells slots : Nat) (ls : Array Slot) (rest : List Value) (q0 : Nat) (ws : va_W) (a : Nat) (fs : List Value) (v : Value), va_P D vwCl ws H → va_D A ws → va_S A s.heap H locs → ws[q0]? = some (a, .inr (ci, fs)) → Vp v → k < fs.length → (∀ (H1 : Heap) (locs1 : List Loc), va_P D vwCl (ws.set q0 (a, .inr (ci, fs.set k v))) H1 → va_D A (ws.set q0 (a, .inr (ci, fs.set k v))) → va_S A s.heap H1 locs1 → W p l e R s m args below meth c H1 locs1 cells slots Q (F0 m n ls rest)) → W p l e R s m args below meth c H locs cells slots Q (F0 m pc ls (v :: .ref a :: rest))) : xm_Snd R G pc f := by
  intro S pc1 S1 h
  obtain ⟨i, r, v, M', h1, rfl, rfl, ho, hv, hj, hcell, hR, hVp⟩ := inv h
  obtain ⟨lv, st, M, kc, ks⟩ := S
  dsimp only at h1 ho hv hj hcell hR ⊢
  subst h1
  refine ⟨⟨Nat.le_refl _, Nat.le_refl _⟩, fun _ _ kk => (hG _ _).mpr fun ad H locs ls hA => ?_⟩
  obtain ⟨q1, q2, q3, q4, q5, q6, q7⟩ := id hA
  have hq : (c0, i) ∈ xm_o M := by
    rcases q5.2.1 _ (List.mem_cons_of_mem _ List.mem_cons_self) with h9 | h9
    · exact h9
    · exact absurd hc (Nat.not_lt.mpr h9)
  obtain ⟨j, hj0, hw⟩ := xm_in (cA := cA) (ad := ad) hq
  rw [xm_obj (q := (c0, i)) hk] at hw
  have hlt : k < ts.length := (List.getElem?_eq_some_iff.mp ht).1
  refine row H locs _ _ ls _ j _ (ad (c0, i)) _ (xm_rv ad v) q1 q2 q3 hw (hVp ad) (by rw [List.length_mapIdx]; exact hlt) fun H1 locs1 p1 p2 p3 => ?_
  have e9 : (xm_ws cA ad M).set j (ad (c0, i), .inr (ci, (ts.mapIdx (xm_fv ad M (c0, i))).set k (xm_rv ad v))) = xm_ws cA ad M' := by
    rw [xm_setf ht (hv ad) (hj ad), ← xm_obj (cA := cA) (q := (c0, i)) hk]
    exact xm_set q2 hj0 ho (hcell ad)
  rw [e9] at p1 p2
  refine (hG _ _).mp kk ad H1 locs1 ls (xm_Sd_put hA ho (fun w hw => List.mem_cons_of_mem _ (List.mem_cons_of_mem _ hw)) (fun q hq k' q' h9 => ?_) p1 p2 p3)
  rcases hR q k' q' h9 with h9 | ⟨h9, h8⟩
  · exact Or.inl h9
  · refine Or.inr ?_
    have := q5.2.1 v List.mem_cons_self
    rw [h9] at this
    rcases this with h7 | h7
    · exact h7
    · exact absurd h8 (Nat.not_lt.mpr h7)
theorem xm_wI_fv {ad : xm_A} {M : xm_M} {c0 k i j t : Nat} {v : Int32} (h : j ≠ k) : xm_fv ad (xm_wI M c0 k i v) (c0, i) j t = xm_fv ad M (c0, i) j t := by
  unfold xm_fv xm_wI
  split
  · rfl
  · rfl
  · show Value.int (xm_up _ _ _ _ _ _ _ _) = _
    rw [xm_up_k h]
theorem xm_wI_cell {ad : xm_A} {M : xm_M} {c0 k i : Nat} {v : Int32} {q : Nat × Nat} (h : q ≠ (c0, i)) : xm_cell cA ad (xm_wI M c0 k i v) q = xm_cell cA ad M q :=
  xm_cell_congr (fun _ => xm_up_o (xm_ne h)) (fun _ => rfl) (fun _ => rfl) rfl
theorem xm_wL_cell {ad : xm_A} {M : xm_M} {c0 k i : Nat} {v : Int64} {q : Nat × Nat} (h : q ≠ (c0, i)) : xm_cell cA ad (xm_wL M c0 k i v) q = xm_cell cA ad M q :=
  xm_cell_congr (fun _ => rfl) (fun _ => xm_up_o (xm_ne h)) (fun _ => rfl) rfl
theorem xm_wR_cell {ad : xm_A} {M : xm_M} {c0 k i : Nat} {v : Option (Nat × Nat)} {q : Nat × Nat} (h : q ≠ (c0, i)) : xm_cell cA ad (xm_wR M c0 k i v) q = xm_cell cA ad M q :=
  xm_cell_congr (fun _ => rfl) (fun _ => rfl) (fun j => by show (xm_up M.2.2.1 c0 k i v q.1 j q.2).map ad = _; rw [xm_up_o (xm_ne h)]) rfl
theorem sn_putI (hG : xm_IsG p l e R s m args below meth c Q cA D A tS nL ad0 o0 G) {pc n c0 k t ci : Nat} {ts : List Nat} (hk : xm_kd c0 = (0, ci, ts)) (ht : ts[k]? = some t) (hc : c0 < 21) (hn : t ≠ 1 ∧ t ≠ 2)
    (row : ∀ (H : Heap) (locs : List Loc) (cells slots : Nat) (ls : Array Slot) (rest : List Value) (q0 : Nat) (ws : va_W) (a : Nat) (fs : List Value) (v : Value), va_P D vwCl ws H → va_D A ws → va_S A s.heap H locs → ws[q0]? = some (a, .inr (ci, fs)) → (∃ x, v = .int x) → k < fs.length → (∀ (H1 : Heap) (locs1 : List Loc), va_P D vwCl (ws.set q0 (a, .inr (ci, fs.set k v))) H1 → va_D A (ws.set q0 (a, .inr (ci, fs.set k v))) → va_S A s.heap H1 locs1 → W p l e R s m args below meth c H1 locs1 cells slots Q (F0 m n ls rest)) → W p l e R s m args below meth c H locs cells slots Q (F0 m pc ls (v :: .ref a :: rest))) : xm_Snd R G pc (xs_putI n c0 k) := by
  refine sn_put hG hk ht hc (fun {S pc1 S1} h => ?_) row
  unfold xs_putI at h
  split at h
  · rename_i v q r h1
    split at h
    · rename_i h2
      cases h
      obtain ⟨q1, q2⟩ := q
      cases h2
      refine ⟨q2, r, _, _, h1, rfl, rfl, rfl, fun ad => ?_, fun ad j t' hj => xm_wI_fv hj, fun ad q' hq => xm_wI_cell hq, fun _ _ _ h9 => Or.inl h9, fun ad => ⟨_, rfl⟩⟩
      show xm_fv ad _ _ k t = Value.int v
      unfold xm_fv
      split
      · exact absurd rfl hn.1
      · exact absurd rfl hn.2
      · show Value.int (xm_up _ _ _ _ _ _ _ _) = _
        rw [xm_up_s]
    · cases h
  · cases h
theorem sn_putZ (hG : xm_IsG p l e R s m args below meth c Q cA D A tS nL ad0 o0 G) {pc n c0 k t ci : Nat} {ts : List Nat} (hk : xm_kd c0 = (0, ci, ts)) (ht : ts[k]? = some t) (hc : c0 < 21) (hn : t ≠ 1 ∧ t ≠ 2)
    (row : ∀ (H : Heap) (locs : List Loc) (cells slots : Nat) (ls : Array Slot) (rest : List Value) (q0 : Nat) (ws : va_W) (a : Nat) (fs : List Value) (v : Value), va_P D vwCl ws H → va_D A ws → va_S A s.heap H locs → ws[q0]? = some (a, .inr (ci, fs)) → (v = .int 0 ∨ v = .int 1) → k < fs.length → (∀ (H1 : Heap) (locs1 : List Loc), va_P D vwCl (ws.set q0 (a, .inr (ci, fs.set k v))) H1 → va_D A (ws.set q0 (a, .inr (ci, fs.set k v))) → va_S A s.heap H1 locs1 → W p l e R s m args below meth c H1 locs1 cells slots Q (F0 m n ls rest)) → W p l e R s m args below meth c H locs cells slots Q (F0 m pc ls (v :: .ref a :: rest))) : xm_Snd R G pc (xs_putZ n c0 k) := by
  refine sn_put hG hk ht hc (fun {S pc1 S1} h => ?_) row
  unfold xs_putZ at h
  split at h
  · rename_i v q r h1
    split at h
    · rename_i h2
      cases h
      obtain ⟨q1, q2⟩ := q
      obtain ⟨h2, h3⟩ := h2
      cases h2
      refine ⟨q2, r, _, _, h1, rfl, rfl, rfl, fun ad => ?_, fun ad j t' hj => xm_wI_fv hj, fun ad q' hq => xm_wI_cell hq, fun _ _ _ h9 => Or.inl h9, fun ad => ?_⟩
      · show xm_fv ad _ _ k t = Value.int v
        unfold xm_fv
        split
        · exact absurd rfl hn.1
        · exact absurd rfl hn.2
        · show Value.int (xm_up _ _ _ _ _ _ _ _) = _
          rw [xm_up_s]
      · rcases h3 with rfl | rfl
        · exact Or.inl rfl
        · exact Or.inr rfl
    · cases h
  · cases h
theorem sn_putL (hG : xm_IsG p l e R s m args below meth c Q cA D A tS nL ad0 o0 G) {pc n c0 k ci : Nat} {ts : List Nat} (hk : xm_kd c0 = (0, ci, ts)) (ht : ts[k]? = some 1) (hc : c0 < 21)
    (row : ∀ (H : Heap) (locs : List Loc) (cells slots : Nat) (ls : Array Slot) (rest : List Value) (q0 : Nat) (ws : va_W) (a : Nat) (fs : List Value) (v : Value), va_P D vwCl ws H → va_D A ws → va_S A s.heap H locs → ws[q0]? = some (a, .inr (ci, fs)) → (∃ x, v = .long x) → k < fs.length → (∀ (H1 : Heap) (locs1 : List Loc), va_P D vwCl (ws.set q0 (a, .inr (ci, fs.set k v))) H1 → va_D A (ws.set q0 (a, .inr (ci, fs.set k v))) → va_S A s.heap H1 locs1 → W p l e R s m args below meth c H1 locs1 cells slots Q (F0 m n ls rest)) → W p l e R s m args below meth c H locs cells slots Q (F0 m pc ls (v :: .ref a :: rest))) : xm_Snd R G pc (xs_putL n c0 k) := by
  refine sn_put hG hk ht hc (fun {S pc1 S1} h => ?_) row
  unfold xs_putL at h
  split at h
  · rename_i v q r h1
    split at h
    · rename_i h2
      cases h
      obtain ⟨q1, q2⟩ := q
      cases h2
      refine ⟨q2, r, _, _, h1, rfl, rfl, rfl, fun ad => ?_, fun ad j t' hj => ?_, fun ad q' hq => xm_wL_cell hq, fun _ _ _ h9 => Or.inl h9, fun ad => ⟨_, rfl⟩⟩
      · show Value.long (xm_up _ _ _ _ _ _ _ _) = Value.long v
        rw [xm_up_s]
      · unfold xm_fv xm_wL
        split
        · show Value.long (xm_up _ _ _ _ _ _ _ _) = _
          rw [xm_up_k hj]
        · rfl
        · rfl
    · cases h
  · cases h
theorem sn_putR (hG : xm_IsG p l e R s m args below meth c Q cA D A tS nL ad0 o0 G) {pc n c0 k ci : Nat} {ts : List Nat} (hk : xm_kd c0 = (0, ci, ts)) (ht : ts[k]? = some 2) (hc : c0 < 21)
    (row : ∀ (H : Heap) (locs : List Loc) (cells slots : Nat) (ls : Array Slot) (rest : List Value) (q0 : Nat) (ws : va_W) (a : Nat) (fs : List Value) (v : Value), va_P D vwCl ws H → va_D A ws → va_S A s.heap H locs → ws[q0]? = some (a, .inr (ci, fs)) → (∃ x, v = .ref x) → k < fs.length → (∀ (H1 : Heap) (locs1 : List Loc), va_P D vwCl (ws.set q0 (a, .inr (ci, fs.set k v))) H1 → va_D A (ws.set q0 (a, .inr (ci, fs.set k v))) → va_S A s.heap H1 locs1 → W p l e R s m args below meth c H1 locs1 cells slots Q (F0 m n ls rest)) → W p l e R s m args below meth c H locs cells slots Q (F0 m pc ls (v :: .ref a :: rest))) : xm_Snd R G pc (xs_putR n c0 k) := by
  refine sn_put hG hk ht hc (fun {S pc1 S1} h => ?_) row
  unfold xs_putR at h
  split at h
  · rename_i z q r h1
    split at h
    · rename_i h2
      cases h
      obtain ⟨q1, q2⟩ := q
      obtain ⟨h2, h3⟩ := h2
      cases h2
      refine ⟨q2, r, _, _, h1, rfl, rfl, rfl, fun ad => ?_, fun ad j t' hj => ?_, fun ad q' hq => xm_wR_cell hq, fun y k' q' h9 => ?_, fun ad => ⟨_, rfl⟩⟩
      · show va_rf (Option.map ad (xm_up _ _ _ _ _ _ _ _)) = va_rf (Option.map ad (some z))
        rw [xm_up_s]
      · unfold xm_fv xm_wR
        split
        · rfl
        · show va_rf (Option.map ad (xm_up _ _ _ _ _ _ _ _)) = _
          rw [xm_up_k hj]
        · rfl
      · have h8 : xm_up S.2.2.1.2.2.1 q1 k q2 (some z) y.1 k' y.2 = some q' := h9
        by_cases e1 : y.1 = q1 ∧ y.2 = q2
        · by_cases e2 : k' = k
          · rw [e1.1, e1.2, e2, xm_up_s] at h8
            cases h8
            exact Or.inr ⟨rfl, h3⟩
          · rw [xm_up_k e2] at h8
            exact Or.inl h8
        · rw [xm_up_o e1] at h8
          exact Or.inl h8
    · cases h
  · cases h
end XG3
end
section
/-! THE MACHINE KEEPS THE STEPS (4): arrays, tables, new cells -/
theorem xm_kd_lt {c : Nat} (h : (xm_kd c).1 ≠ 6) : c < 21 := by
  apply Classical.byContradiction
  intro h9
  apply h
  unfold xm_kd
  split <;> first | rfl | omega
theorem xm_arrI {cA : Nat → ClassId} {ad : xm_A} {M : xm_M} {q : Nat × Nat} (h : (xm_kd q.1).1 = 1) : xm_cell cA ad M q = .inl (cA 1, M.2.2.2.1 q.1 q.2, .inl (fun j => M.1 q.1 j q.2)) := by
  unfold xm_cell
  rw [h]
  rfl
theorem xm_arrZ {cA : Nat → ClassId} {ad : xm_A} {M : xm_M} {q : Nat × Nat} (h : (xm_kd q.1).1 = 3) : xm_cell cA ad M q = .inl (cA 3, M.2.2.2.1 q.1 q.2, .inl (fun j => M.1 q.1 j q.2)) := by
  unfold xm_cell
  rw [h]
  rfl
theorem xm_arrL {cA : Nat → ClassId} {ad : xm_A} {M : xm_M} {q : Nat × Nat} (h : (xm_kd q.1).1 = 2) : xm_cell cA ad M q = .inl (cA 2, M.2.2.2.1 q.1 q.2, .inr (.inl (fun j => M.2.1 q.1 j q.2))) := by
  unfold xm_cell
  rw [h]
  rfl
theorem xm_arrR {cA : Nat → ClassId} {ad : xm_A} {M : xm_M} {q : Nat × Nat} {t : Nat} (h : (xm_kd q.1).1 = t) (ht : t = 4 ∨ t = 5) : xm_cell cA ad M q = .inl (cA t, M.2.2.2.1 q.1 q.2, .inr (.inr (.inr (.inr (fun j => (M.2.2.1 q.1 j q.2).map ad))))) := by
  unfold xm_cell
  rw [h]
  rcases ht with rfl | rfl <;> rfl
theorem xm_arr {cA : Nat → ClassId} {ad : xm_A} {M : xm_M} {q : Nat × Nat} {t : Nat} (h : (xm_kd q.1).1 = t) (h0 : t ≠ 0) (h6 : t ≠ 6) : ∃ z, xm_cell cA ad M q = .inl (cA t, M.2.2.2.1 q.1 q.2, z) ∧ 1 ≤ t ∧ t ≤ 5 := by
  have ht : t = 1 ∨ t = 2 ∨ t = 3 ∨ t = 4 ∨ t = 5 := by
    subst h
    unfold xm_kd at h0 h6 ⊢
    split at h0 <;> simp_all
  unfold xm_cell
  rw [h]
  rcases ht with rfl | rfl | rfl | rfl | rfl <;> exact ⟨_, rfl, by omega, by omega⟩
section XG4
variable {p : Program} {l : Launch} {e : Env} {R : Room} {s : State} {m : MethodId} {args : Array Value} {below : List Frame} {meth : Method} {c : Code} {Q : State → Prop}
variable {cc : ByteArray} {nL : Nat} {own : String} {Ts : List Cond} {cA : Nat → ClassId} {D : va_G} {A : Nat → Prop} {tS : Nat → Nat} {ad0 : xm_A} {o0 : List (Nat × Nat)} {G : Nat → xm_S → Prop}
theorem xm_q {M : xm_M} {q : Nat × Nat} (h : xm_vok M (.inr (.inr (some q)))) (hk : (xm_kd q.1).1 ≠ 6) : q ∈ xm_o M := by
  rcases h with h | h
  · exact h
  · exact absurd (xm_kd_lt hk) (Nat.not_lt.mpr h)
/-- reading an array of the world -/
theorem sn_ald (hG : xm_IsG p l e R s m args below meth c Q cA D A tS nL ad0 o0 G) {pc n : Nat} {f : xm_F}
    (inv : ∀ {S pc1 S1}, f S = some (pc1, S1) → ∃ q x r v, S.2.1 = .inl x :: .inr (.inr (some q)) :: r ∧ pc1 = n ∧ S1 = (S.1, v :: r, S.2.2) ∧ (xm_kd q.1).1 ≠ 6 ∧ (∀ z, v = .inr (.inr (some z)) → ∃ j, S.2.2.1.2.2.1 q.1 j q.2 = some z) ∧
      ∀ (ad : xm_A) (H : Heap) (locs : List Loc) (cells slots : Nat) (ls : Array Slot) (rest : List Value) (q0 : Nat) (ws : va_W), va_P D vwCl ws H → ws[q0]? = some (ad q, xm_cell cA ad S.2.2.1 q) → W p l e R s m args below meth c H locs cells slots Q (F0 m n ls (xm_rv ad v :: rest)) → W p l e R s m args below meth c H locs cells slots Q (F0 m pc ls (.int x :: .ref (ad q) :: rest))) : xm_Snd R G pc f := by
  intro S pc1 S1 h
  obtain ⟨q, x, r, v, h1, rfl, rfl, h6, hv, row⟩ := inv h
  obtain ⟨lv, st, M, kc, ks⟩ := S
  dsimp only at h1 hv row ⊢
  subst h1
  refine ⟨⟨Nat.le_refl _, Nat.le_refl _⟩, fun _ _ kk => (hG _ _).mpr fun ad H locs ls hA => ?_⟩
  obtain ⟨q1, q2, q3, q4, q5, q6, q7⟩ := id hA
  have hq : q ∈ xm_o M := xm_q (q5.2.1 _ (List.mem_cons_of_mem _ List.mem_cons_self)) h6
  obtain ⟨j, hj, hw⟩ := xm_in (cA := cA) (ad := ad) hq
  refine row ad H locs _ _ ls _ j _ q1 hw ((hG _ _).mp kk ad H locs ls ⟨q1, q2, q3, q4, ⟨q5.1, fun w hw => ?_, q5.2.2⟩, q6, q7⟩)
  rcases List.mem_cons.mp hw with rfl | hw
  · rcases w with x9 | x9 | r9
    · trivial
    · trivial
    · cases r9 with
      | none => trivial
      | some z =>
        obtain ⟨j9, h9⟩ := hv z rfl
        exact Or.inl (q5.2.2 _ hq j9 z h9)
  · exact q5.2.1 w (List.mem_cons_of_mem _ (List.mem_cons_of_mem _ hw))
theorem sn_iald (hG : xm_IsG p l e R s m args below meth c Q cA D A tS nL ad0 o0 G) {pc n : Nat}
    (row : ∀ (H : Heap) (locs : List Loc) (cells slots : Nat) (ls : Array Slot) (rest : List Value) (q0 : Nat) (ws : va_W) (a N : Nat) (f : Nat → Int32) (x : Int32), va_P D vwCl ws H → ws[q0]? = some (a, .inl (cA 1, N, .inl f)) → vp_in x N → W p l e R s m args below meth c H locs cells slots Q (F0 m n ls (.int (f x.toNatClampNeg) :: rest)) → W p l e R s m args below meth c H locs cells slots Q (F0 m pc ls (.int x :: .ref a :: rest))) : xm_Snd R G pc (xs_iald n) := by
  refine sn_ald hG (n := n) fun {S pc1 S1} h => ?_
  unfold xs_iald at h
  split at h
  · rename_i x q r h1
    split at h
    · rename_i hk
      split at h
      · rename_i hin
        cases h
        refine ⟨q, x, r, _, h1, rfl, rfl, (by rw [hk]; decide), (fun z h9 => by cases h9), fun ad H locs cells slots ls rest q0 ws hP hw k => ?_⟩
        rw [xm_arrI hk] at hw
        exact row H locs cells slots ls rest q0 ws _ _ _ x hP hw (vp_in_iff.mpr hin) k
      · cases h
    · cases h
  · cases h
theorem sn_zald (hG : xm_IsG p l e R s m args below meth c Q cA D A tS nL ad0 o0 G) {pc n : Nat}
    (row : ∀ (H : Heap) (locs : List Loc) (cells slots : Nat) (ls : Array Slot) (rest : List Value) (q0 : Nat) (ws : va_W) (a N : Nat) (f : Nat → Int32) (x : Int32), va_P D vwCl ws H → ws[q0]? = some (a, .inl (cA 3, N, .inl f)) → vp_in x N → W p l e R s m args below meth c H locs cells slots Q (F0 m n ls (.int (f x.toNatClampNeg) :: rest)) → W p l e R s m args below meth c H locs cells slots Q (F0 m pc ls (.int x :: .ref a :: rest))) : xm_Snd R G pc (xs_zald n) := by
  refine sn_ald hG (n := n) fun {S pc1 S1} h => ?_
  unfold xs_zald at h
  split at h
  · rename_i x q r h1
    split at h
    · rename_i hk
      split at h
      · rename_i hin
        cases h
        refine ⟨q, x, r, _, h1, rfl, rfl, (by rw [hk]; decide), (fun z h9 => by cases h9), fun ad H locs cells slots ls rest q0 ws hP hw k => ?_⟩
        rw [xm_arrZ hk] at hw
        exact row H locs cells slots ls rest q0 ws _ _ _ x hP hw (vp_in_iff.mpr hin) k
      · cases h
    · cases h
  · cases h
theorem sn_lald (hG : xm_IsG p l e R s m args below meth c Q cA D A tS nL ad0 o0 G) {pc n : Nat}
    (row : ∀ (H : Heap) (locs : List Loc) (cells slots : Nat) (ls : Array Slot) (rest : List Value) (q0 : Nat) (ws : va_W) (a N : Nat) (f : Nat → Int64) (x : Int32), va_P D vwCl ws H → ws[q0]? = some (a, .inl (cA 2, N, .inr (.inl f))) → vp_in x N → W p l e R s m args below meth c H locs cells slots Q (F0 m n ls (.long (f x.toNatClampNeg) :: rest)) → W p l e R s m args below meth c H locs cells slots Q (F0 m pc ls (.int x :: .ref a :: rest))) : xm_Snd R G pc (xs_lald n) := by
  refine sn_ald hG (n := n) fun {S pc1 S1} h => ?_
  unfold xs_lald at h
  split at h
  · rename_i x q r h1
    split at h
    · rename_i hk
      split at h
      · rename_i hin
        cases h
        refine ⟨q, x, r, _, h1, rfl, rfl, (by rw [hk]; decide), (fun z h9 => by cases h9), fun ad H locs cells slots ls rest q0 ws hP hw k => ?_⟩
        rw [xm_arrL hk] at hw
        exact row H locs cells slots ls rest q0 ws _ _ _ x hP hw (vp_in_iff.mpr hin) k
      · cases h
    · cases h
  · cases h
theorem sn_aald (hG : xm_IsG p l e R s m args below meth c Q cA D A tS nL ad0 o0 G) {pc n t : Nat} (ht : t = 4 ∨ t = 5)
    (row : ∀ (H : Heap) (locs : List Loc) (cells slots : Nat) (ls : Array Slot) (rest : List Value) (q0 : Nat) (ws : va_W) (a N : Nat) (f : Nat → Option Nat) (x : Int32), va_P D vwCl ws H → ws[q0]? = some (a, .inl (cA t, N, .inr (.inr (.inr (.inr f))))) → vp_in x N → W p l e R s m args below meth c H locs cells slots Q (F0 m n ls (va_rf (f x.toNatClampNeg) :: rest)) → W p l e R s m args below meth c H locs cells slots Q (F0 m pc ls (.int x :: .ref a :: rest))) : xm_Snd R G pc (xs_aald n t) := by
  refine sn_ald hG (n := n) fun {S pc1 S1} h => ?_
  unfold xs_aald at h
  split at h
  · rename_i x q r h1
    split at h
    · rename_i hk
      split at h
      · rename_i z hz
        cases h
        refine ⟨q, x, r, _, h1, rfl, rfl, (by rw [hk.1]; omega), (fun z h9 => by cases h9; exact ⟨_, hz⟩), fun ad H locs cells slots ls rest q0 ws hP hw k => ?_⟩
        rw [xm_arrR hk.1 ht] at hw
        refine row H locs cells slots ls rest q0 ws _ _ _ x hP hw (vp_in_iff.mpr hk.2) ?_
        rw [hz]
        exact k
      · cases h
    · cases h
  · cases h
/-- writing an array of the world -/
theorem sn_ast (hG : xm_IsG p l e R s m args below meth c Q cA D A tS nL ad0 o0 G) {pc n : Nat} {f : xm_F}
    (inv : ∀ {S pc1 S1}, f S = some (pc1, S1) → ∃ q x r v M', S.2.1 = v :: .inl x :: .inr (.inr (some q)) :: r ∧ pc1 = n ∧ S1 = (S.1, r, M', S.2.2.2) ∧ (xm_kd q.1).1 ≠ 6 ∧ xm_o M' = xm_o S.2.2.1 ∧ (∀ ad q', q' ≠ q → xm_cell cA ad M' q' = xm_cell cA ad S.2.2.1 q') ∧ (∀ (y : Nat × Nat) (k' : Nat) (q' : Nat × Nat), M'.2.2.1 y.1 k' y.2 = some q' → S.2.2.1.2.2.1 y.1 k' y.2 = some q' ∨ v = .inr (.inr (some q'))) ∧ (∀ z, v = .inr (.inr (some z)) → (xm_kd z.1).1 ≠ 6) ∧
      ∀ (ad : xm_A) (H : Heap) (locs : List Loc) (cells slots : Nat) (ls : Array Slot) (rest : List Value) (q0 : Nat) (ws : va_W), va_P D vwCl ws H → va_D A ws → va_S A s.heap H locs → ws[q0]? = some (ad q, xm_cell cA ad S.2.2.1 q) → (∀ z, v = .inr (.inr (some z)) → ∃ k : Nat, ws[k]? = some (ad z, xm_cell cA ad S.2.2.1 z)) → (∀ (H1 : Heap) (locs1 : List Loc), va_P D vwCl (ws.set q0 (ad q, xm_cell cA ad M' q)) H1 → va_D A (ws.set q0 (ad q, xm_cell cA ad M' q)) → va_S A s.heap H1 locs1 → W p l e R s m args below meth c H1 locs1 cells slots Q (F0 m n ls rest)) → W p l e R s m args below meth c H locs cells slots Q (F0 m pc ls (xm_rv ad v :: .int x :: .ref (ad q) :: rest))) : xm_Snd R G pc f := by
  intro S pc1 S1 h
  obtain ⟨q, x, r, v, M', h1, rfl, rfl, h6, ho, hcell, hR, hv6, row⟩ := inv h
  obtain ⟨lv, st, M, kc, ks⟩ := S
  dsimp only at h1 ho hcell hR row ⊢
  subst h1
  refine ⟨⟨Nat.le_refl _, Nat.le_refl _⟩, fun _ _ kk => (hG _ _).mpr fun ad H locs ls hA => ?_⟩
  obtain ⟨q1, q2, q3, q4, q5, q6, q7⟩ := id hA
  have hq : q ∈ xm_o M := xm_q (q5.2.1 _ (List.mem_cons_of_mem _ (List.mem_cons_of_mem _ List.mem_cons_self))) h6
  obtain ⟨j, hj, hw⟩ := xm_in (cA := cA) (ad := ad) hq
  have hz : ∀ z, v = .inr (.inr (some z)) → (xm_kd z.1).1 ≠ 6 → z ∈ xm_o M := fun z h9 h8 => xm_q (h9 ▸ q5.2.1 v List.mem_cons_self) h8
  refine row ad H locs _ _ ls _ j _ q1 q2 q3 hw (fun z h9 => ?_) fun H1 locs1 p1 p2 p3 => ?_
  · obtain ⟨k, -, h8⟩ := xm_in (cA := cA) (ad := ad) (hz z h9 (hv6 z h9))
    exact ⟨k, h8⟩
  · rw [xm_set q2 hj ho (hcell ad)] at p1 p2
    exact (hG _ _).mp kk ad H1 locs1 ls (xm_Sd_put hA ho (fun w hw => List.mem_cons_of_mem _ (List.mem_cons_of_mem _ (List.mem_cons_of_mem _ hw))) (fun y hy k' q' h9 => (hR y k' q' h9).imp id fun h8 => hz q' h8 (hv6 q' h8)) p1 p2 p3)
end XG4
end
section
/-! THE MACHINE KEEPS THE STEPS (5): writing arrays, lengths, tables, new cells -/
theorem xm_kd_ge {c : Nat} (h : (xm_kd c).1 = 6) : 21 ≤ c := by
  apply Classical.byContradiction
  intro h9
  have h8 : c < 21 := by omega
  have key : ∀ c, c < 21 → (xm_kd c).1 ≠ 6 := by decide
  exact key c h8 h
section XG5
variable {p : Program} {l : Launch} {e : Env} {R : Room} {s : State} {m : MethodId} {args : Array Value} {below : List Frame} {meth : Method} {c : Code} {Q : State → Prop}
variable {cc : ByteArray} {nL : Nat} {own : String} {Ts : List Cond} {cA : Nat → ClassId} {D : va_G} {A : Nat → Prop} {tS : Nat → Nat} {ad0 : xm_A} {o0 : List (Nat × Nat)} {G : Nat → xm_S → Prop}
theorem xm_updI {f : Nat → Nat → Nat → Int32} {c0 k i : Nat} {v : Int32} : (fun j => xm_up f c0 k i v c0 j i) = upd (fun j => f c0 j i) k v := by
  funext j
  rw [xm_up_at]
  by_cases h : j = k
  · subst h; rw [if_pos rfl, pk_us]
  · rw [if_neg h, pk_un h]
theorem xm_updL {f : Nat → Nat → Nat → Int64} {c0 k i : Nat} {v : Int64} : (fun j => xm_up f c0 k i v c0 j i) = vp_updL (fun j => f c0 j i) k v := by
  funext j
  rw [xm_up_at]
  by_cases h : j = k
  · subst h; rw [if_pos rfl, pk_uLs]
  · rw [if_neg h, pk_uLn h]
theorem xm_updR {ad : xm_A} {f : Nat → Nat → Nat → Option (Nat × Nat)} {c0 k i : Nat} {v : Option (Nat × Nat)} : (fun j => (xm_up f c0 k i v c0 j i).map ad) = va_up (fun j => (f c0 j i).map ad) k (v.map ad) := by
  funext j
  rw [xm_up_at]
  by_cases h : j = k
  · subst h; rw [if_pos rfl, va_up_self]
  · rw [if_neg h, va_up_ne _ _ h]
theorem sn_iast (hG : xm_IsG p l e R s m args below meth c Q cA D A tS nL ad0 o0 G) {pc n : Nat}
    (row : ∀ (H : Heap) (locs : List Loc) (cells slots : Nat) (ls : Array Slot) (rest : List Value) (q0 : Nat) (ws : va_W) (a N : Nat) (f : Nat → Int32) (x v : Int32), va_P D vwCl ws H → va_D A ws → va_S A s.heap H locs → ws[q0]? = some (a, .inl (cA 1, N, .inl f)) → vp_in x N → (∀ (H1 : Heap) (locs1 : List Loc), va_P D vwCl (ws.set q0 (a, .inl (cA 1, N, .inl (upd f x.toNatClampNeg v)))) H1 → va_D A (ws.set q0 (a, .inl (cA 1, N, .inl (upd f x.toNatClampNeg v)))) → va_S A s.heap H1 locs1 → W p l e R s m args below meth c H1 locs1 cells slots Q (F0 m n ls rest)) → W p l e R s m args below meth c H locs cells slots Q (F0 m pc ls (.int v :: .int x :: .ref a :: rest))) : xm_Snd R G pc (xs_iast n) := by
  refine sn_ast hG (n := n) fun {S pc1 S1} h => ?_
  unfold xs_iast at h
  split at h
  · rename_i v x q r h1
    split at h
    · rename_i hk
      cases h
      refine ⟨q, x, r, _, _, h1, rfl, rfl, (by rw [hk.1]; decide), rfl, fun ad q' hq => xm_wI_cell hq, fun _ _ _ h9 => Or.inl h9, (fun z h9 => by cases h9), fun ad H locs cells slots ls rest q0 ws hP hD hS hw _ k => ?_⟩
      rw [xm_arrI hk.1] at hw
      refine row H locs cells slots ls rest q0 ws _ _ _ x v hP hD hS hw (vp_in_iff.mpr hk.2) ?_
      have e9 : xm_cell cA ad (xm_wI S.2.2.1 q.1 x.toNatClampNeg q.2 v) q = .inl (cA 1, S.2.2.1.2.2.2.1 q.1 q.2, .inl (upd (fun j => S.2.2.1.1 q.1 j q.2) x.toNatClampNeg v)) := by
        rw [xm_arrI hk.1, ← xm_updI]
        rfl
      rw [e9] at k
      exact k
    · cases h
  · cases h
theorem vp_narZ {v : Int32} (h : v = 0 ∨ v = 1) : vp_nar .boolean v = v := by
  rcases h with rfl | rfl <;> rfl
theorem sn_zast (hG : xm_IsG p l e R s m args below meth c Q cA D A tS nL ad0 o0 G) {pc n : Nat}
    (row : ∀ (H : Heap) (locs : List Loc) (cells slots : Nat) (ls : Array Slot) (rest : List Value) (q0 : Nat) (ws : va_W) (a N : Nat) (f : Nat → Int32) (x v : Int32), va_P D vwCl ws H → va_D A ws → va_S A s.heap H locs → ws[q0]? = some (a, .inl (cA 3, N, .inl f)) → vp_in x N → (∀ (H1 : Heap) (locs1 : List Loc), va_P D vwCl (ws.set q0 (a, .inl (cA 3, N, .inl (upd f x.toNatClampNeg (vp_nar .boolean v))))) H1 → va_D A (ws.set q0 (a, .inl (cA 3, N, .inl (upd f x.toNatClampNeg (vp_nar .boolean v))))) → va_S A s.heap H1 locs1 → W p l e R s m args below meth c H1 locs1 cells slots Q (F0 m n ls rest)) → W p l e R s m args below meth c H locs cells slots Q (F0 m pc ls (.int v :: .int x :: .ref a :: rest))) : xm_Snd R G pc (xs_zast n) := by
  refine sn_ast hG (n := n) fun {S pc1 S1} h => ?_
  unfold xs_zast at h
  split at h
  · rename_i v x q r h1
    split at h
    · rename_i hk
      cases h
      refine ⟨q, x, r, _, _, h1, rfl, rfl, (by rw [hk.1]; decide), rfl, fun ad q' hq => xm_wI_cell hq, fun _ _ _ h9 => Or.inl h9, (fun z h9 => by cases h9), fun ad H locs cells slots ls rest q0 ws hP hD hS hw _ k => ?_⟩
      rw [xm_arrZ hk.1] at hw
      refine row H locs cells slots ls rest q0 ws _ _ _ x v hP hD hS hw (vp_in_iff.mpr hk.2.2) ?_
      have e9 : xm_cell cA ad (xm_wI S.2.2.1 q.1 x.toNatClampNeg q.2 v) q = .inl (cA 3, S.2.2.1.2.2.2.1 q.1 q.2, .inl (upd (fun j => S.2.2.1.1 q.1 j q.2) x.toNatClampNeg v)) := by
        rw [xm_arrZ hk.1, ← xm_updI]
        rfl
      rw [e9] at k
      rw [vp_narZ hk.2.1]
      exact k
    · cases h
  · cases h
theorem sn_last (hG : xm_IsG p l e R s m args below meth c Q cA D A tS nL ad0 o0 G) {pc n : Nat}
    (row : ∀ (H : Heap) (locs : List Loc) (cells slots : Nat) (ls : Array Slot) (rest : List Value) (q0 : Nat) (ws : va_W) (a N : Nat) (f : Nat → Int64) (x : Int32) (v : Int64), va_P D vwCl ws H → va_D A ws → va_S A s.heap H locs → ws[q0]? = some (a, .inl (cA 2, N, .inr (.inl f))) → vp_in x N → (∀ (H1 : Heap) (locs1 : List Loc), va_P D vwCl (ws.set q0 (a, .inl (cA 2, N, .inr (.inl (vp_updL f x.toNatClampNeg v))))) H1 → va_D A (ws.set q0 (a, .inl (cA 2, N, .inr (.inl (vp_updL f x.toNatClampNeg v))))) → va_S A s.heap H1 locs1 → W p l e R s m args below meth c H1 locs1 cells slots Q (F0 m n ls rest)) → W p l e R s m args below meth c H locs cells slots Q (F0 m pc ls (.long v :: .int x :: .ref a :: rest))) : xm_Snd R G pc (xs_last n) := by
  refine sn_ast hG (n := n) fun {S pc1 S1} h => ?_
  unfold xs_last at h
  split at h
  · rename_i v x q r h1
    split at h
    · rename_i hk
      cases h
      refine ⟨q, x, r, _, _, h1, rfl, rfl, (by rw [hk.1]; decide), rfl, fun ad q' hq => xm_wL_cell hq, fun _ _ _ h9 => Or.inl h9, (fun z h9 => by cases h9), fun ad H locs cells slots ls rest q0 ws hP hD hS hw _ k => ?_⟩
      rw [xm_arrL hk.1] at hw
      refine row H locs cells slots ls rest q0 ws _ _ _ x v hP hD hS hw (vp_in_iff.mpr hk.2) ?_
      have e9 : xm_cell cA ad (xm_wL S.2.2.1 q.1 x.toNatClampNeg q.2 v) q = .inl (cA 2, S.2.2.1.2.2.2.1 q.1 q.2, .inr (.inl (vp_updL (fun j => S.2.2.1.2.1 q.1 j q.2) x.toNatClampNeg v))) := by
        rw [xm_arrL hk.1, ← xm_updL]
        rfl
      rw [e9] at k
      exact k
    · cases h
  · cases h
theorem sn_aast (hG : xm_IsG p l e R s m args below meth c Q cA D A tS nL ad0 o0 G) {pc n a0 t ci : Nat} {ts : List Nat} (ha : a0 = 4 ∨ a0 = 5) (hkt : xm_kd t = (0, ci, ts))
    (row : ∀ (H : Heap) (locs : List Loc) (cells slots : Nat) (ls : Array Slot) (rest : List Value) (q0 qk : Nat) (ws : va_W) (a N v : Nat) (vs : List Value) (f : Nat → Option Nat) (x : Int32), va_P D vwCl ws H → va_D A ws → va_S A s.heap H locs → ws[q0]? = some (a, .inl (cA a0, N, .inr (.inr (.inr (.inr f))))) → ws[qk]? = some (v, .inr (ci, vs)) → vp_in x N → (∀ (H1 : Heap) (locs1 : List Loc), va_P D vwCl (ws.set q0 (a, .inl (cA a0, N, .inr (.inr (.inr (.inr (va_up f x.toNatClampNeg (some v)))))))) H1 → va_D A (ws.set q0 (a, .inl (cA a0, N, .inr (.inr (.inr (.inr (va_up f x.toNatClampNeg (some v)))))))) → va_S A s.heap H1 locs1 → W p l e R s m args below meth c H1 locs1 cells slots Q (F0 m n ls rest)) → W p l e R s m args below meth c H locs cells slots Q (F0 m pc ls (.ref v :: .int x :: .ref a :: rest))) : xm_Snd R G pc (xs_aast n a0 t) := by
  refine sn_ast hG (n := n) fun {S pc1 S1} h => ?_
  unfold xs_aast at h
  split at h
  · rename_i z x q r h1
    split at h
    · rename_i hk
      cases h
      obtain ⟨z1, z2⟩ := z
      obtain ⟨hk1, hk2, hk3⟩ := hk
      dsimp only at hk2
      subst hk2
      refine ⟨q, x, r, _, _, h1, rfl, rfl, (by rw [hk1]; omega), rfl, fun ad q' hq => xm_wR_cell hq, fun y k' q' h9 => ?_, (fun z h9 => by cases h9; show (xm_kd z1).1 ≠ 6; rw [hkt]; show (0 : Nat) ≠ 6; decide), fun ad H locs cells slots ls rest q0 ws hP hD hS hw hz k => ?_⟩
      · have h8 : xm_up S.2.2.1.2.2.1 q.1 x.toNatClampNeg q.2 (some (z1, z2)) y.1 k' y.2 = some q' := h9
        by_cases e1 : y.1 = q.1 ∧ y.2 = q.2
        · by_cases e2 : k' = x.toNatClampNeg
          · rw [e1.1, e1.2, e2, xm_up_s] at h8
            cases h8
            exact Or.inr rfl
          · rw [xm_up_k e2] at h8
            exact Or.inl h8
        · rw [xm_up_o e1] at h8
          exact Or.inl h8
      · rw [xm_arrR hk1 ha] at hw
        obtain ⟨qk, hqk⟩ := hz (z1, z2) rfl
        rw [xm_obj (q := (z1, z2)) hkt] at hqk
        refine row H locs cells slots ls rest q0 qk ws _ _ _ _ _ x hP hD hS hw hqk (vp_in_iff.mpr hk3) ?_
        have e9 : xm_cell cA ad (xm_wR S.2.2.1 q.1 x.toNatClampNeg q.2 (some (z1, z2))) q = .inl (cA a0, S.2.2.1.2.2.2.1 q.1 q.2, .inr (.inr (.inr (.inr (va_up (fun j => (S.2.2.1.2.2.1 q.1 j q.2).map ad) x.toNatClampNeg (some (ad (z1, z2)))))))) := by
          rw [xm_arrR hk1 ha, show some (ad (z1, z2)) = (some (z1, z2)).map ad from rfl, ← xm_updR]
          rfl
        rw [e9] at k
        exact k
    · cases h
  · cases h
theorem sn_alen (hG : xm_IsG p l e R s m args below meth c Q cA D A tS nL ad0 o0 G) (hC : xm_Cx p s m args c cc nL own Ts cA D A tS) {pc n : Nat}
    (row : ∀ (H : Heap) (locs : List Loc) (cells slots : Nat) (ls : Array Slot) (rest : List Value) (q0 t : Nat) (ws : va_W) (a N : Nat) (z : (Nat → Int32) ⊕ (Nat → Int64) ⊕ (Nat → UInt32) ⊕ (Nat → UInt64) ⊕ (Nat → Option Nat)), va_P D vwCl ws H → ws[q0]? = some (a, .inl (cA t, N, z)) → 1 ≤ t → t ≤ 5 → W p l e R s m args below meth c H locs cells slots Q (F0 m n ls (.int (Int32.ofNat N) :: rest)) → W p l e R s m args below meth c H locs cells slots Q (F0 m pc ls (.ref a :: rest)))
    (rowT : ∀ (H : Heap) (locs : List Loc) (cells slots : Nat) (ls : Array Slot) (rest : List Value) (t k : Nat), xm_Tb t k A s s.heap → va_S A s.heap H locs → W p l e R s m args below meth c H locs cells slots Q (F0 m n ls (.int 7 :: rest)) → W p l e R s m args below meth c H locs cells slots Q (F0 m pc ls (.ref t :: rest))) : xm_Snd R G pc (xs_alen n) := by
  intro S pc1 S1 h
  unfold xs_alen at h
  split at h
  · rename_i q r h1
    obtain ⟨lv, st, M, kc, ks⟩ := S
    dsimp only at h1 h
    subst h1
    split at h
    · cases h
    · rename_i hk
      split at h
      case isFalse => cases h
      rename_i hq9
      cases h
      obtain ⟨k, hk3, rfl⟩ : ∃ k, k < 3 ∧ q = (21 + k, 0) := by
        have h21 := xm_kd_ge hk
        exact ⟨q.1 - 21, by omega, Prod.ext (by show q.1 = 21 + (q.1 - 21); omega) hq9.1⟩
      refine ⟨⟨Nat.le_refl _, Nat.le_refl _⟩, fun _ _ kk => (hG _ _).mpr fun ad H locs ls hA => ?_⟩
      obtain ⟨q1, q2, q3, q4, q5, q6, q7⟩ := id hA
      have e9 : (List.map (xm_rv ad) (.inr (.inr (some (21 + k, 0))) :: r)) = .ref (tS k) :: r.map (xm_rv ad) := by
        rw [List.map_cons, ← q6.k k]; rfl
      rw [e9]
      refine rowT H locs _ _ ls _ (tS k) k (hC.2.2.2.2.2.2.2.1 k hk3).2 q3 ((hG _ _).mp kk ad H locs ls ⟨q1, q2, q3, q4, ⟨q5.1, fun w hw => ?_, q5.2.2⟩, q6, q7⟩)
      rcases List.mem_cons.mp hw with rfl | hw
      · trivial
      · exact q5.2.1 w (List.mem_cons_of_mem _ hw)
    · rename_i t h0 h6
      cases h
      refine ⟨⟨Nat.le_refl _, Nat.le_refl _⟩, fun _ _ kk => (hG _ _).mpr fun ad H locs ls hA => ?_⟩
      obtain ⟨q1, q2, q3, q4, q5, q6, q7⟩ := id hA
      have hq : q ∈ xm_o M := xm_q (q5.2.1 _ List.mem_cons_self) h6
      obtain ⟨j, hj, hw⟩ := xm_in (cA := cA) (ad := ad) hq
      obtain ⟨z, hz1, hz2, hz3⟩ := xm_arr (cA := cA) (ad := ad) (M := M) (q := q) rfl h0 h6
      rw [hz1] at hw
      refine row H locs _ _ ls _ j _ _ (ad q) _ z q1 hw hz2 hz3 ((hG _ _).mp kk ad H locs ls ⟨q1, q2, q3, q4, ⟨q5.1, fun w hw => ?_, q5.2.2⟩, q6, q7⟩)
      rcases List.mem_cons.mp hw with rfl | hw
      · trivial
      · exact q5.2.1 w (List.mem_cons_of_mem _ hw)
  · cases h
theorem sn_gst (hG : xm_IsG p l e R s m args below meth c Q cA D A tS nL ad0 o0 G) (hC : xm_Cx p s m args c cc nL own Ts cA D A tS) {pc n k : Nat} (hk : k < 3)
    (row : ∀ (H : Heap) (locs : List Loc) (cells slots : Nat) (ls : Array Slot) (rest : List Value) (t : Nat), va_Z RX2 (xm_nm k) "[I" (.ref t) A s s.heap → va_S A s.heap H locs → W p l e R s m args below meth c H locs cells slots Q (F0 m n ls (.ref t :: rest)) → W p l e R s m args below meth c H locs cells slots Q (F0 m pc ls rest)) : xm_Snd R G pc (xs_gst n k) := by
  intro S pc1 S1 h
  cases h
  refine ⟨⟨Nat.le_refl _, Nat.le_refl _⟩, fun _ _ kk => (hG _ _).mpr fun ad H locs ls hA => ?_⟩
  obtain ⟨q1, q2, q3, q4, q5, q6, q7⟩ := id hA
  refine row H locs _ _ ls _ (tS k) (hC.2.2.2.2.2.2.2.1 k hk).1 q3 ?_
  rw [← q6.k k]
  refine (hG _ _).mp kk ad H locs ls ⟨q1, q2, q3, q4, ⟨q5.1, fun w hw => ?_, q5.2.2⟩, q6, q7⟩
  rcases List.mem_cons.mp hw with rfl | hw
  · exact Or.inr (Nat.le_add_right 21 k)
  · exact q5.2.1 w hw
theorem sn_tald (hG : xm_IsG p l e R s m args below meth c Q cA D A tS nL ad0 o0 G) (hC : xm_Cx p s m args c cc nL own Ts cA D A tS) {pc n k : Nat} (hk : k < 3)
    (row : ∀ (H : Heap) (locs : List Loc) (cells slots : Nat) (ls : Array Slot) (rest : List Value) (t : Nat) (x : Int32), xm_Tb t k A s s.heap → va_S A s.heap H locs → vp_in x 7 → W p l e R s m args below meth c H locs cells slots Q (F0 m n ls (.int (xm_tb k x.toNatClampNeg) :: rest)) → W p l e R s m args below meth c H locs cells slots Q (F0 m pc ls (.int x :: .ref t :: rest))) : xm_Snd R G pc (xs_tald n k) := by
  intro S pc1 S1 h
  unfold xs_tald at h
  split at h
  · rename_i x q r h1
    split at h
    · rename_i h2
      obtain ⟨rfl, hin⟩ := h2
      obtain ⟨lv, st, M, kc, ks⟩ := S
      dsimp only at h1 h
      subst h1
      cases h
      refine ⟨⟨Nat.le_refl _, Nat.le_refl _⟩, fun _ _ kk => (hG _ _).mpr fun ad H locs ls hA => ?_⟩
      obtain ⟨q1, q2, q3, q4, q5, q6, q7⟩ := id hA
      have e9 : (List.map (xm_rv ad) (.inl x :: .inr (.inr (some (21 + k, 0))) :: r)) = .int x :: .ref (tS k) :: r.map (xm_rv ad) := by
        rw [List.map_cons, List.map_cons, ← q6.k k]; rfl
      rw [e9]
      refine row H locs _ _ ls _ (tS k) x (hC.2.2.2.2.2.2.2.1 k hk).2 q3 (vp_in_iff.mpr hin) ((hG _ _).mp kk ad H locs ls ⟨q1, q2, q3, q4, ⟨q5.1, fun w hw => ?_, q5.2.2⟩, q6, q7⟩)
      rcases List.mem_cons.mp hw with rfl | hw
      · trivial
      · exact q5.2.1 w (List.mem_cons_of_mem _ (List.mem_cons_of_mem _ hw))
    · cases h
  · cases h
end XG5
end
section
/-! THE MACHINE KEEPS THE STEPS (6): new cells -/
def xm_df (t : Nat) : Value := match t with
  | 1 => .long 0
  | 2 => .null
  | _ => .int 0
def xm_ad (ad : xm_A) (z : Nat × Nat) (a : Nat) : xm_A := fun q => if q = z then a else ad q
theorem xm_ad_ne {ad : xm_A} {z q : Nat × Nat} {a : Nat} (h : q ≠ z) : xm_ad ad z a q = ad q := if_neg h
theorem xm_nin {q z : Nat × Nat} {o : List (Nat × Nat)} (hz : z ∉ o) (hq : q ∈ o) : q ≠ z := fun e9 => hz (e9 ▸ hq)
theorem xm_fv_i {ad : xm_A} {M : xm_M} {q : Nat × Nat} {k t : Nat} (h1 : t ≠ 1) (h2 : t ≠ 2) : xm_fv ad M q k t = .int (M.1 q.1 k q.2) := by
  unfold xm_fv
  split
  · exact absurd rfl h1
  · exact absurd rfl h2
  · rfl
theorem xm_df_i {t : Nat} (h1 : t ≠ 1) (h2 : t ≠ 2) : xm_df t = .int 0 := by
  unfold xm_df
  split
  · exact absurd rfl h1
  · exact absurd rfl h2
  · rfl
theorem xm_ad_s {ad : xm_A} {z : Nat × Nat} {a : Nat} : xm_ad ad z a z = a := if_pos rfl
theorem xm_rv_ad {ad : xm_A} {M : xm_M} {z : Nat × Nat} {a : Nat} {v : xm_V} (hz : z ∉ xm_o M) (hc : z.1 < 21) (hv : xm_vok M v) : xm_rv (xm_ad ad z a) v = xm_rv ad v := by
  rcases v with x | x | r
  · rfl
  · rfl
  · cases r with
    | none => rfl
    | some q =>
      have hne : q ≠ z := by
        intro e9
        subst e9
        rcases hv with h | h
        · exact hz h
        · exact absurd hc (Nat.not_lt.mpr h)
      show va_rf (some (xm_ad ad z a q)) = va_rf (some (ad q))
      rw [xm_ad_ne hne]
theorem xm_rv_map {ad : xm_A} {M : xm_M} {z : Nat × Nat} {a : Nat} {st : List xm_V} (hz : z ∉ xm_o M) (hc : z.1 < 21) (hv : ∀ v ∈ st, xm_vok M v) : st.map (xm_rv (xm_ad ad z a)) = st.map (xm_rv ad) :=
  List.map_congr_left fun v h => xm_rv_ad hz hc (hv v h)
section XG6
variable {p : Program} {l : Launch} {e : Env} {R : Room} {s : State} {m : MethodId} {args : Array Value} {below : List Frame} {meth : Method} {c : Code} {Q : State → Prop}
variable {cc : ByteArray} {nL : Nat} {own : String} {Ts : List Cond} {cA : Nat → ClassId} {D : va_G} {A : Nat → Prop} {tS : Nat → Nat} {ad0 : xm_A} {o0 : List (Nat × Nat)} {G : Nat → xm_S → Prop}
/-- the world behind a new cell -/
theorem xm_ws_new {ad : xm_A} {M : xm_M} {c0 N a : Nat} {E : va_E} (hz : (c0, xm_cnt c0 (xm_o M)) ∉ xm_o M) (hR : ∀ q ∈ xm_o M, ∀ k q', M.2.2.1 q.1 k q.2 = some q' → q' ∈ xm_o M)
    (hE : xm_cell cA (xm_ad ad (c0, xm_cnt c0 (xm_o M)) a) (xm_nw M c0 N) (c0, xm_cnt c0 (xm_o M)) = E) : xm_ws cA (xm_ad ad (c0, xm_cnt c0 (xm_o M)) a) (xm_nw M c0 N) = xm_ws cA ad M ++ [(a, E)] := by
  unfold xm_ws
  show List.map _ (xm_o M ++ [(c0, xm_cnt c0 (xm_o M))]) = _
  rw [List.map_append]
  congr 1
  · refine List.map_congr_left fun q hq => ?_
    have hne : q ≠ (c0, xm_cnt c0 (xm_o M)) := fun e9 => hz (e9 ▸ hq)
    have hn : ¬ (q.1 = c0 ∧ q.2 = xm_cnt c0 (xm_o M)) := xm_ne hne
    rw [xm_ad_ne hne]
    congr 1
    refine xm_cell_congr (fun j => if_neg hn) (fun j => if_neg hn) (fun j => ?_) (if_neg hn)
    show Option.map _ (if q.1 = c0 ∧ q.2 = xm_cnt c0 (xm_o M) then none else M.2.2.1 q.1 j q.2) = _
    rw [if_neg hn]
    cases h9 : M.2.2.1 q.1 j q.2 with
    | none => rfl
    | some q' =>
      show some (xm_ad ad _ a q') = some (ad q')
      rw [xm_ad_ne (xm_nin hz (hR q hq j q' h9))]
  · show [(xm_ad ad _ a _, _)] = _
    rw [xm_ad_s, hE]
theorem xm_Sd_new {ad : xm_A} {H H1 : Heap} {locs : List Loc} {ls : Array Slot} {lv : xm_L} {st st' : List xm_V} {M : xm_M} {c0 N a : Nat} {E : va_E} (hA : xm_Sd s cA D A tS nL ad0 o0 ad H locs ls lv st M) (hst : ∀ v ∈ st', v ∈ st) (hz : (c0, xm_cnt c0 (xm_o M)) ∉ xm_o M) (hc : c0 < 21)
    (hE : xm_cell cA (xm_ad ad (c0, xm_cnt c0 (xm_o M)) a) (xm_nw M c0 N) (c0, xm_cnt c0 (xm_o M)) = E) (p1 : va_P D vwCl (xm_ws cA ad M ++ [(a, E)]) H1) (p2 : va_D A (xm_ws cA ad M ++ [(a, E)])) (p3 : va_S A s.heap H1 locs) :
    xm_Sd s cA D A tS nL ad0 o0 (xm_ad ad (c0, xm_cnt c0 (xm_o M)) a) H1 locs ls lv (.inr (.inr (some (c0, xm_cnt c0 (xm_o M)))) :: st') (xm_nw M c0 N) := by
  obtain ⟨q1, q2, q3, q4, q5, q6, q7⟩ := hA
  rw [← xm_ws_new hz q5.2.2 hE] at p1 p2
  have hin : ∀ q, q ∈ xm_o M → q ∈ xm_o (xm_nw M c0 N) := fun q h => List.mem_append_left _ h
  have hvo : ∀ v, xm_vok M v → xm_vok (xm_nw M c0 N) v := fun v hv => by
    unfold xm_vok at hv ⊢
    split
    · exact hv.imp (hin _) id
    · trivial
  refine ⟨p1, p2, p3, ?_, ⟨fun x hx => hvo _ (q5.1 x hx), fun v hv => ?_, fun q hq k q' h => ?_⟩, fun q hq => ?_, fun q hq => ?_⟩
  · rw [show lv.map (fun q => (q.1, xm_rv (xm_ad ad (c0, xm_cnt c0 (xm_o M)) a) q.2)) = lv.map (fun q => (q.1, xm_rv ad q.2)) from List.map_congr_left fun x hx => by rw [xm_rv_ad hz hc (q5.1 x hx)]]
    exact q4
  · rcases List.mem_cons.mp hv with rfl | hv
    · exact Or.inl (List.mem_append_right _ List.mem_cons_self)
    · exact hvo _ (q5.2.1 v (hst v hv))
  · have h8 : (if q.1 = c0 ∧ q.2 = xm_cnt c0 (xm_o M) then none else M.2.2.1 q.1 k q.2) = some q' := h
    split at h8
    · cases h8
    · rename_i hn
      have hq9 : q ∈ xm_o M := by
        rcases List.mem_append.mp hq with h9 | h9
        · exact h9
        · rw [List.mem_singleton.mp h9] at hn
          exact absurd ⟨rfl, rfl⟩ hn
      exact hin _ (q5.2.2 q hq9 k q' h8)
  · rw [xm_ad_ne (fun e9 => by rw [e9] at hq; dsimp only at hq; omega)]
    exact q6 q hq
  · obtain ⟨h8, h9⟩ := q7 q hq
    exact ⟨by rw [xm_ad_ne (xm_nin hz h9)]; exact h8, hin _ h9⟩
theorem sn_new (hG : xm_IsG p l e R s m args below meth c Q cA D A tS nL ad0 o0 G) {pc n c0 ci : Nat} {ts : List Nat} (hk : xm_kd c0 = (0, ci, ts)) (hc : c0 < 21)
    (row : ∀ (H : Heap) (locs : List Loc) (cells slots : Nat) (ls : Array Slot) (rest : List Value) (ws : va_W), va_P D vwCl ws H → va_D A ws → va_S A s.heap H locs → cells + 1 ≤ R.cells → slots + ts.length ≤ R.slots → (∀ (q : Nat) (H1 : Heap), va_P D vwCl (ws ++ [(q, .inr (ci, ts.map xm_df))]) H1 → va_D A (ws ++ [(q, .inr (ci, ts.map xm_df))]) → va_S A s.heap H1 locs → W p l e R s m args below meth c H1 locs (cells + 1) (slots + ts.length) Q (F0 m n ls (.ref q :: rest))) → W p l e R s m args below meth c H locs cells slots Q (F0 m pc ls rest)) : xm_Snd R G pc (xs_new n c0) := by
  intro S pc1 S1 h
  unfold xs_new at h
  split at h
  · cases h
  · rename_i hz
    obtain ⟨lv, st, M, kc, ks⟩ := S
    dsimp only at h hz
    rw [hk] at h
    cases h
    refine ⟨⟨Nat.le_succ _, Nat.le_add_right _ _⟩, fun h1 h2 kk => (hG _ _).mpr fun ad H locs ls hA => ?_⟩
    refine row H locs _ _ ls _ _ hA.1 hA.2.1 hA.2.2.1 h1 h2 fun a H1 p1 p2 p3 => ?_
    have hE : xm_cell cA (xm_ad ad (c0, xm_cnt c0 (xm_o M)) a) (xm_nw M c0 0) (c0, xm_cnt c0 (xm_o M)) = .inr (ci, ts.map xm_df) := by
      rw [xm_obj (q := (c0, xm_cnt c0 (xm_o M))) hk]
      congr 2
      apply List.ext_getElem?
      intro j
      rw [List.getElem?_mapIdx, List.getElem?_map]
      cases ts[j]? with
      | none => rfl
      | some t =>
        show some (xm_fv _ _ _ j t) = some (xm_df t)
        congr 1
        rcases (show t = 1 ∨ t = 2 ∨ (t ≠ 1 ∧ t ≠ 2) by omega) with rfl | rfl | ⟨h8, h9⟩
        · show Value.long (if c0 = c0 ∧ xm_cnt c0 (xm_o M) = xm_cnt c0 (xm_o M) then 0 else _) = Value.long 0
          rw [if_pos ⟨rfl, rfl⟩]
        · show va_rf (Option.map _ (if c0 = c0 ∧ xm_cnt c0 (xm_o M) = xm_cnt c0 (xm_o M) then none else _)) = Value.null
          rw [if_pos ⟨rfl, rfl⟩]
          rfl
        · rw [xm_fv_i h8 h9, xm_df_i h8 h9]
          show Value.int (if c0 = c0 ∧ xm_cnt c0 (xm_o M) = xm_cnt c0 (xm_o M) then 0 else _) = Value.int 0
          rw [if_pos ⟨rfl, rfl⟩]
    have := (hG _ _).mp kk _ H1 locs ls (xm_Sd_new hA (fun v hv => hv) hz hc hE p1 p2 p3)
    dsimp only at this
    rw [List.map_cons, xm_rv_map hz hc hA.2.2.2.2.1.2.1] at this
    have e9 : xm_rv (xm_ad ad (c0, xm_cnt c0 (xm_o M)) a) (.inr (.inr (some (c0, xm_cnt c0 (xm_o M))))) = .ref a := by
      show va_rf (some (xm_ad ad _ a _)) = _
      rw [xm_ad_s]
      rfl
    rw [e9] at this
    exact this
/-- an array's cell just made -/
theorem sn_newa (hG : xm_IsG p l e R s m args below meth c Q cA D A tS nL ad0 o0 G) {pc n c0 t : Nat} (hk : (xm_kd c0).1 = t) (hc : c0 < 21) {z : (Nat → Int32) ⊕ (Nat → Int64) ⊕ (Nat → UInt32) ⊕ (Nat → UInt64) ⊕ (Nat → Option Nat)}
    (hE : ∀ (ad : xm_A) (M : xm_M) (N : Nat), xm_cell cA ad (xm_nw M c0 N) (c0, xm_cnt c0 (xm_o M)) = .inl (cA t, N, z))
    (row : ∀ (H : Heap) (locs : List Loc) (cells slots : Nat) (ls : Array Slot) (rest : List Value) (ws : va_W) (x : Int32) (N : Nat), va_P D vwCl ws H → va_D A ws → va_S A s.heap H locs → x.toNatClampNeg = N → ¬ x < 0 → N ≤ 1000 → cells + 1 ≤ R.cells → slots + N ≤ R.slots → (∀ (q : Nat) (H1 : Heap), va_P D vwCl (ws ++ [(q, .inl (cA t, N, z))]) H1 → va_D A (ws ++ [(q, .inl (cA t, N, z))]) → va_S A s.heap H1 locs → W p l e R s m args below meth c H1 locs (cells + 1) (slots + N) Q (F0 m n ls (.ref q :: rest))) → W p l e R s m args below meth c H locs cells slots Q (F0 m pc ls (.int x :: rest))) : xm_Snd R G pc (xs_newa n c0) := by
  intro S pc1 S1 h
  unfold xs_newa at h
  split at h
  · rename_i x r h0
    split at h
    · cases h
    · rename_i hz
      split at h
      · rename_i hx
        obtain ⟨lv, st, M, kc, ks⟩ := S
        dsimp only at h hz h0
        subst h0
        cases h
        have hN : ¬ x < 0 := by
          rw [Int32.lt_iff_toInt_lt, Int32.toInt_zero]; omega
        have hN2 : x.toNatClampNeg ≤ 1000 := by
          rw [Int32.toNatClampNeg]; omega
        refine ⟨⟨Nat.le_succ _, Nat.le_add_right _ _⟩, fun h1 h2 kk => (hG _ _).mpr fun ad H locs ls hA => ?_⟩
        refine row H locs _ _ ls _ _ x _ hA.1 hA.2.1 hA.2.2.1 rfl hN hN2 h1 h2 fun a H1 p1 p2 p3 => ?_
        have := (hG _ _).mp kk _ H1 locs ls (xm_Sd_new hA (fun v hv => List.mem_cons_of_mem _ hv) hz hc (hE _ _ _) p1 p2 p3)
        dsimp only at this
        rw [List.map_cons, xm_rv_map hz hc (fun v hv => hA.2.2.2.2.1.2.1 v (List.mem_cons_of_mem _ hv))] at this
        have e9 : xm_rv (xm_ad ad (c0, xm_cnt c0 (xm_o M)) a) (.inr (.inr (some (c0, xm_cnt c0 (xm_o M))))) = .ref a := by
          show va_rf (some (xm_ad ad _ a _)) = _
          rw [xm_ad_s]
          rfl
        rw [e9] at this
        exact this
      · cases h
  · cases h
end XG6
end
section
/-! CALLS, and the whole: what the calculus says of a method, the machine does -/
def xm_W : List Cond := lw_tbl.filter goodWord
theorem xm_W_good {w : Cond} (h : w ∈ xm_W) : (w.onTables && w.keeps) = true ∨ ∃ ty, w = .arrayClass ty := good_of_word (List.mem_filter.mp h).2
theorem xm_W_of {w : Cond} (h : w ∈ lw_tbl) (hg : goodWord w = true) : w ∈ xm_W := List.mem_filter.mpr ⟨h, hg⟩
def xm_room (d mc ms : Nat) : Room := { frames := d, cells := mc, slots := ms, locals := 40 * d }
def xm_Pc (cA : Nat → ClassId) (D : va_G) (tS : Nat → Nat) (ad : xm_A) (M : xm_M) (as : List xm_V) (sz : Nat) : Array Value → State → Prop :=
  va_Pc (as.map (xm_rv ad)) (fun U => U.heap.size = sz ∧ va_P D vwCl (xm_ws cA ad M) U.heap ∧ va_K D vwCl (xm_tys cA) U ∧ va_D (fun _ => True) (xm_ws cA ad M) ∧ xm_Sx tS (va_A (xm_ws cA ad M) sz) U U.heap)
def xm_Qc (cA : Nat → ClassId) (D : va_G) (tS : Nat → Nat) (ad : xm_A) (M : xm_M) (sz : Nat) (v : Option xm_V) (M' : xm_M) : Array Value → State → Outcome → State → Prop := fun _ st oc t =>
  (∃ ad' : xm_A, oc = .returned (v.map (xm_rv ad')) ∧ va_P D vwCl (xm_ws cA ad' M') t.heap ∧ va_D (va_A (xm_ws cA ad M) sz) (xm_ws cA ad' M') ∧ (∀ q ∈ xm_o M, ad' q = ad q ∧ q ∈ xm_o M') ∧ xm_St ad' tS ∧ xm_Ok M' [] v.toList) ∧ va_F (va_A (xm_ws cA ad M) sz) st t
theorem xm_Pc_blind {cA : Nat → ClassId} {D : va_G} {tS : Nat → Nat} {ad : xm_A} {M : xm_M} {as : List xm_V} {sz : Nat} : FrameBlind (xm_Pc cA D tS ad M as sz) := by
  intro a U g mk h
  obtain ⟨h1, h2, h3, h4, h5, h6⟩ := h
  exact ⟨h1, h2, h3, va_K.moved (u := U) (U := U.calling g mk a) (Vm.Alike.refl U.vm) h4, h5, xm_Sx.moved (u := U) (U := U.calling g mk a) (Vm.Alike.refl U.vm) h6⟩
section XC
variable {p : Program} {l : Launch} {e : Env} {R : Room} {s : State} {m : MethodId} {args : Array Value} {below : List Frame} {meth : Method} {c : Code} {Q : State → Prop}
variable {cc : ByteArray} {nL : Nat} {own : String} {Ts : List Cond} {cA : Nat → ClassId} {D : va_G} {A : Nat → Prop} {tS : Nat → Nat} {ad0 : xm_A} {o0 : List (Nat × Nat)} {G : Nat → xm_S → Prop}
/-- what a call's row gives: any contract of the callee runs here. C: the receiver's class -/
def xm_Call (p : Program) (l : Launch) (e : Env) (R : Room) (s : State) (m : MethodId) (args : Array Value) (below : List Frame) (meth : Method) (c : Code) (nL pc : Nat) (y : MethodName) (wsy : List Cond) (maxL k : Nat) (C : Option String) : Prop :=
  ∀ (rm : Room) (Pc : Array Value → State → Prop) (Qc : Array Value → State → Outcome → State → Prop) (mc ms : Nat) (free : Addr → Prop) (H : Heap) (locs : List Loc) (cells slots : Nat) (ls : Array Slot) (As rest : List Value), Met l y wsy rm Pc Qc mc ms free → rm.cells = mc → rm.slots = ms → rm.frames + 1 ≤ R.frames → 8 + (maxL + 11) + rm.locals ≤ R.locals → FrameBlind Pc →
    (∀ C0, C = some C0 → ∃ b As', As = .ref b :: As' ∧ ∃ cellB : Cell, H[b]? = some cellB ∧ cellB.vm.isStatics = false ∧ s.vm.findClass C0 = some cellB.cls) → (∀ U : State, U.heap = H → s.WarmedH U.vm → Pc As.toArray U) → As.length = k → (rest.map fun v => v.category).sum ≤ 8 → ls.size = nL → cells + mc ≤ R.cells ∧ slots + ms ≤ R.slots →
    va_Run p l e R s m args below meth c H locs cells slots mc ms (F0 m pc ls (As.reverse ++ rest)) rest (Qc As.toArray) free
theorem xm_goodIn {y z : MethodName} {b b' : ByteArray} {n n' : Nat} {r r' : Option FieldType} {us : List Cond} (hz : Cond.code z b' n' r' ∈ xm_W) (hu : ∀ w ∈ us, w ∈ xm_W) : GoodIn (Cond.code y b n r :: xm_W) (us ++ (Cond.code z b' n' r' :: xm_W)) := by
  intro w hw
  have h9 : w ∈ xm_W := by
    rcases List.mem_append.mp hw with h | h
    · exact hu w h
    · rcases List.mem_cons.mp h with rfl | h
      · exact hz
      · exact h
  exact ⟨List.mem_cons_of_mem _ h9, xm_W_good h9⟩
theorem xm_callV {x y : MethodName} {bx by' : ByteArray} {nx ny k pc index : Nat} {rx ry : Option FieldType} {C : String} (S : CallFix p m c cc nL s args (Cond.code x bx nx rx :: xm_W) own) (w1 : Cond.methodLink own index y ∈ xm_W) (w2 : Cond.instanceMethod y ∈ xm_W) (w3 : Cond.selects C y y ∈ xm_W) (w4 : Cond.initialized C ∈ xm_W) (w5 : Cond.code y by' ny ry ∈ xm_W)
    (hd : y.cls = C ∧ y.cls ≠ "java/lang/invoke/MethodHandle" ∧ y.cls ≠ "java/lang/invoke/VarHandle" ∧ (parseMethodDescriptor y.desc).map (fun d => d.parameters.length) = some k) (hdg : decode cc pc = .ok (.invokevirtual index, 3)) : xm_Call p l e R s m args below meth c nL pc y (Cond.code y by' ny ry :: xm_W) ny (k + 1) (some C) := by
  intro rm Pc Qc mc ms free H locs cells slots ls As rest hM h1 h2 h3 h4 hbl hrecv hpre hlen hcat hsz hf
  obtain ⟨b, As', rfl, hc⟩ := hrecv C rfl
  have hg : GoodIn (Cond.code x bx nx rx :: xm_W) (wsV own index C y (Cond.code y by' ny ry :: xm_W)) := xm_goodIn w5 (fun w hw => by
    simp only [List.mem_cons, List.not_mem_nil, or_false] at hw
    rcases hw with rfl | rfl | rfl | rfl
    · exact w1
    · exact w2
    · exact w3
    · exact w4)
  have := va_runV (As := As') (rest := rest) (g := F0 m pc ls (As'.reverse ++ .ref b :: rest)) (H := H) (e := e) (R := R) (below := below) (meth := meth) (locs := locs) (cells := cells) (slots := slots) S hM (cwV k S.2.2.2.2 hg rfl h1 h2 hd ⟨h3, h4⟩) ⟨hbl, hc, hpre⟩ rfl (by simpa using hlen) hsz rfl (lv_room hcat) hdg hf
  rw [List.reverse_cons, List.append_assoc]
  exact this
theorem xm_callS {x y : MethodName} {bx by' : ByteArray} {nx ny k pc index : Nat} {rx ry : Option FieldType} (S : CallFix p m c cc nL s args (Cond.code x bx nx rx :: xm_W) own) (w1 : Cond.methodLink own index y ∈ xm_W) (w2 : Cond.static y ∈ xm_W) (w4 : Cond.initialized y.cls ∈ xm_W) (w5 : Cond.code y by' ny ry ∈ xm_W)
    (hd : y.cls ≠ "java/lang/invoke/MethodHandle" ∧ y.cls ≠ "java/lang/invoke/VarHandle" ∧ (parseMethodDescriptor y.desc).map (fun d => d.parameters.length) = some k) (hdg : decode cc pc = .ok (.invokestatic index, 3)) : xm_Call p l e R s m args below meth c nL pc y (Cond.code y by' ny ry :: xm_W) ny k none := by
  intro rm Pc Qc mc ms free H locs cells slots ls As rest hM h1 h2 h3 h4 hbl hrecv hpre hlen hcat hsz hf
  have hg : GoodIn (Cond.code x bx nx rx :: xm_W) (va_wsS own index y (Cond.code y by' ny ry :: xm_W)) := xm_goodIn w5 (fun w hw => by
    simp only [List.mem_cons, List.not_mem_nil, or_false] at hw
    rcases hw with rfl | rfl | rfl
    · exact w1
    · exact w2
    · exact w4)
  exact va_runS (As := As) (rest := rest) (g := F0 m pc ls (As.reverse ++ rest)) S hM (va_cwS k S.2.2.2.2 hg rfl h1 h2 hd ⟨h3, h4⟩) ⟨hbl, hpre⟩ rfl hlen hsz rfl (lv_room hcat) hdg hf
theorem xm_callI {x y : MethodName} {bx by' : ByteArray} {nx ny k pc index : Nat} {rx : Option FieldType} {C : String} (S : CallFix p m c cc nL s args (Cond.code x bx nx rx :: xm_W) own) (w1 : Cond.methodLink own index y ∈ xm_W) (w2 : Cond.instanceMethod y ∈ xm_W) (w4 : Cond.initialized y.cls ∈ xm_W) (w5 : Cond.code y by' ny none ∈ xm_W) (hy : y.name = "<init>")
    (hd : y.cls ≠ "java/lang/invoke/MethodHandle" ∧ y.cls ≠ "java/lang/invoke/VarHandle" ∧ (parseMethodDescriptor y.desc).map (fun d => d.parameters.length) = some k) (hdg : decode cc pc = .ok (.invokespecial index, 3)) : xm_Call p l e R s m args below meth c nL pc y (Cond.code y by' ny none :: xm_W) ny (k + 1) (some C) := by
  intro rm Pc Qc mc ms free H locs cells slots ls As rest hM h1 h2 h3 h4 hbl hrecv hpre hlen hcat hsz hf
  obtain ⟨b, As', rfl, hc⟩ := hrecv C rfl
  have hg : GoodIn (Cond.code x bx nx rx :: xm_W) (Cond.code y by' ny none :: xm_W) := xm_goodIn (us := []) w5 (fun w hw => by cases hw)
  have hb : ∀ w ∈ xm_W, w.before args s = true := fun w hw => S.2.2.2.2 w (List.mem_cons_of_mem _ hw)
  have := va_runI (As := As') (rest := rest) (b := b) (g := F0 m pc ls (As'.reverse ++ .ref b :: rest)) (H := H) (e := e) (R := R) (below := below) (meth := meth) (locs := locs) (cells := cells) (slots := slots) S hM (cwI k S.2.2.2.2 hg rfl h1 h2 (hb _ w4) (hb _ w1) (hb _ w2) hy hd ⟨h3, h4⟩) ⟨hbl, hpre⟩ rfl (by simpa using hlen) hsz rfl (lv_room hcat) hdg hf
  rw [List.reverse_cons, List.append_assoc]
  exact this
theorem xm_rv_agree {ad ad' : xm_A} {tS : Nat → Nat} {M : xm_M} {v : xm_V} (h : ∀ q ∈ xm_o M, ad' q = ad q) (ha : xm_St ad tS) (ha' : xm_St ad' tS) (hv : xm_vok M v) : xm_rv ad' v = xm_rv ad v := by
  rcases v with x | x | r
  · rfl
  · rfl
  · cases r with
    | none => rfl
    | some q =>
      show va_rf (some (ad' q)) = va_rf (some (ad q))
      rcases hv with h9 | h9
      · rw [h q h9]
      · rw [ha q h9, ha' q h9]
end XC
end
section
/-! A CALL in the calculus is a call of the machine; a method's table gives its contract -/
section XD
variable {p : Program} {l : Launch} {e : Env} {R : Room} {s : State} {m : MethodId} {args : Array Value} {below : List Frame} {meth : Method} {c : Code} {Q : State → Prop}
variable {cc : ByteArray} {nL : Nat} {own : String} {Ts : List Cond} {cA : Nat → ClassId} {D : va_G} {A : Nat → Prop} {tS : Nat → Nat} {ad0 : xm_A} {o0 : List (Nat × Nat)} {G : Nat → xm_S → Prop}
theorem xm_goes {H : Heap} {locs : List Loc} {cells slots mc ms pc : Nat} {ls : Array Slot} {st0 rest : List Value} {ad : xm_A} {M M' : xm_M} {v : Option xm_V} {a : Array Value} {free : Addr → Prop} (hr : va_Run p l e R s m args below meth c H locs cells slots mc ms (F0 m pc ls st0) rest (xm_Qc cA D tS ad M H.size v M' a) free) (hS : va_S A s.heap H locs) (hA : ∀ q, va_A (xm_ws cA ad M) H.size q → A q) (hf : ∀ q, free q → A q)
    (kk : ∀ (ad' : xm_A) (H1 : Heap) (locs1 : List Loc), va_P D vwCl (xm_ws cA ad' M') H1 → va_D (va_A (xm_ws cA ad M) H.size) (xm_ws cA ad' M') → (∀ q ∈ xm_o M, ad' q = ad q ∧ q ∈ xm_o M') → xm_St ad' tS → xm_Ok M' [] v.toList → va_S A s.heap H1 locs1 → W p l e R s m args below meth c H1 locs1 (cells + mc) (slots + ms) Q (F0 m (pc + 3) ls ((v.map (xm_rv ad')).toList ++ rest))) : W p l e R s m args below meth c H locs cells slots Q (F0 m pc ls st0) := by
  intro T hT X
  obtain ⟨v', st₀, t, T', L, h0, X', hL, e1, e2, ⟨⟨ad', hv, hP, hD, hq, hs, hok⟩, hz, hk⟩, st⟩ := hr T hT X
  have hv' : v' = v.map (xm_rv ad') := by
    have := hv
    injection this
  subst hv'
  rw [h0] at hz hk
  obtain ⟨t2, a1, b1⟩ := kk ad' T'.heap (locs ++ L) (by rw [e1]; exact hP) hD hq hs hok
    ⟨Nat.le_trans hS.1 (by rw [e1]; exact hz), fun q h1 h2 => by rw [e1, hk q (Nat.lt_of_lt_of_le h1 hS.1) (fun z => h2 (hA q z))]; exact hS.2.1 q h1 h2, fun q hq => by
      rcases List.mem_append.mp hq with h | h
      · exact hS.2.2 q h
      · exact hf _ (hL q h)⟩ T' rfl X'
  exact ⟨t2, st t2 a1, b1⟩
def xm_SndC (R : Room) (G : Nat → xm_S → Prop) (cal : xm_Cal) (pc mi k t : Nat) : Prop := ∀ lv as rest M kc ks v M1 mc ms, as.length = k → xm_rc t as → (rest.map xm_cat).sum ≤ 8 → cal mi as M v M1 mc ms → kc + mc ≤ R.cells → ks + ms ≤ R.slots → G (pc + 3) (lv, v.toList ++ rest, M1, kc + mc, ks + ms) → G pc (lv, as.reverse ++ rest, M, kc, ks)
theorem xm_sndC (hG : xm_IsG p l e R s m args below meth c Q cA D A tS nL ad0 o0 G) (hC : xm_Cx p s m args c cc nL own Ts cA D A tS) {cal : xm_Cal} {pc mi k t maxL d : Nat} {y : MethodName} {wsy : List Cond} {C : Option String} (hc : xm_Call p l e R s m args below meth c nL pc y wsy maxL k C) (hR : d + 1 ≤ R.frames) (hL : 8 + (maxL + 11) + 40 * d ≤ R.locals)
    (hCt : ∀ C0, C = some C0 → ∃ ci q ts, 0 < t ∧ t ≤ 21 ∧ xm_kd (t - 1) = (0, ci, ts) ∧ vwCl[ci]? = some q ∧ q.1 = C0)
    (hcal : ∀ as M v M1 mc ms, cal mi as M v M1 mc ms → ∀ (ad : xm_A) (sz : Nat), xm_Ok M [] as → xm_St ad tS → Met l y wsy (xm_room d mc ms) (xm_Pc cA D tS ad M as sz) (xm_Qc cA D tS ad M sz v M1) mc ms (va_A (xm_ws cA ad M) sz)) : xm_SndC R G cal pc mi k t := by
  intro lv as rest M kc ks v M1 mc ms hk ht hcat hcl hcell hslot kk
  refine (hG _ _).mpr fun ad H locs ls hA => ?_
  obtain ⟨q1, q2, q3, q4, q5, q6, q7⟩ := id hA
  obtain ⟨hx, hb, hml, hown, hts, hK, hA0, hSx⟩ := hC
  have hokA : xm_Ok M [] as := ⟨(fun x hx => by cases hx), fun w hw => q5.2.1 w (List.mem_append_left _ (List.mem_reverse.mpr hw)), q5.2.2⟩
  have hFc : ∀ q, va_A (xm_ws cA ad M) H.size q → A q := by
    intro q hq
    rcases hq with ⟨j, E, h9⟩ | h9
    · exact q2.2 j _ h9
    · exact hA0 q (Nat.le_trans q3.1 h9)
  have hrun := hc (xm_room d mc ms) _ _ mc ms _ H locs kc ks ls (as.map (xm_rv ad)) (rest.map (xm_rv ad)) (hcal as M v M1 mc ms hcl ad H.size hokA q6) rfl rfl hR hL xm_Pc_blind (fun C0 hC0 => by
      obtain ⟨ci, qc, ts, ht0, ht1, hkd, hvc, hcn⟩ := hCt C0 hC0
      rcases ht with h9 | ⟨i, r, rfl⟩
      · omega
      · have hq : (t - 1, i) ∈ xm_o M := by
          rcases q5.2.1 (xm_r (t - 1) i) (List.mem_append_left _ (List.mem_reverse.mpr List.mem_cons_self)) with h9 | h9
          · exact h9
          · exact absurd h9 (by show ¬ 21 ≤ t - 1; omega)
        obtain ⟨j, hj, hw⟩ := xm_in (cA := cA) (ad := ad) hq
        rw [xm_obj (q := (t - 1, i)) hkd] at hw
        refine ⟨ad (t - 1, i), r.map (xm_rv ad), rfl, ?_⟩
        rw [← hcn]
        exact va_recv hK q1 hvc hw) (fun U hU hW => ⟨rfl, by rw [hU], by rw [hU]; exact q1, va_K.moved hW.alike hK, q2.weaken (fun _ _ _ _ => trivial), by rw [hU]; exact xm_Sx.moved hW.alike ((hSx.kept q3.2.1).narrow hFc)⟩) (by rw [List.length_map]; exact hk) (by rw [xm_cat_sum]; exact hcat) q4.1 ⟨hcell, hslot⟩
  rw [List.map_append, List.map_reverse]
  refine xm_goes hrun q3 hFc (fun q h9 => hFc q h9) fun ad' H1 locs1 p1 p2 p3 p4 p5 p6 => ?_
  have hag : ∀ w, xm_vok M w → xm_rv ad' w = xm_rv ad w := fun w hw => xm_rv_agree (fun q hq => (p3 q hq).1) q6 p4 hw
  have hvo : ∀ w, xm_vok M w → xm_vok M1 w := fun w hw => by
    unfold xm_vok at hw ⊢
    split
    · exact hw.imp (fun h9 => (p3 _ h9).2) id
    · trivial
  have hst : (v.map (xm_rv ad')).toList ++ rest.map (xm_rv ad) = (v.toList ++ rest).map (xm_rv ad') := by
    rw [List.map_append]
    congr 1
    · cases v <;> rfl
    · exact (List.map_congr_left fun w hw => hag w (q5.2.1 w (List.mem_append_right _ hw))).symm
  rw [hst]
  refine (hG _ _).mp kk ad' H1 locs1 ls ⟨p1, p2.weaken (fun _ _ _ h9 => hFc _ h9), p6, ?_, ⟨fun x hx => hvo _ (q5.1 x hx), fun w hw => ?_, p5.2.2⟩, p4, fun q hq => ?_⟩
  · rw [show lv.map (fun q => (q.1, xm_rv ad' q.2)) = lv.map (fun q => (q.1, xm_rv ad q.2)) from List.map_congr_left fun x hx => by rw [hag _ (q5.1 x hx)]]
    exact q4
  · rcases List.mem_append.mp hw with h9 | h9
    · exact p5.2.1 w h9
    · exact hvo _ (q5.2.1 w (List.mem_append_right _ h9))
  · obtain ⟨h8, h9⟩ := q7 q hq
    exact ⟨by rw [(p3 q h9).1]; exact h8, (p3 q h9).2⟩
/-- n steps of the calculus -/
theorem xm_sound {cal : xm_Cal} {tb : xm_T} (h1 : ∀ pc f, xm_at tb pc = some (.inl f) → xm_Snd R G pc f) (h2 : ∀ pc mi k t, xm_at tb pc = some (.inr (.inl (mi, k, t))) → xm_SndC R G cal pc mi k t) :
    ∀ (n pc : Nat) (S : xm_S) (pc' : Nat) (S' : xm_S), xm_Rn cal tb n pc S pc' S' → S'.2.2.2.1 ≤ R.cells → S'.2.2.2.2 ≤ R.slots → (S.2.2.2.1 ≤ S'.2.2.2.1 ∧ S.2.2.2.2 ≤ S'.2.2.2.2) ∧ (G pc' S' → G pc S) := by
  intro n
  induction n with
  | zero =>
    intro pc S pc' S' h _ _
    obtain ⟨rfl, rfl, -⟩ := h
    exact ⟨⟨Nat.le_refl _, Nat.le_refl _⟩, id⟩
  | succ n ih =>
    intro pc S pc' S' h hc hs
    rcases h with ⟨f, pc1, S1, ha, hf, hr⟩ | ⟨mi, k, t, lv, as, rest, M, kc, ks, v, M1, mc, ms, ha, rfl, hk, ht, hcat, hcl, hr⟩
    · obtain ⟨⟨i1, i2⟩, i3⟩ := ih pc1 S1 pc' S' hr hc hs
      obtain ⟨⟨j1, j2⟩, j3⟩ := h1 pc f ha S pc1 S1 hf
      exact ⟨⟨Nat.le_trans j1 i1, Nat.le_trans j2 i2⟩, fun g => j3 (Nat.le_trans i1 hc) (Nat.le_trans i2 hs) (i3 g)⟩
    · obtain ⟨⟨i1, i2⟩, i3⟩ := ih _ _ pc' S' hr hc hs
      dsimp only at i1 i2 ⊢
      exact ⟨⟨Nat.le_trans (Nat.le_add_right _ _) i1, Nat.le_trans (Nat.le_add_right _ _) i2⟩, fun g => h2 pc mi k t ha lv as rest M kc ks v M1 mc ms hk ht hcat hcl (Nat.le_trans i1 hc) (Nat.le_trans i2 hs) (i3 g)⟩
end XD
theorem xm_args {ad : xm_A} : ∀ (as : List xm_V) (k : Nat), lv_args k (as.map (xm_rv ad)) = (xm_en k as).map (fun q => (q.1, xm_rv ad q.2)) := by
  intro as
  induction as with
  | nil => intro k; rfl
  | cons v r ih =>
    intro k
    show (k, xm_rv ad v) :: lv_args (if (xm_rv ad v).category = 2 then k + 2 else k + 1) (r.map (xm_rv ad)) = (k, xm_rv ad v) :: (xm_en (k + xm_cat v) r).map _
    rw [xm_rv_cat]
    congr 1
    rw [← ih]
    congr 1
    rcases v with x | x | x <;> rfl
theorem xm_sl {ad : xm_A} : ∀ (as : List xm_V), (lg_sl (as.map (xm_rv ad))).length = (as.map xm_cat).sum := by
  intro as
  induction as with
  | nil => rfl
  | cons v r ih =>
    show (List.flatMap _ (xm_rv ad v :: r.map (xm_rv ad))).length = _
    rw [List.flatMap_cons, List.length_append, List.map_cons, List.sum_cons]
    congr 1
    rcases v with x | x | x
    · rfl
    · rfl
    · cases x <;> rfl
theorem xm_en_ok {M : xm_M} : ∀ (as : List xm_V) (k : Nat), (∀ v ∈ as, xm_vok M v) → ∀ x ∈ xm_en k as, xm_vok M x.2 := by
  intro as
  induction as with
  | nil => intro k _ x hx; cases hx
  | cons v r ih =>
    intro k h x hx
    rcases List.mem_cons.mp hx with rfl | hx
    · exact h _ List.mem_cons_self
    · exact ih _ (fun w hw => h w (List.mem_cons_of_mem _ hw)) x hx
end
section
/-! A METHOD's TABLE GIVES ITS CONTRACT; all methods at once, by the depth of calls -/
def xm_Stop (cc : ByteArray) (ret : Option FieldType) (pc k : Nat) : Prop := match k with
  | 0 => decode cc pc = .ok (.return_, 1) ∧ ret = none
  | 1 => decode cc pc = .ok (.ireturn, 1) ∧ ret = some .int
  | 2 => decode cc pc = .ok (.lreturn, 1) ∧ ret = some .long
  | 3 => decode cc pc = .ok (.areturn, 1) ∧ ∃ n, ret = some (.object n)
  | 4 => decode cc pc = .ok (.ireturn, 1) ∧ ret = some .boolean
  | _ => True
abbrev xm_PM : Type := Nat → MethodName × ByteArray × Nat × Option FieldType
abbrev xm_wm (pm : xm_PM) (mi : Nat) : List Cond := Cond.code (pm mi).1 (pm mi).2.1 (pm mi).2.2.1 (pm mi).2.2.2 :: xm_W
/-- the contracts of all methods, to a depth -/
def xm_All (pg : Nat → Nat × xm_T) (pm : xm_PM) (l : Launch) (cA : Nat → ClassId) (D : va_G) (tS : Nat → Nat) (d : Nat) : Prop := ∀ mi as M v M1 mc ms, xm_Do pg d mi as M v M1 mc ms → ∀ (ad : xm_A) (sz : Nat), xm_Ok M [] as → xm_St ad tS → Met l (pm mi).1 (xm_wm pm mi) (xm_room d mc ms) (xm_Pc cA D tS ad M as sz) (xm_Qc cA D tS ad M sz v M1) mc ms (va_A (xm_ws cA ad M) sz)
def xm_Ent (R : Room) (G : Nat → xm_S → Prop) (cal : xm_Cal) (pc : Nat) (e : xm_E) : Prop := match e with
  | .inl f => xm_Snd R G pc f
  | .inr (.inl (mi, k, t)) => xm_SndC R G cal pc mi k t
  | .inr (.inr _) => True
def xm_Oks (P : Nat → xm_E → Prop) : xm_T → Prop
  | [] => True
  | q :: r => P q.1 q.2 ∧ xm_Oks P r
theorem xm_Oks.of {P : Nat → xm_E → Prop} : ∀ {tb : xm_T} {pc : Nat} {e : xm_E}, xm_Oks P tb → xm_at tb pc = some e → P pc e := by
  intro tb
  induction tb with
  | nil => intro pc e _ h; cases h
  | cons q r ih =>
    intro pc e h h1
    obtain ⟨q1, q2⟩ := q
    unfold xm_at at h1
    split at h1
    · rename_i h2
      cases h1
      subst h2
      exact h.1
    · exact ih h.2 h1
/-- what is to be shown of each method's table -/
def xm_MOk (pg : Nat → Nat × xm_T) (pm : xm_PM) (mi : Nat) : Prop := plainName (pm mi).1.cls = true ∧ (pg mi).1 = (pm mi).2.2.1 ∧ xm_Oks (fun pc e => match e with | .inr (.inr k) => xm_Stop (pm mi).2.1 (pm mi).2.2.2 pc k | _ => True) (pg mi).2 ∧
  ∀ (d mc ms : Nat) (p : Program) (l : Launch) (e : Env) (s : State) (m : MethodId) (args : Array Value) (below : List Frame) (meth : Method) (c : Code) (Q : State → Prop) (cA : Nat → ClassId) (D : va_G) (A : Nat → Prop) (tS : Nat → Nat) (ad0 : xm_A) (o0 : List (Nat × Nat)) (G : Nat → xm_S → Prop), xm_IsG p l e (xm_room (d + 1) mc ms) s m args below meth c Q cA D A tS (pm mi).2.2.1 ad0 o0 G → xm_Cx p s m args c (pm mi).2.1 (pm mi).2.2.1 (pm mi).1.cls (xm_wm pm mi) cA D A tS → meth.name = (pm mi).1.name → xm_All pg pm l cA D tS d → xm_Oks (xm_Ent (xm_room (d + 1) mc ms) G (xm_Do pg d)) (pg mi).2
theorem xm_narZ {v : Int32} (h : v = 0 ∨ v = 1) : narrow .boolean (.int v) = .int v := by
  rcases h with rfl | rfl <;> rfl
theorem xm_all {pg : Nat → Nat × xm_T} {pm : xm_PM} (hok : ∀ mi, xm_MOk pg pm mi) (l : Launch) (cA : Nat → ClassId) (D : va_G) (tS : Nat → Nat) : ∀ d, xm_All pg pm l cA D tS d := by
  intro d
  induction d with
  | zero =>
    intro mi as M v M1 mc ms h
    exact h.elim
  | succ d ih =>
    intro mi as M v M1 mc ms h ad sz hokA hst
    obtain ⟨hlen, pc, lv, st, k, ⟨n, hRn⟩, hstop, hret⟩ := h
    obtain ⟨hy, hnl, hstops, htab⟩ := hok mi
    have hS9 := hstops.of hstop
    dsimp only at hS9
    refine Met.ofW (cc := (pm mi).2.1) (maxL := (pm mi).2.2.1) (ret := (pm mi).2.2.2) hy rfl ?_
    intro p e s m args below meth c s₁ B hml hv
    obtain ⟨rfl, hsz, hP, hK, hD0, hSx⟩ := hv
    have hx := B.exec
    have hb := B.bytes
    have hr := B.returns
    have hts := atoms_spec (ws := xm_wm pm mi) B.pre
    have hown : s.vm.findClass (pm mi).1.cls = some m.cls := findClass_of_methodNamed B.named
    have hlocks := B.notSynchronized
    have hin : meth.name = (pm mi).1.name := (name_of_methodNamed B.named B.method).1
    subst hsz
    have hD := hD0.self (sz := s.heap.size)
    obtain ⟨A, hAe⟩ : ∃ A, A = va_A (xm_ws cA ad M) s.heap.size := ⟨_, rfl⟩
    rw [← hAe] at hD hSx ⊢
    have hA : ∀ q : Nat, s.heap.size ≤ q → A q := fun q h => by rw [hAe]; exact Or.inr h
    have hS : va_S A s.heap s.heap [] := va_S.rf
    have hl := lv_entry (as.map (xm_rv ad)) (n := (pm mi).2.2.1) (by rw [xm_sl, ← hnl]; exact hlen)
    rw [lg_entry_eq]
    generalize (lg_sl (as.map (xm_rv ad)) ++ List.replicate ((pm mi).2.2.1 - (lg_sl (as.map (xm_rv ad))).length) Slot.unset).toArray = ls at hl ⊢
    rw [xm_args] at hl
    have hC : xm_Cx p s m (as.map (xm_rv ad)).toArray c (pm mi).2.1 (pm mi).2.2.1 (pm mi).1.cls (xm_wm pm mi) cA D A tS := ⟨hx, hb, hml, hown, hts, hK, hA, hSx⟩
    obtain ⟨G, hG⟩ : ∃ G : Nat → xm_S → Prop, xm_IsG p l e (xm_room (d + 1) mc ms) s m (as.map (xm_rv ad)).toArray below meth c (MQ below (xm_Qc cA D tS ad M s.heap.size v M1) (as.map (xm_rv ad)).toArray s mc ms A) cA D A tS (pm mi).2.2.1 ad (xm_o M) G := ⟨_, fun pc S => Iff.rfl⟩
    have hT := htab d mc ms p l e s m _ below meth c _ cA D A tS ad (xm_o M) G hG hC hin ih
    have key := (xm_sound (R := xm_room (d + 1) mc ms) (G := G) (cal := xm_Do pg d) (tb := (pg mi).2) (fun pc f h9 => hT.of h9) (fun pc mi' k t h9 => hT.of h9) n 0 _ pc _ hRn (Nat.le_refl _) (Nat.le_refl _)).2
    have hend : G pc (lv, st, M1, mc, ms) := by
      refine (hG _ _).mpr fun ad' H locs ls hA9 => ?_
      obtain ⟨q1, q2, q3, q4, q5, q6, q7⟩ := hA9
      have hq9 : ∀ (w : Option xm_V), xm_Ok M1 [] w.toList → ∀ t : State, t.heap = H → s.WarmedH t.vm → v = w → xm_Qc cA D tS ad M s.heap.size v M1 (as.map (xm_rv ad)).toArray s (.returned (w.map (xm_rv ad'))) t := by
        intro w hw t ht hW e9
        subst e9
        exact ⟨⟨ad', rfl, by rw [ht]; exact q1, by rw [← hAe]; exact q2, q7, q6, hw⟩, by rw [← hAe]; exact q3.F ht⟩
      have hok1 : ∀ w, w ∈ st → xm_Ok M1 [] [w] := fun w hw => ⟨(fun x hx => by cases hx), (fun x hx => by rw [List.mem_singleton.mp hx]; exact q5.2.1 w hw), q5.2.2⟩
      have hok0 : xm_Ok M1 [] [] := ⟨(fun x hx => by cases hx), (fun x hx => by cases hx), q5.2.2⟩
      unfold xm_ret at hret
      split at hret
      · obtain ⟨rfl, hv⟩ := hret
        exact W.vret hx hb (hr.trans hS9.2) (fun t ht hW => hq9 none hok0 t ht hW hv) q3.2.2 hS9.1
      · obtain ⟨x, rfl, hv⟩ := hret
        exact W.iret hx hb (hr.trans hS9.2) (fun t ht hW => hq9 (some (xm_i x)) (hok1 _ List.mem_cons_self) t ht hW hv) q3.2.2 hS9.1
      · obtain ⟨x, rfl, hv⟩ := hret
        exact W.lret hx hb (hr.trans hS9.2) (fun t ht hW => hq9 (some (xm_l x)) (hok1 _ List.mem_cons_self) t ht hW hv) q3.2.2 hS9.1
      · obtain ⟨c9, i9, rfl, hv⟩ := hret
        obtain ⟨h8, n9, h7⟩ := hS9
        exact W.aret hx hb (hr.trans h7) (Or.inl ⟨n9, rfl⟩) (Or.inr ⟨ad' (c9, i9), rfl⟩) (fun t ht hW => hq9 (some (xm_r c9 i9)) (hok1 _ List.mem_cons_self) t ht hW hv) q3.2.2 h8
      · obtain ⟨x, hx01, rfl, hv⟩ := hret
        exact W.zret hx hb (hr.trans hS9.2) (xm_narZ hx01) (fun t ht hW => hq9 (some (xm_i x)) (hok1 _ List.mem_cons_self) t ht hW hv) q3.2.2 hS9.1
      · exact hret.elim
    exact (hG _ _).mp (key hend) ad s.heap [] ls ⟨hP, hD, hS, hl, ⟨xm_en_ok _ _ hokA.2.1, (fun x hx => by cases hx), hokA.2.2⟩, hst, fun q hq => ⟨rfl, hq⟩⟩
end
section
/-! ROWS for the tables: what several instructions share -/
theorem xm_Oks.step {R : Room} {G : Nat → xm_S → Prop} {cal : xm_Cal} {pc : Nat} {f : xm_F} {r : xm_T} (h : xm_Snd R G pc f) (k : xm_Oks (xm_Ent R G cal) r) : xm_Oks (xm_Ent R G cal) ((pc, .inl f) :: r) := ⟨h, k⟩
theorem xm_Oks.call {R : Room} {G : Nat → xm_S → Prop} {cal : xm_Cal} {pc mi n t : Nat} {r : xm_T} (h : xm_SndC R G cal pc mi n t) (k : xm_Oks (xm_Ent R G cal) r) : xm_Oks (xm_Ent R G cal) ((pc, .inr (.inl (mi, n, t))) :: r) := ⟨h, k⟩
theorem xm_Oks.stop {R : Room} {G : Nat → xm_S → Prop} {cal : xm_Cal} {pc n : Nat} {r : xm_T} (k : xm_Oks (xm_Ent R G cal) r) : xm_Oks (xm_Ent R G cal) ((pc, .inr (.inr n)) :: r) := ⟨trivial, k⟩
def xs_cast (n : Nat) : xm_F := fun S => match S.2.1 with
  | .inr (.inr (some q)) :: _ => if (xm_kd q.1).1 = 1 then some (n, S) else none
  | _ => none
def xm_cl (M : xm_M) : xm_M := ((fun c k i => if c = 6 ∧ i = xm_cnt 6 (xm_o M) then xm_tb 2 k else M.1 c k i), (xm_nw M 6 7).2)
/-- the table AT_FIRST cloned -/
def xs_clone (n : Nat) : xm_F := fun S => match S.2.1 with
  | .inr (.inr (some q)) :: r => if q = (23, 0) ∧ (6, xm_cnt 6 (xm_o S.2.2.1)) ∉ xm_o S.2.2.1 then some (n, S.1, .inr (.inr (some (6, xm_cnt 6 (xm_o S.2.2.1)))) :: r, xm_cl S.2.2.1, S.2.2.2.1 + 1, S.2.2.2.2 + 7) else none
  | _ => none
section XR
variable {p : Program} {l : Launch} {e : Env} {R : Room} {s : State} {m : MethodId} {args : Array Value} {below : List Frame} {meth : Method} {c : Code} {Q : State → Prop}
variable {cc : ByteArray} {nL : Nat} {own : String} {Ts : List Cond} {cA : Nat → ClassId} {D : va_G} {A : Nat → Prop} {tS : Nat → Nat} {ad0 : xm_A} {o0 : List (Nat × Nat)} {G : Nat → xm_S → Prop}
theorem xr_alen (hx : p.tables.exec = Jvm.exec) (hb : c.code = cc) (hK : va_K D vwCl (xm_tys cA) s) {pc : Nat} (hdg : decode cc pc = .ok (.arraylength, 1)) (H : Heap) (locs : List Loc) (cells slots : Nat) (ls : Array Slot) (rest : List Value) (q0 t : Nat) (ws : va_W) (a N : Nat) (z : (Nat → Int32) ⊕ (Nat → Int64) ⊕ (Nat → UInt32) ⊕ (Nat → UInt64) ⊕ (Nat → Option Nat)) (hP : va_P D vwCl ws H) (hw : ws[q0]? = some (a, .inl (cA t, N, z))) (h1 : 1 ≤ t) (h5 : t ≤ 5) (k : W p l e R s m args below meth c H locs cells slots Q (F0 m (pc + 1) ls (.int (Int32.ofNat N) :: rest))) : W p l e R s m args below meth c H locs cells slots Q (F0 m pc ls (.ref a :: rest)) := by
  rcases (show t = 1 ∨ t = 2 ∨ t = 3 ∨ t = 4 ∨ t = 5 by omega) with rfl | rfl | rfl | rfl | rfl
  · exact va_alen hx hb hK hP q0 1 hw rfl rfl hdg k
  · exact va_alen hx hb hK hP q0 2 hw rfl rfl hdg k
  · exact va_alen hx hb hK hP q0 3 hw rfl rfl hdg k
  · exact va_alen hx hb hK hP q0 4 hw rfl rfl hdg k
  · exact va_alen hx hb hK hP q0 5 hw rfl rfl hdg k
theorem xr_newI (hx : p.tables.exec = Jvm.exec) (hb : c.code = cc) (hK : va_K D vwCl (xm_tys cA) s) (hA : ∀ q : Nat, s.heap.size ≤ q → A q) (harr : (Cond.arrayClass .int).before args s = true) {pc : Nat} (hdg : decode cc pc = .ok (.newarray .int, 2)) (H : Heap) (locs : List Loc) (cells slots : Nat) (ls : Array Slot) (rest : List Value) (ws : va_W) (x : Int32) (N : Nat) (hP : va_P D vwCl ws H) (hD : va_D A ws) (hS : va_S A s.heap H locs) (hN : x.toNatClampNeg = N) (hn0 : ¬ x < 0) (hle : N ≤ 1000) (h1 : cells + 1 ≤ R.cells) (h2 : slots + N ≤ R.slots)
    (k : ∀ (q : Nat) (H1 : Heap), va_P D vwCl (ws ++ [(q, .inl (cA 1, N, .inl (fun _ => 0)))]) H1 → va_D A (ws ++ [(q, .inl (cA 1, N, .inl (fun _ => 0)))]) → va_S A s.heap H1 locs → W p l e R s m args below meth c H1 locs (cells + 1) (slots + N) Q (F0 m (pc + 2) ls (.ref q :: rest))) : W p l e R s m args below meth c H locs cells slots Q (F0 m pc ls (.int x :: rest)) := by
  refine va_newa (atype := .int) (ty := .int) (a0 := (N, .inl fun _ => 0)) hx hb harr rfl hK hP hD hS hA (fun _ => rfl) hn0 hN (by show N * 4 ≤ _; omega) h1 h2 hdg fun q cB H1 hK' p1 p2 p3 => ?_
  have h9 : cB = cA 1 := Option.some.inj ((hK'.2 6 (cB, .int) rfl).2.symm.trans (hK.2 1 (cA 1, .int) rfl).2)
  subst h9
  exact k q H1 p1 p2 p3
theorem xr_newL (hx : p.tables.exec = Jvm.exec) (hb : c.code = cc) (hK : va_K D vwCl (xm_tys cA) s) (hA : ∀ q : Nat, s.heap.size ≤ q → A q) (harr : (Cond.arrayClass .long).before args s = true) {pc : Nat} (hdg : decode cc pc = .ok (.newarray .long, 2)) (H : Heap) (locs : List Loc) (cells slots : Nat) (ls : Array Slot) (rest : List Value) (ws : va_W) (x : Int32) (N : Nat) (hP : va_P D vwCl ws H) (hD : va_D A ws) (hS : va_S A s.heap H locs) (hN : x.toNatClampNeg = N) (hn0 : ¬ x < 0) (hle : N ≤ 1000) (h1 : cells + 1 ≤ R.cells) (h2 : slots + N ≤ R.slots)
    (k : ∀ (q : Nat) (H1 : Heap), va_P D vwCl (ws ++ [(q, .inl (cA 2, N, .inr (.inl (fun _ => 0))))]) H1 → va_D A (ws ++ [(q, .inl (cA 2, N, .inr (.inl (fun _ => 0))))]) → va_S A s.heap H1 locs → W p l e R s m args below meth c H1 locs (cells + 1) (slots + N) Q (F0 m (pc + 2) ls (.ref q :: rest))) : W p l e R s m args below meth c H locs cells slots Q (F0 m pc ls (.int x :: rest)) := by
  refine va_newa (atype := .long) (ty := .long) (a0 := (N, .inr (.inl fun _ => 0))) hx hb harr rfl hK hP hD hS hA (fun _ => rfl) hn0 hN (by show N * 8 ≤ _; omega) h1 h2 hdg fun q cB H1 hK' p1 p2 p3 => ?_
  have h9 : cB = cA 2 := Option.some.inj ((hK'.2 6 (cB, .long) rfl).2.symm.trans (hK.2 2 (cA 2, .long) rfl).2)
  subst h9
  exact k q H1 p1 p2 p3
theorem xr_newZ (hx : p.tables.exec = Jvm.exec) (hb : c.code = cc) (hK : va_K D vwCl (xm_tys cA) s) (hA : ∀ q : Nat, s.heap.size ≤ q → A q) (harr : (Cond.arrayClass .boolean).before args s = true) {pc : Nat} (hdg : decode cc pc = .ok (.newarray .boolean, 2)) (H : Heap) (locs : List Loc) (cells slots : Nat) (ls : Array Slot) (rest : List Value) (ws : va_W) (x : Int32) (N : Nat) (hP : va_P D vwCl ws H) (hD : va_D A ws) (hS : va_S A s.heap H locs) (hN : x.toNatClampNeg = N) (hn0 : ¬ x < 0) (hle : N ≤ 1000) (h1 : cells + 1 ≤ R.cells) (h2 : slots + N ≤ R.slots)
    (k : ∀ (q : Nat) (H1 : Heap), va_P D vwCl (ws ++ [(q, .inl (cA 3, N, .inl (fun _ => 0)))]) H1 → va_D A (ws ++ [(q, .inl (cA 3, N, .inl (fun _ => 0)))]) → va_S A s.heap H1 locs → W p l e R s m args below meth c H1 locs (cells + 1) (slots + N) Q (F0 m (pc + 2) ls (.ref q :: rest))) : W p l e R s m args below meth c H locs cells slots Q (F0 m pc ls (.int x :: rest)) := by
  refine va_newa (atype := .boolean) (ty := .boolean) (a0 := (N, .inl fun _ => 0)) hx hb harr rfl hK hP hD hS hA (fun _ => rfl) hn0 hN (by show N * 1 ≤ _; omega) h1 h2 hdg fun q cB H1 hK' p1 p2 p3 => ?_
  have h9 : cB = cA 3 := Option.some.inj ((hK'.2 6 (cB, .boolean) rfl).2.symm.trans (hK.2 3 (cA 3, .boolean) rfl).2)
  subst h9
  exact k q H1 p1 p2 p3
theorem xr_newQ {C : String} {t : Nat} (hx : p.tables.exec = Jvm.exec) (hb : c.code = cc) (hown : s.vm.findClass own = some m.cls) {index : Nat} (hl : (Cond.classLink own index C).before args s = true) (ho : va_AO C s) (hK : va_K D vwCl (xm_tys cA) s) (ht : (xm_tys cA)[t]? = some (cA t, .object C)) (hA : ∀ q : Nat, s.heap.size ≤ q → A q) {pc : Nat} (hdg : decode cc pc = .ok (.anewarray index, 3)) (H : Heap) (locs : List Loc) (cells slots : Nat) (ls : Array Slot) (rest : List Value) (ws : va_W) (x : Int32) (N : Nat) (hP : va_P D vwCl ws H) (hD : va_D A ws) (hS : va_S A s.heap H locs) (hN : x.toNatClampNeg = N) (hn0 : ¬ x < 0) (hle : N ≤ 1000) (h1 : cells + 1 ≤ R.cells) (h2 : slots + N ≤ R.slots)
    (k : ∀ (q : Nat) (H1 : Heap), va_P D vwCl (ws ++ [(q, .inl (cA t, N, .inr (.inr (.inr (.inr (fun _ => none))))))]) H1 → va_D A (ws ++ [(q, .inl (cA t, N, .inr (.inr (.inr (.inr (fun _ => none))))))]) → va_S A s.heap H1 locs → W p l e R s m args below meth c H1 locs (cells + 1) (slots + N) Q (F0 m (pc + 3) ls (.ref q :: rest))) : W p l e R s m args below meth c H locs cells slots Q (F0 m pc ls (.int x :: rest)) := by
  refine va_newq hx hb hown hl ho hK hP hD hS hA hn0 hN (by omega) h1 h2 hdg fun q cB H1 hK' p1 p2 p3 => ?_
  obtain ⟨kA, comp, -, -, -, g1⟩ := (hK'.2 6 (cB, .object C) rfl).2
  obtain ⟨kA', comp', -, -, -, g2⟩ := (hK.2 t (cA t, .object C) ht).2
  have h9 : cB = cA t := Option.some.inj (g1.symm.trans g2)
  subst h9
  exact k q H1 p1 p2 p3
theorem xm_nwI {ad : xm_A} {M : xm_M} {c0 N : Nat} (h : (xm_kd c0).1 = 1) : xm_cell cA ad (xm_nw M c0 N) (c0, xm_cnt c0 (xm_o M)) = .inl (cA 1, N, .inl (fun _ => 0)) := by
  rw [xm_arrI h]
  simp [xm_nw]
theorem xm_nwZ {ad : xm_A} {M : xm_M} {c0 N : Nat} (h : (xm_kd c0).1 = 3) : xm_cell cA ad (xm_nw M c0 N) (c0, xm_cnt c0 (xm_o M)) = .inl (cA 3, N, .inl (fun _ => 0)) := by
  rw [xm_arrZ h]
  simp [xm_nw]
theorem xm_nwL {ad : xm_A} {M : xm_M} {c0 N : Nat} (h : (xm_kd c0).1 = 2) : xm_cell cA ad (xm_nw M c0 N) (c0, xm_cnt c0 (xm_o M)) = .inl (cA 2, N, .inr (.inl (fun _ => 0))) := by
  rw [xm_arrL h]
  simp [xm_nw]
theorem xm_nwQ {ad : xm_A} {M : xm_M} {c0 N t : Nat} (h : (xm_kd c0).1 = t) (ht : t = 4 ∨ t = 5) : xm_cell cA ad (xm_nw M c0 N) (c0, xm_cnt c0 (xm_o M)) = .inl (cA t, N, .inr (.inr (.inr (.inr (fun _ => none))))) := by
  rw [xm_arrR h ht]
  simp [xm_nw]
theorem xr_sw (hx : p.tables.exec = Jvm.exec) (hb : c.code = cc) {pc d len : Nat} {ts : List Nat} {dflt hi : Int} {offs : Array Int} (hdg : decode cc pc = .ok (.tableswitch dflt 0 hi offs, len)) (hd : (pc : Int) + dflt = (d : Nat)) (hhi : hi + 1 = (ts.length : Nat)) (hof : ∀ k, k < ts.length → ∃ off, offs[k]? = some off ∧ (pc : Int) + off = (ts.getD k d : Nat)) (H : Heap) (locs : List Loc) (cells slots : Nat) (ls : Array Slot) (rest : List Value) (x : Int32) (k : W p l e R s m args below meth c H locs cells slots Q (F0 m (if x.toInt < 0 then d else ts.getD x.toInt.toNat d) ls rest)) : W p l e R s m args below meth c H locs cells slots Q (F0 m pc ls (.int x :: rest)) := by
  by_cases h0 : x.toInt < 0
  · rw [if_pos h0] at k
    exact lv_tableOut hx hb hdg (Or.inl h0) hd k
  · rw [if_neg h0] at k
    by_cases h1 : hi < x.toInt
    · have e9 : ts.getD x.toInt.toNat d = d := by
        rw [List.getD_eq_getElem?_getD, List.getElem?_eq_none (by omega)]
        rfl
      rw [e9] at k
      exact lv_tableOut hx hb hdg (Or.inr h1) hd k
    · obtain ⟨off, g1, g2⟩ := hof x.toInt.toNat (by omega)
      exact lv_tableIn hx hb hdg h0 h1 (by rw [Int.sub_zero]; exact g1) g2 k
theorem sn_cast (hG : xm_IsG p l e R s m args below meth c Q cA D A tS nL ad0 o0 G) {pc n : Nat}
    (row : ∀ (H : Heap) (locs : List Loc) (cells slots : Nat) (ls : Array Slot) (rest : List Value) (q0 : Nat) (ws : va_W) (a : Nat) (z : vp_A), va_P D vwCl ws H → ws[q0]? = some (a, .inl (cA 1, z)) → W p l e R s m args below meth c H locs cells slots Q (F0 m n ls (.ref a :: rest)) → W p l e R s m args below meth c H locs cells slots Q (F0 m pc ls (.ref a :: rest))) : xm_Snd R G pc (xs_cast n) := by
  intro S pc1 S1 h
  obtain ⟨lv, st, M, kc, ks⟩ := S
  unfold xs_cast at h
  dsimp only at h
  split at h
  · rename_i q r
    split at h
    · rename_i hk
      cases h
      refine ⟨⟨Nat.le_refl _, Nat.le_refl _⟩, fun _ _ kk => (hG _ _).mpr fun ad H locs ls hA => ?_⟩
      obtain ⟨q1, q2, q3, q4, q5, q6, q7⟩ := id hA
      have hq : q ∈ xm_o M := xm_q (q5.2.1 _ List.mem_cons_self) (by rw [hk]; decide)
      obtain ⟨j, hj, hw⟩ := xm_in (cA := cA) (ad := ad) hq
      rw [xm_arrI hk] at hw
      exact row H locs _ _ ls _ j _ (ad q) _ q1 hw ((hG _ _).mp kk ad H locs ls hA)
    · cases h
  · cases h
end XR
end
