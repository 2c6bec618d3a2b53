section
-- ===== PART A: goes FIRST, ahead of the names: the tables' words, and 'selects' of the private methods out of them =====
/-- a private method of a class that the tables say can be made, by its rows of tables_1 -/
def lw_okq (q : MethodName × Nat) : Prop := (q.1.cls ≠ "java/lang/invoke/MethodHandle" ∧ q.1.cls ≠ "java/lang/invoke/VarHandle") ∧ Cond.instantiable q.1.cls q.2 ∈ tables_1 ∧ Cond.privateMethod q.1 ∈ tables_1 ∧ Cond.instanceMethod q.1 ∈ tables_1
theorem lw_p0 : lw_okq (⟨"StarchGarrison", "putFourBytes", "(I)V"⟩, 14) := ⟨⟨by decide +kernel, by decide +kernel⟩, List.mem_of_getElem? (i := 20) (by decide +kernel), List.mem_of_getElem? (i := 420) (by decide +kernel), List.mem_of_getElem? (i := 421) (by decide +kernel)⟩
theorem lw_p1 : lw_okq (⟨"StarchGarrison$Reader", "reads", "(LStarchGarrison$Plan;I)Z"⟩, 11) := ⟨⟨by decide +kernel, by decide +kernel⟩, List.mem_of_getElem? (i := 123) (by decide +kernel), List.mem_of_getElem? (i := 432) (by decide +kernel), List.mem_of_getElem? (i := 433) (by decide +kernel)⟩
theorem lw_p2 : lw_okq (⟨"StarchGarrison$Plan", "clear", "()V"⟩, 15) := ⟨⟨by decide +kernel, by decide +kernel⟩, List.mem_of_getElem? (i := 28) (by decide +kernel), List.mem_of_getElem? (i := 436) (by decide +kernel), List.mem_of_getElem? (i := 437) (by decide +kernel)⟩
theorem lw_p3 : lw_okq (⟨"StarchGarrison$Reader", "takeToken", "()V"⟩, 11) := ⟨⟨by decide +kernel, by decide +kernel⟩, List.mem_of_getElem? (i := 123) (by decide +kernel), List.mem_of_getElem? (i := 446) (by decide +kernel), List.mem_of_getElem? (i := 447) (by decide +kernel)⟩
theorem lw_p4 : lw_okq (⟨"StarchGarrison$Reader", "readsLine", "(LStarchGarrison$Plan;)Z"⟩, 11) := ⟨⟨by decide +kernel, by decide +kernel⟩, List.mem_of_getElem? (i := 123) (by decide +kernel), List.mem_of_getElem? (i := 459) (by decide +kernel), List.mem_of_getElem? (i := 460) (by decide +kernel)⟩
theorem lw_p5 : lw_okq (⟨"StarchGarrison$Reader", "isWord", "(Ljava/lang/String;)Z"⟩, 11) := ⟨⟨by decide +kernel, by decide +kernel⟩, List.mem_of_getElem? (i := 123) (by decide +kernel), List.mem_of_getElem? (i := 464) (by decide +kernel), List.mem_of_getElem? (i := 465) (by decide +kernel)⟩
theorem lw_p6 : lw_okq (⟨"StarchGarrison$Reader", "readsSettings", "(LStarchGarrison$Plan;)Z"⟩, 11) := ⟨⟨by decide +kernel, by decide +kernel⟩, List.mem_of_getElem? (i := 123) (by decide +kernel), List.mem_of_getElem? (i := 516) (by decide +kernel), List.mem_of_getElem? (i := 517) (by decide +kernel)⟩
theorem lw_p7 : lw_okq (⟨"StarchGarrison$Reader", "takesWord", "(Ljava/lang/String;)Z"⟩, 11) := ⟨⟨by decide +kernel, by decide +kernel⟩, List.mem_of_getElem? (i := 123) (by decide +kernel), List.mem_of_getElem? (i := 529) (by decide +kernel), List.mem_of_getElem? (i := 530) (by decide +kernel)⟩
theorem lw_p8 : lw_okq (⟨"StarchGarrison$Reader", "refuse", "(I)Z"⟩, 11) := ⟨⟨by decide +kernel, by decide +kernel⟩, List.mem_of_getElem? (i := 123) (by decide +kernel), List.mem_of_getElem? (i := 533) (by decide +kernel), List.mem_of_getElem? (i := 534) (by decide +kernel)⟩
theorem lw_p9 : lw_okq (⟨"StarchGarrison$Reader", "takesNumber", "(II)Z"⟩, 11) := ⟨⟨by decide +kernel, by decide +kernel⟩, List.mem_of_getElem? (i := 123) (by decide +kernel), List.mem_of_getElem? (i := 541) (by decide +kernel), List.mem_of_getElem? (i := 542) (by decide +kernel)⟩
theorem lw_p10 : lw_okq (⟨"StarchGarrison$Reader", "closesLine", "()Z"⟩, 11) := ⟨⟨by decide +kernel, by decide +kernel⟩, List.mem_of_getElem? (i := 123) (by decide +kernel), List.mem_of_getElem? (i := 545) (by decide +kernel), List.mem_of_getElem? (i := 546) (by decide +kernel)⟩
theorem lw_p11 : lw_okq (⟨"StarchGarrison$Reader", "readsMan", "(LStarchGarrison$Plan;)Z"⟩, 11) := ⟨⟨by decide +kernel, by decide +kernel⟩, List.mem_of_getElem? (i := 123) (by decide +kernel), List.mem_of_getElem? (i := 550) (by decide +kernel), List.mem_of_getElem? (i := 551) (by decide +kernel)⟩
theorem lw_p12 : lw_okq (⟨"StarchGarrison$Reader", "readsAmount", "([II)Z"⟩, 11) := ⟨⟨by decide +kernel, by decide +kernel⟩, List.mem_of_getElem? (i := 123) (by decide +kernel), List.mem_of_getElem? (i := 559) (by decide +kernel), List.mem_of_getElem? (i := 560) (by decide +kernel)⟩
theorem lw_p13 : lw_okq (⟨"StarchGarrison$Reader", "readsHours", "([II)Z"⟩, 11) := ⟨⟨by decide +kernel, by decide +kernel⟩, List.mem_of_getElem? (i := 123) (by decide +kernel), List.mem_of_getElem? (i := 563) (by decide +kernel), List.mem_of_getElem? (i := 564) (by decide +kernel)⟩
theorem lw_p14 : lw_okq (⟨"StarchGarrison$Plan", "become", "(LStarchGarrison$Plan;)V"⟩, 15) := ⟨⟨by decide +kernel, by decide +kernel⟩, List.mem_of_getElem? (i := 28) (by decide +kernel), List.mem_of_getElem? (i := 571) (by decide +kernel), List.mem_of_getElem? (i := 572) (by decide +kernel)⟩
theorem lw_p15 : lw_okq (⟨"StarchGarrison$Plan", "isMan", "(I)Z"⟩, 15) := ⟨⟨by decide +kernel, by decide +kernel⟩, List.mem_of_getElem? (i := 28) (by decide +kernel), List.mem_of_getElem? (i := 586) (by decide +kernel), List.mem_of_getElem? (i := 587) (by decide +kernel)⟩
def lw_privs_1 : List (MethodName × Nat) := [(⟨"StarchGarrison", "putFourBytes", "(I)V"⟩, 14), (⟨"StarchGarrison$Reader", "reads", "(LStarchGarrison$Plan;I)Z"⟩, 11), (⟨"StarchGarrison$Plan", "clear", "()V"⟩, 15), (⟨"StarchGarrison$Reader", "takeToken", "()V"⟩, 11), (⟨"StarchGarrison$Reader", "readsLine", "(LStarchGarrison$Plan;)Z"⟩, 11), (⟨"StarchGarrison$Reader", "isWord", "(Ljava/lang/String;)Z"⟩, 11), (⟨"StarchGarrison$Reader", "readsSettings", "(LStarchGarrison$Plan;)Z"⟩, 11), (⟨"StarchGarrison$Reader", "takesWord", "(Ljava/lang/String;)Z"⟩, 11), (⟨"StarchGarrison$Reader", "refuse", "(I)Z"⟩, 11), (⟨"StarchGarrison$Reader", "takesNumber", "(II)Z"⟩, 11), (⟨"StarchGarrison$Reader", "closesLine", "()Z"⟩, 11), (⟨"StarchGarrison$Reader", "readsMan", "(LStarchGarrison$Plan;)Z"⟩, 11), (⟨"StarchGarrison$Reader", "readsAmount", "([II)Z"⟩, 11), (⟨"StarchGarrison$Reader", "readsHours", "([II)Z"⟩, 11), (⟨"StarchGarrison$Plan", "become", "(LStarchGarrison$Plan;)V"⟩, 15), (⟨"StarchGarrison$Plan", "isMan", "(I)Z"⟩, 15)]
theorem lw_r1 : ∀ q ∈ lw_privs_1, lw_okq q := List.forall_mem_cons.mpr ⟨lw_p0, List.forall_mem_cons.mpr ⟨lw_p1, List.forall_mem_cons.mpr ⟨lw_p2, List.forall_mem_cons.mpr ⟨lw_p3, List.forall_mem_cons.mpr ⟨lw_p4, List.forall_mem_cons.mpr ⟨lw_p5, List.forall_mem_cons.mpr ⟨lw_p6, List.forall_mem_cons.mpr ⟨lw_p7, List.forall_mem_cons.mpr ⟨lw_p8, List.forall_mem_cons.mpr ⟨lw_p9, List.forall_mem_cons.mpr ⟨lw_p10, List.forall_mem_cons.mpr ⟨lw_p11, List.forall_mem_cons.mpr ⟨lw_p12, List.forall_mem_cons.mpr ⟨lw_p13, List.forall_mem_cons.mpr ⟨lw_p14, List.forall_mem_cons.mpr ⟨lw_p15, fun _ h => absurd h List.not_mem_nil⟩⟩⟩⟩⟩⟩⟩⟩⟩⟩⟩⟩⟩⟩⟩⟩
theorem lw_p16 : lw_okq (⟨"StarchGarrison$Plan", "isHour", "(I)Z"⟩, 15) := ⟨⟨by decide +kernel, by decide +kernel⟩, List.mem_of_getElem? (i := 28) (by decide +kernel), List.mem_of_getElem? (i := 594) (by decide +kernel), List.mem_of_getElem? (i := 595) (by decide +kernel)⟩
theorem lw_p17 : lw_okq (⟨"StarchGarrison$Plan", "isTold", "()Z"⟩, 15) := ⟨⟨by decide +kernel, by decide +kernel⟩, List.mem_of_getElem? (i := 28) (by decide +kernel), List.mem_of_getElem? (i := 606) (by decide +kernel), List.mem_of_getElem? (i := 607) (by decide +kernel)⟩
theorem lw_p18 : lw_okq (⟨"StarchGarrison$Plan", "hourCount", "()I"⟩, 15) := ⟨⟨by decide +kernel, by decide +kernel⟩, List.mem_of_getElem? (i := 28) (by decide +kernel), List.mem_of_getElem? (i := 610) (by decide +kernel), List.mem_of_getElem? (i := 611) (by decide +kernel)⟩
theorem lw_p19 : lw_okq (⟨"StarchGarrison$Plan", "isFrost", "(I)Z"⟩, 15) := ⟨⟨by decide +kernel, by decide +kernel⟩, List.mem_of_getElem? (i := 28) (by decide +kernel), List.mem_of_getElem? (i := 614) (by decide +kernel), List.mem_of_getElem? (i := 615) (by decide +kernel)⟩
theorem lw_p20 : lw_okq (⟨"StarchGarrison$Siege", "playAsNow", "()V"⟩, 11) := ⟨⟨by decide +kernel, by decide +kernel⟩, List.mem_of_getElem? (i := 189) (by decide +kernel), List.mem_of_getElem? (i := 622) (by decide +kernel), List.mem_of_getElem? (i := 623) (by decide +kernel)⟩
theorem lw_p21 : lw_okq (⟨"StarchGarrison$Siege", "setAsNow", "()V"⟩, 11) := ⟨⟨by decide +kernel, by decide +kernel⟩, List.mem_of_getElem? (i := 189) (by decide +kernel), List.mem_of_getElem? (i := 626) (by decide +kernel), List.mem_of_getElem? (i := 627) (by decide +kernel)⟩
theorem lw_p22 : lw_okq (⟨"StarchGarrison$Siege", "playAll", "()V"⟩, 11) := ⟨⟨by decide +kernel, by decide +kernel⟩, List.mem_of_getElem? (i := 189) (by decide +kernel), List.mem_of_getElem? (i := 634) (by decide +kernel), List.mem_of_getElem? (i := 635) (by decide +kernel)⟩
theorem lw_p23 : lw_okq (⟨"StarchGarrison$Siege", "playHour", "(I)V"⟩, 11) := ⟨⟨by decide +kernel, by decide +kernel⟩, List.mem_of_getElem? (i := 189) (by decide +kernel), List.mem_of_getElem? (i := 639) (by decide +kernel), List.mem_of_getElem? (i := 640) (by decide +kernel)⟩
theorem lw_p24 : lw_okq (⟨"StarchGarrison$Siege", "arrive", "(II)I"⟩, 11) := ⟨⟨by decide +kernel, by decide +kernel⟩, List.mem_of_getElem? (i := 189) (by decide +kernel), List.mem_of_getElem? (i := 643) (by decide +kernel), List.mem_of_getElem? (i := 644) (by decide +kernel)⟩
theorem lw_p25 : lw_okq (⟨"StarchGarrison$Siege", "stiffAt", "(II)I"⟩, 11) := ⟨⟨by decide +kernel, by decide +kernel⟩, List.mem_of_getElem? (i := 189) (by decide +kernel), List.mem_of_getElem? (i := 647) (by decide +kernel), List.mem_of_getElem? (i := 648) (by decide +kernel)⟩
theorem lw_p26 : lw_okq (⟨"StarchGarrison$Siege", "lossOf", "(III)I"⟩, 11) := ⟨⟨by decide +kernel, by decide +kernel⟩, List.mem_of_getElem? (i := 189) (by decide +kernel), List.mem_of_getElem? (i := 651) (by decide +kernel), List.mem_of_getElem? (i := 652) (by decide +kernel)⟩
theorem lw_p27 : lw_okq (⟨"StarchGarrison$Siege", "besideAny", "(I)I"⟩, 11) := ⟨⟨by decide +kernel, by decide +kernel⟩, List.mem_of_getElem? (i := 189) (by decide +kernel), List.mem_of_getElem? (i := 660) (by decide +kernel), List.mem_of_getElem? (i := 661) (by decide +kernel)⟩
theorem lw_p28 : lw_okq (⟨"StarchGarrison$Siege", "lossAt", "(II)I"⟩, 11) := ⟨⟨by decide +kernel, by decide +kernel⟩, List.mem_of_getElem? (i := 189) (by decide +kernel), List.mem_of_getElem? (i := 669) (by decide +kernel), List.mem_of_getElem? (i := 670) (by decide +kernel)⟩
theorem lw_p29 : lw_okq (⟨"StarchGarrison$Plan", "allMen", "()I"⟩, 15) := ⟨⟨by decide +kernel, by decide +kernel⟩, List.mem_of_getElem? (i := 28) (by decide +kernel), List.mem_of_getElem? (i := 677) (by decide +kernel), List.mem_of_getElem? (i := 678) (by decide +kernel)⟩
theorem lw_p30 : lw_okq (⟨"StarchGarrison$Siege", "saggingAt", "(I)I"⟩, 11) := ⟨⟨by decide +kernel, by decide +kernel⟩, List.mem_of_getElem? (i := 189) (by decide +kernel), List.mem_of_getElem? (i := 681) (by decide +kernel), List.mem_of_getElem? (i := 682) (by decide +kernel)⟩
theorem lw_p31 : lw_okq (⟨"StarchGarrison$Siege", "firstSag", "(I)I"⟩, 11) := ⟨⟨by decide +kernel, by decide +kernel⟩, List.mem_of_getElem? (i := 189) (by decide +kernel), List.mem_of_getElem? (i := 689) (by decide +kernel), List.mem_of_getElem? (i := 690) (by decide +kernel)⟩
def lw_privs_2 : List (MethodName × Nat) := [(⟨"StarchGarrison$Plan", "isHour", "(I)Z"⟩, 15), (⟨"StarchGarrison$Plan", "isTold", "()Z"⟩, 15), (⟨"StarchGarrison$Plan", "hourCount", "()I"⟩, 15), (⟨"StarchGarrison$Plan", "isFrost", "(I)Z"⟩, 15), (⟨"StarchGarrison$Siege", "playAsNow", "()V"⟩, 11), (⟨"StarchGarrison$Siege", "setAsNow", "()V"⟩, 11), (⟨"StarchGarrison$Siege", "playAll", "()V"⟩, 11), (⟨"StarchGarrison$Siege", "playHour", "(I)V"⟩, 11), (⟨"StarchGarrison$Siege", "arrive", "(II)I"⟩, 11), (⟨"StarchGarrison$Siege", "stiffAt", "(II)I"⟩, 11), (⟨"StarchGarrison$Siege", "lossOf", "(III)I"⟩, 11), (⟨"StarchGarrison$Siege", "besideAny", "(I)I"⟩, 11), (⟨"StarchGarrison$Siege", "lossAt", "(II)I"⟩, 11), (⟨"StarchGarrison$Plan", "allMen", "()I"⟩, 15), (⟨"StarchGarrison$Siege", "saggingAt", "(I)I"⟩, 11), (⟨"StarchGarrison$Siege", "firstSag", "(I)I"⟩, 11)]
theorem lw_r2 : ∀ q ∈ lw_privs_2, lw_okq q := List.forall_mem_cons.mpr ⟨lw_p16, List.forall_mem_cons.mpr ⟨lw_p17, List.forall_mem_cons.mpr ⟨lw_p18, List.forall_mem_cons.mpr ⟨lw_p19, List.forall_mem_cons.mpr ⟨lw_p20, List.forall_mem_cons.mpr ⟨lw_p21, List.forall_mem_cons.mpr ⟨lw_p22, List.forall_mem_cons.mpr ⟨lw_p23, List.forall_mem_cons.mpr ⟨lw_p24, List.forall_mem_cons.mpr ⟨lw_p25, List.forall_mem_cons.mpr ⟨lw_p26, List.forall_mem_cons.mpr ⟨lw_p27, List.forall_mem_cons.mpr ⟨lw_p28, List.forall_mem_cons.mpr ⟨lw_p29, List.forall_mem_cons.mpr ⟨lw_p30, List.forall_mem_cons.mpr ⟨lw_p31, fun _ h => absurd h List.not_mem_nil⟩⟩⟩⟩⟩⟩⟩⟩⟩⟩⟩⟩⟩⟩⟩⟩
theorem lw_p32 : lw_okq (⟨"StarchGarrison$Siege", "standsAt", "(II)Z"⟩, 11) := ⟨⟨by decide +kernel, by decide +kernel⟩, List.mem_of_getElem? (i := 189) (by decide +kernel), List.mem_of_getElem? (i := 693) (by decide +kernel), List.mem_of_getElem? (i := 694) (by decide +kernel)⟩
theorem lw_p33 : lw_okq (⟨"StarchGarrison$Siege", "hoursStood", "(I)I"⟩, 11) := ⟨⟨by decide +kernel, by decide +kernel⟩, List.mem_of_getElem? (i := 189) (by decide +kernel), List.mem_of_getElem? (i := 701) (by decide +kernel), List.mem_of_getElem? (i := 702) (by decide +kernel)⟩
theorem lw_p34 : lw_okq (⟨"StarchGarrison$Siege", "widestGap", "(I)I"⟩, 11) := ⟨⟨by decide +kernel, by decide +kernel⟩, List.mem_of_getElem? (i := 189) (by decide +kernel), List.mem_of_getElem? (i := 717) (by decide +kernel), List.mem_of_getElem? (i := 718) (by decide +kernel)⟩
theorem lw_p35 : lw_okq (⟨"StarchGarrison$Siege", "lineHolds", "(I)Z"⟩, 11) := ⟨⟨by decide +kernel, by decide +kernel⟩, List.mem_of_getElem? (i := 189) (by decide +kernel), List.mem_of_getElem? (i := 725) (by decide +kernel), List.mem_of_getElem? (i := 726) (by decide +kernel)⟩
theorem lw_p36 : lw_okq (⟨"StarchGarrison$Siege", "firstFall", "()I"⟩, 11) := ⟨⟨by decide +kernel, by decide +kernel⟩, List.mem_of_getElem? (i := 189) (by decide +kernel), List.mem_of_getElem? (i := 735) (by decide +kernel), List.mem_of_getElem? (i := 736) (by decide +kernel)⟩
theorem lw_p37 : lw_okq (⟨"StarchGarrison$Siege", "hoursHeld", "()I"⟩, 11) := ⟨⟨by decide +kernel, by decide +kernel⟩, List.mem_of_getElem? (i := 189) (by decide +kernel), List.mem_of_getElem? (i := 739) (by decide +kernel), List.mem_of_getElem? (i := 740) (by decide +kernel)⟩
theorem lw_p38 : lw_okq (⟨"StarchGarrison$Siege", "hoursHeldOf", "(I)I"⟩, 11) := ⟨⟨by decide +kernel, by decide +kernel⟩, List.mem_of_getElem? (i := 189) (by decide +kernel), List.mem_of_getElem? (i := 743) (by decide +kernel), List.mem_of_getElem? (i := 744) (by decide +kernel)⟩
theorem lw_p39 : lw_okq (⟨"StarchGarrison$Siege", "starchBesides", "(III)V"⟩, 11) := ⟨⟨by decide +kernel, by decide +kernel⟩, List.mem_of_getElem? (i := 189) (by decide +kernel), List.mem_of_getElem? (i := 804) (by decide +kernel), List.mem_of_getElem? (i := 805) (by decide +kernel)⟩
theorem lw_p40 : lw_okq (⟨"StarchGarrison$Plan", "packetsLeft", "(I)I"⟩, 15) := ⟨⟨by decide +kernel, by decide +kernel⟩, List.mem_of_getElem? (i := 28) (by decide +kernel), List.mem_of_getElem? (i := 817) (by decide +kernel), List.mem_of_getElem? (i := 818) (by decide +kernel)⟩
theorem lw_p41 : lw_okq (⟨"StarchGarrison$Plan", "packetsTaken", "(I)I"⟩, 15) := ⟨⟨by decide +kernel, by decide +kernel⟩, List.mem_of_getElem? (i := 28) (by decide +kernel), List.mem_of_getElem? (i := 821) (by decide +kernel), List.mem_of_getElem? (i := 822) (by decide +kernel)⟩
theorem lw_p42 : lw_okq (⟨"StarchGarrison$Plan", "eatenOf", "(II)I"⟩, 15) := ⟨⟨by decide +kernel, by decide +kernel⟩, List.mem_of_getElem? (i := 28) (by decide +kernel), List.mem_of_getElem? (i := 825) (by decide +kernel), List.mem_of_getElem? (i := 826) (by decide +kernel)⟩
theorem lw_p43 : lw_okq (⟨"StarchGarrison$Plan", "packetsEaten", "()I"⟩, 15) := ⟨⟨by decide +kernel, by decide +kernel⟩, List.mem_of_getElem? (i := 28) (by decide +kernel), List.mem_of_getElem? (i := 834) (by decide +kernel), List.mem_of_getElem? (i := 835) (by decide +kernel)⟩
theorem lw_p44 : lw_okq (⟨"StarchGarrison$Siege", "standsThrough", "(II)Z"⟩, 11) := ⟨⟨by decide +kernel, by decide +kernel⟩, List.mem_of_getElem? (i := 189) (by decide +kernel), List.mem_of_getElem? (i := 846) (by decide +kernel), List.mem_of_getElem? (i := 847) (by decide +kernel)⟩
theorem lw_p45 : lw_okq (⟨"StarchGarrison$Sharing", "search", "(I)V"⟩, 8) := ⟨⟨by decide +kernel, by decide +kernel⟩, List.mem_of_getElem? (i := 239) (by decide +kernel), List.mem_of_getElem? (i := 857) (by decide +kernel), List.mem_of_getElem? (i := 858) (by decide +kernel)⟩
theorem lw_p46 : lw_okq (⟨"StarchGarrison$Sharing", "begin", "(I)Z"⟩, 8) := ⟨⟨by decide +kernel, by decide +kernel⟩, List.mem_of_getElem? (i := 239) (by decide +kernel), List.mem_of_getElem? (i := 862) (by decide +kernel), List.mem_of_getElem? (i := 863) (by decide +kernel)⟩
theorem lw_p47 : lw_okq (⟨"StarchGarrison$Sharing", "heldBy", "(I)I"⟩, 8) := ⟨⟨by decide +kernel, by decide +kernel⟩, List.mem_of_getElem? (i := 239) (by decide +kernel), List.mem_of_getElem? (i := 868) (by decide +kernel), List.mem_of_getElem? (i := 869) (by decide +kernel)⟩
def lw_privs_3 : List (MethodName × Nat) := [(⟨"StarchGarrison$Siege", "standsAt", "(II)Z"⟩, 11), (⟨"StarchGarrison$Siege", "hoursStood", "(I)I"⟩, 11), (⟨"StarchGarrison$Siege", "widestGap", "(I)I"⟩, 11), (⟨"StarchGarrison$Siege", "lineHolds", "(I)Z"⟩, 11), (⟨"StarchGarrison$Siege", "firstFall", "()I"⟩, 11), (⟨"StarchGarrison$Siege", "hoursHeld", "()I"⟩, 11), (⟨"StarchGarrison$Siege", "hoursHeldOf", "(I)I"⟩, 11), (⟨"StarchGarrison$Siege", "starchBesides", "(III)V"⟩, 11), (⟨"StarchGarrison$Plan", "packetsLeft", "(I)I"⟩, 15), (⟨"StarchGarrison$Plan", "packetsTaken", "(I)I"⟩, 15), (⟨"StarchGarrison$Plan", "eatenOf", "(II)I"⟩, 15), (⟨"StarchGarrison$Plan", "packetsEaten", "()I"⟩, 15), (⟨"StarchGarrison$Siege", "standsThrough", "(II)Z"⟩, 11), (⟨"StarchGarrison$Sharing", "search", "(I)V"⟩, 8), (⟨"StarchGarrison$Sharing", "begin", "(I)Z"⟩, 8), (⟨"StarchGarrison$Sharing", "heldBy", "(I)I"⟩, 8)]
theorem lw_r3 : ∀ q ∈ lw_privs_3, lw_okq q := List.forall_mem_cons.mpr ⟨lw_p32, List.forall_mem_cons.mpr ⟨lw_p33, List.forall_mem_cons.mpr ⟨lw_p34, List.forall_mem_cons.mpr ⟨lw_p35, List.forall_mem_cons.mpr ⟨lw_p36, List.forall_mem_cons.mpr ⟨lw_p37, List.forall_mem_cons.mpr ⟨lw_p38, List.forall_mem_cons.mpr ⟨lw_p39, List.forall_mem_cons.mpr ⟨lw_p40, List.forall_mem_cons.mpr ⟨lw_p41, List.forall_mem_cons.mpr ⟨lw_p42, List.forall_mem_cons.mpr ⟨lw_p43, List.forall_mem_cons.mpr ⟨lw_p44, List.forall_mem_cons.mpr ⟨lw_p45, List.forall_mem_cons.mpr ⟨lw_p46, List.forall_mem_cons.mpr ⟨lw_p47, fun _ h => absurd h List.not_mem_nil⟩⟩⟩⟩⟩⟩⟩⟩⟩⟩⟩⟩⟩⟩⟩⟩
theorem lw_p48 : lw_okq (⟨"StarchGarrison$Sharing", "starchAll", "(I)V"⟩, 8) := ⟨⟨by decide +kernel, by decide +kernel⟩, List.mem_of_getElem? (i := 239) (by decide +kernel), List.mem_of_getElem? (i := 872) (by decide +kernel), List.mem_of_getElem? (i := 873) (by decide +kernel)⟩
theorem lw_p49 : lw_okq (⟨"StarchGarrison$Sharing", "weigh", "(I)V"⟩, 8) := ⟨⟨by decide +kernel, by decide +kernel⟩, List.mem_of_getElem? (i := 239) (by decide +kernel), List.mem_of_getElem? (i := 878) (by decide +kernel), List.mem_of_getElem? (i := 879) (by decide +kernel)⟩
theorem lw_p50 : lw_okq (⟨"StarchGarrison$Sharing", "advance", "()Z"⟩, 8) := ⟨⟨by decide +kernel, by decide +kernel⟩, List.mem_of_getElem? (i := 239) (by decide +kernel), List.mem_of_getElem? (i := 883) (by decide +kernel), List.mem_of_getElem? (i := 884) (by decide +kernel)⟩
theorem lw_p51 : lw_okq (⟨"StarchGarrison$Sharing", "lastHeld", "()I"⟩, 8) := ⟨⟨by decide +kernel, by decide +kernel⟩, List.mem_of_getElem? (i := 239) (by decide +kernel), List.mem_of_getElem? (i := 887) (by decide +kernel), List.mem_of_getElem? (i := 888) (by decide +kernel)⟩
theorem lw_p52 : lw_okq (⟨"StarchGarrison$Sharing", "holdsThrough", "(II)Z"⟩, 8) := ⟨⟨by decide +kernel, by decide +kernel⟩, List.mem_of_getElem? (i := 239) (by decide +kernel), List.mem_of_getElem? (i := 903) (by decide +kernel), List.mem_of_getElem? (i := 904) (by decide +kernel)⟩
theorem lw_p53 : lw_okq (⟨"StarchGarrison$Ordering", "search", "()V"⟩, 5) := ⟨⟨by decide +kernel, by decide +kernel⟩, List.mem_of_getElem? (i := 272) (by decide +kernel), List.mem_of_getElem? (i := 911) (by decide +kernel), List.mem_of_getElem? (i := 912) (by decide +kernel)⟩
theorem lw_p54 : lw_okq (⟨"StarchGarrison$Ordering", "advance", "([I)Z"⟩, 5) := ⟨⟨by decide +kernel, by decide +kernel⟩, List.mem_of_getElem? (i := 272) (by decide +kernel), List.mem_of_getElem? (i := 919) (by decide +kernel), List.mem_of_getElem? (i := 920) (by decide +kernel)⟩
theorem lw_p55 : lw_okq (⟨"StarchGarrison$Ordering", "bestChange", "()I"⟩, 5) := ⟨⟨by decide +kernel, by decide +kernel⟩, List.mem_of_getElem? (i := 272) (by decide +kernel), List.mem_of_getElem? (i := 934) (by decide +kernel), List.mem_of_getElem? (i := 935) (by decide +kernel)⟩
theorem lw_p56 : lw_okq (⟨"StarchGarrison$Ironing", "search", "(I)V"⟩, 5) := ⟨⟨by decide +kernel, by decide +kernel⟩, List.mem_of_getElem? (i := 296) (by decide +kernel), List.mem_of_getElem? (i := 942) (by decide +kernel), List.mem_of_getElem? (i := 943) (by decide +kernel)⟩
theorem lw_p57 : lw_okq (⟨"StarchGarrison$Ironing", "passHour", "(II)V"⟩, 5) := ⟨⟨by decide +kernel, by decide +kernel⟩, List.mem_of_getElem? (i := 296) (by decide +kernel), List.mem_of_getElem? (i := 952) (by decide +kernel), List.mem_of_getElem? (i := 953) (by decide +kernel)⟩
theorem lw_p58 : lw_okq (⟨"StarchGarrison$Ironing", "pass", "(IIIJ)V"⟩, 5) := ⟨⟨by decide +kernel, by decide +kernel⟩, List.mem_of_getElem? (i := 296) (by decide +kernel), List.mem_of_getElem? (i := 957) (by decide +kernel), List.mem_of_getElem? (i := 958) (by decide +kernel)⟩
theorem lw_p59 : lw_okq (⟨"StarchGarrison$Ironing", "fewestHours", "()I"⟩, 5) := ⟨⟨by decide +kernel, by decide +kernel⟩, List.mem_of_getElem? (i := 296) (by decide +kernel), List.mem_of_getElem? (i := 969) (by decide +kernel), List.mem_of_getElem? (i := 970) (by decide +kernel)⟩
theorem lw_p60 : lw_okq (⟨"StarchGarrison$Ironing", "leastSet", "()I"⟩, 5) := ⟨⟨by decide +kernel, by decide +kernel⟩, List.mem_of_getElem? (i := 296) (by decide +kernel), List.mem_of_getElem? (i := 977) (by decide +kernel), List.mem_of_getElem? (i := 978) (by decide +kernel)⟩
theorem lw_p61 : lw_okq (⟨"StarchGarrison", "sight", "(II)I"⟩, 14) := ⟨⟨by decide +kernel, by decide +kernel⟩, List.mem_of_getElem? (i := 20) (by decide +kernel), List.mem_of_getElem? (i := 986) (by decide +kernel), List.mem_of_getElem? (i := 987) (by decide +kernel)⟩
theorem lw_p62 : lw_okq (⟨"StarchGarrison$Row", "isThere", "()Z"⟩, 3) := ⟨⟨by decide +kernel, by decide +kernel⟩, List.mem_of_getElem? (i := 167) (by decide +kernel), List.mem_of_getElem? (i := 993) (by decide +kernel), List.mem_of_getElem? (i := 994) (by decide +kernel)⟩
theorem lw_p63 : lw_okq (⟨"StarchGarrison$Sighting", "fitsPairs", "(LStarchGarrison$Row;)Z"⟩, 8) := ⟨⟨by decide +kernel, by decide +kernel⟩, List.mem_of_getElem? (i := 318) (by decide +kernel), List.mem_of_getElem? (i := 997) (by decide +kernel), List.mem_of_getElem? (i := 998) (by decide +kernel)⟩
def lw_privs_4 : List (MethodName × Nat) := [(⟨"StarchGarrison$Sharing", "starchAll", "(I)V"⟩, 8), (⟨"StarchGarrison$Sharing", "weigh", "(I)V"⟩, 8), (⟨"StarchGarrison$Sharing", "advance", "()Z"⟩, 8), (⟨"StarchGarrison$Sharing", "lastHeld", "()I"⟩, 8), (⟨"StarchGarrison$Sharing", "holdsThrough", "(II)Z"⟩, 8), (⟨"StarchGarrison$Ordering", "search", "()V"⟩, 5), (⟨"StarchGarrison$Ordering", "advance", "([I)Z"⟩, 5), (⟨"StarchGarrison$Ordering", "bestChange", "()I"⟩, 5), (⟨"StarchGarrison$Ironing", "search", "(I)V"⟩, 5), (⟨"StarchGarrison$Ironing", "passHour", "(II)V"⟩, 5), (⟨"StarchGarrison$Ironing", "pass", "(IIIJ)V"⟩, 5), (⟨"StarchGarrison$Ironing", "fewestHours", "()I"⟩, 5), (⟨"StarchGarrison$Ironing", "leastSet", "()I"⟩, 5), (⟨"StarchGarrison", "sight", "(II)I"⟩, 14), (⟨"StarchGarrison$Row", "isThere", "()Z"⟩, 3), (⟨"StarchGarrison$Sighting", "fitsPairs", "(LStarchGarrison$Row;)Z"⟩, 8)]
theorem lw_r4 : ∀ q ∈ lw_privs_4, lw_okq q := List.forall_mem_cons.mpr ⟨lw_p48, List.forall_mem_cons.mpr ⟨lw_p49, List.forall_mem_cons.mpr ⟨lw_p50, List.forall_mem_cons.mpr ⟨lw_p51, List.forall_mem_cons.mpr ⟨lw_p52, List.forall_mem_cons.mpr ⟨lw_p53, List.forall_mem_cons.mpr ⟨lw_p54, List.forall_mem_cons.mpr ⟨lw_p55, List.forall_mem_cons.mpr ⟨lw_p56, List.forall_mem_cons.mpr ⟨lw_p57, List.forall_mem_cons.mpr ⟨lw_p58, List.forall_mem_cons.mpr ⟨lw_p59, List.forall_mem_cons.mpr ⟨lw_p60, List.forall_mem_cons.mpr ⟨lw_p61, List.forall_mem_cons.mpr ⟨lw_p62, List.forall_mem_cons.mpr ⟨lw_p63, fun _ h => absurd h List.not_mem_nil⟩⟩⟩⟩⟩⟩⟩⟩⟩⟩⟩⟩⟩⟩⟩⟩
theorem lw_p64 : lw_okq (⟨"StarchGarrison$Sighting", "weigh", "(LStarchGarrison$Row;I)V"⟩, 8) := ⟨⟨by decide +kernel, by decide +kernel⟩, List.mem_of_getElem? (i := 318) (by decide +kernel), List.mem_of_getElem? (i := 1005) (by decide +kernel), List.mem_of_getElem? (i := 1006) (by decide +kernel)⟩
theorem lw_p65 : lw_okq (⟨"StarchGarrison$Sighting", "agreesByPairs", "(LStarchGarrison$Row;I)Z"⟩, 8) := ⟨⟨by decide +kernel, by decide +kernel⟩, List.mem_of_getElem? (i := 318) (by decide +kernel), List.mem_of_getElem? (i := 1012) (by decide +kernel), List.mem_of_getElem? (i := 1013) (by decide +kernel)⟩
theorem lw_p66 : lw_okq (⟨"StarchGarrison$Sighting", "note", "(II)V"⟩, 8) := ⟨⟨by decide +kernel, by decide +kernel⟩, List.mem_of_getElem? (i := 318) (by decide +kernel), List.mem_of_getElem? (i := 1017) (by decide +kernel), List.mem_of_getElem? (i := 1018) (by decide +kernel)⟩
theorem lw_p67 : lw_okq (⟨"StarchGarrison$Sighting", "bestQuestion", "()I"⟩, 8) := ⟨⟨by decide +kernel, by decide +kernel⟩, List.mem_of_getElem? (i := 318) (by decide +kernel), List.mem_of_getElem? (i := 1036) (by decide +kernel), List.mem_of_getElem? (i := 1037) (by decide +kernel)⟩
theorem lw_p68 : lw_okq (⟨"StarchGarrison$Sighting", "fitsTriples", "(LStarchGarrison$Row;)Z"⟩, 8) := ⟨⟨by decide +kernel, by decide +kernel⟩, List.mem_of_getElem? (i := 318) (by decide +kernel), List.mem_of_getElem? (i := 1052) (by decide +kernel), List.mem_of_getElem? (i := 1053) (by decide +kernel)⟩
theorem lw_p69 : lw_okq (⟨"StarchGarrison$Sighting", "lawsOf", "(LStarchGarrison$Row;)I"⟩, 8) := ⟨⟨by decide +kernel, by decide +kernel⟩, List.mem_of_getElem? (i := 318) (by decide +kernel), List.mem_of_getElem? (i := 1056) (by decide +kernel), List.mem_of_getElem? (i := 1057) (by decide +kernel)⟩
theorem lw_p70 : lw_okq (⟨"StarchGarrison$Sighting", "agreesByTriples", "(LStarchGarrison$Row;)Z"⟩, 8) := ⟨⟨by decide +kernel, by decide +kernel⟩, List.mem_of_getElem? (i := 318) (by decide +kernel), List.mem_of_getElem? (i := 1060) (by decide +kernel), List.mem_of_getElem? (i := 1061) (by decide +kernel)⟩
theorem lw_p71 : lw_okq (⟨"StarchGarrison", "isPair", "(II)Z"⟩, 14) := ⟨⟨by decide +kernel, by decide +kernel⟩, List.mem_of_getElem? (i := 20) (by decide +kernel), List.mem_of_getElem? (i := 1077) (by decide +kernel), List.mem_of_getElem? (i := 1078) (by decide +kernel)⟩
theorem lw_p72 : lw_okq (⟨"StarchGarrison", "isContent", "(IIII)Z"⟩, 14) := ⟨⟨by decide +kernel, by decide +kernel⟩, List.mem_of_getElem? (i := 20) (by decide +kernel), List.mem_of_getElem? (i := 1081) (by decide +kernel), List.mem_of_getElem? (i := 1082) (by decide +kernel)⟩
theorem lw_p73 : lw_okq (⟨"StarchGarrison", "payOf", "(IIII)I"⟩, 14) := ⟨⟨by decide +kernel, by decide +kernel⟩, List.mem_of_getElem? (i := 20) (by decide +kernel), List.mem_of_getElem? (i := 1085) (by decide +kernel), List.mem_of_getElem? (i := 1086) (by decide +kernel)⟩
theorem lw_p74 : lw_okq (⟨"StarchGarrison", "isChanceHour", "(I)Z"⟩, 14) := ⟨⟨by decide +kernel, by decide +kernel⟩, List.mem_of_getElem? (i := 20) (by decide +kernel), List.mem_of_getElem? (i := 1100) (by decide +kernel), List.mem_of_getElem? (i := 1101) (by decide +kernel)⟩
theorem lw_p75 : lw_okq (⟨"StarchGarrison$Weather", "sum", "(III)V"⟩, 4) := ⟨⟨by decide +kernel, by decide +kernel⟩, List.mem_of_getElem? (i := 354) (by decide +kernel), List.mem_of_getElem? (i := 1105) (by decide +kernel), List.mem_of_getElem? (i := 1106) (by decide +kernel)⟩
theorem lw_p76 : lw_okq (⟨"StarchGarrison$Weather", "weightOf", "(II)J"⟩, 4) := ⟨⟨by decide +kernel, by decide +kernel⟩, List.mem_of_getElem? (i := 354) (by decide +kernel), List.mem_of_getElem? (i := 1110) (by decide +kernel), List.mem_of_getElem? (i := 1111) (by decide +kernel)⟩
theorem lw_p77 : lw_okq (⟨"StarchGarrison$Weather", "valueOf", "(III)I"⟩, 4) := ⟨⟨by decide +kernel, by decide +kernel⟩, List.mem_of_getElem? (i := 354) (by decide +kernel), List.mem_of_getElem? (i := 1114) (by decide +kernel), List.mem_of_getElem? (i := 1115) (by decide +kernel)⟩
theorem lw_p78 : lw_okq (⟨"StarchGarrison$Siege", "playThrough", "(I)V"⟩, 11) := ⟨⟨by decide +kernel, by decide +kernel⟩, List.mem_of_getElem? (i := 189) (by decide +kernel), List.mem_of_getElem? (i := 1119) (by decide +kernel), List.mem_of_getElem? (i := 1120) (by decide +kernel)⟩
theorem lw_p79 : lw_okq (⟨"StarchGarrison$Weather", "reduce", "()V"⟩, 4) := ⟨⟨by decide +kernel, by decide +kernel⟩, List.mem_of_getElem? (i := 354) (by decide +kernel), List.mem_of_getElem? (i := 1126) (by decide +kernel), List.mem_of_getElem? (i := 1127) (by decide +kernel)⟩
def lw_privs_5 : List (MethodName × Nat) := [(⟨"StarchGarrison$Sighting", "weigh", "(LStarchGarrison$Row;I)V"⟩, 8), (⟨"StarchGarrison$Sighting", "agreesByPairs", "(LStarchGarrison$Row;I)Z"⟩, 8), (⟨"StarchGarrison$Sighting", "note", "(II)V"⟩, 8), (⟨"StarchGarrison$Sighting", "bestQuestion", "()I"⟩, 8), (⟨"StarchGarrison$Sighting", "fitsTriples", "(LStarchGarrison$Row;)Z"⟩, 8), (⟨"StarchGarrison$Sighting", "lawsOf", "(LStarchGarrison$Row;)I"⟩, 8), (⟨"StarchGarrison$Sighting", "agreesByTriples", "(LStarchGarrison$Row;)Z"⟩, 8), (⟨"StarchGarrison", "isPair", "(II)Z"⟩, 14), (⟨"StarchGarrison", "isContent", "(IIII)Z"⟩, 14), (⟨"StarchGarrison", "payOf", "(IIII)I"⟩, 14), (⟨"StarchGarrison", "isChanceHour", "(I)Z"⟩, 14), (⟨"StarchGarrison$Weather", "sum", "(III)V"⟩, 4), (⟨"StarchGarrison$Weather", "weightOf", "(II)J"⟩, 4), (⟨"StarchGarrison$Weather", "valueOf", "(III)I"⟩, 4), (⟨"StarchGarrison$Siege", "playThrough", "(I)V"⟩, 11), (⟨"StarchGarrison$Weather", "reduce", "()V"⟩, 4)]
theorem lw_r5 : ∀ q ∈ lw_privs_5, lw_okq q := List.forall_mem_cons.mpr ⟨lw_p64, List.forall_mem_cons.mpr ⟨lw_p65, List.forall_mem_cons.mpr ⟨lw_p66, List.forall_mem_cons.mpr ⟨lw_p67, List.forall_mem_cons.mpr ⟨lw_p68, List.forall_mem_cons.mpr ⟨lw_p69, List.forall_mem_cons.mpr ⟨lw_p70, List.forall_mem_cons.mpr ⟨lw_p71, List.forall_mem_cons.mpr ⟨lw_p72, List.forall_mem_cons.mpr ⟨lw_p73, List.forall_mem_cons.mpr ⟨lw_p74, List.forall_mem_cons.mpr ⟨lw_p75, List.forall_mem_cons.mpr ⟨lw_p76, List.forall_mem_cons.mpr ⟨lw_p77, List.forall_mem_cons.mpr ⟨lw_p78, List.forall_mem_cons.mpr ⟨lw_p79, fun _ h => absurd h List.not_mem_nil⟩⟩⟩⟩⟩⟩⟩⟩⟩⟩⟩⟩⟩⟩⟩⟩
theorem lw_p80 : lw_okq (⟨"StarchGarrison$Weather", "part", "(I)J"⟩, 4) := ⟨⟨by decide +kernel, by decide +kernel⟩, List.mem_of_getElem? (i := 354) (by decide +kernel), List.mem_of_getElem? (i := 1130) (by decide +kernel), List.mem_of_getElem? (i := 1131) (by decide +kernel)⟩
theorem lw_p81 : lw_okq (⟨"StarchGarrison$Plan", "act", "(III)V"⟩, 15) := ⟨⟨by decide +kernel, by decide +kernel⟩, List.mem_of_getElem? (i := 28) (by decide +kernel), List.mem_of_getElem? (i := 1146) (by decide +kernel), List.mem_of_getElem? (i := 1147) (by decide +kernel)⟩
theorem lw_p82 : lw_okq (⟨"StarchGarrison$Plan", "packetsSuffice", "()Z"⟩, 15) := ⟨⟨by decide +kernel, by decide +kernel⟩, List.mem_of_getElem? (i := 28) (by decide +kernel), List.mem_of_getElem? (i := 1150) (by decide +kernel), List.mem_of_getElem? (i := 1151) (by decide +kernel)⟩
theorem lw_p83 : lw_okq (⟨"StarchGarrison$Plan", "keepActs", "(I)V"⟩, 15) := ⟨⟨by decide +kernel, by decide +kernel⟩, List.mem_of_getElem? (i := 28) (by decide +kernel), List.mem_of_getElem? (i := 1154) (by decide +kernel), List.mem_of_getElem? (i := 1155) (by decide +kernel)⟩
theorem lw_p84 : lw_okq (⟨"StarchGarrison$Weather", "drawDamp", "(I)I"⟩, 4) := ⟨⟨by decide +kernel, by decide +kernel⟩, List.mem_of_getElem? (i := 354) (by decide +kernel), List.mem_of_getElem? (i := 1178) (by decide +kernel), List.mem_of_getElem? (i := 1179) (by decide +kernel)⟩
theorem lw_p85 : lw_okq (⟨"StarchGarrison$Plan", "setNeeds", "(II)V"⟩, 15) := ⟨⟨by decide +kernel, by decide +kernel⟩, List.mem_of_getElem? (i := 28) (by decide +kernel), List.mem_of_getElem? (i := 1195) (by decide +kernel), List.mem_of_getElem? (i := 1196) (by decide +kernel)⟩
theorem lw_p86 : lw_okq (⟨"StarchGarrison", "rowsThere", "()I"⟩, 14) := ⟨⟨by decide +kernel, by decide +kernel⟩, List.mem_of_getElem? (i := 20) (by decide +kernel), List.mem_of_getElem? (i := 1203) (by decide +kernel), List.mem_of_getElem? (i := 1204) (by decide +kernel)⟩
theorem lw_p87 : lw_okq (⟨"StarchGarrison$Row", "make", "(II)V"⟩, 3) := ⟨⟨by decide +kernel, by decide +kernel⟩, List.mem_of_getElem? (i := 167) (by decide +kernel), List.mem_of_getElem? (i := 1219) (by decide +kernel), List.mem_of_getElem? (i := 1220) (by decide +kernel)⟩
theorem lw_p88 : lw_okq (⟨"StarchGarrison$Row", "put", "(IJ)V"⟩, 3) := ⟨⟨by decide +kernel, by decide +kernel⟩, List.mem_of_getElem? (i := 167) (by decide +kernel), List.mem_of_getElem? (i := 1228) (by decide +kernel), List.mem_of_getElem? (i := 1229) (by decide +kernel)⟩
theorem lw_p89 : lw_okq (⟨"StarchGarrison$Row", "reaches", "(II)Z"⟩, 3) := ⟨⟨by decide +kernel, by decide +kernel⟩, List.mem_of_getElem? (i := 167) (by decide +kernel), List.mem_of_getElem? (i := 1236) (by decide +kernel), List.mem_of_getElem? (i := 1237) (by decide +kernel)⟩
theorem lw_p90 : lw_okq (⟨"StarchGarrisonModel", "four", "(I)V"⟩, 56) := ⟨⟨by decide +kernel, by decide +kernel⟩, List.mem_of_getElem? (i := 1241) (by decide +kernel), List.mem_of_getElem? (i := 1443) (by decide +kernel), List.mem_of_getElem? (i := 1444) (by decide +kernel)⟩
theorem lw_p91 : lw_okq (⟨"StarchGarrisonModel", "clears", "()V"⟩, 56) := ⟨⟨by decide +kernel, by decide +kernel⟩, List.mem_of_getElem? (i := 1241) (by decide +kernel), List.mem_of_getElem? (i := 1459) (by decide +kernel), List.mem_of_getElem? (i := 1460) (by decide +kernel)⟩
theorem lw_p92 : lw_okq (⟨"StarchGarrisonModel", "tells", "(II)V"⟩, 56) := ⟨⟨by decide +kernel, by decide +kernel⟩, List.mem_of_getElem? (i := 1241) (by decide +kernel), List.mem_of_getElem? (i := 1463) (by decide +kernel), List.mem_of_getElem? (i := 1464) (by decide +kernel)⟩
theorem lw_p93 : lw_okq (⟨"StarchGarrisonModel", "begins", "()V"⟩, 56) := ⟨⟨by decide +kernel, by decide +kernel⟩, List.mem_of_getElem? (i := 1241) (by decide +kernel), List.mem_of_getElem? (i := 1467) (by decide +kernel), List.mem_of_getElem? (i := 1468) (by decide +kernel)⟩
theorem lw_p94 : lw_okq (⟨"StarchGarrisonModel", "next", "()V"⟩, 56) := ⟨⟨by decide +kernel, by decide +kernel⟩, List.mem_of_getElem? (i := 1241) (by decide +kernel), List.mem_of_getElem? (i := 1471) (by decide +kernel), List.mem_of_getElem? (i := 1472) (by decide +kernel)⟩
theorem lw_p95 : lw_okq (⟨"StarchGarrisonModel", "isByte", "(III)Z"⟩, 56) := ⟨⟨by decide +kernel, by decide +kernel⟩, List.mem_of_getElem? (i := 1241) (by decide +kernel), List.mem_of_getElem? (i := 1475) (by decide +kernel), List.mem_of_getElem? (i := 1476) (by decide +kernel)⟩
def lw_privs_6 : List (MethodName × Nat) := [(⟨"StarchGarrison$Weather", "part", "(I)J"⟩, 4), (⟨"StarchGarrison$Plan", "act", "(III)V"⟩, 15), (⟨"StarchGarrison$Plan", "packetsSuffice", "()Z"⟩, 15), (⟨"StarchGarrison$Plan", "keepActs", "(I)V"⟩, 15), (⟨"StarchGarrison$Weather", "drawDamp", "(I)I"⟩, 4), (⟨"StarchGarrison$Plan", "setNeeds", "(II)V"⟩, 15), (⟨"StarchGarrison", "rowsThere", "()I"⟩, 14), (⟨"StarchGarrison$Row", "make", "(II)V"⟩, 3), (⟨"StarchGarrison$Row", "put", "(IJ)V"⟩, 3), (⟨"StarchGarrison$Row", "reaches", "(II)Z"⟩, 3), (⟨"StarchGarrisonModel", "four", "(I)V"⟩, 56), (⟨"StarchGarrisonModel", "clears", "()V"⟩, 56), (⟨"StarchGarrisonModel", "tells", "(II)V"⟩, 56), (⟨"StarchGarrisonModel", "begins", "()V"⟩, 56), (⟨"StarchGarrisonModel", "next", "()V"⟩, 56), (⟨"StarchGarrisonModel", "isByte", "(III)Z"⟩, 56)]
theorem lw_r6 : ∀ q ∈ lw_privs_6, lw_okq q := List.forall_mem_cons.mpr ⟨lw_p80, List.forall_mem_cons.mpr ⟨lw_p81, List.forall_mem_cons.mpr ⟨lw_p82, List.forall_mem_cons.mpr ⟨lw_p83, List.forall_mem_cons.mpr ⟨lw_p84, List.forall_mem_cons.mpr ⟨lw_p85, List.forall_mem_cons.mpr ⟨lw_p86, List.forall_mem_cons.mpr ⟨lw_p87, List.forall_mem_cons.mpr ⟨lw_p88, List.forall_mem_cons.mpr ⟨lw_p89, List.forall_mem_cons.mpr ⟨lw_p90, List.forall_mem_cons.mpr ⟨lw_p91, List.forall_mem_cons.mpr ⟨lw_p92, List.forall_mem_cons.mpr ⟨lw_p93, List.forall_mem_cons.mpr ⟨lw_p94, List.forall_mem_cons.mpr ⟨lw_p95, fun _ h => absurd h List.not_mem_nil⟩⟩⟩⟩⟩⟩⟩⟩⟩⟩⟩⟩⟩⟩⟩⟩
theorem lw_p96 : lw_okq (⟨"StarchGarrisonModel", "isGood", "()Z"⟩, 56) := ⟨⟨by decide +kernel, by decide +kernel⟩, List.mem_of_getElem? (i := 1241) (by decide +kernel), List.mem_of_getElem? (i := 1484) (by decide +kernel), List.mem_of_getElem? (i := 1485) (by decide +kernel)⟩
theorem lw_p97 : lw_okq (⟨"StarchGarrisonModel", "garrisonLine", "()V"⟩, 56) := ⟨⟨by decide +kernel, by decide +kernel⟩, List.mem_of_getElem? (i := 1241) (by decide +kernel), List.mem_of_getElem? (i := 1488) (by decide +kernel), List.mem_of_getElem? (i := 1489) (by decide +kernel)⟩
theorem lw_p98 : lw_okq (⟨"StarchGarrisonModel", "asks", "(J)V"⟩, 56) := ⟨⟨by decide +kernel, by decide +kernel⟩, List.mem_of_getElem? (i := 1241) (by decide +kernel), List.mem_of_getElem? (i := 1493) (by decide +kernel), List.mem_of_getElem? (i := 1494) (by decide +kernel)⟩
theorem lw_p99 : lw_okq (⟨"StarchGarrisonModel", "takes", "(J)Z"⟩, 56) := ⟨⟨by decide +kernel, by decide +kernel⟩, List.mem_of_getElem? (i := 1241) (by decide +kernel), List.mem_of_getElem? (i := 1497) (by decide +kernel), List.mem_of_getElem? (i := 1498) (by decide +kernel)⟩
theorem lw_p100 : lw_okq (⟨"StarchGarrisonModel", "is", "(J)Z"⟩, 56) := ⟨⟨by decide +kernel, by decide +kernel⟩, List.mem_of_getElem? (i := 1241) (by decide +kernel), List.mem_of_getElem? (i := 1501) (by decide +kernel), List.mem_of_getElem? (i := 1502) (by decide +kernel)⟩
theorem lw_p101 : lw_okq (⟨"StarchGarrisonModel", "fails", "(I)V"⟩, 56) := ⟨⟨by decide +kernel, by decide +kernel⟩, List.mem_of_getElem? (i := 1241) (by decide +kernel), List.mem_of_getElem? (i := 1505) (by decide +kernel), List.mem_of_getElem? (i := 1506) (by decide +kernel)⟩
theorem lw_p102 : lw_okq (⟨"StarchGarrisonModel", "number", "(JII)I"⟩, 56) := ⟨⟨by decide +kernel, by decide +kernel⟩, List.mem_of_getElem? (i := 1241) (by decide +kernel), List.mem_of_getElem? (i := 1510) (by decide +kernel), List.mem_of_getElem? (i := 1511) (by decide +kernel)⟩
theorem lw_p103 : lw_okq (⟨"StarchGarrisonModel", "number", "(II)I"⟩, 56) := ⟨⟨by decide +kernel, by decide +kernel⟩, List.mem_of_getElem? (i := 1241) (by decide +kernel), List.mem_of_getElem? (i := 1514) (by decide +kernel), List.mem_of_getElem? (i := 1515) (by decide +kernel)⟩
theorem lw_p104 : lw_okq (⟨"StarchGarrisonModel", "lineHere", "()V"⟩, 56) := ⟨⟨by decide +kernel, by decide +kernel⟩, List.mem_of_getElem? (i := 1241) (by decide +kernel), List.mem_of_getElem? (i := 1523) (by decide +kernel), List.mem_of_getElem? (i := 1524) (by decide +kernel)⟩
theorem lw_p105 : lw_okq (⟨"StarchGarrisonModel", "isRoom", "(ZII)Z"⟩, 56) := ⟨⟨by decide +kernel, by decide +kernel⟩, List.mem_of_getElem? (i := 1241) (by decide +kernel), List.mem_of_getElem? (i := 1528) (by decide +kernel), List.mem_of_getElem? (i := 1529) (by decide +kernel)⟩
theorem lw_p106 : lw_okq (⟨"StarchGarrisonModel", "hasRead", "(I)I"⟩, 56) := ⟨⟨by decide +kernel, by decide +kernel⟩, List.mem_of_getElem? (i := 1241) (by decide +kernel), List.mem_of_getElem? (i := 1532) (by decide +kernel), List.mem_of_getElem? (i := 1533) (by decide +kernel)⟩
theorem lw_p107 : lw_okq (⟨"StarchGarrisonModel", "manLine", "()V"⟩, 56) := ⟨⟨by decide +kernel, by decide +kernel⟩, List.mem_of_getElem? (i := 1241) (by decide +kernel), List.mem_of_getElem? (i := 1536) (by decide +kernel), List.mem_of_getElem? (i := 1537) (by decide +kernel)⟩
theorem lw_p108 : lw_okq (⟨"StarchGarrisonModel", "spanLine", "([III)V"⟩, 56) := ⟨⟨by decide +kernel, by decide +kernel⟩, List.mem_of_getElem? (i := 1241) (by decide +kernel), List.mem_of_getElem? (i := 1545) (by decide +kernel), List.mem_of_getElem? (i := 1546) (by decide +kernel)⟩
theorem lw_p109 : lw_okq (⟨"StarchGarrisonModel", "ends", "()V"⟩, 56) := ⟨⟨by decide +kernel, by decide +kernel⟩, List.mem_of_getElem? (i := 1241) (by decide +kernel), List.mem_of_getElem? (i := 1553) (by decide +kernel), List.mem_of_getElem? (i := 1554) (by decide +kernel)⟩
theorem lw_p110 : lw_okq (⟨"StarchGarrisonModel", "isOver", "()V"⟩, 56) := ⟨⟨by decide +kernel, by decide +kernel⟩, List.mem_of_getElem? (i := 1241) (by decide +kernel), List.mem_of_getElem? (i := 1557) (by decide +kernel), List.mem_of_getElem? (i := 1558) (by decide +kernel)⟩
theorem lw_p111 : lw_okq (⟨"StarchGarrisonModel", "copyGarrison", "(II)V"⟩, 56) := ⟨⟨by decide +kernel, by decide +kernel⟩, List.mem_of_getElem? (i := 1241) (by decide +kernel), List.mem_of_getElem? (i := 1561) (by decide +kernel), List.mem_of_getElem? (i := 1562) (by decide +kernel)⟩
def lw_privs_7 : List (MethodName × Nat) := [(⟨"StarchGarrisonModel", "isGood", "()Z"⟩, 56), (⟨"StarchGarrisonModel", "garrisonLine", "()V"⟩, 56), (⟨"StarchGarrisonModel", "asks", "(J)V"⟩, 56), (⟨"StarchGarrisonModel", "takes", "(J)Z"⟩, 56), (⟨"StarchGarrisonModel", "is", "(J)Z"⟩, 56), (⟨"StarchGarrisonModel", "fails", "(I)V"⟩, 56), (⟨"StarchGarrisonModel", "number", "(JII)I"⟩, 56), (⟨"StarchGarrisonModel", "number", "(II)I"⟩, 56), (⟨"StarchGarrisonModel", "lineHere", "()V"⟩, 56), (⟨"StarchGarrisonModel", "isRoom", "(ZII)Z"⟩, 56), (⟨"StarchGarrisonModel", "hasRead", "(I)I"⟩, 56), (⟨"StarchGarrisonModel", "manLine", "()V"⟩, 56), (⟨"StarchGarrisonModel", "spanLine", "([III)V"⟩, 56), (⟨"StarchGarrisonModel", "ends", "()V"⟩, 56), (⟨"StarchGarrisonModel", "isOver", "()V"⟩, 56), (⟨"StarchGarrisonModel", "copyGarrison", "(II)V"⟩, 56)]
theorem lw_r7 : ∀ q ∈ lw_privs_7, lw_okq q := List.forall_mem_cons.mpr ⟨lw_p96, List.forall_mem_cons.mpr ⟨lw_p97, List.forall_mem_cons.mpr ⟨lw_p98, List.forall_mem_cons.mpr ⟨lw_p99, List.forall_mem_cons.mpr ⟨lw_p100, List.forall_mem_cons.mpr ⟨lw_p101, List.forall_mem_cons.mpr ⟨lw_p102, List.forall_mem_cons.mpr ⟨lw_p103, List.forall_mem_cons.mpr ⟨lw_p104, List.forall_mem_cons.mpr ⟨lw_p105, List.forall_mem_cons.mpr ⟨lw_p106, List.forall_mem_cons.mpr ⟨lw_p107, List.forall_mem_cons.mpr ⟨lw_p108, List.forall_mem_cons.mpr ⟨lw_p109, List.forall_mem_cons.mpr ⟨lw_p110, List.forall_mem_cons.mpr ⟨lw_p111, fun _ h => absurd h List.not_mem_nil⟩⟩⟩⟩⟩⟩⟩⟩⟩⟩⟩⟩⟩⟩⟩⟩
theorem lw_p112 : lw_okq (⟨"StarchGarrisonModel", "isMan", "(J)Z"⟩, 56) := ⟨⟨by decide +kernel, by decide +kernel⟩, List.mem_of_getElem? (i := 1241) (by decide +kernel), List.mem_of_getElem? (i := 1572) (by decide +kernel), List.mem_of_getElem? (i := 1573) (by decide +kernel)⟩
theorem lw_p113 : lw_okq (⟨"StarchGarrisonModel", "men", "()I"⟩, 56) := ⟨⟨by decide +kernel, by decide +kernel⟩, List.mem_of_getElem? (i := 1241) (by decide +kernel), List.mem_of_getElem? (i := 1576) (by decide +kernel), List.mem_of_getElem? (i := 1577) (by decide +kernel)⟩
theorem lw_p114 : lw_okq (⟨"StarchGarrisonModel", "isHour", "(J)Z"⟩, 56) := ⟨⟨by decide +kernel, by decide +kernel⟩, List.mem_of_getElem? (i := 1241) (by decide +kernel), List.mem_of_getElem? (i := 1584) (by decide +kernel), List.mem_of_getElem? (i := 1585) (by decide +kernel)⟩
theorem lw_p115 : lw_okq (⟨"StarchGarrisonModel", "hoursAll", "()I"⟩, 56) := ⟨⟨by decide +kernel, by decide +kernel⟩, List.mem_of_getElem? (i := 1241) (by decide +kernel), List.mem_of_getElem? (i := 1588) (by decide +kernel), List.mem_of_getElem? (i := 1589) (by decide +kernel)⟩
theorem lw_p116 : lw_okq (⟨"StarchGarrisonModel", "isGarrison", "()Z"⟩, 56) := ⟨⟨by decide +kernel, by decide +kernel⟩, List.mem_of_getElem? (i := 1241) (by decide +kernel), List.mem_of_getElem? (i := 1600) (by decide +kernel), List.mem_of_getElem? (i := 1601) (by decide +kernel)⟩
theorem lw_p117 : lw_okq (⟨"StarchGarrisonModel", "laysNow", "()V"⟩, 56) := ⟨⟨by decide +kernel, by decide +kernel⟩, List.mem_of_getElem? (i := 1241) (by decide +kernel), List.mem_of_getElem? (i := 1608) (by decide +kernel), List.mem_of_getElem? (i := 1609) (by decide +kernel)⟩
theorem lw_p118 : lw_okq (⟨"StarchGarrisonModel", "lays", "()V"⟩, 56) := ⟨⟨by decide +kernel, by decide +kernel⟩, List.mem_of_getElem? (i := 1241) (by decide +kernel), List.mem_of_getElem? (i := 1612) (by decide +kernel), List.mem_of_getElem? (i := 1613) (by decide +kernel)⟩
theorem lw_p119 : lw_okq (⟨"StarchGarrisonModel", "runs", "()V"⟩, 56) := ⟨⟨by decide +kernel, by decide +kernel⟩, List.mem_of_getElem? (i := 1241) (by decide +kernel), List.mem_of_getElem? (i := 1616) (by decide +kernel), List.mem_of_getElem? (i := 1617) (by decide +kernel)⟩
theorem lw_p120 : lw_okq (⟨"StarchGarrisonModel", "hour", "(I)V"⟩, 56) := ⟨⟨by decide +kernel, by decide +kernel⟩, List.mem_of_getElem? (i := 1241) (by decide +kernel), List.mem_of_getElem? (i := 1620) (by decide +kernel), List.mem_of_getElem? (i := 1621) (by decide +kernel)⟩
theorem lw_p121 : lw_okq (⟨"StarchGarrisonModel", "starts", "(II)V"⟩, 56) := ⟨⟨by decide +kernel, by decide +kernel⟩, List.mem_of_getElem? (i := 1241) (by decide +kernel), List.mem_of_getElem? (i := 1624) (by decide +kernel), List.mem_of_getElem? (i := 1625) (by decide +kernel)⟩
theorem lw_p122 : lw_okq (⟨"StarchGarrisonModel", "at", "(II)I"⟩, 56) := ⟨⟨by decide +kernel, by decide +kernel⟩, List.mem_of_getElem? (i := 1241) (by decide +kernel), List.mem_of_getElem? (i := 1631) (by decide +kernel), List.mem_of_getElem? (i := 1632) (by decide +kernel)⟩
theorem lw_p123 : lw_okq (⟨"StarchGarrisonModel", "losesOf", "(II)I"⟩, 56) := ⟨⟨by decide +kernel, by decide +kernel⟩, List.mem_of_getElem? (i := 1241) (by decide +kernel), List.mem_of_getElem? (i := 1638) (by decide +kernel), List.mem_of_getElem? (i := 1639) (by decide +kernel)⟩
theorem lw_p124 : lw_okq (⟨"StarchGarrisonModel", "isBesideSagging", "(II)Z"⟩, 56) := ⟨⟨by decide +kernel, by decide +kernel⟩, List.mem_of_getElem? (i := 1241) (by decide +kernel), List.mem_of_getElem? (i := 1642) (by decide +kernel), List.mem_of_getElem? (i := 1643) (by decide +kernel)⟩
theorem lw_p125 : lw_okq (⟨"StarchGarrisonModel", "isSagging", "(II)Z"⟩, 56) := ⟨⟨by decide +kernel, by decide +kernel⟩, List.mem_of_getElem? (i := 1241) (by decide +kernel), List.mem_of_getElem? (i := 1646) (by decide +kernel), List.mem_of_getElem? (i := 1647) (by decide +kernel)⟩
theorem lw_p126 : lw_okq (⟨"StarchGarrisonModel", "standsAt", "(I)I"⟩, 56) := ⟨⟨by decide +kernel, by decide +kernel⟩, List.mem_of_getElem? (i := 1241) (by decide +kernel), List.mem_of_getElem? (i := 1658) (by decide +kernel), List.mem_of_getElem? (i := 1659) (by decide +kernel)⟩
theorem lw_p127 : lw_okq (⟨"StarchGarrisonModel", "isStanding", "(II)Z"⟩, 56) := ⟨⟨by decide +kernel, by decide +kernel⟩, List.mem_of_getElem? (i := 1241) (by decide +kernel), List.mem_of_getElem? (i := 1662) (by decide +kernel), List.mem_of_getElem? (i := 1663) (by decide +kernel)⟩
def lw_privs_8 : List (MethodName × Nat) := [(⟨"StarchGarrisonModel", "isMan", "(J)Z"⟩, 56), (⟨"StarchGarrisonModel", "men", "()I"⟩, 56), (⟨"StarchGarrisonModel", "isHour", "(J)Z"⟩, 56), (⟨"StarchGarrisonModel", "hoursAll", "()I"⟩, 56), (⟨"StarchGarrisonModel", "isGarrison", "()Z"⟩, 56), (⟨"StarchGarrisonModel", "laysNow", "()V"⟩, 56), (⟨"StarchGarrisonModel", "lays", "()V"⟩, 56), (⟨"StarchGarrisonModel", "runs", "()V"⟩, 56), (⟨"StarchGarrisonModel", "hour", "(I)V"⟩, 56), (⟨"StarchGarrisonModel", "starts", "(II)V"⟩, 56), (⟨"StarchGarrisonModel", "at", "(II)I"⟩, 56), (⟨"StarchGarrisonModel", "losesOf", "(II)I"⟩, 56), (⟨"StarchGarrisonModel", "isBesideSagging", "(II)Z"⟩, 56), (⟨"StarchGarrisonModel", "isSagging", "(II)Z"⟩, 56), (⟨"StarchGarrisonModel", "standsAt", "(I)I"⟩, 56), (⟨"StarchGarrisonModel", "isStanding", "(II)Z"⟩, 56)]
theorem lw_r8 : ∀ q ∈ lw_privs_8, lw_okq q := List.forall_mem_cons.mpr ⟨lw_p112, List.forall_mem_cons.mpr ⟨lw_p113, List.forall_mem_cons.mpr ⟨lw_p114, List.forall_mem_cons.mpr ⟨lw_p115, List.forall_mem_cons.mpr ⟨lw_p116, List.forall_mem_cons.mpr ⟨lw_p117, List.forall_mem_cons.mpr ⟨lw_p118, List.forall_mem_cons.mpr ⟨lw_p119, List.forall_mem_cons.mpr ⟨lw_p120, List.forall_mem_cons.mpr ⟨lw_p121, List.forall_mem_cons.mpr ⟨lw_p122, List.forall_mem_cons.mpr ⟨lw_p123, List.forall_mem_cons.mpr ⟨lw_p124, List.forall_mem_cons.mpr ⟨lw_p125, List.forall_mem_cons.mpr ⟨lw_p126, List.forall_mem_cons.mpr ⟨lw_p127, fun _ h => absurd h List.not_mem_nil⟩⟩⟩⟩⟩⟩⟩⟩⟩⟩⟩⟩⟩⟩⟩⟩
theorem lw_p128 : lw_okq (⟨"StarchGarrisonModel", "givesAt", "(I)I"⟩, 56) := ⟨⟨by decide +kernel, by decide +kernel⟩, List.mem_of_getElem? (i := 1241) (by decide +kernel), List.mem_of_getElem? (i := 1670) (by decide +kernel), List.mem_of_getElem? (i := 1671) (by decide +kernel)⟩
theorem lw_p129 : lw_okq (⟨"StarchGarrisonModel", "hoursOf", "(I)I"⟩, 56) := ⟨⟨by decide +kernel, by decide +kernel⟩, List.mem_of_getElem? (i := 1241) (by decide +kernel), List.mem_of_getElem? (i := 1678) (by decide +kernel), List.mem_of_getElem? (i := 1679) (by decide +kernel)⟩
theorem lw_p130 : lw_okq (⟨"StarchGarrisonModel", "gapAt", "(I)I"⟩, 56) := ⟨⟨by decide +kernel, by decide +kernel⟩, List.mem_of_getElem? (i := 1241) (by decide +kernel), List.mem_of_getElem? (i := 1694) (by decide +kernel), List.mem_of_getElem? (i := 1695) (by decide +kernel)⟩
theorem lw_p131 : lw_okq (⟨"StarchGarrisonModel", "isHolding", "(I)Z"⟩, 56) := ⟨⟨by decide +kernel, by decide +kernel⟩, List.mem_of_getElem? (i := 1241) (by decide +kernel), List.mem_of_getElem? (i := 1702) (by decide +kernel), List.mem_of_getElem? (i := 1703) (by decide +kernel)⟩
theorem lw_p132 : lw_okq (⟨"StarchGarrisonModel", "fallsAt", "()I"⟩, 56) := ⟨⟨by decide +kernel, by decide +kernel⟩, List.mem_of_getElem? (i := 1241) (by decide +kernel), List.mem_of_getElem? (i := 1710) (by decide +kernel), List.mem_of_getElem? (i := 1711) (by decide +kernel)⟩
theorem lw_p133 : lw_okq (⟨"StarchGarrisonModel", "orNone", "(I)I"⟩, 56) := ⟨⟨by decide +kernel, by decide +kernel⟩, List.mem_of_getElem? (i := 1241) (by decide +kernel), List.mem_of_getElem? (i := 1714) (by decide +kernel), List.mem_of_getElem? (i := 1715) (by decide +kernel)⟩
theorem lw_p134 : lw_okq (⟨"StarchGarrisonModel", "packs", "(II)V"⟩, 56) := ⟨⟨by decide +kernel, by decide +kernel⟩, List.mem_of_getElem? (i := 1241) (by decide +kernel), List.mem_of_getElem? (i := 1770) (by decide +kernel), List.mem_of_getElem? (i := 1771) (by decide +kernel)⟩
theorem lw_p135 : lw_okq (⟨"StarchGarrisonModel", "stocks", "()Z"⟩, 56) := ⟨⟨by decide +kernel, by decide +kernel⟩, List.mem_of_getElem? (i := 1241) (by decide +kernel), List.mem_of_getElem? (i := 1782) (by decide +kernel), List.mem_of_getElem? (i := 1783) (by decide +kernel)⟩
theorem lw_p136 : lw_okq (⟨"StarchGarrisonModel", "isMany", "(I)Z"⟩, 56) := ⟨⟨by decide +kernel, by decide +kernel⟩, List.mem_of_getElem? (i := 1241) (by decide +kernel), List.mem_of_getElem? (i := 1802) (by decide +kernel), List.mem_of_getElem? (i := 1803) (by decide +kernel)⟩
theorem lw_p137 : lw_okq (⟨"StarchGarrisonModel", "laysShares", "(I)V"⟩, 56) := ⟨⟨by decide +kernel, by decide +kernel⟩, List.mem_of_getElem? (i := 1241) (by decide +kernel), List.mem_of_getElem? (i := 1807) (by decide +kernel), List.mem_of_getElem? (i := 1808) (by decide +kernel)⟩
theorem lw_p138 : lw_okq (⟨"StarchGarrisonModel", "sharesFrom", "(II)V"⟩, 56) := ⟨⟨by decide +kernel, by decide +kernel⟩, List.mem_of_getElem? (i := 1241) (by decide +kernel), List.mem_of_getElem? (i := 1811) (by decide +kernel), List.mem_of_getElem? (i := 1812) (by decide +kernel)⟩
theorem lw_p139 : lw_okq (⟨"StarchGarrisonModel", "laysOrders", "()V"⟩, 56) := ⟨⟨by decide +kernel, by decide +kernel⟩, List.mem_of_getElem? (i := 1241) (by decide +kernel), List.mem_of_getElem? (i := 1831) (by decide +kernel), List.mem_of_getElem? (i := 1832) (by decide +kernel)⟩
theorem lw_p140 : lw_okq (⟨"StarchGarrisonModel", "ordersFrom", "(II)V"⟩, 56) := ⟨⟨by decide +kernel, by decide +kernel⟩, List.mem_of_getElem? (i := 1241) (by decide +kernel), List.mem_of_getElem? (i := 1835) (by decide +kernel), List.mem_of_getElem? (i := 1836) (by decide +kernel)⟩
theorem lw_p141 : lw_okq (⟨"StarchGarrisonModel", "places", "(II)V"⟩, 56) := ⟨⟨by decide +kernel, by decide +kernel⟩, List.mem_of_getElem? (i := 1241) (by decide +kernel), List.mem_of_getElem? (i := 1847) (by decide +kernel), List.mem_of_getElem? (i := 1848) (by decide +kernel)⟩
theorem lw_p142 : lw_okq (⟨"StarchGarrisonModel", "ironsOf", "(I)I"⟩, 56) := ⟨⟨by decide +kernel, by decide +kernel⟩, List.mem_of_getElem? (i := 1241) (by decide +kernel), List.mem_of_getElem? (i := 1855) (by decide +kernel), List.mem_of_getElem? (i := 1856) (by decide +kernel)⟩
theorem lw_p143 : lw_okq (⟨"StarchGarrisonModel", "ironsAt", "(III)V"⟩, 56) := ⟨⟨by decide +kernel, by decide +kernel⟩, List.mem_of_getElem? (i := 1241) (by decide +kernel), List.mem_of_getElem? (i := 1859) (by decide +kernel), List.mem_of_getElem? (i := 1860) (by decide +kernel)⟩
def lw_privs_9 : List (MethodName × Nat) := [(⟨"StarchGarrisonModel", "givesAt", "(I)I"⟩, 56), (⟨"StarchGarrisonModel", "hoursOf", "(I)I"⟩, 56), (⟨"StarchGarrisonModel", "gapAt", "(I)I"⟩, 56), (⟨"StarchGarrisonModel", "isHolding", "(I)Z"⟩, 56), (⟨"StarchGarrisonModel", "fallsAt", "()I"⟩, 56), (⟨"StarchGarrisonModel", "orNone", "(I)I"⟩, 56), (⟨"StarchGarrisonModel", "packs", "(II)V"⟩, 56), (⟨"StarchGarrisonModel", "stocks", "()Z"⟩, 56), (⟨"StarchGarrisonModel", "isMany", "(I)Z"⟩, 56), (⟨"StarchGarrisonModel", "laysShares", "(I)V"⟩, 56), (⟨"StarchGarrisonModel", "sharesFrom", "(II)V"⟩, 56), (⟨"StarchGarrisonModel", "laysOrders", "()V"⟩, 56), (⟨"StarchGarrisonModel", "ordersFrom", "(II)V"⟩, 56), (⟨"StarchGarrisonModel", "places", "(II)V"⟩, 56), (⟨"StarchGarrisonModel", "ironsOf", "(I)I"⟩, 56), (⟨"StarchGarrisonModel", "ironsAt", "(III)V"⟩, 56)]
theorem lw_r9 : ∀ q ∈ lw_privs_9, lw_okq q := List.forall_mem_cons.mpr ⟨lw_p128, List.forall_mem_cons.mpr ⟨lw_p129, List.forall_mem_cons.mpr ⟨lw_p130, List.forall_mem_cons.mpr ⟨lw_p131, List.forall_mem_cons.mpr ⟨lw_p132, List.forall_mem_cons.mpr ⟨lw_p133, List.forall_mem_cons.mpr ⟨lw_p134, List.forall_mem_cons.mpr ⟨lw_p135, List.forall_mem_cons.mpr ⟨lw_p136, List.forall_mem_cons.mpr ⟨lw_p137, List.forall_mem_cons.mpr ⟨lw_p138, List.forall_mem_cons.mpr ⟨lw_p139, List.forall_mem_cons.mpr ⟨lw_p140, List.forall_mem_cons.mpr ⟨lw_p141, List.forall_mem_cons.mpr ⟨lw_p142, List.forall_mem_cons.mpr ⟨lw_p143, fun _ h => absurd h List.not_mem_nil⟩⟩⟩⟩⟩⟩⟩⟩⟩⟩⟩⟩⟩⟩⟩⟩
theorem lw_p144 : lw_okq (⟨"StarchGarrisonModel", "better", "(III)V"⟩, 56) := ⟨⟨by decide +kernel, by decide +kernel⟩, List.mem_of_getElem? (i := 1241) (by decide +kernel), List.mem_of_getElem? (i := 1863) (by decide +kernel), List.mem_of_getElem? (i := 1864) (by decide +kernel)⟩
theorem lw_p145 : lw_okq (⟨"StarchGarrisonModel", "whyNot", "(II)I"⟩, 56) := ⟨⟨by decide +kernel, by decide +kernel⟩, List.mem_of_getElem? (i := 1241) (by decide +kernel), List.mem_of_getElem? (i := 1875) (by decide +kernel), List.mem_of_getElem? (i := 1876) (by decide +kernel)⟩
theorem lw_p146 : lw_okq (⟨"StarchGarrisonModel", "laysFits", "(II)V"⟩, 56) := ⟨⟨by decide +kernel, by decide +kernel⟩, List.mem_of_getElem? (i := 1241) (by decide +kernel), List.mem_of_getElem? (i := 1879) (by decide +kernel), List.mem_of_getElem? (i := 1880) (by decide +kernel)⟩
theorem lw_p147 : lw_okq (⟨"StarchGarrisonModel", "isSo", "(II)Z"⟩, 56) := ⟨⟨by decide +kernel, by decide +kernel⟩, List.mem_of_getElem? (i := 1241) (by decide +kernel), List.mem_of_getElem? (i := 1883) (by decide +kernel), List.mem_of_getElem? (i := 1884) (by decide +kernel)⟩
theorem lw_p148 : lw_okq (⟨"StarchGarrisonModel", "whyNotLaws", "(I)I"⟩, 56) := ⟨⟨by decide +kernel, by decide +kernel⟩, List.mem_of_getElem? (i := 1241) (by decide +kernel), List.mem_of_getElem? (i := 1911) (by decide +kernel), List.mem_of_getElem? (i := 1912) (by decide +kernel)⟩
theorem lw_p149 : lw_okq (⟨"StarchGarrisonModel", "fallsBy", "(I)I"⟩, 56) := ⟨⟨by decide +kernel, by decide +kernel⟩, List.mem_of_getElem? (i := 1241) (by decide +kernel), List.mem_of_getElem? (i := 1916) (by decide +kernel), List.mem_of_getElem? (i := 1917) (by decide +kernel)⟩
theorem lw_p150 : lw_okq (⟨"StarchGarrisonModel", "isLaw", "(I)Z"⟩, 56) := ⟨⟨by decide +kernel, by decide +kernel⟩, List.mem_of_getElem? (i := 1241) (by decide +kernel), List.mem_of_getElem? (i := 1924) (by decide +kernel), List.mem_of_getElem? (i := 1925) (by decide +kernel)⟩
theorem lw_p151 : lw_okq (⟨"StarchGarrisonModel", "areTwo", "(II)Z"⟩, 56) := ⟨⟨by decide +kernel, by decide +kernel⟩, List.mem_of_getElem? (i := 1241) (by decide +kernel), List.mem_of_getElem? (i := 1936) (by decide +kernel), List.mem_of_getElem? (i := 1937) (by decide +kernel)⟩
theorem lw_p152 : lw_okq (⟨"StarchGarrisonModel", "getsBy", "(IIIII)I"⟩, 56) := ⟨⟨by decide +kernel, by decide +kernel⟩, List.mem_of_getElem? (i := 1241) (by decide +kernel), List.mem_of_getElem? (i := 1940) (by decide +kernel), List.mem_of_getElem? (i := 1941) (by decide +kernel)⟩
theorem lw_p153 : lw_okq (⟨"StarchGarrisonModel", "isSoon", "(I)Z"⟩, 56) := ⟨⟨by decide +kernel, by decide +kernel⟩, List.mem_of_getElem? (i := 1241) (by decide +kernel), List.mem_of_getElem? (i := 1955) (by decide +kernel), List.mem_of_getElem? (i := 1956) (by decide +kernel)⟩
theorem lw_p154 : lw_okq (⟨"StarchGarrisonModel", "weightOf", "(III)J"⟩, 56) := ⟨⟨by decide +kernel, by decide +kernel⟩, List.mem_of_getElem? (i := 1241) (by decide +kernel), List.mem_of_getElem? (i := 1959) (by decide +kernel), List.mem_of_getElem? (i := 1960) (by decide +kernel)⟩
theorem lw_p155 : lw_okq (⟨"StarchGarrisonModel", "draws", "(J)V"⟩, 56) := ⟨⟨by decide +kernel, by decide +kernel⟩, List.mem_of_getElem? (i := 1241) (by decide +kernel), List.mem_of_getElem? (i := 1990) (by decide +kernel), List.mem_of_getElem? (i := 1991) (by decide +kernel)⟩
theorem lw_p156 : lw_okq (⟨"StarchGarrisonModel", "acts", "(III)I"⟩, 56) := ⟨⟨by decide +kernel, by decide +kernel⟩, List.mem_of_getElem? (i := 1241) (by decide +kernel), List.mem_of_getElem? (i := 2008) (by decide +kernel), List.mem_of_getElem? (i := 2009) (by decide +kernel)⟩
def lw_privs_10 : List (MethodName × Nat) := [(⟨"StarchGarrisonModel", "better", "(III)V"⟩, 56), (⟨"StarchGarrisonModel", "whyNot", "(II)I"⟩, 56), (⟨"StarchGarrisonModel", "laysFits", "(II)V"⟩, 56), (⟨"StarchGarrisonModel", "isSo", "(II)Z"⟩, 56), (⟨"StarchGarrisonModel", "whyNotLaws", "(I)I"⟩, 56), (⟨"StarchGarrisonModel", "fallsBy", "(I)I"⟩, 56), (⟨"StarchGarrisonModel", "isLaw", "(I)Z"⟩, 56), (⟨"StarchGarrisonModel", "areTwo", "(II)Z"⟩, 56), (⟨"StarchGarrisonModel", "getsBy", "(IIIII)I"⟩, 56), (⟨"StarchGarrisonModel", "isSoon", "(I)Z"⟩, 56), (⟨"StarchGarrisonModel", "weightOf", "(III)J"⟩, 56), (⟨"StarchGarrisonModel", "draws", "(J)V"⟩, 56), (⟨"StarchGarrisonModel", "acts", "(III)I"⟩, 56)]
theorem lw_r10 : ∀ q ∈ lw_privs_10, lw_okq q := List.forall_mem_cons.mpr ⟨lw_p144, List.forall_mem_cons.mpr ⟨lw_p145, List.forall_mem_cons.mpr ⟨lw_p146, List.forall_mem_cons.mpr ⟨lw_p147, List.forall_mem_cons.mpr ⟨lw_p148, List.forall_mem_cons.mpr ⟨lw_p149, List.forall_mem_cons.mpr ⟨lw_p150, List.forall_mem_cons.mpr ⟨lw_p151, List.forall_mem_cons.mpr ⟨lw_p152, List.forall_mem_cons.mpr ⟨lw_p153, List.forall_mem_cons.mpr ⟨lw_p154, List.forall_mem_cons.mpr ⟨lw_p155, List.forall_mem_cons.mpr ⟨lw_p156, fun _ h => absurd h List.not_mem_nil⟩⟩⟩⟩⟩⟩⟩⟩⟩⟩⟩⟩⟩
def lw_privs : List (MethodName × Nat) := lw_privs_1 ++ (lw_privs_2 ++ (lw_privs_3 ++ (lw_privs_4 ++ (lw_privs_5 ++ (lw_privs_6 ++ (lw_privs_7 ++ (lw_privs_8 ++ (lw_privs_9 ++ (lw_privs_10)))))))))
def lw_tbl : List Cond := k2_sels lw_privs ++ tables_1
theorem lw_privs_ok : ∀ q ∈ lw_privs, lw_okq q := by
  show ∀ q ∈ lw_privs_1 ++ (lw_privs_2 ++ (lw_privs_3 ++ (lw_privs_4 ++ (lw_privs_5 ++ (lw_privs_6 ++ (lw_privs_7 ++ (lw_privs_8 ++ (lw_privs_9 ++ (lw_privs_10))))))))), lw_okq q
  exact List.forall_mem_append.mpr ⟨lw_r1, List.forall_mem_append.mpr ⟨lw_r2, List.forall_mem_append.mpr ⟨lw_r3, List.forall_mem_append.mpr ⟨lw_r4, List.forall_mem_append.mpr ⟨lw_r5, List.forall_mem_append.mpr ⟨lw_r6, List.forall_mem_append.mpr ⟨lw_r7, List.forall_mem_append.mpr ⟨lw_r8, List.forall_mem_append.mpr ⟨lw_r9, lw_r10⟩⟩⟩⟩⟩⟩⟩⟩⟩
end
section
def RX0 : String := "StarchGarrison$Ironing"
def TX0 : u_T := fun k => match k with
  | 0 => ("StarchGarrison$Ironing", "plan", "LStarchGarrison$Plan;", true)
  | 1 => ("StarchGarrison$Ironing", "siege", "LStarchGarrison$Siege;", true)
  | 2 => ("StarchGarrison$Ironing", "reached", "[J", false)
  | 3 => ("StarchGarrison$Ironing", "reachedNext", "[J", false)
  | _ => ("StarchGarrison$Ironing", "best", "J", false)
def tyX0 : Nat → FieldType := fun k => match k with
  | 0 => .object "StarchGarrison$Plan"
  | 1 => .object "StarchGarrison$Siege"
  | 2 => .array .long
  | 3 => .array .long
  | _ => .long
abbrev wsX00 : List Cond := u_ws RX0 TX0 5
theorem nmX0 : ∀ a, a < 5 → ∀ b, b < 5 → a ≠ b → (TX0 a).2.1 ≠ (TX0 b).2.1 := by decide +kernel
theorem tyX0_ok : ∀ k, k < 5 → parseFieldDescriptor (TX0 k).2.2.1 = some (tyX0 k) := by decide +kernel
abbrev cX0_init : ByteArray := prog_2_method_1_code
def yX0_init : MethodName := ⟨RX0, "<init>", "(LStarchGarrison$Plan;LStarchGarrison$Siege;)V"⟩
abbrev cX0_search : ByteArray := prog_2_method_2_code
def yX0_search : MethodName := ⟨RX0, "search", "(I)V"⟩
abbrev cX0_passHour : ByteArray := prog_2_method_3_code
def yX0_passHour : MethodName := ⟨RX0, "passHour", "(II)V"⟩
abbrev cX0_pass : ByteArray := prog_2_method_4_code
def yX0_pass : MethodName := ⟨RX0, "pass", "(IIIJ)V"⟩
abbrev cX0_fewestHours : ByteArray := prog_2_method_5_code
def yX0_fewestHours : MethodName := ⟨RX0, "fewestHours", "()I"⟩
abbrev cX0_leastSet : ByteArray := prog_2_method_6_code
def yX0_leastSet : MethodName := ⟨RX0, "leastSet", "()I"⟩
def RX1 : String := "StarchGarrison$Ordering"
def TX1 : u_T := fun k => match k with
  | 0 => ("StarchGarrison$Ordering", "plan", "LStarchGarrison$Plan;", true)
  | 1 => ("StarchGarrison$Ordering", "siege", "LStarchGarrison$Siege;", true)
  | 2 => ("StarchGarrison$Ordering", "first", "[I", true)
  | 3 => ("StarchGarrison$Ordering", "longest", "I", false)
  | _ => ("StarchGarrison$Ordering", "searchedStamp", "I", false)
def tyX1 : Nat → FieldType := fun k => match k with
  | 0 => .object "StarchGarrison$Plan"
  | 1 => .object "StarchGarrison$Siege"
  | 2 => .array .int
  | 3 => .int
  | _ => .int
abbrev wsX10 : List Cond := u_ws RX1 TX1 5
theorem nmX1 : ∀ a, a < 5 → ∀ b, b < 5 → a ≠ b → (TX1 a).2.1 ≠ (TX1 b).2.1 := by decide +kernel
theorem tyX1_ok : ∀ k, k < 5 → parseFieldDescriptor (TX1 k).2.2.1 = some (tyX1 k) := by decide +kernel
abbrev cX1_init : ByteArray := prog_3_method_1_code
def yX1_init : MethodName := ⟨RX1, "<init>", "(LStarchGarrison$Plan;LStarchGarrison$Siege;)V"⟩
abbrev cX1_search : ByteArray := prog_3_method_2_code
def yX1_search : MethodName := ⟨RX1, "search", "()V"⟩
abbrev cX1_advance : ByteArray := prog_3_method_3_code
def yX1_advance : MethodName := ⟨RX1, "advance", "([I)Z"⟩
abbrev cX1_swap : ByteArray := prog_3_method_4_code
def yX1_swap : MethodName := ⟨RX1, "swap", "([III)V"⟩
abbrev cX1_bestChange : ByteArray := prog_3_method_5_code
def yX1_bestChange : MethodName := ⟨RX1, "bestChange", "()I"⟩
def RX2 : String := "StarchGarrison$Plan"
def TX2 : u_T := fun k => match k with
  | 0 => ("StarchGarrison$Plan", "lines", "I", false)
  | 1 => ("StarchGarrison$Plan", "men", "I", false)
  | 2 => ("StarchGarrison$Plan", "settings", "[I", true)
  | 3 => ("StarchGarrison$Plan", "told", "[I", true)
  | 4 => ("StarchGarrison$Plan", "sweats", "[I", true)
  | 5 => ("StarchGarrison$Plan", "needs", "[I", true)
  | 6 => ("StarchGarrison$Plan", "boiled", "[I", true)
  | 7 => ("StarchGarrison$Plan", "rains", "[I", true)
  | 8 => ("StarchGarrison$Plan", "heats", "[I", true)
  | 9 => ("StarchGarrison$Plan", "frosts", "[I", true)
  | 10 => ("StarchGarrison$Plan", "acts", "I", false)
  | 11 => ("StarchGarrison$Plan", "actMan", "[I", true)
  | 12 => ("StarchGarrison$Plan", "actHour", "[I", true)
  | 13 => ("StarchGarrison$Plan", "actPackets", "[I", true)
  | _ => ("StarchGarrison$Plan", "stamp", "I", false)
def tyX2 : Nat → FieldType := fun k => match k with
  | 0 => .int
  | 1 => .int
  | 2 => .array .int
  | 3 => .array .int
  | 4 => .array .int
  | 5 => .array .int
  | 6 => .array .int
  | 7 => .array .int
  | 8 => .array .int
  | 9 => .array .int
  | 10 => .int
  | 11 => .array .int
  | 12 => .array .int
  | 13 => .array .int
  | _ => .int
abbrev wsX20 : List Cond := u_ws RX2 TX2 15
theorem nmX2 : ∀ a, a < 15 → ∀ b, b < 15 → a ≠ b → (TX2 a).2.1 ≠ (TX2 b).2.1 := by decide +kernel
theorem tyX2_ok : ∀ k, k < 15 → parseFieldDescriptor (TX2 k).2.2.1 = some (tyX2 k) := by decide +kernel
abbrev cX2_init : ByteArray := prog_4_method_1_code
def yX2_init : MethodName := ⟨RX2, "<init>", "()V"⟩
abbrev cX2_clear : ByteArray := prog_4_method_2_code
def yX2_clear : MethodName := ⟨RX2, "clear", "()V"⟩
abbrev cX2_become : ByteArray := prog_4_method_3_code
def yX2_become : MethodName := ⟨RX2, "become", "(LStarchGarrison$Plan;)V"⟩
abbrev cX2_isTold : ByteArray := prog_4_method_4_code
def yX2_isTold : MethodName := ⟨RX2, "isTold", "()Z"⟩
abbrev cX2_isMan : ByteArray := prog_4_method_5_code
def yX2_isMan : MethodName := ⟨RX2, "isMan", "(I)Z"⟩
abbrev cX2_isHour : ByteArray := prog_4_method_6_code
def yX2_isHour : MethodName := ⟨RX2, "isHour", "(I)Z"⟩
abbrev cX2_hourCount : ByteArray := prog_4_method_7_code
def yX2_hourCount : MethodName := ⟨RX2, "hourCount", "()I"⟩
abbrev cX2_allMen : ByteArray := prog_4_method_8_code
def yX2_allMen : MethodName := ⟨RX2, "allMen", "()I"⟩
abbrev cX2_isFrost : ByteArray := prog_4_method_9_code
def yX2_isFrost : MethodName := ⟨RX2, "isFrost", "(I)Z"⟩
abbrev cX2_act : ByteArray := prog_4_method_10_code
def yX2_act : MethodName := ⟨RX2, "act", "(III)V"⟩
abbrev cX2_keepActs : ByteArray := prog_4_method_11_code
def yX2_keepActs : MethodName := ⟨RX2, "keepActs", "(I)V"⟩
abbrev cX2_setNeeds : ByteArray := prog_4_method_12_code
def yX2_setNeeds : MethodName := ⟨RX2, "setNeeds", "(II)V"⟩
abbrev cX2_packetsTaken : ByteArray := prog_4_method_13_code
def yX2_packetsTaken : MethodName := ⟨RX2, "packetsTaken", "(I)I"⟩
abbrev cX2_eatenOf : ByteArray := prog_4_method_14_code
def yX2_eatenOf : MethodName := ⟨RX2, "eatenOf", "(II)I"⟩
abbrev cX2_packetsLeft : ByteArray := prog_4_method_15_code
def yX2_packetsLeft : MethodName := ⟨RX2, "packetsLeft", "(I)I"⟩
abbrev cX2_packetsEaten : ByteArray := prog_4_method_16_code
def yX2_packetsEaten : MethodName := ⟨RX2, "packetsEaten", "()I"⟩
abbrev cX2_packetsSuffice : ByteArray := prog_4_method_17_code
def yX2_packetsSuffice : MethodName := ⟨RX2, "packetsSuffice", "()Z"⟩
def RX3 : String := "StarchGarrison$Reader"
def TX3 : u_T := fun k => match k with
  | 0 => ("StarchGarrison$Reader", "tape", "[B", true)
  | 1 => ("StarchGarrison$Reader", "length", "I", false)
  | 2 => ("StarchGarrison$Reader", "at", "I", false)
  | 3 => ("StarchGarrison$Reader", "kind", "I", false)
  | 4 => ("StarchGarrison$Reader", "start", "I", false)
  | 5 => ("StarchGarrison$Reader", "number", "I", false)
  | 6 => ("StarchGarrison$Reader", "rainLines", "I", false)
  | 7 => ("StarchGarrison$Reader", "heatLines", "I", false)
  | 8 => ("StarchGarrison$Reader", "frostLines", "I", false)
  | 9 => ("StarchGarrison$Reader", "faultKind", "I", false)
  | _ => ("StarchGarrison$Reader", "faultPlace", "I", false)
def tyX3 : Nat → FieldType := fun k => match k with
  | 0 => .array .byte
  | 1 => .int
  | 2 => .int
  | 3 => .int
  | 4 => .int
  | 5 => .int
  | 6 => .int
  | 7 => .int
  | 8 => .int
  | 9 => .int
  | _ => .int
abbrev wsX30 : List Cond := u_ws RX3 TX3 11
theorem nmX3 : ∀ a, a < 11 → ∀ b, b < 11 → a ≠ b → (TX3 a).2.1 ≠ (TX3 b).2.1 := by decide +kernel
theorem tyX3_ok : ∀ k, k < 11 → parseFieldDescriptor (TX3 k).2.2.1 = some (tyX3 k) := by decide +kernel
abbrev cX3_init : ByteArray := prog_5_method_1_code
def yX3_init : MethodName := ⟨RX3, "<init>", "([B)V"⟩
abbrev cX3_reads : ByteArray := prog_5_method_2_code
def yX3_reads : MethodName := ⟨RX3, "reads", "(LStarchGarrison$Plan;I)Z"⟩
abbrev cX3_readsLine : ByteArray := prog_5_method_3_code
def yX3_readsLine : MethodName := ⟨RX3, "readsLine", "(LStarchGarrison$Plan;)Z"⟩
abbrev cX3_readsSettings : ByteArray := prog_5_method_4_code
def yX3_readsSettings : MethodName := ⟨RX3, "readsSettings", "(LStarchGarrison$Plan;)Z"⟩
abbrev cX3_settingName : ByteArray := prog_5_method_5_code
def yX3_settingName : MethodName := ⟨RX3, "settingName", "(I)Ljava/lang/String;"⟩
abbrev cX3_readsMan : ByteArray := prog_5_method_6_code
def yX3_readsMan : MethodName := ⟨RX3, "readsMan", "(LStarchGarrison$Plan;)Z"⟩
abbrev cX3_readsAmount : ByteArray := prog_5_method_7_code
def yX3_readsAmount : MethodName := ⟨RX3, "readsAmount", "([II)Z"⟩
abbrev cX3_readsHours : ByteArray := prog_5_method_8_code
def yX3_readsHours : MethodName := ⟨RX3, "readsHours", "([II)Z"⟩
abbrev cX3_takesWord : ByteArray := prog_5_method_9_code
def yX3_takesWord : MethodName := ⟨RX3, "takesWord", "(Ljava/lang/String;)Z"⟩
abbrev cX3_takesNumber : ByteArray := prog_5_method_10_code
def yX3_takesNumber : MethodName := ⟨RX3, "takesNumber", "(II)Z"⟩
abbrev cX3_closesLine : ByteArray := prog_5_method_11_code
def yX3_closesLine : MethodName := ⟨RX3, "closesLine", "()Z"⟩
abbrev cX3_refuse : ByteArray := prog_5_method_12_code
def yX3_refuse : MethodName := ⟨RX3, "refuse", "(I)Z"⟩
abbrev cX3_takeToken : ByteArray := prog_5_method_13_code
def yX3_takeToken : MethodName := ⟨RX3, "takeToken", "()V"⟩
abbrev cX3_isBlank : ByteArray := prog_5_method_14_code
def yX3_isBlank : MethodName := ⟨RX3, "isBlank", "(B)Z"⟩
abbrev cX3_isLetter : ByteArray := prog_5_method_15_code
def yX3_isLetter : MethodName := ⟨RX3, "isLetter", "(B)Z"⟩
abbrev cX3_isDigit : ByteArray := prog_5_method_16_code
def yX3_isDigit : MethodName := ⟨RX3, "isDigit", "(B)Z"⟩
abbrev cX3_isWord : ByteArray := prog_5_method_17_code
def yX3_isWord : MethodName := ⟨RX3, "isWord", "(Ljava/lang/String;)Z"⟩
def RX4 : String := "StarchGarrison$Row"
def TX4 : u_T := fun k => match k with
  | 0 => ("StarchGarrison$Row", "width", "I", false)
  | 1 => ("StarchGarrison$Row", "size", "I", false)
  | _ => ("StarchGarrison$Row", "numbers", "[J", true)
def tyX4 : Nat → FieldType := fun k => match k with
  | 0 => .int
  | 1 => .int
  | _ => .array .long
abbrev wsX40 : List Cond := u_ws RX4 TX4 3
theorem nmX4 : ∀ a, a < 3 → ∀ b, b < 3 → a ≠ b → (TX4 a).2.1 ≠ (TX4 b).2.1 := by decide +kernel
theorem tyX4_ok : ∀ k, k < 3 → parseFieldDescriptor (TX4 k).2.2.1 = some (tyX4 k) := by decide +kernel
abbrev cX4_init : ByteArray := prog_6_method_1_code
def yX4_init : MethodName := ⟨RX4, "<init>", "()V"⟩
abbrev cX4_isThere : ByteArray := prog_6_method_2_code
def yX4_isThere : MethodName := ⟨RX4, "isThere", "()Z"⟩
abbrev cX4_make : ByteArray := prog_6_method_3_code
def yX4_make : MethodName := ⟨RX4, "make", "(II)V"⟩
abbrev cX4_put : ByteArray := prog_6_method_4_code
def yX4_put : MethodName := ⟨RX4, "put", "(IJ)V"⟩
abbrev cX4_reaches : ByteArray := prog_6_method_5_code
def yX4_reaches : MethodName := ⟨RX4, "reaches", "(II)Z"⟩
def RX5 : String := "StarchGarrison$Sharing"
def TX5 : u_T := fun k => match k with
  | 0 => ("StarchGarrison$Sharing", "plan", "LStarchGarrison$Plan;", true)
  | 1 => ("StarchGarrison$Sharing", "siege", "LStarchGarrison$Siege;", true)
  | 2 => ("StarchGarrison$Sharing", "shared", "[I", true)
  | 3 => ("StarchGarrison$Sharing", "first", "[I", true)
  | 4 => ("StarchGarrison$Sharing", "ways", "I", false)
  | 5 => ("StarchGarrison$Sharing", "longest", "I", false)
  | 6 => ("StarchGarrison$Sharing", "searchedPackets", "I", false)
  | _ => ("StarchGarrison$Sharing", "searchedStamp", "I", false)
def tyX5 : Nat → FieldType := fun k => match k with
  | 0 => .object "StarchGarrison$Plan"
  | 1 => .object "StarchGarrison$Siege"
  | 2 => .array .int
  | 3 => .array .int
  | 4 => .int
  | 5 => .int
  | 6 => .int
  | _ => .int
abbrev wsX50 : List Cond := u_ws RX5 TX5 8
theorem nmX5 : ∀ a, a < 8 → ∀ b, b < 8 → a ≠ b → (TX5 a).2.1 ≠ (TX5 b).2.1 := by decide +kernel
theorem tyX5_ok : ∀ k, k < 8 → parseFieldDescriptor (TX5 k).2.2.1 = some (tyX5 k) := by decide +kernel
abbrev cX5_init : ByteArray := prog_7_method_1_code
def yX5_init : MethodName := ⟨RX5, "<init>", "(LStarchGarrison$Plan;LStarchGarrison$Siege;)V"⟩
abbrev cX5_search : ByteArray := prog_7_method_2_code
def yX5_search : MethodName := ⟨RX5, "search", "(I)V"⟩
abbrev cX5_weigh : ByteArray := prog_7_method_3_code
def yX5_weigh : MethodName := ⟨RX5, "weigh", "(I)V"⟩
abbrev cX5_lastHeld : ByteArray := prog_7_method_4_code
def yX5_lastHeld : MethodName := ⟨RX5, "lastHeld", "()I"⟩
abbrev cX5_holdsThrough : ByteArray := prog_7_method_5_code
def yX5_holdsThrough : MethodName := ⟨RX5, "holdsThrough", "(II)Z"⟩
abbrev cX5_begin : ByteArray := prog_7_method_6_code
def yX5_begin : MethodName := ⟨RX5, "begin", "(I)Z"⟩
abbrev cX5_advance : ByteArray := prog_7_method_7_code
def yX5_advance : MethodName := ⟨RX5, "advance", "()Z"⟩
abbrev cX5_heldBy : ByteArray := prog_7_method_8_code
def yX5_heldBy : MethodName := ⟨RX5, "heldBy", "(I)I"⟩
abbrev cX5_starchAll : ByteArray := prog_7_method_9_code
def yX5_starchAll : MethodName := ⟨RX5, "starchAll", "(I)V"⟩
def RX6 : String := "StarchGarrison$Siege"
def TX6 : u_T := fun k => match k with
  | 0 => ("StarchGarrison$Siege", "plan", "LStarchGarrison$Plan;", true)
  | 1 => ("StarchGarrison$Siege", "told", "[I", true)
  | 2 => ("StarchGarrison$Siege", "boiled", "[I", true)
  | 3 => ("StarchGarrison$Siege", "places", "[I", true)
  | 4 => ("StarchGarrison$Siege", "gains", "[I", true)
  | 5 => ("StarchGarrison$Siege", "lawNow", "I", false)
  | 6 => ("StarchGarrison$Siege", "dampHours", "I", false)
  | 7 => ("StarchGarrison$Siege", "stiffness", "[I", true)
  | 8 => ("StarchGarrison$Siege", "sagging", "[I", true)
  | 9 => ("StarchGarrison$Siege", "pressed", "[I", true)
  | _ => ("StarchGarrison$Siege", "crackedAt", "[I", true)
def tyX6 : Nat → FieldType := fun k => match k with
  | 0 => .object "StarchGarrison$Plan"
  | 1 => .array .int
  | 2 => .array .int
  | 3 => .array .int
  | 4 => .array .int
  | 5 => .int
  | 6 => .int
  | 7 => .array .int
  | 8 => .array .int
  | 9 => .array .int
  | _ => .array .int
abbrev wsX60 : List Cond := u_ws RX6 TX6 11
theorem nmX6 : ∀ a, a < 11 → ∀ b, b < 11 → a ≠ b → (TX6 a).2.1 ≠ (TX6 b).2.1 := by decide +kernel
theorem tyX6_ok : ∀ k, k < 11 → parseFieldDescriptor (TX6 k).2.2.1 = some (tyX6 k) := by decide +kernel
abbrev cX6_init : ByteArray := prog_8_method_1_code
def yX6_init : MethodName := ⟨RX6, "<init>", "(LStarchGarrison$Plan;)V"⟩
abbrev cX6_cell : ByteArray := prog_8_method_2_code
def yX6_cell : MethodName := ⟨RX6, "cell", "(II)I"⟩
abbrev cX6_setAsNow : ByteArray := prog_8_method_3_code
def yX6_setAsNow : MethodName := ⟨RX6, "setAsNow", "()V"⟩
abbrev cX6_starchBesides : ByteArray := prog_8_method_4_code
def yX6_starchBesides : MethodName := ⟨RX6, "starchBesides", "(III)V"⟩
abbrev cX6_playAsNow : ByteArray := prog_8_method_5_code
def yX6_playAsNow : MethodName := ⟨RX6, "playAsNow", "()V"⟩
abbrev cX6_playAll : ByteArray := prog_8_method_6_code
def yX6_playAll : MethodName := ⟨RX6, "playAll", "()V"⟩
abbrev cX6_playThrough : ByteArray := prog_8_method_7_code
def yX6_playThrough : MethodName := ⟨RX6, "playThrough", "(I)V"⟩
abbrev cX6_playHour : ByteArray := prog_8_method_8_code
def yX6_playHour : MethodName := ⟨RX6, "playHour", "(I)V"⟩
abbrev cX6_arrive : ByteArray := prog_8_method_9_code
def yX6_arrive : MethodName := ⟨RX6, "arrive", "(II)I"⟩
abbrev cX6_besideAny : ByteArray := prog_8_method_10_code
def yX6_besideAny : MethodName := ⟨RX6, "besideAny", "(I)I"⟩
abbrev cX6_lossOf : ByteArray := prog_8_method_11_code
def yX6_lossOf : MethodName := ⟨RX6, "lossOf", "(III)I"⟩
abbrev cX6_lossAt : ByteArray := prog_8_method_12_code
def yX6_lossAt : MethodName := ⟨RX6, "lossAt", "(II)I"⟩
abbrev cX6_stiffAt : ByteArray := prog_8_method_13_code
def yX6_stiffAt : MethodName := ⟨RX6, "stiffAt", "(II)I"⟩
abbrev cX6_saggingAt : ByteArray := prog_8_method_14_code
def yX6_saggingAt : MethodName := ⟨RX6, "saggingAt", "(I)I"⟩
abbrev cX6_standsAt : ByteArray := prog_8_method_15_code
def yX6_standsAt : MethodName := ⟨RX6, "standsAt", "(II)Z"⟩
abbrev cX6_firstSag : ByteArray := prog_8_method_16_code
def yX6_firstSag : MethodName := ⟨RX6, "firstSag", "(I)I"⟩
abbrev cX6_hoursStood : ByteArray := prog_8_method_17_code
def yX6_hoursStood : MethodName := ⟨RX6, "hoursStood", "(I)I"⟩
abbrev cX6_widestGap : ByteArray := prog_8_method_18_code
def yX6_widestGap : MethodName := ⟨RX6, "widestGap", "(I)I"⟩
abbrev cX6_lineHolds : ByteArray := prog_8_method_19_code
def yX6_lineHolds : MethodName := ⟨RX6, "lineHolds", "(I)Z"⟩
abbrev cX6_hoursHeldOf : ByteArray := prog_8_method_20_code
def yX6_hoursHeldOf : MethodName := ⟨RX6, "hoursHeldOf", "(I)I"⟩
abbrev cX6_hoursHeld : ByteArray := prog_8_method_21_code
def yX6_hoursHeld : MethodName := ⟨RX6, "hoursHeld", "()I"⟩
abbrev cX6_firstFall : ByteArray := prog_8_method_22_code
def yX6_firstFall : MethodName := ⟨RX6, "firstFall", "()I"⟩
abbrev cX6_standsThrough : ByteArray := prog_8_method_23_code
def yX6_standsThrough : MethodName := ⟨RX6, "standsThrough", "(II)Z"⟩
def RX7 : String := "StarchGarrison$Sighting"
def TX7 : u_T := fun k => match k with
  | 0 => ("StarchGarrison$Sighting", "plan", "LStarchGarrison$Plan;", true)
  | 1 => ("StarchGarrison$Sighting", "siege", "LStarchGarrison$Siege;", true)
  | 2 => ("StarchGarrison$Sighting", "ways", "I", false)
  | 3 => ("StarchGarrison$Sighting", "lowest", "I", false)
  | 4 => ("StarchGarrison$Sighting", "highest", "I", false)
  | 5 => ("StarchGarrison$Sighting", "soonest", "I", false)
  | 6 => ("StarchGarrison$Sighting", "latest", "I", false)
  | _ => ("StarchGarrison$Sighting", "standing", "[I", true)
def tyX7 : Nat → FieldType := fun k => match k with
  | 0 => .object "StarchGarrison$Plan"
  | 1 => .object "StarchGarrison$Siege"
  | 2 => .int
  | 3 => .int
  | 4 => .int
  | 5 => .int
  | 6 => .int
  | _ => .array .int
abbrev wsX70 : List Cond := u_ws RX7 TX7 8
theorem nmX7 : ∀ a, a < 8 → ∀ b, b < 8 → a ≠ b → (TX7 a).2.1 ≠ (TX7 b).2.1 := by decide +kernel
theorem tyX7_ok : ∀ k, k < 8 → parseFieldDescriptor (TX7 k).2.2.1 = some (tyX7 k) := by decide +kernel
abbrev cX7_init : ByteArray := prog_9_method_1_code
def yX7_init : MethodName := ⟨RX7, "<init>", "(LStarchGarrison$Plan;LStarchGarrison$Siege;)V"⟩
abbrev cX7_isWithin : ByteArray := prog_9_method_2_code
def yX7_isWithin : MethodName := ⟨RX7, "isWithin", "(JI)Z"⟩
abbrev cX7_fitsPairs : ByteArray := prog_9_method_3_code
def yX7_fitsPairs : MethodName := ⟨RX7, "fitsPairs", "(LStarchGarrison$Row;)Z"⟩
abbrev cX7_fitsTriples : ByteArray := prog_9_method_4_code
def yX7_fitsTriples : MethodName := ⟨RX7, "fitsTriples", "(LStarchGarrison$Row;)Z"⟩
abbrev cX7_weigh : ByteArray := prog_9_method_5_code
def yX7_weigh : MethodName := ⟨RX7, "weigh", "(LStarchGarrison$Row;I)V"⟩
abbrev cX7_agreesByPairs : ByteArray := prog_9_method_6_code
def yX7_agreesByPairs : MethodName := ⟨RX7, "agreesByPairs", "(LStarchGarrison$Row;I)Z"⟩
abbrev cX7_note : ByteArray := prog_9_method_7_code
def yX7_note : MethodName := ⟨RX7, "note", "(II)V"⟩
abbrev cX7_bestQuestion : ByteArray := prog_9_method_8_code
def yX7_bestQuestion : MethodName := ⟨RX7, "bestQuestion", "()I"⟩
abbrev cX7_lawsOf : ByteArray := prog_9_method_9_code
def yX7_lawsOf : MethodName := ⟨RX7, "lawsOf", "(LStarchGarrison$Row;)I"⟩
abbrev cX7_agreesByTriples : ByteArray := prog_9_method_10_code
def yX7_agreesByTriples : MethodName := ⟨RX7, "agreesByTriples", "(LStarchGarrison$Row;)Z"⟩
def RX8 : String := "StarchGarrison$Weather"
def TX8 : u_T := fun k => match k with
  | 0 => ("StarchGarrison$Weather", "plan", "LStarchGarrison$Plan;", true)
  | 1 => ("StarchGarrison$Weather", "siege", "LStarchGarrison$Siege;", true)
  | 2 => ("StarchGarrison$Weather", "above", "J", false)
  | _ => ("StarchGarrison$Weather", "below", "J", false)
def tyX8 : Nat → FieldType := fun k => match k with
  | 0 => .object "StarchGarrison$Plan"
  | 1 => .object "StarchGarrison$Siege"
  | 2 => .long
  | _ => .long
abbrev wsX80 : List Cond := u_ws RX8 TX8 4
theorem nmX8 : ∀ a, a < 4 → ∀ b, b < 4 → a ≠ b → (TX8 a).2.1 ≠ (TX8 b).2.1 := by decide +kernel
theorem tyX8_ok : ∀ k, k < 4 → parseFieldDescriptor (TX8 k).2.2.1 = some (tyX8 k) := by decide +kernel
abbrev cX8_init : ByteArray := prog_10_method_1_code
def yX8_init : MethodName := ⟨RX8, "<init>", "(LStarchGarrison$Plan;LStarchGarrison$Siege;)V"⟩
abbrev cX8_part : ByteArray := prog_10_method_2_code
def yX8_part : MethodName := ⟨RX8, "part", "(I)J"⟩
abbrev cX8_sum : ByteArray := prog_10_method_3_code
def yX8_sum : MethodName := ⟨RX8, "sum", "(III)V"⟩
abbrev cX8_weightOf : ByteArray := prog_10_method_4_code
def yX8_weightOf : MethodName := ⟨RX8, "weightOf", "(II)J"⟩
abbrev cX8_valueOf : ByteArray := prog_10_method_5_code
def yX8_valueOf : MethodName := ⟨RX8, "valueOf", "(III)I"⟩
abbrev cX8_reduce : ByteArray := prog_10_method_6_code
def yX8_reduce : MethodName := ⟨RX8, "reduce", "()V"⟩
abbrev cX8_drawDamp : ByteArray := prog_10_method_7_code
def yX8_drawDamp : MethodName := ⟨RX8, "drawDamp", "(I)I"⟩
def RX9 : String := "StarchGarrison"
def TX9 : u_T := fun k => match k with
  | 0 => ("StarchGarrison", "tape", "[B", true)
  | 1 => ("StarchGarrison", "tapeLength", "I", false)
  | 2 => ("StarchGarrison", "plan", "LStarchGarrison$Plan;", true)
  | 3 => ("StarchGarrison", "draft", "LStarchGarrison$Plan;", true)
  | 4 => ("StarchGarrison", "reader", "LStarchGarrison$Reader;", true)
  | 5 => ("StarchGarrison", "images", "[LStarchGarrison$Plan;", true)
  | 6 => ("StarchGarrison", "imagesKept", "I", false)
  | 7 => ("StarchGarrison", "slots", "[LStarchGarrison$Row;", true)
  | 8 => ("StarchGarrison", "siege", "LStarchGarrison$Siege;", true)
  | 9 => ("StarchGarrison", "sharing", "LStarchGarrison$Sharing;", true)
  | 10 => ("StarchGarrison", "ordering", "LStarchGarrison$Ordering;", true)
  | 11 => ("StarchGarrison", "ironing", "LStarchGarrison$Ironing;", true)
  | 12 => ("StarchGarrison", "sighting", "LStarchGarrison$Sighting;", true)
  | _ => ("StarchGarrison", "weather", "LStarchGarrison$Weather;", true)
def tyX9 : Nat → FieldType := fun k => match k with
  | 0 => .array .byte
  | 1 => .int
  | 2 => .object "StarchGarrison$Plan"
  | 3 => .object "StarchGarrison$Plan"
  | 4 => .object "StarchGarrison$Reader"
  | 5 => .array (.object "StarchGarrison$Plan")
  | 6 => .int
  | 7 => .array (.object "StarchGarrison$Row")
  | 8 => .object "StarchGarrison$Siege"
  | 9 => .object "StarchGarrison$Sharing"
  | 10 => .object "StarchGarrison$Ordering"
  | 11 => .object "StarchGarrison$Ironing"
  | 12 => .object "StarchGarrison$Sighting"
  | _ => .object "StarchGarrison$Weather"
abbrev wsX90 : List Cond := u_ws RX9 TX9 14
theorem nmX9 : ∀ a, a < 14 → ∀ b, b < 14 → a ≠ b → (TX9 a).2.1 ≠ (TX9 b).2.1 := by decide +kernel
theorem tyX9_ok : ∀ k, k < 14 → parseFieldDescriptor (TX9 k).2.2.1 = some (tyX9 k) := by decide +kernel
abbrev cX9_init : ByteArray := prog_1_method_1_code
def yX9_init : MethodName := ⟨RX9, "<init>", "()V"⟩
abbrev cX9_feed : ByteArray := prog_1_method_2_code
def yX9_feed : MethodName := ⟨RX9, "feed", "(IIIII)I"⟩
abbrev cX9_putFourBytes : ByteArray := prog_1_method_3_code
def yX9_putFourBytes : MethodName := ⟨RX9, "putFourBytes", "(I)V"⟩
abbrev cX9_end : ByteArray := prog_1_method_4_code
def yX9_end : MethodName := ⟨RX9, "end", "(I)I"⟩
abbrev cX9_garrison : ByteArray := prog_1_method_5_code
def yX9_garrison : MethodName := ⟨RX9, "garrison", "()I"⟩
abbrev cX9_fault : ByteArray := prog_1_method_6_code
def yX9_fault : MethodName := ⟨RX9, "fault", "(I)I"⟩
abbrev cX9_man : ByteArray := prog_1_method_7_code
def yX9_man : MethodName := ⟨RX9, "man", "(II)I"⟩
abbrev cX9_rain : ByteArray := prog_1_method_8_code
def yX9_rain : MethodName := ⟨RX9, "rain", "(I)I"⟩
abbrev cX9_heat : ByteArray := prog_1_method_9_code
def yX9_heat : MethodName := ⟨RX9, "heat", "(I)I"⟩
abbrev cX9_frosts : ByteArray := prog_1_method_10_code
def yX9_frosts : MethodName := ⟨RX9, "frosts", "()I"⟩
abbrev cX9_stiff : ByteArray := prog_1_method_11_code
def yX9_stiff : MethodName := ⟨RX9, "stiff", "(II)I"⟩
abbrev cX9_loses : ByteArray := prog_1_method_12_code
def yX9_loses : MethodName := ⟨RX9, "loses", "(II)I"⟩
abbrev cX9_stands : ByteArray := prog_1_method_13_code
def yX9_stands : MethodName := ⟨RX9, "stands", "(I)I"⟩
abbrev cX9_gives : ByteArray := prog_1_method_14_code
def yX9_gives : MethodName := ⟨RX9, "gives", "(I)I"⟩
abbrev cX9_hours : ByteArray := prog_1_method_15_code
def yX9_hours : MethodName := ⟨RX9, "hours", "(I)I"⟩
abbrev cX9_cracks : ByteArray := prog_1_method_16_code
def yX9_cracks : MethodName := ⟨RX9, "cracks", "(I)I"⟩
abbrev cX9_broken : ByteArray := prog_1_method_17_code
def yX9_broken : MethodName := ⟨RX9, "broken", "()I"⟩
abbrev cX9_gap : ByteArray := prog_1_method_18_code
def yX9_gap : MethodName := ⟨RX9, "gap", "(I)I"⟩
abbrev cX9_holds : ByteArray := prog_1_method_19_code
def yX9_holds : MethodName := ⟨RX9, "holds", "()I"⟩
abbrev cX9_falls : ByteArray := prog_1_method_20_code
def yX9_falls : MethodName := ⟨RX9, "falls", "()I"⟩
abbrev cX9_weakest : ByteArray := prog_1_method_21_code
def yX9_weakest : MethodName := ⟨RX9, "weakest", "(I)I"⟩
abbrev cX9_all : ByteArray := prog_1_method_22_code
def yX9_all : MethodName := ⟨RX9, "all", "(I)I"⟩
abbrev cX9_spare : ByteArray := prog_1_method_23_code
def yX9_spare : MethodName := ⟨RX9, "spare", "(II)I"⟩
abbrev cX9_stiffest : ByteArray := prog_1_method_24_code
def yX9_stiffest : MethodName := ⟨RX9, "stiffest", "(I)I"⟩
abbrev cX9_sags : ByteArray := prog_1_method_25_code
def yX9_sags : MethodName := ⟨RX9, "sags", "(I)I"⟩
abbrev cX9_spell : ByteArray := prog_1_method_26_code
def yX9_spell : MethodName := ⟨RX9, "spell", "()I"⟩
abbrev cX9_rises : ByteArray := prog_1_method_27_code
def yX9_rises : MethodName := ⟨RX9, "rises", "(I)I"⟩
abbrev cX9_lost : ByteArray := prog_1_method_28_code
def yX9_lost : MethodName := ⟨RX9, "lost", "(I)I"⟩
abbrev cX9_dry : ByteArray := prog_1_method_29_code
def yX9_dry : MethodName := ⟨RX9, "dry", "()I"⟩
abbrev cX9_drummer : ByteArray := prog_1_method_30_code
def yX9_drummer : MethodName := ⟨RX9, "drummer", "()I"⟩
abbrev cX9_bears : ByteArray := prog_1_method_31_code
def yX9_bears : MethodName := ⟨RX9, "bears", "(I)I"⟩
abbrev cX9_boil : ByteArray := prog_1_method_32_code
def yX9_boil : MethodName := ⟨RX9, "boil", "(I)I"⟩
abbrev cX9_gain : ByteArray := prog_1_method_33_code
def yX9_gain : MethodName := ⟨RX9, "gain", "(II)I"⟩
abbrev cX9_helps : ByteArray := prog_1_method_34_code
def yX9_helps : MethodName := ⟨RX9, "helps", "(I)I"⟩
abbrev cX9_stock : ByteArray := prog_1_method_35_code
def yX9_stock : MethodName := ⟨RX9, "stock", "(I)I"⟩
abbrev cX9_eaten : ByteArray := prog_1_method_36_code
def yX9_eaten : MethodName := ⟨RX9, "eaten", "()I"⟩
abbrev cX9_empty : ByteArray := prog_1_method_37_code
def yX9_empty : MethodName := ⟨RX9, "empty", "()I"⟩
abbrev cX9_wants : ByteArray := prog_1_method_38_code
def yX9_wants : MethodName := ⟨RX9, "wants", "(II)I"⟩
abbrev cX9_hold : ByteArray := prog_1_method_39_code
def yX9_hold : MethodName := ⟨RX9, "hold", "(I)I"⟩
abbrev cX9_isShared : ByteArray := prog_1_method_40_code
def yX9_isShared : MethodName := ⟨RX9, "isShared", "(I)Z"⟩
abbrev cX9_share : ByteArray := prog_1_method_41_code
def yX9_share : MethodName := ⟨RX9, "share", "(II)I"⟩
abbrev cX9_shares : ByteArray := prog_1_method_42_code
def yX9_shares : MethodName := ⟨RX9, "shares", "(I)I"⟩
abbrev cX9_fewest : ByteArray := prog_1_method_43_code
def yX9_fewest : MethodName := ⟨RX9, "fewest", "(I)I"⟩
abbrev cX9_ordered : ByteArray := prog_1_method_44_code
def yX9_ordered : MethodName := ⟨RX9, "ordered", "()I"⟩
abbrev cX9_order : ByteArray := prog_1_method_45_code
def yX9_order : MethodName := ⟨RX9, "order", "(I)I"⟩
abbrev cX9_change : ByteArray := prog_1_method_46_code
def yX9_change : MethodName := ⟨RX9, "change", "()I"⟩
abbrev cX9_irons : ByteArray := prog_1_method_47_code
def yX9_irons : MethodName := ⟨RX9, "irons", "(I)I"⟩
abbrev cX9_ironed : ByteArray := prog_1_method_48_code
def yX9_ironed : MethodName := ⟨RX9, "ironed", "(I)I"⟩
abbrev cX9_stiffs : ByteArray := prog_1_method_49_code
def yX9_stiffs : MethodName := ⟨RX9, "stiffs", "(II)I"⟩
abbrev cX9_sight : ByteArray := prog_1_method_50_code
def yX9_sight : MethodName := ⟨RX9, "sight", "(II)I"⟩
abbrev cX9_isSlot : ByteArray := prog_1_method_51_code
def yX9_isSlot : MethodName := ⟨RX9, "isSlot", "(I)Z"⟩
abbrev cX9_least : ByteArray := prog_1_method_52_code
def yX9_least : MethodName := ⟨RX9, "least", "(II)I"⟩
abbrev cX9_most : ByteArray := prog_1_method_53_code
def yX9_most : MethodName := ⟨RX9, "most", "(II)I"⟩
abbrev cX9_ask : ByteArray := prog_1_method_54_code
def yX9_ask : MethodName := ⟨RX9, "ask", "(II)I"⟩
abbrev cX9_soon : ByteArray := prog_1_method_55_code
def yX9_soon : MethodName := ⟨RX9, "soon", "(II)I"⟩
abbrev cX9_late : ByteArray := prog_1_method_56_code
def yX9_late : MethodName := ⟨RX9, "late", "(II)I"⟩
abbrev cX9_laws : ByteArray := prog_1_method_57_code
def yX9_laws : MethodName := ⟨RX9, "laws", "(I)I"⟩
abbrev cX9_by : ByteArray := prog_1_method_58_code
def yX9_by : MethodName := ⟨RX9, "by", "(I)I"⟩
abbrev cX9_law : ByteArray := prog_1_method_59_code
def yX9_law : MethodName := ⟨RX9, "law", "()I"⟩
abbrev cX9_rests : ByteArray := prog_1_method_60_code
def yX9_rests : MethodName := ⟨RX9, "rests", "(II)I"⟩
abbrev cX9_isPair : ByteArray := prog_1_method_61_code
def yX9_isPair : MethodName := ⟨RX9, "isPair", "(II)Z"⟩
abbrev cX9_isContent : ByteArray := prog_1_method_62_code
def yX9_isContent : MethodName := ⟨RX9, "isContent", "(IIII)Z"⟩
abbrev cX9_payOf : ByteArray := prog_1_method_63_code
def yX9_payOf : MethodName := ⟨RX9, "payOf", "(IIII)I"⟩
abbrev cX9_gets : ByteArray := prog_1_method_64_code
def yX9_gets : MethodName := ⟨RX9, "gets", "(IIII)I"⟩
abbrev cX9_isChoice : ByteArray := prog_1_method_65_code
def yX9_isChoice : MethodName := ⟨RX9, "isChoice", "(I)Z"⟩
abbrev cX9_chance : ByteArray := prog_1_method_66_code
def yX9_chance : MethodName := ⟨RX9, "chance", "(III)J"⟩
abbrev cX9_isChanceHour : ByteArray := prog_1_method_67_code
def yX9_isChanceHour : MethodName := ⟨RX9, "isChanceHour", "(I)Z"⟩
abbrev cX9_line : ByteArray := prog_1_method_68_code
def yX9_line : MethodName := ⟨RX9, "line", "(II)J"⟩
abbrev cX9_mean : ByteArray := prog_1_method_69_code
def yX9_mean : MethodName := ⟨RX9, "mean", "(III)J"⟩
abbrev cX9_starch : ByteArray := prog_1_method_70_code
def yX9_starch : MethodName := ⟨RX9, "starch", "(III)I"⟩
abbrev cX9_iron : ByteArray := prog_1_method_71_code
def yX9_iron : MethodName := ⟨RX9, "iron", "(II)I"⟩
abbrev cX9_undo : ByteArray := prog_1_method_72_code
def yX9_undo : MethodName := ⟨RX9, "undo", "()I"⟩
abbrev cX9_anew : ByteArray := prog_1_method_73_code
def yX9_anew : MethodName := ⟨RX9, "anew", "()I"⟩
abbrev cX9_drawn : ByteArray := prog_1_method_74_code
def yX9_drawn : MethodName := ⟨RX9, "drawn", "(II)I"⟩
abbrev cX9_isSeed : ByteArray := prog_1_method_75_code
def yX9_isSeed : MethodName := ⟨RX9, "isSeed", "(I)Z"⟩
abbrev cX9_luck : ByteArray := prog_1_method_76_code
def yX9_luck : MethodName := ⟨RX9, "luck", "(III)I"⟩
abbrev cX9_rate : ByteArray := prog_1_method_77_code
def yX9_rate : MethodName := ⟨RX9, "rate", "(II)I"⟩
abbrev cX9_count : ByteArray := prog_1_method_78_code
def yX9_count : MethodName := ⟨RX9, "count", "(I)I"⟩
abbrev cX9_rowsThere : ByteArray := prog_1_method_79_code
def yX9_rowsThere : MethodName := ⟨RX9, "rowsThere", "()I"⟩
abbrev cX9_image : ByteArray := prog_1_method_80_code
def yX9_image : MethodName := ⟨RX9, "image", "(I)I"⟩
abbrev cX9_back : ByteArray := prog_1_method_81_code
def yX9_back : MethodName := ⟨RX9, "back", "(I)I"⟩
abbrev cX9_row : ByteArray := prog_1_method_82_code
def yX9_row : MethodName := ⟨RX9, "row", "(III)I"⟩
abbrev cX9_write : ByteArray := prog_1_method_83_code
def yX9_write : MethodName := ⟨RX9, "write", "(IIJ)I"⟩
abbrev cX9_paste : ByteArray := prog_1_method_84_code
def yX9_paste : MethodName := ⟨RX9, "paste", "(IIIII)I"⟩
def RX10 : String := "StarchGarrisonModel"
def TX10 : u_T := fun k => match k with
  | 0 => ("StarchGarrisonModel", "thrown", "I", false)
  | 1 => ("StarchGarrisonModel", "width", "[I", true)
  | 2 => ("StarchGarrisonModel", "many", "[I", true)
  | 3 => ("StarchGarrisonModel", "cells", "[J", true)
  | 4 => ("StarchGarrisonModel", "moved", "[J", true)
  | 5 => ("StarchGarrisonModel", "tape", "[B", true)
  | 6 => ("StarchGarrisonModel", "taped", "I", false)
  | 7 => ("StarchGarrisonModel", "at", "I", false)
  | 8 => ("StarchGarrisonModel", "token", "I", false)
  | 9 => ("StarchGarrisonModel", "place", "I", false)
  | 10 => ("StarchGarrisonModel", "value", "I", false)
  | 11 => ("StarchGarrisonModel", "word", "J", false)
  | 12 => ("StarchGarrisonModel", "bad", "I", false)
  | 13 => ("StarchGarrisonModel", "badPlace", "I", false)
  | 14 => ("StarchGarrisonModel", "fault", "I", false)
  | 15 => ("StarchGarrisonModel", "faultPlace", "I", false)
  | 16 => ("StarchGarrisonModel", "lines", "[I", true)
  | 17 => ("StarchGarrisonModel", "has", "[I", true)
  | 18 => ("StarchGarrisonModel", "man", "[I", true)
  | 19 => ("StarchGarrisonModel", "wet", "[I", true)
  | 20 => ("StarchGarrisonModel", "hot", "[I", true)
  | 21 => ("StarchGarrisonModel", "cold", "[I", true)
  | 22 => ("StarchGarrisonModel", "act", "[I", true)
  | 23 => ("StarchGarrisonModel", "isKept", "[Z", true)
  | 24 => ("StarchGarrisonModel", "law", "I", false)
  | 25 => ("StarchGarrisonModel", "damp", "I", false)
  | 26 => ("StarchGarrisonModel", "ironMan", "I", false)
  | 27 => ("StarchGarrisonModel", "ironHours", "I", false)
  | 28 => ("StarchGarrisonModel", "packMan", "I", false)
  | 29 => ("StarchGarrisonModel", "packHour", "I", false)
  | 30 => ("StarchGarrisonModel", "boilMan", "I", false)
  | 31 => ("StarchGarrisonModel", "first", "[I", true)
  | 32 => ("StarchGarrisonModel", "more", "[I", true)
  | 33 => ("StarchGarrisonModel", "order", "[I", true)
  | 34 => ("StarchGarrisonModel", "placeOf", "[I", true)
  | 35 => ("StarchGarrisonModel", "stiff", "[I", true)
  | 36 => ("StarchGarrisonModel", "lost", "[I", true)
  | 37 => ("StarchGarrisonModel", "crackAt", "[I", true)
  | 38 => ("StarchGarrisonModel", "alone", "I", false)
  | 39 => ("StarchGarrisonModel", "sagNow", "[I", true)
  | 40 => ("StarchGarrisonModel", "left", "[I", true)
  | 41 => ("StarchGarrisonModel", "eatenAll", "I", false)
  | 42 => ("StarchGarrisonModel", "bestHour", "I", false)
  | 43 => ("StarchGarrisonModel", "bestWays", "I", false)
  | 44 => ("StarchGarrisonModel", "bestRow", "[I", true)
  | 45 => ("StarchGarrisonModel", "fewest", "[I", true)
  | 46 => ("StarchGarrisonModel", "sets", "[I", true)
  | 47 => ("StarchGarrisonModel", "nextFewest", "[I", true)
  | 48 => ("StarchGarrisonModel", "nextSets", "[I", true)
  | 49 => ("StarchGarrisonModel", "ironSet", "I", false)
  | 50 => ("StarchGarrisonModel", "fitMany", "I", false)
  | 51 => ("StarchGarrisonModel", "fitLeast", "I", false)
  | 52 => ("StarchGarrisonModel", "fitMost", "I", false)
  | 53 => ("StarchGarrisonModel", "fitSoon", "I", false)
  | 54 => ("StarchGarrisonModel", "fitLate", "I", false)
  | _ => ("StarchGarrisonModel", "standing", "[I", true)
def tyX10 : Nat → FieldType := fun k => match k with
  | 0 => .int
  | 1 => .array .int
  | 2 => .array .int
  | 3 => .array .long
  | 4 => .array .long
  | 5 => .array .byte
  | 6 => .int
  | 7 => .int
  | 8 => .int
  | 9 => .int
  | 10 => .int
  | 11 => .long
  | 12 => .int
  | 13 => .int
  | 14 => .int
  | 15 => .int
  | 16 => .array .int
  | 17 => .array .int
  | 18 => .array .int
  | 19 => .array .int
  | 20 => .array .int
  | 21 => .array .int
  | 22 => .array .int
  | 23 => .array .boolean
  | 24 => .int
  | 25 => .int
  | 26 => .int
  | 27 => .int
  | 28 => .int
  | 29 => .int
  | 30 => .int
  | 31 => .array .int
  | 32 => .array .int
  | 33 => .array .int
  | 34 => .array .int
  | 35 => .array .int
  | 36 => .array .int
  | 37 => .array .int
  | 38 => .int
  | 39 => .array .int
  | 40 => .array .int
  | 41 => .int
  | 42 => .int
  | 43 => .int
  | 44 => .array .int
  | 45 => .array .int
  | 46 => .array .int
  | 47 => .array .int
  | 48 => .array .int
  | 49 => .int
  | 50 => .int
  | 51 => .int
  | 52 => .int
  | 53 => .int
  | 54 => .int
  | _ => .array .int
abbrev wsX100 : List Cond := u_ws RX10 TX10 56
theorem nmX10 : ∀ a, a < 56 → ∀ b, b < 56 → a ≠ b → (TX10 a).2.1 ≠ (TX10 b).2.1 := by decide +kernel
theorem tyX10_ok : ∀ k, k < 56 → parseFieldDescriptor (TX10 k).2.2.1 = some (tyX10 k) := by decide +kernel
abbrev cX10_init : ByteArray := prog_12_method_1_code
def yX10_init : MethodName := ⟨RX10, "<init>", "()V"⟩
abbrev cX10_in : ByteArray := prog_12_method_3_code
def yX10_in : MethodName := ⟨RX10, "in", "(JJJ)Z"⟩
abbrev cX10_isSlot : ByteArray := prog_12_method_4_code
def yX10_isSlot : MethodName := ⟨RX10, "isSlot", "(I)Z"⟩
abbrev cX10_row : ByteArray := prog_12_method_5_code
def yX10_row : MethodName := ⟨RX10, "row", "(III)I"⟩
abbrev cX10_cut : ByteArray := prog_12_method_6_code
def yX10_cut : MethodName := ⟨RX10, "cut", "(JI)J"⟩
abbrev cX10_write : ByteArray := prog_12_method_7_code
def yX10_write : MethodName := ⟨RX10, "write", "(IIJ)I"⟩
abbrev cX10_paste : ByteArray := prog_12_method_8_code
def yX10_paste : MethodName := ⟨RX10, "paste", "(IIIII)I"⟩
abbrev cX10_feed : ByteArray := prog_12_method_9_code
def yX10_feed : MethodName := ⟨RX10, "feed", "(IIIII)I"⟩
abbrev cX10_four : ByteArray := prog_12_method_10_code
def yX10_four : MethodName := ⟨RX10, "four", "(I)V"⟩
abbrev cX10_end : ByteArray := prog_12_method_11_code
def yX10_end : MethodName := ⟨RX10, "end", "(I)I"⟩
abbrev cX10_isByte : ByteArray := prog_12_method_12_code
def yX10_isByte : MethodName := ⟨RX10, "isByte", "(III)Z"⟩
abbrev cX10_next : ByteArray := prog_12_method_13_code
def yX10_next : MethodName := ⟨RX10, "next", "()V"⟩
abbrev cX10_isGood : ByteArray := prog_12_method_14_code
def yX10_isGood : MethodName := ⟨RX10, "isGood", "()Z"⟩
abbrev cX10_fails : ByteArray := prog_12_method_15_code
def yX10_fails : MethodName := ⟨RX10, "fails", "(I)V"⟩
abbrev cX10_is : ByteArray := prog_12_method_16_code
def yX10_is : MethodName := ⟨RX10, "is", "(J)Z"⟩
abbrev cX10_takes : ByteArray := prog_12_method_17_code
def yX10_takes : MethodName := ⟨RX10, "takes", "(J)Z"⟩
abbrev cX10_asks : ByteArray := prog_12_method_18_code
def yX10_asks : MethodName := ⟨RX10, "asks", "(J)V"⟩
abbrev cX10_number : ByteArray := prog_12_method_19_code
def yX10_number : MethodName := ⟨RX10, "number", "(II)I"⟩
abbrev cX10_number_ : ByteArray := prog_12_method_20_code
def yX10_number_ : MethodName := ⟨RX10, "number", "(JII)I"⟩
abbrev cX10_ends : ByteArray := prog_12_method_21_code
def yX10_ends : MethodName := ⟨RX10, "ends", "()V"⟩
abbrev cX10_begins : ByteArray := prog_12_method_22_code
def yX10_begins : MethodName := ⟨RX10, "begins", "()V"⟩
abbrev cX10_isOver : ByteArray := prog_12_method_23_code
def yX10_isOver : MethodName := ⟨RX10, "isOver", "()V"⟩
abbrev cX10_fault : ByteArray := prog_12_method_24_code
def yX10_fault : MethodName := ⟨RX10, "fault", "(I)I"⟩
abbrev cX10_hasRead : ByteArray := prog_12_method_25_code
def yX10_hasRead : MethodName := ⟨RX10, "hasRead", "(I)I"⟩
abbrev cX10_tells : ByteArray := prog_12_method_26_code
def yX10_tells : MethodName := ⟨RX10, "tells", "(II)V"⟩
abbrev cX10_manLine : ByteArray := prog_12_method_27_code
def yX10_manLine : MethodName := ⟨RX10, "manLine", "()V"⟩
abbrev cX10_spanLine : ByteArray := prog_12_method_28_code
def yX10_spanLine : MethodName := ⟨RX10, "spanLine", "([III)V"⟩
abbrev cX10_isRoom : ByteArray := prog_12_method_29_code
def yX10_isRoom : MethodName := ⟨RX10, "isRoom", "(ZII)Z"⟩
abbrev cX10_lineHere : ByteArray := prog_12_method_30_code
def yX10_lineHere : MethodName := ⟨RX10, "lineHere", "()V"⟩
abbrev cX10_clears : ByteArray := prog_12_method_31_code
def yX10_clears : MethodName := ⟨RX10, "clears", "()V"⟩
abbrev cX10_garrisonLine : ByteArray := prog_12_method_32_code
def yX10_garrisonLine : MethodName := ⟨RX10, "garrisonLine", "()V"⟩
abbrev cX10_garrison : ByteArray := prog_12_method_33_code
def yX10_garrison : MethodName := ⟨RX10, "garrison", "()I"⟩
abbrev cX10_copyRow : ByteArray := prog_12_method_34_code
def yX10_copyRow : MethodName := ⟨RX10, "copyRow", "([IIII)V"⟩
abbrev cX10_copyGarrison : ByteArray := prog_12_method_35_code
def yX10_copyGarrison : MethodName := ⟨RX10, "copyGarrison", "(II)V"⟩
abbrev cX10_isGarrison : ByteArray := prog_12_method_36_code
def yX10_isGarrison : MethodName := ⟨RX10, "isGarrison", "()Z"⟩
abbrev cX10_hoursAll : ByteArray := prog_12_method_37_code
def yX10_hoursAll : MethodName := ⟨RX10, "hoursAll", "()I"⟩
abbrev cX10_men : ByteArray := prog_12_method_38_code
def yX10_men : MethodName := ⟨RX10, "men", "()I"⟩
abbrev cX10_isMan : ByteArray := prog_12_method_39_code
def yX10_isMan : MethodName := ⟨RX10, "isMan", "(J)Z"⟩
abbrev cX10_areTwo : ByteArray := prog_12_method_40_code
def yX10_areTwo : MethodName := ⟨RX10, "areTwo", "(II)Z"⟩
abbrev cX10_isHour : ByteArray := prog_12_method_41_code
def yX10_isHour : MethodName := ⟨RX10, "isHour", "(J)Z"⟩
abbrev cX10_isSoon : ByteArray := prog_12_method_42_code
def yX10_isSoon : MethodName := ⟨RX10, "isSoon", "(I)Z"⟩
abbrev cX10_isLaw : ByteArray := prog_12_method_43_code
def yX10_isLaw : MethodName := ⟨RX10, "isLaw", "(I)Z"⟩
abbrev cX10_isMany : ByteArray := prog_12_method_44_code
def yX10_isMany : MethodName := ⟨RX10, "isMany", "(I)Z"⟩
abbrev cX10_isHalf : ByteArray := prog_12_method_45_code
def yX10_isHalf : MethodName := ⟨RX10, "isHalf", "(I)Z"⟩
abbrev cX10_isBit : ByteArray := prog_12_method_46_code
def yX10_isBit : MethodName := ⟨RX10, "isBit", "(II)Z"⟩
abbrev cX10_lays : ByteArray := prog_12_method_48_code
def yX10_lays : MethodName := ⟨RX10, "lays", "()V"⟩
abbrev cX10_upTo : ByteArray := prog_12_method_49_code
def yX10_upTo : MethodName := ⟨RX10, "upTo", "(I)I"⟩
abbrev cX10_at : ByteArray := prog_12_method_50_code
def yX10_at : MethodName := ⟨RX10, "at", "(II)I"⟩
abbrev cX10_starts : ByteArray := prog_12_method_51_code
def yX10_starts : MethodName := ⟨RX10, "starts", "(II)V"⟩
abbrev cX10_isSagging : ByteArray := prog_12_method_52_code
def yX10_isSagging : MethodName := ⟨RX10, "isSagging", "(II)Z"⟩
abbrev cX10_isBesideSagging : ByteArray := prog_12_method_53_code
def yX10_isBesideSagging : MethodName := ⟨RX10, "isBesideSagging", "(II)Z"⟩
abbrev cX10_losesOf : ByteArray := prog_12_method_54_code
def yX10_losesOf : MethodName := ⟨RX10, "losesOf", "(II)I"⟩
abbrev cX10_hour : ByteArray := prog_12_method_55_code
def yX10_hour : MethodName := ⟨RX10, "hour", "(I)V"⟩
abbrev cX10_runs : ByteArray := prog_12_method_56_code
def yX10_runs : MethodName := ⟨RX10, "runs", "()V"⟩
abbrev cX10_laysNow : ByteArray := prog_12_method_57_code
def yX10_laysNow : MethodName := ⟨RX10, "laysNow", "()V"⟩
abbrev cX10_isStanding : ByteArray := prog_12_method_58_code
def yX10_isStanding : MethodName := ⟨RX10, "isStanding", "(II)Z"⟩
abbrev cX10_standsAt : ByteArray := prog_12_method_59_code
def yX10_standsAt : MethodName := ⟨RX10, "standsAt", "(I)I"⟩
abbrev cX10_gapAt : ByteArray := prog_12_method_60_code
def yX10_gapAt : MethodName := ⟨RX10, "gapAt", "(I)I"⟩
abbrev cX10_isHolding : ByteArray := prog_12_method_61_code
def yX10_isHolding : MethodName := ⟨RX10, "isHolding", "(I)Z"⟩
abbrev cX10_fallsAt : ByteArray := prog_12_method_62_code
def yX10_fallsAt : MethodName := ⟨RX10, "fallsAt", "()I"⟩
abbrev cX10_givesAt : ByteArray := prog_12_method_63_code
def yX10_givesAt : MethodName := ⟨RX10, "givesAt", "(I)I"⟩
abbrev cX10_orNone : ByteArray := prog_12_method_64_code
def yX10_orNone : MethodName := ⟨RX10, "orNone", "(I)I"⟩
abbrev cX10_man : ByteArray := prog_12_method_65_code
def yX10_man : MethodName := ⟨RX10, "man", "(II)I"⟩
abbrev cX10_rain : ByteArray := prog_12_method_66_code
def yX10_rain : MethodName := ⟨RX10, "rain", "(I)I"⟩
abbrev cX10_heat : ByteArray := prog_12_method_67_code
def yX10_heat : MethodName := ⟨RX10, "heat", "(I)I"⟩
abbrev cX10_frosts : ByteArray := prog_12_method_68_code
def yX10_frosts : MethodName := ⟨RX10, "frosts", "()I"⟩
abbrev cX10_stiff : ByteArray := prog_12_method_69_code
def yX10_stiff : MethodName := ⟨RX10, "stiff", "(II)I"⟩
abbrev cX10_loses : ByteArray := prog_12_method_70_code
def yX10_loses : MethodName := ⟨RX10, "loses", "(II)I"⟩
abbrev cX10_stands : ByteArray := prog_12_method_71_code
def yX10_stands : MethodName := ⟨RX10, "stands", "(I)I"⟩
abbrev cX10_gives : ByteArray := prog_12_method_72_code
def yX10_gives : MethodName := ⟨RX10, "gives", "(I)I"⟩
abbrev cX10_hoursOf : ByteArray := prog_12_method_73_code
def yX10_hoursOf : MethodName := ⟨RX10, "hoursOf", "(I)I"⟩
abbrev cX10_hours : ByteArray := prog_12_method_74_code
def yX10_hours : MethodName := ⟨RX10, "hours", "(I)I"⟩
abbrev cX10_cracks : ByteArray := prog_12_method_75_code
def yX10_cracks : MethodName := ⟨RX10, "cracks", "(I)I"⟩
abbrev cX10_broken : ByteArray := prog_12_method_76_code
def yX10_broken : MethodName := ⟨RX10, "broken", "()I"⟩
abbrev cX10_gap : ByteArray := prog_12_method_77_code
def yX10_gap : MethodName := ⟨RX10, "gap", "(I)I"⟩
abbrev cX10_holds : ByteArray := prog_12_method_78_code
def yX10_holds : MethodName := ⟨RX10, "holds", "()I"⟩
abbrev cX10_falls : ByteArray := prog_12_method_79_code
def yX10_falls : MethodName := ⟨RX10, "falls", "()I"⟩
abbrev cX10_weakest : ByteArray := prog_12_method_80_code
def yX10_weakest : MethodName := ⟨RX10, "weakest", "(I)I"⟩
abbrev cX10_all : ByteArray := prog_12_method_81_code
def yX10_all : MethodName := ⟨RX10, "all", "(I)I"⟩
abbrev cX10_spare : ByteArray := prog_12_method_82_code
def yX10_spare : MethodName := ⟨RX10, "spare", "(II)I"⟩
abbrev cX10_stiffest : ByteArray := prog_12_method_83_code
def yX10_stiffest : MethodName := ⟨RX10, "stiffest", "(I)I"⟩
abbrev cX10_sags : ByteArray := prog_12_method_84_code
def yX10_sags : MethodName := ⟨RX10, "sags", "(I)I"⟩
abbrev cX10_spell : ByteArray := prog_12_method_85_code
def yX10_spell : MethodName := ⟨RX10, "spell", "()I"⟩
abbrev cX10_rises : ByteArray := prog_12_method_86_code
def yX10_rises : MethodName := ⟨RX10, "rises", "(I)I"⟩
abbrev cX10_lost : ByteArray := prog_12_method_87_code
def yX10_lost : MethodName := ⟨RX10, "lost", "(I)I"⟩
abbrev cX10_dry : ByteArray := prog_12_method_88_code
def yX10_dry : MethodName := ⟨RX10, "dry", "()I"⟩
abbrev cX10_drummer : ByteArray := prog_12_method_89_code
def yX10_drummer : MethodName := ⟨RX10, "drummer", "()I"⟩
abbrev cX10_bears : ByteArray := prog_12_method_90_code
def yX10_bears : MethodName := ⟨RX10, "bears", "(I)I"⟩
abbrev cX10_boil : ByteArray := prog_12_method_91_code
def yX10_boil : MethodName := ⟨RX10, "boil", "(I)I"⟩
abbrev cX10_packs : ByteArray := prog_12_method_92_code
def yX10_packs : MethodName := ⟨RX10, "packs", "(II)V"⟩
abbrev cX10_gain : ByteArray := prog_12_method_93_code
def yX10_gain : MethodName := ⟨RX10, "gain", "(II)I"⟩
abbrev cX10_helps : ByteArray := prog_12_method_94_code
def yX10_helps : MethodName := ⟨RX10, "helps", "(I)I"⟩
abbrev cX10_stocks : ByteArray := prog_12_method_95_code
def yX10_stocks : MethodName := ⟨RX10, "stocks", "()Z"⟩
abbrev cX10_stock : ByteArray := prog_12_method_96_code
def yX10_stock : MethodName := ⟨RX10, "stock", "(I)I"⟩
abbrev cX10_eaten : ByteArray := prog_12_method_97_code
def yX10_eaten : MethodName := ⟨RX10, "eaten", "()I"⟩
abbrev cX10_empty : ByteArray := prog_12_method_98_code
def yX10_empty : MethodName := ⟨RX10, "empty", "()I"⟩
abbrev cX10_wants : ByteArray := prog_12_method_99_code
def yX10_wants : MethodName := ⟨RX10, "wants", "(II)I"⟩
abbrev cX10_sharesFrom : ByteArray := prog_12_method_100_code
def yX10_sharesFrom : MethodName := ⟨RX10, "sharesFrom", "(II)V"⟩
abbrev cX10_laysShares : ByteArray := prog_12_method_101_code
def yX10_laysShares : MethodName := ⟨RX10, "laysShares", "(I)V"⟩
abbrev cX10_hold : ByteArray := prog_12_method_102_code
def yX10_hold : MethodName := ⟨RX10, "hold", "(I)I"⟩
abbrev cX10_share : ByteArray := prog_12_method_103_code
def yX10_share : MethodName := ⟨RX10, "share", "(II)I"⟩
abbrev cX10_shares : ByteArray := prog_12_method_104_code
def yX10_shares : MethodName := ⟨RX10, "shares", "(I)I"⟩
abbrev cX10_fewest : ByteArray := prog_12_method_105_code
def yX10_fewest : MethodName := ⟨RX10, "fewest", "(I)I"⟩
abbrev cX10_ordersFrom : ByteArray := prog_12_method_106_code
def yX10_ordersFrom : MethodName := ⟨RX10, "ordersFrom", "(II)V"⟩
abbrev cX10_laysOrders : ByteArray := prog_12_method_107_code
def yX10_laysOrders : MethodName := ⟨RX10, "laysOrders", "()V"⟩
abbrev cX10_ordered : ByteArray := prog_12_method_108_code
def yX10_ordered : MethodName := ⟨RX10, "ordered", "()I"⟩
abbrev cX10_order : ByteArray := prog_12_method_109_code
def yX10_order : MethodName := ⟨RX10, "order", "(I)I"⟩
abbrev cX10_places : ByteArray := prog_12_method_110_code
def yX10_places : MethodName := ⟨RX10, "places", "(II)V"⟩
abbrev cX10_change : ByteArray := prog_12_method_111_code
def yX10_change : MethodName := ⟨RX10, "change", "()I"⟩
abbrev cX10_better : ByteArray := prog_12_method_112_code
def yX10_better : MethodName := ⟨RX10, "better", "(III)V"⟩
abbrev cX10_ironsAt : ByteArray := prog_12_method_113_code
def yX10_ironsAt : MethodName := ⟨RX10, "ironsAt", "(III)V"⟩
abbrev cX10_ironsOf : ByteArray := prog_12_method_114_code
def yX10_ironsOf : MethodName := ⟨RX10, "ironsOf", "(I)I"⟩
abbrev cX10_irons : ByteArray := prog_12_method_115_code
def yX10_irons : MethodName := ⟨RX10, "irons", "(I)I"⟩
abbrev cX10_ironed : ByteArray := prog_12_method_116_code
def yX10_ironed : MethodName := ⟨RX10, "ironed", "(I)I"⟩
abbrev cX10_whyNot : ByteArray := prog_12_method_117_code
def yX10_whyNot : MethodName := ⟨RX10, "whyNot", "(II)I"⟩
abbrev cX10_isSo : ByteArray := prog_12_method_118_code
def yX10_isSo : MethodName := ⟨RX10, "isSo", "(II)Z"⟩
abbrev cX10_laysFits : ByteArray := prog_12_method_119_code
def yX10_laysFits : MethodName := ⟨RX10, "laysFits", "(II)V"⟩
abbrev cX10_stiffs : ByteArray := prog_12_method_120_code
def yX10_stiffs : MethodName := ⟨RX10, "stiffs", "(II)I"⟩
abbrev cX10_least : ByteArray := prog_12_method_121_code
def yX10_least : MethodName := ⟨RX10, "least", "(II)I"⟩
abbrev cX10_most : ByteArray := prog_12_method_122_code
def yX10_most : MethodName := ⟨RX10, "most", "(II)I"⟩
abbrev cX10_ask : ByteArray := prog_12_method_123_code
def yX10_ask : MethodName := ⟨RX10, "ask", "(II)I"⟩
abbrev cX10_soon : ByteArray := prog_12_method_124_code
def yX10_soon : MethodName := ⟨RX10, "soon", "(II)I"⟩
abbrev cX10_late : ByteArray := prog_12_method_125_code
def yX10_late : MethodName := ⟨RX10, "late", "(II)I"⟩
abbrev cX10_whyNotLaws : ByteArray := prog_12_method_126_code
def yX10_whyNotLaws : MethodName := ⟨RX10, "whyNotLaws", "(I)I"⟩
abbrev cX10_fallsBy : ByteArray := prog_12_method_127_code
def yX10_fallsBy : MethodName := ⟨RX10, "fallsBy", "(I)I"⟩
abbrev cX10_laws : ByteArray := prog_12_method_128_code
def yX10_laws : MethodName := ⟨RX10, "laws", "(I)I"⟩
abbrev cX10_by : ByteArray := prog_12_method_129_code
def yX10_by : MethodName := ⟨RX10, "by", "(I)I"⟩
abbrev cX10_law : ByteArray := prog_12_method_130_code
def yX10_law : MethodName := ⟨RX10, "law", "()I"⟩
abbrev cX10_getsBy : ByteArray := prog_12_method_131_code
def yX10_getsBy : MethodName := ⟨RX10, "getsBy", "(IIIII)I"⟩
abbrev cX10_rests : ByteArray := prog_12_method_132_code
def yX10_rests : MethodName := ⟨RX10, "rests", "(II)I"⟩
abbrev cX10_gets : ByteArray := prog_12_method_133_code
def yX10_gets : MethodName := ⟨RX10, "gets", "(IIII)I"⟩
abbrev cX10_common : ByteArray := prog_12_method_134_code
def yX10_common : MethodName := ⟨RX10, "common", "(JJ)J"⟩
abbrev cX10_part : ByteArray := prog_12_method_135_code
def yX10_part : MethodName := ⟨RX10, "part", "(JJI)J"⟩
abbrev cX10_tens : ByteArray := prog_12_method_136_code
def yX10_tens : MethodName := ⟨RX10, "tens", "(I)J"⟩
abbrev cX10_weightOf : ByteArray := prog_12_method_137_code
def yX10_weightOf : MethodName := ⟨RX10, "weightOf", "(III)J"⟩
abbrev cX10_chance : ByteArray := prog_12_method_138_code
def yX10_chance : MethodName := ⟨RX10, "chance", "(III)J"⟩
abbrev cX10_line : ByteArray := prog_12_method_139_code
def yX10_line : MethodName := ⟨RX10, "line", "(II)J"⟩
abbrev cX10_mean : ByteArray := prog_12_method_140_code
def yX10_mean : MethodName := ⟨RX10, "mean", "(III)J"⟩
abbrev cX10_draws : ByteArray := prog_12_method_141_code
def yX10_draws : MethodName := ⟨RX10, "draws", "(J)V"⟩
abbrev cX10_isSeed : ByteArray := prog_12_method_142_code
def yX10_isSeed : MethodName := ⟨RX10, "isSeed", "(I)Z"⟩
abbrev cX10_drawn : ByteArray := prog_12_method_143_code
def yX10_drawn : MethodName := ⟨RX10, "drawn", "(II)I"⟩
abbrev cX10_luck : ByteArray := prog_12_method_144_code
def yX10_luck : MethodName := ⟨RX10, "luck", "(III)I"⟩
abbrev cX10_acts : ByteArray := prog_12_method_145_code
def yX10_acts : MethodName := ⟨RX10, "acts", "(III)I"⟩
abbrev cX10_starch : ByteArray := prog_12_method_146_code
def yX10_starch : MethodName := ⟨RX10, "starch", "(III)I"⟩
abbrev cX10_iron : ByteArray := prog_12_method_147_code
def yX10_iron : MethodName := ⟨RX10, "iron", "(II)I"⟩
abbrev cX10_undo : ByteArray := prog_12_method_148_code
def yX10_undo : MethodName := ⟨RX10, "undo", "()I"⟩
abbrev cX10_anew : ByteArray := prog_12_method_149_code
def yX10_anew : MethodName := ⟨RX10, "anew", "()I"⟩
abbrev cX10_rate : ByteArray := prog_12_method_150_code
def yX10_rate : MethodName := ⟨RX10, "rate", "(II)I"⟩
abbrev cX10_count : ByteArray := prog_12_method_151_code
def yX10_count : MethodName := ⟨RX10, "count", "(I)I"⟩
abbrev cX10_image : ByteArray := prog_12_method_152_code
def yX10_image : MethodName := ⟨RX10, "image", "(I)I"⟩
abbrev cX10_back : ByteArray := prog_12_method_153_code
def yX10_back : MethodName := ⟨RX10, "back", "(I)I"⟩
def RJx145de : String := "java/io/Serializable"
def TJx145de : u_T := fun k => match k with
  | _ => ("", "", "", false)
def tyJx145de : Nat → FieldType := fun k => match k with
  | _ => .int
abbrev wsJx145de0 : List Cond := u_ws RJx145de TJx145de 0
theorem nmJx145de : ∀ a, a < 0 → ∀ b, b < 0 → a ≠ b → (TJx145de a).2.1 ≠ (TJx145de b).2.1 := by decide +kernel
theorem tyJx145de_ok : ∀ k, k < 0 → parseFieldDescriptor (TJx145de k).2.2.1 = some (tyJx145de k) := by decide +kernel
def RJx9f9b0 : String := "java/lang/CharSequence"
def TJx9f9b0 : u_T := fun k => match k with
  | _ => ("", "", "", false)
def tyJx9f9b0 : Nat → FieldType := fun k => match k with
  | _ => .int
abbrev wsJx9f9b00 : List Cond := u_ws RJx9f9b0 TJx9f9b0 0
theorem nmJx9f9b0 : ∀ a, a < 0 → ∀ b, b < 0 → a ≠ b → (TJx9f9b0 a).2.1 ≠ (TJx9f9b0 b).2.1 := by decide +kernel
theorem tyJx9f9b0_ok : ∀ k, k < 0 → parseFieldDescriptor (TJx9f9b0 k).2.2.1 = some (tyJx9f9b0 k) := by decide +kernel
def RJxb160c : String := "java/lang/Comparable"
def TJxb160c : u_T := fun k => match k with
  | _ => ("", "", "", false)
def tyJxb160c : Nat → FieldType := fun k => match k with
  | _ => .int
abbrev wsJxb160c0 : List Cond := u_ws RJxb160c TJxb160c 0
theorem nmJxb160c : ∀ a, a < 0 → ∀ b, b < 0 → a ≠ b → (TJxb160c a).2.1 ≠ (TJxb160c b).2.1 := by decide +kernel
theorem tyJxb160c_ok : ∀ k, k < 0 → parseFieldDescriptor (TJxb160c k).2.2.1 = some (tyJxb160c k) := by decide +kernel
def RJ9 : String := "java/lang/Math"
def TJ9 : u_T := fun k => match k with
  | _ => ("", "", "", false)
def tyJ9 : Nat → FieldType := fun k => match k with
  | _ => .int
abbrev wsJ90 : List Cond := u_ws RJ9 TJ9 0
theorem nmJ9 : ∀ a, a < 0 → ∀ b, b < 0 → a ≠ b → (TJ9 a).2.1 ≠ (TJ9 b).2.1 := by decide +kernel
theorem tyJ9_ok : ∀ k, k < 0 → parseFieldDescriptor (TJ9 k).2.2.1 = some (tyJ9 k) := by decide +kernel
abbrev cJ9_max_7cf53 : ByteArray := prog_13_method_65_code
def yJ9_max_7cf53 : MethodName := ⟨RJ9, "max", "(II)I"⟩
abbrev cJ9_min_7cf53 : ByteArray := prog_13_method_69_code
def yJ9_min_7cf53 : MethodName := ⟨RJ9, "min", "(II)I"⟩
abbrev cJ9_min_f86c9 : ByteArray := prog_13_method_70_code
def yJ9_min_f86c9 : MethodName := ⟨RJ9, "min", "(JJ)J"⟩
def RJ0 : String := "java/lang/String"
def TJ0 : u_T := fun k => match k with
  | _ => ("", "", "", false)
def tyJ0 : Nat → FieldType := fun k => match k with
  | _ => .int
abbrev wsJ00 : List Cond := u_ws RJ0 TJ0 0
theorem nmJ0 : ∀ a, a < 0 → ∀ b, b < 0 → a ≠ b → (TJ0 a).2.1 ≠ (TJ0 b).2.1 := by decide +kernel
theorem tyJ0_ok : ∀ k, k < 0 → parseFieldDescriptor (TJ0 k).2.2.1 = some (tyJ0 k) := by decide +kernel
abbrev cJ0_length_8abf5 : ByteArray := prog_14_method_54_code
def yJ0_length_8abf5 : MethodName := ⟨RJ0, "length", "()I"⟩
abbrev cJ0_charAt_5068e : ByteArray := prog_14_method_56_code
def yJ0_charAt_5068e : MethodName := ⟨RJ0, "charAt", "(I)C"⟩
abbrev cJ0_coder_7d493 : ByteArray := prog_14_method_152_code
def yJ0_coder_7d493 : MethodName := ⟨RJ0, "coder", "()B"⟩
abbrev cJ0_isLatin1_aae02 : ByteArray := prog_14_method_154_code
def yJ0_isLatin1_aae02 : MethodName := ⟨RJ0, "isLatin1", "()Z"⟩
abbrev cJ0_checkIndex_df160 : ByteArray := prog_14_method_155_code
def yJ0_checkIndex_df160 : MethodName := ⟨RJ0, "checkIndex", "(II)V"⟩
def RJ1 : String := "java/lang/StringLatin1"
def TJ1 : u_T := fun k => match k with
  | _ => ("", "", "", false)
def tyJ1 : Nat → FieldType := fun k => match k with
  | _ => .int
abbrev wsJ10 : List Cond := u_ws RJ1 TJ1 0
theorem nmJ1 : ∀ a, a < 0 → ∀ b, b < 0 → a ≠ b → (TJ1 a).2.1 ≠ (TJ1 b).2.1 := by decide +kernel
theorem tyJ1_ok : ∀ k, k < 0 → parseFieldDescriptor (TJ1 k).2.2.1 = some (tyJ1 k) := by decide +kernel
abbrev cJ1_charAt_3b067 : ByteArray := prog_15_method_2_code
def yJ1_charAt_3b067 : MethodName := ⟨RJ1, "charAt", "([BI)C"⟩
def RJ2 : String := "java/lang/StringUTF16"
def TJ2 : u_T := fun k => match k with
  | _ => ("", "", "", false)
def tyJ2 : Nat → FieldType := fun k => match k with
  | _ => .int
abbrev wsJ20 : List Cond := u_ws RJ2 TJ2 0
theorem nmJ2 : ∀ a, a < 0 → ∀ b, b < 0 → a ≠ b → (TJ2 a).2.1 ≠ (TJ2 b).2.1 := by decide +kernel
theorem tyJ2_ok : ∀ k, k < 0 → parseFieldDescriptor (TJ2 k).2.2.1 = some (tyJ2 k) := by decide +kernel
abbrev cJ2_getChar_3b067 : ByteArray := prog_16_method_5_code
def yJ2_getChar_3b067 : MethodName := ⟨RJ2, "getChar", "([BI)C"⟩
abbrev cJ2_length_9d52b : ByteArray := prog_16_method_6_code
def yJ2_length_9d52b : MethodName := ⟨RJ2, "length", "([B)I"⟩
abbrev cJ2_charAt_3b067 : ByteArray := prog_16_method_83_code
def yJ2_charAt_3b067 : MethodName := ⟨RJ2, "charAt", "([BI)C"⟩
abbrev cJ2_checkIndex_2214a : ByteArray := prog_16_method_91_code
def yJ2_checkIndex_2214a : MethodName := ⟨RJ2, "checkIndex", "(I[B)V"⟩
def RJ10 : String := "java/lang/System"
def TJ10 : u_T := fun k => match k with
  | _ => ("", "", "", false)
def tyJ10 : Nat → FieldType := fun k => match k with
  | _ => .int
abbrev wsJ100 : List Cond := u_ws RJ10 TJ10 0
theorem nmJ10 : ∀ a, a < 0 → ∀ b, b < 0 → a ≠ b → (TJ10 a).2.1 ≠ (TJ10 b).2.1 := by decide +kernel
theorem tyJ10_ok : ∀ k, k < 0 → parseFieldDescriptor (TJ10 k).2.2.1 = some (tyJ10 k) := by decide +kernel
def RJxfd54e : String := "java/lang/constant/Constable"
def TJxfd54e : u_T := fun k => match k with
  | _ => ("", "", "", false)
def tyJxfd54e : Nat → FieldType := fun k => match k with
  | _ => .int
abbrev wsJxfd54e0 : List Cond := u_ws RJxfd54e TJxfd54e 0
theorem nmJxfd54e : ∀ a, a < 0 → ∀ b, b < 0 → a ≠ b → (TJxfd54e a).2.1 ≠ (TJxfd54e b).2.1 := by decide +kernel
theorem tyJxfd54e_ok : ∀ k, k < 0 → parseFieldDescriptor (TJxfd54e k).2.2.1 = some (tyJxfd54e k) := by decide +kernel
def RJx3cf43 : String := "java/lang/constant/ConstantDesc"
def TJx3cf43 : u_T := fun k => match k with
  | _ => ("", "", "", false)
def tyJx3cf43 : Nat → FieldType := fun k => match k with
  | _ => .int
abbrev wsJx3cf430 : List Cond := u_ws RJx3cf43 TJx3cf43 0
theorem nmJx3cf43 : ∀ a, a < 0 → ∀ b, b < 0 → a ≠ b → (TJx3cf43 a).2.1 ≠ (TJx3cf43 b).2.1 := by decide +kernel
theorem tyJx3cf43_ok : ∀ k, k < 0 → parseFieldDescriptor (TJx3cf43 k).2.2.1 = some (tyJx3cf43 k) := by decide +kernel
def RJ7 : String := "java/util/Arrays"
def TJ7 : u_T := fun k => match k with
  | _ => ("", "", "", false)
def tyJ7 : Nat → FieldType := fun k => match k with
  | _ => .int
abbrev wsJ70 : List Cond := u_ws RJ7 TJ7 0
theorem nmJ7 : ∀ a, a < 0 → ∀ b, b < 0 → a ≠ b → (TJ7 a).2.1 ≠ (TJ7 b).2.1 := by decide +kernel
theorem tyJ7_ok : ∀ k, k < 0 → parseFieldDescriptor (TJ7 k).2.2.1 = some (tyJ7 k) := by decide +kernel
abbrev cJ7_fill_d0a16 : ByteArray := prog_18_method_101_code
def yJ7_fill_d0a16 : MethodName := ⟨RJ7, "fill", "([JJ)V"⟩
abbrev cJ7_fill_53178 : ByteArray := prog_18_method_103_code
def yJ7_fill_53178 : MethodName := ⟨RJ7, "fill", "([II)V"⟩
def RJ3 : String := "jdk/internal/util/Preconditions"
def TJ3 : u_T := fun k => match k with
  | _ => ("", "", "", false)
def tyJ3 : Nat → FieldType := fun k => match k with
  | _ => .int
abbrev wsJ30 : List Cond := u_ws RJ3 TJ3 0
theorem nmJ3 : ∀ a, a < 0 → ∀ b, b < 0 → a ≠ b → (TJ3 a).2.1 ≠ (TJ3 b).2.1 := by decide +kernel
theorem tyJ3_ok : ∀ k, k < 0 → parseFieldDescriptor (TJ3 k).2.2.1 = some (tyJ3 k) := by decide +kernel
abbrev cJ3_checkIndex_8e157 : ByteArray := prog_19_method_11_code
def yJ3_checkIndex_8e157 : MethodName := ⟨RJ3, "checkIndex", "(IILjava/util/function/BiFunction;)I"⟩
def RL : String := "StarchGarrisonLaw"
abbrev cL_law : ByteArray := code
def yL_law : MethodName := ⟨RL, "law", "([I)Z"⟩
end
section
/-! The symbolic executor: what it speaks of. Numbers are a symbol and an offset, symbols have bounds; a world is a list of cells. -/
/-- a number: a constant (none, c), or a symbol's value and c -/
abbrev xI : Type := Option Nat × Int
/-- bounds -/
abbrev xB : Type := Int × Int
/-- a value: an int, a long, a cell of the world (none: null), a cell outside it -/
abbrev xV : Type := xI ⊕ (xI ⊕ (Option Nat ⊕ Nat))
/-- a stretch of an array: how many elements, and what each is -/
abbrev xG : Type := Nat × (xI ⊕ xB)
/-- a cell: an object (class, fields), an array of ints (type, length, stretches), of longs (length, stretches), of cells (class, cells) -/
abbrev xC : Type := (Nat × List xV) ⊕ ((Nat × (Nat × List xG)) ⊕ ((Nat × List xG) ⊕ (Nat × List (Option Nat))))
def xle (a b : Int) : Bool := match b - a with
  | .ofNat _ => true
  | .negSucc _ => false
theorem xle_iff {a b : Int} : xle a b = true ↔ a ≤ b := by
  unfold xle
  cases h : b - a with
  | ofNat n =>
    have : (Int.ofNat n : Int) = (n : Int) := rfl
    simp
    omega
  | negSucc n =>
    have : Int.negSucc n = -((n : Int) + 1) := Int.negSucc_eq n
    simp
    omega
theorem xle_not {a b : Int} (h : xle a b = false) : b < a := by
  rcases Int.lt_or_le b a with q | q
  · exact q
  · rw [xle_iff.mpr q] at h
    cases h
def xeq (a b : Int) : Bool := xle a b && xle b a
theorem xeq_iff {a b : Int} : xeq a b = true ↔ a = b := by
  unfold xeq
  rw [Bool.and_eq_true, xle_iff, xle_iff]
  omega
def xmin (a b : Int) : Int := bif xle a b then a else b
def xmax (a b : Int) : Int := bif xle a b then b else a
theorem xmin_le1 {z a b : Int} (h1 : z ≤ a) (h2 : z ≤ b) : z ≤ xmin a b := by
  unfold xmin; cases xle a b <;> simp <;> omega
theorem xmax_le1 {z a b : Int} (h1 : a ≤ z) (h2 : b ≤ z) : xmax a b ≤ z := by
  unfold xmax; cases xle a b <;> simp <;> omega
theorem xmin_l (a b : Int) : xmin a b ≤ a := by
  unfold xmin
  cases h : xle a b
  · have := xle_not h
    simp; omega
  · simp
theorem xmin_r (a b : Int) : xmin a b ≤ b := by
  unfold xmin
  cases h : xle a b
  · simp
  · have := xle_iff.mp h
    simp; omega
theorem xmax_l (a b : Int) : a ≤ xmax a b := by
  unfold xmax
  cases h : xle a b
  · simp
  · have := xle_iff.mp h
    simp; omega
theorem xmax_r (a b : Int) : b ≤ xmax a b := by
  unfold xmax
  cases h : xle a b
  · have := xle_not h
    simp; omega
  · simp
/-- what a number is, when the symbols are ρ -/
def xe (ρ : List Int) (a : xI) : Option Int := match a.1 with
  | none => some a.2
  | some k => match ρ[k]? with
    | some z => some (z + a.2)
    | none => none
/-- its bounds, when the symbols' are σ -/
def xrg (σ : List xB) (a : xI) : Option xB := match a.1 with
  | none => some (a.2, a.2)
  | some k => match σ[k]? with
    | some r => some (r.1 + a.2, r.2 + a.2)
    | none => none
def xSt (ρ : List Int) (σ : List xB) : Prop := σ.length = ρ.length ∧ ∀ (k : Nat) (r : xB) (z : Int), σ[k]? = some r → ρ[k]? = some z → r.1 ≤ z ∧ z ≤ r.2
def xX {α : Type} (a b : List α) : Prop := ∃ t, b = a ++ t
theorem xX.rf {α : Type} (a : List α) : xX a a := ⟨[], by simp⟩
theorem xX.tr {α : Type} {a b c : List α} (h1 : xX a b) (h2 : xX b c) : xX a c := by
  obtain ⟨t, rfl⟩ := h1
  obtain ⟨u, rfl⟩ := h2
  exact ⟨t ++ u, by simp⟩
theorem xX.at {α : Type} {a b : List α} (h : xX a b) {k : Nat} {z : α} (hk : a[k]? = some z) : b[k]? = some z := by
  obtain ⟨t, rfl⟩ := h
  have hlt : k < a.length := (List.getElem?_eq_some_iff.mp hk).1
  rw [List.getElem?_append_left hlt, hk]
theorem xe.mono {ρ ρ' : List Int} (h : xX ρ ρ') {a : xI} {z : Int} (hz : xe ρ a = some z) : xe ρ' a = some z := by
  obtain ⟨o, c⟩ := a
  cases o with
  | none => exact hz
  | some k =>
    simp only [xe] at hz ⊢
    cases hk : ρ[k]? with
    | none => rw [hk] at hz; cases hz
    | some w => rw [hk] at hz; rw [h.at hk]; exact hz
theorem xrg_ok {ρ : List Int} {σ : List xB} (h : xSt ρ σ) {a : xI} {z : Int} {r : xB} (hz : xe ρ a = some z) (hr : xrg σ a = some r) : r.1 ≤ z ∧ z ≤ r.2 := by
  obtain ⟨o, c⟩ := a
  cases o with
  | none =>
    simp only [xe, xrg, Option.some.injEq] at hz hr
    subst hz; subst hr
    exact ⟨Int.le_refl _, Int.le_refl _⟩
  | some k =>
    simp only [xe, xrg] at hz hr
    cases hk : ρ[k]? with
    | none => rw [hk] at hz; cases hz
    | some w =>
      cases hs : σ[k]? with
      | none => rw [hs] at hr; cases hr
      | some q =>
        rw [hk] at hz; rw [hs] at hr
        have := h.2 k q w hs hk
        simp only [Option.some.injEq] at hz hr
        subst hz; subst hr
        dsimp only
        omega
/-- a number between bounds: a constant, or a fresh symbol -/
def xmk (σ : List xB) (lo hi : Int) : xI × List xB := bif xeq lo hi then ((none, lo), σ) else ((some σ.length, 0), σ ++ [(lo, hi)])
theorem xSt.push {ρ : List Int} {σ : List xB} (h : xSt ρ σ) {lo hi z : Int} (h1 : lo ≤ z) (h2 : z ≤ hi) : xSt (ρ ++ [z]) (σ ++ [(lo, hi)]) := by
  refine ⟨by simp [h.1], fun k r w hr hw => ?_⟩
  rcases Nat.lt_trichotomy k σ.length with q | q | q
  · rw [List.getElem?_append_left q] at hr
    rw [List.getElem?_append_left (by rw [← h.1]; exact q)] at hw
    exact h.2 k r w hr hw
  · subst q
    rw [List.getElem?_concat_length] at hr
    rw [h.1, List.getElem?_concat_length] at hw
    cases hr; cases hw
    exact ⟨h1, h2⟩
  · rw [List.getElem?_eq_none (by simp; omega)] at hr
    cases hr
theorem xmk_ok {ρ : List Int} {σ : List xB} (h : xSt ρ σ) {lo hi z : Int} (h1 : lo ≤ z) (h2 : z ≤ hi) : ∃ ρ', xX ρ ρ' ∧ xSt ρ' (xmk σ lo hi).2 ∧ xe ρ' (xmk σ lo hi).1 = some z := by
  unfold xmk
  cases hq : xeq lo hi
  · refine ⟨ρ ++ [z], ⟨[z], rfl⟩, h.push h1 h2, ?_⟩
    simp only [cond_false, xe]
    rw [h.1, List.getElem?_concat_length]
    simp
  · have he := xeq_iff.mp hq
    refine ⟨ρ, xX.rf ρ, h, ?_⟩
    simp only [cond_true, xe]
    congr 1
    omega
/-- a number's symbol gets bounds -/
def xput (σ : List xB) (a : xI) (lo hi : Int) : List xB := match a.1 with
  | none => σ
  | some k => σ.set k (lo - a.2, hi - a.2)
theorem xput_ok {ρ : List Int} {σ : List xB} (h : xSt ρ σ) {a : xI} {z lo hi : Int} (hz : xe ρ a = some z) (h1 : lo ≤ z) (h2 : z ≤ hi) : xSt ρ (xput σ a lo hi) := by
  obtain ⟨o, c⟩ := a
  cases o with
  | none => exact h
  | some k =>
    refine ⟨by simp [xput, h.1], fun j r w hr hw => ?_⟩
    simp only [xput] at hr
    by_cases hj : k = j
    · subst hj
      rw [List.getElem?_set_self' ] at hr
      simp only [xe] at hz
      rw [hw] at hz
      cases hs : σ[k]? with
      | none => rw [hs] at hr; cases hr
      | some q =>
        rw [hs] at hr
        have hr : (lo - c, hi - c) = r := Option.some.inj hr
        simp only [Option.some.injEq] at hz
        subst hr
        dsimp only at hz ⊢
        omega
    · rw [List.getElem?_set_ne hj] at hr
      exact h.2 j r w hr hw
theorem xput_len (σ : List xB) (a : xI) (lo hi : Int) : (xput σ a lo hi).length = σ.length := by
  obtain ⟨o, c⟩ := a
  cases o <;> simp [xput]
/-- two lists, one by one -/
def xAll2 {α β : Type} (R : α → β → Prop) : List α → List β → Prop
  | [], [] => True
  | a :: as, b :: bs => R a b ∧ xAll2 R as bs
  | _, _ => False
theorem xAll2.nil {α β : Type} {R : α → β → Prop} {l : List β} (h : xAll2 R [] l) : l = [] := by
  cases l with
  | nil => rfl
  | cons a t => exact h.elim
theorem xAll2.cons {α β : Type} {R : α → β → Prop} {a : α} {as : List α} {l : List β} (h : xAll2 R (a :: as) l) : ∃ b bs, l = b :: bs ∧ R a b ∧ xAll2 R as bs := by
  cases l with
  | nil => exact h.elim
  | cons b t => exact ⟨b, t, rfl, h.1, h.2⟩
theorem xAll2.mono {α β : Type} {R R' : α → β → Prop} (hR : ∀ a b, R a b → R' a b) : ∀ {l : List α} {r : List β}, xAll2 R l r → xAll2 R' l r
  | [], [], _ => trivial
  | _ :: _, _ :: _, h => ⟨hR _ _ h.1, xAll2.mono hR h.2⟩
  | [], _ :: _, h => h.elim
  | _ :: _, [], h => h.elim
theorem xAll2.len {α β : Type} {R : α → β → Prop} : ∀ {l : List α} {r : List β}, xAll2 R l r → l.length = r.length
  | [], [], _ => rfl
  | _ :: _, _ :: _, h => by simp [xAll2.len h.2]
  | [], _ :: _, h => h.elim
  | _ :: _, [], h => h.elim
theorem xAll2.get {α β : Type} {R : α → β → Prop} : ∀ {l : List α} {r : List β}, xAll2 R l r → ∀ {k : Nat} {a : α}, l[k]? = some a → ∃ b, r[k]? = some b ∧ R a b
  | [], [], _, k, a, hk => by simp at hk
  | x :: xs, y :: ys, h, 0, a, hk => by
    simp at hk
    subst hk
    exact ⟨y, by simp, h.1⟩
  | x :: xs, y :: ys, h, k + 1, a, hk => by
    simp at hk
    obtain ⟨b, h1, h2⟩ := xAll2.get h.2 hk
    exact ⟨b, by simpa using h1, h2⟩
  | [], _ :: _, h, _, _, _ => h.elim
  | _ :: _, [], h, _, _, _ => h.elim
theorem xAll2.set {α β : Type} {R : α → β → Prop} : ∀ {l : List α} {r : List β}, xAll2 R l r → ∀ (k : Nat) {a : α} {b : β}, R a b → xAll2 R (l.set k a) (r.set k b)
  | [], [], _, _, _, _, _ => trivial
  | _ :: _, _ :: _, h, 0, _, _, hab => ⟨hab, h.2⟩
  | _ :: _, _ :: _, h, k + 1, _, _, hab => ⟨h.1, xAll2.set h.2 k hab⟩
  | [], _ :: _, h, _, _, _, _ => h.elim
  | _ :: _, [], h, _, _, _, _ => h.elim
theorem xAll2.app {α β : Type} {R : α → β → Prop} : ∀ {l : List α} {r : List β}, xAll2 R l r → ∀ {l' : List α} {r' : List β}, xAll2 R l' r' → xAll2 R (l ++ l') (r ++ r')
  | [], [], _, _, _, h => h
  | _ :: _, _ :: _, h, _, _, h' => ⟨h.1, xAll2.app h.2 h'⟩
  | [], _ :: _, h, _, _, _ => h.elim
  | _ :: _, [], h, _, _, _ => h.elim
/-- a value of the executor and the machine's -/
def xv (ρ : List Int) (ad : List Nat) (ex : List Nat) : xV → Value → Prop
  | .inl a, w => ∃ x : Int32, w = .int x ∧ xe ρ a = some x.toInt
  | .inr (.inl a), w => ∃ x : Int64, w = .long x ∧ xe ρ a = some x.toInt
  | .inr (.inr (.inl none)), w => w = .null
  | .inr (.inr (.inl (some i))), w => ∃ q : Nat, ad[i]? = some q ∧ w = .ref q
  | .inr (.inr (.inr k)), w => ∃ q : Nat, ex[k]? = some q ∧ w = .ref q
theorem xv.mono {ρ ρ' : List Int} {ad ad' ex : List Nat} (h1 : xX ρ ρ') (h2 : xX ad ad') : ∀ (v : xV) (w : Value), xv ρ ad ex v w → xv ρ' ad' ex v w
  | .inl _, _, ⟨x, e, h⟩ => ⟨x, e, xe.mono h1 h⟩
  | .inr (.inl _), _, ⟨x, e, h⟩ => ⟨x, e, xe.mono h1 h⟩
  | .inr (.inr (.inl none)), _, h => h
  | .inr (.inr (.inl (some _))), _, ⟨q, h, e⟩ => ⟨q, h2.at h, e⟩
  | .inr (.inr (.inr _)), _, h => h
/-- how many words a value takes -/
def xcat : xV → Nat
  | .inr (.inl _) => 2
  | _ => 1
theorem xv.cat {ρ : List Int} {ad ex : List Nat} : ∀ {v : xV} {w : Value}, xv ρ ad ex v w → w.category = xcat v
  | .inl _, _, ⟨x, e, _⟩ => by subst e; rfl
  | .inr (.inl _), _, ⟨x, e, _⟩ => by subst e; rfl
  | .inr (.inr (.inl none)), _, h => by have h : _ = Value.null := h; subst h; rfl
  | .inr (.inr (.inl (some _))), _, ⟨q, h, e⟩ => by subst e; rfl
  | .inr (.inr (.inr _)), _, ⟨q, h, e⟩ => by subst e; rfl
/-- what stands at a place of an array -/
def xseg : List xG → Nat → Option (xI ⊕ xB)
  | [], _ => none
  | g :: t, j => bif Nat.blt j g.1 then some g.2 else xseg t (j - g.1)
/-- an element and what is said of it -/
def xel (ρ : List Int) (u : xI ⊕ xB) (z : Int) : Prop := match u with
  | .inl a => xe ρ a = some z
  | .inr r => r.1 ≤ z ∧ z ≤ r.2
theorem xel.mono {ρ ρ' : List Int} (h : xX ρ ρ') {u : xI ⊕ xB} {z : Int} (hz : xel ρ u z) : xel ρ' u z := by
  cases u with
  | inl a => exact xe.mono h hz
  | inr r => exact hz
def xarr (ρ : List Int) (gs : List xG) (n : Nat) (f : Nat → Int) : Prop := ∀ j, j < n → ∃ u, xseg gs j = some u ∧ xel ρ u (f j)
theorem xarr.mono {ρ ρ' : List Int} (h : xX ρ ρ') {gs : List xG} {n : Nat} {f : Nat → Int} (hz : xarr ρ gs n f) : xarr ρ' gs n f := fun j hj => by
  obtain ⟨u, h1, h2⟩ := hz j hj
  exact ⟨u, h1, h2.mono h⟩
/-- the types of arrays by their numbers -/
def xty : Nat → FieldType
  | 0 => .int
  | 1 => .byte
  | _ => .boolean
/-- a cell of the executor and the machine's; tys: the array classes that are known; cn: the classes' names -/
def xcell (cn : Nat → String) (ρ : List Int) (ad ex : List Nat) (tys : List (ClassId × FieldType)) : xC → va_E → Prop
  | .inl o, e => ∃ vs : List Value, e = .inr (o.1, vs) ∧ xAll2 (xv ρ ad ex) o.2 vs
  | .inr (.inl a), e => ∃ (cA : ClassId) (f : Nat → Int32), e = .inl (cA, a.2.1, .inl f) ∧ (cA, xty a.1) ∈ tys ∧ xarr ρ a.2.2 a.2.1 (fun j => (f j).toInt)
  | .inr (.inr (.inl a)), e => ∃ (cA : ClassId) (f : Nat → Int64), e = .inl (cA, a.1, .inr (.inl f)) ∧ (cA, FieldType.long) ∈ tys ∧ xarr ρ a.2 a.1 (fun j => (f j).toInt)
  | .inr (.inr (.inr a)), e => ∃ (cA : ClassId) (f : Nat → Option Nat), e = .inl (cA, a.2.length, .inr (.inr (.inr (.inr f)))) ∧ (cA, FieldType.object (cn a.1)) ∈ tys ∧ ∀ (j : Nat) (o : Option Nat), a.2[j]? = some o → match o with
    | none => f j = none
    | some i => ∃ q, ad[i]? = some q ∧ f j = some q
theorem xcell.mono {cn : Nat → String} {ρ ρ' : List Int} {ad ad' ex : List Nat} {tys tys' : List (ClassId × FieldType)} (h1 : xX ρ ρ') (h2 : xX ad ad') (h3 : ∀ q ∈ tys, q ∈ tys') : ∀ (x : xC) (e : va_E), xcell cn ρ ad ex tys x e → xcell cn ρ' ad' ex tys' x e
  | .inl _, _, ⟨vs, e, h⟩ => ⟨vs, e, h.mono (xv.mono h1 h2)⟩
  | .inr (.inl _), _, ⟨cA, f, e, h, g⟩ => ⟨cA, f, e, h3 _ h, g.mono h1⟩
  | .inr (.inr (.inl _)), _, ⟨cA, f, e, h, g⟩ => ⟨cA, f, e, h3 _ h, g.mono h1⟩
  | .inr (.inr (.inr _)), _, ⟨cA, f, e, h, g⟩ => ⟨cA, f, e, h3 _ h, fun j o ho => by
      have := g j o ho
      cases o with
      | none => exact this
      | some i => exact let ⟨q, a, b⟩ := this; ⟨q, h2.at a, b⟩⟩
end
section
/-! The executor's arithmetic, and that it holds what the machine makes. -/
theorem x_b32 (x : Int32) : -2147483648 ≤ x.toInt ∧ x.toInt ≤ 2147483647 := by
  have h1 := x.le_toInt
  have h2 := x.toInt_lt
  constructor <;> omega
theorem x_b64 (x : Int64) : -9223372036854775808 ≤ x.toInt ∧ x.toInt ≤ 9223372036854775807 := by
  have h1 := x.le_toInt
  have h2 := x.toInt_lt
  constructor <;> omega
theorem x_of32 {z : Int} (h1 : -2147483648 ≤ z) (h2 : z ≤ 2147483647) : (Int32.ofInt z).toInt = z := Int32.toInt_ofInt_of_le (by omega) (by omega)
theorem x_of64 {z : Int} (h1 : -9223372036854775808 ≤ z) (h2 : z ≤ 9223372036854775807) : (Int64.ofInt z).toInt = z := Int64.toInt_ofInt_of_le (by omega) (by omega)
theorem x_add32 {x y : Int32} (h1 : -2147483648 ≤ x.toInt + y.toInt) (h2 : x.toInt + y.toInt ≤ 2147483647) : (x + y).toInt = x.toInt + y.toInt := by
  have h : x + y = Int32.ofInt (x.toInt + y.toInt) := by simp
  rw [h, x_of32 h1 h2]
theorem x_sub32 {x y : Int32} (h1 : -2147483648 ≤ x.toInt - y.toInt) (h2 : x.toInt - y.toInt ≤ 2147483647) : (x - y).toInt = x.toInt - y.toInt := by
  have h : x - y = Int32.ofInt (x.toInt - y.toInt) := by simp
  rw [h, x_of32 h1 h2]
theorem x_mul32 {x y : Int32} (h1 : -2147483648 ≤ x.toInt * y.toInt) (h2 : x.toInt * y.toInt ≤ 2147483647) : (x * y).toInt = x.toInt * y.toInt := by
  have h : x * y = Int32.ofInt (x.toInt * y.toInt) := by simp
  rw [h, x_of32 h1 h2]
theorem x_add64 {x y : Int64} (h1 : -9223372036854775808 ≤ x.toInt + y.toInt) (h2 : x.toInt + y.toInt ≤ 9223372036854775807) : (x + y).toInt = x.toInt + y.toInt := by
  have h : x + y = Int64.ofInt (x.toInt + y.toInt) := by simp
  rw [h, x_of64 h1 h2]
theorem x_sub64 {x y : Int64} (h1 : -9223372036854775808 ≤ x.toInt - y.toInt) (h2 : x.toInt - y.toInt ≤ 9223372036854775807) : (x - y).toInt = x.toInt - y.toInt := by
  have h : x - y = Int64.ofInt (x.toInt - y.toInt) := by simp
  rw [h, x_of64 h1 h2]
theorem x_mul64 {x y : Int64} (h1 : -9223372036854775808 ≤ x.toInt * y.toInt) (h2 : x.toInt * y.toInt ≤ 9223372036854775807) : (x * y).toInt = x.toInt * y.toInt := by
  have h : x * y = Int64.ofInt (x.toInt * y.toInt) := by simp
  rw [h, x_of64 h1 h2]
theorem x_bvand {n : Nat} {x y : BitVec n} (h : 0 ≤ y.toInt) : 0 ≤ (x &&& y).toInt ∧ (x &&& y).toInt ≤ y.toInt := by
  have hm : y.msb = false := by
    cases hq : y.msb with
    | false => rfl
    | true =>
      have := BitVec.toInt_neg_of_msb_true hq
      omega
  have hm2 : (x &&& y).msb = false := by rw [BitVec.msb_and, hm, Bool.and_false]
  rw [BitVec.toInt_eq_toNat_of_msb hm, BitVec.toInt_eq_toNat_of_msb hm2, BitVec.toNat_and]
  have := Nat.and_le_right (n := x.toNat) (m := y.toNat)
  omega
theorem x_and32 {x y : Int32} (h : 0 ≤ y.toInt) : 0 ≤ (x &&& y).toInt ∧ (x &&& y).toInt ≤ y.toInt := by
  show 0 ≤ (x &&& y).toBitVec.toInt ∧ (x &&& y).toBitVec.toInt ≤ y.toBitVec.toInt
  rw [Int32.toBitVec_and]
  exact x_bvand h
theorem x_and64 {x y : Int64} (h : 0 ≤ y.toInt) : 0 ≤ (x &&& y).toInt ∧ (x &&& y).toInt ≤ y.toInt := by
  show 0 ≤ (x &&& y).toBitVec.toInt ∧ (x &&& y).toBitVec.toInt ≤ y.toBitVec.toInt
  rw [Int64.toBitVec_and]
  exact x_bvand h
theorem x_and32c (x y : Int32) : x &&& y = y &&& x := Int32.and_comm x y
theorem x_and64c (x y : Int64) : x &&& y = y &&& x := Int64.and_comm x y
theorem x_shri (z : Int) (n : Nat) : (0 ≤ z → 0 ≤ z >>> n ∧ z >>> n ≤ z) ∧ (z ≤ 0 → z ≤ z >>> n ∧ z >>> n ≤ 0) := by
  rw [Int.shiftRight_eq_div_pow]
  have hp : (0 : Int) < ((2 ^ n : Nat) : Int) := by
    have := Nat.two_pow_pos n
    omega
  constructor
  · intro h
    refine ⟨Int.ediv_nonneg h (by omega), Int.ediv_le_self _ h⟩
  · intro h
    constructor
    · have h1 : z * 1 ≥ z * ((2 ^ n : Nat) : Int) := Int.mul_le_mul_of_nonpos_left h (by omega)
      rw [Int.le_ediv_iff_mul_le hp]
      omega
    · exact Int.ediv_nonpos_of_nonpos_of_neg h (by omega)
theorem x_shr32 (x y : Int32) : (0 ≤ x.toInt → 0 ≤ (x >>> y).toInt ∧ (x >>> y).toInt ≤ x.toInt) ∧ (x.toInt ≤ 0 → x.toInt ≤ (x >>> y).toInt ∧ (x >>> y).toInt ≤ 0) := by
  have h : (x >>> y).toInt = x.toInt >>> (y.toBitVec.smod 32).toNat := by
    show (x >>> y).toBitVec.toInt = _
    rw [Int32.toBitVec_shiftRight, BitVec.sshiftRight', BitVec.toInt_sshiftRight]
    rfl
  rw [h]
  exact x_shri _ _
theorem x_shr64 (x y : Int64) : (0 ≤ x.toInt → 0 ≤ (x >>> y).toInt ∧ (x >>> y).toInt ≤ x.toInt) ∧ (x.toInt ≤ 0 → x.toInt ≤ (x >>> y).toInt ∧ (x >>> y).toInt ≤ 0) := by
  have h : (x >>> y).toInt = x.toInt >>> (y.toBitVec.smod 64).toNat := by
    show (x >>> y).toBitVec.toInt = _
    rw [Int64.toBitVec_shiftRight, BitVec.sshiftRight', BitVec.toInt_sshiftRight]
    rfl
  rw [h]
  exact x_shri _ _
/-- division by what is above 0 -/
theorem x_tdiv {a b : Int} (hb : 0 < b) : (0 ≤ a → 0 ≤ a.tdiv b ∧ a.tdiv b ≤ a) ∧ (a ≤ 0 → a ≤ a.tdiv b ∧ a.tdiv b ≤ 0) := by
  have key : ∀ c : Int, 0 ≤ c → 0 ≤ c.tdiv b ∧ c.tdiv b ≤ c := by
    intro c hc
    rw [Int.tdiv_eq_ediv_of_nonneg hc]
    exact ⟨Int.ediv_nonneg hc (by omega), Int.ediv_le_self _ hc⟩
  refine ⟨key a, fun ha => ?_⟩
  have := key (-a) (by omega)
  rw [Int.neg_tdiv] at this
  omega
theorem x_div32 {x y : Int32} (hy : 0 < y.toInt) : (x / y).toInt = x.toInt.tdiv y.toInt := Int32.toInt_div_of_ne_right x y (fun h => by rw [h] at hy; exact absurd hy (by decide))
theorem x_div64 {x y : Int64} (hy : 0 < y.toInt) : (x / y).toInt = x.toInt.tdiv y.toInt := Int64.toInt_div_of_ne_right x y (fun h => by rw [h] at hy; exact absurd hy (by decide))
theorem x_tm {a b : Int} (hb : 0 < b) : (0 ≤ a → 0 ≤ a.tmod b ∧ a.tmod b ≤ a ∧ a.tmod b < b) ∧ (-b < a.tmod b ∧ a.tmod b < b) := by
  refine ⟨fun ha => ?_, tmod_bounds hb⟩
  rw [Int.tmod_eq_emod_of_nonneg ha]
  have h1 := Int.mul_ediv_add_emod a b
  have h2 : 0 ≤ b * (a / b) := Int.mul_nonneg (by omega) (Int.ediv_nonneg ha (by omega))
  exact ⟨Int.emod_nonneg a (by omega), by omega, Int.emod_lt_of_pos a hb⟩
theorem x_rem32 {x y : Int32} (hy : 0 < y.toInt) : (x - x / y * y).toInt = x.toInt.tmod y.toInt := by
  have hx := x_b32 x
  have hyb := x_b32 y
  have hd := x_div32 (x := x) hy
  have hm := Int.mul_tdiv_add_tmod x.toInt y.toInt
  have hb := x_tm (a := x.toInt) hy
  have hq := x_tdiv (a := x.toInt) hy
  have e1 : x - x / y * y = Int32.ofInt (x.toInt - x.toInt.tdiv y.toInt * y.toInt) := by
    rw [Int32.ofInt_sub, Int32.ofInt_mul, ← hd, Int32.ofInt_toInt, Int32.ofInt_toInt, Int32.ofInt_toInt]
  have e2 : x.toInt - x.toInt.tdiv y.toInt * y.toInt = x.toInt.tmod y.toInt := by
    rw [Int.mul_comm]
    omega
  rw [e1, e2]
  exact x_of32 (by omega) (by omega)
theorem x_rem64 {x y : Int64} (hy : 0 < y.toInt) : (x - x / y * y).toInt = x.toInt.tmod y.toInt := by
  have hx := x_b64 x
  have hyb := x_b64 y
  have hd := x_div64 (x := x) hy
  have hm := Int.mul_tdiv_add_tmod x.toInt y.toInt
  have hb := x_tm (a := x.toInt) hy
  have e1 : x - x / y * y = Int64.ofInt (x.toInt - x.toInt.tdiv y.toInt * y.toInt) := by
    rw [Int64.ofInt_sub, Int64.ofInt_mul, ← hd, Int64.ofInt_toInt, Int64.ofInt_toInt, Int64.ofInt_toInt]
  have e2 : x.toInt - x.toInt.tdiv y.toInt * y.toInt = x.toInt.tmod y.toInt := by
    rw [Int.mul_comm]
    omega
  rw [e1, e2]
  exact x_of64 (by omega) (by omega)
/-- a product between bounds -/
theorem x_mul1 {z a b c : Int} (h1 : a ≤ z) (h2 : z ≤ b) : (a * c ≤ z * c ∧ z * c ≤ b * c) ∨ (b * c ≤ z * c ∧ z * c ≤ a * c) := by
  rcases Int.le_total 0 c with h | h
  · exact Or.inl ⟨Int.mul_le_mul_of_nonneg_right h1 h, Int.mul_le_mul_of_nonneg_right h2 h⟩
  · exact Or.inr ⟨Int.mul_le_mul_of_nonpos_right h2 h, Int.mul_le_mul_of_nonpos_right h1 h⟩
def xmulB (L H : Int) (r q : xB) : xB :=
  let lo := xmin (xmin (r.1 * q.1) (r.1 * q.2)) (xmin (r.2 * q.1) (r.2 * q.2))
  let hi := xmax (xmax (r.1 * q.1) (r.1 * q.2)) (xmax (r.2 * q.1) (r.2 * q.2))
  bif xle L lo && xle hi H then (lo, hi) else (L, H)
theorem xmulB_ok {L H z1 z2 w : Int} {r q : xB} (h1 : r.1 ≤ z1 ∧ z1 ≤ r.2) (h2 : q.1 ≤ z2 ∧ z2 ≤ q.2) (hw : L ≤ w ∧ w ≤ H) (he : L ≤ z1 * z2 → z1 * z2 ≤ H → w = z1 * z2) : (xmulB L H r q).1 ≤ w ∧ w ≤ (xmulB L H r q).2 := by
  unfold xmulB
  have a1 := xmin_l (xmin (r.1 * q.1) (r.1 * q.2)) (xmin (r.2 * q.1) (r.2 * q.2))
  have a2 := xmin_r (xmin (r.1 * q.1) (r.1 * q.2)) (xmin (r.2 * q.1) (r.2 * q.2))
  have a3 := xmin_l (r.1 * q.1) (r.1 * q.2)
  have a4 := xmin_r (r.1 * q.1) (r.1 * q.2)
  have a5 := xmin_l (r.2 * q.1) (r.2 * q.2)
  have a6 := xmin_r (r.2 * q.1) (r.2 * q.2)
  have b1 := xmax_l (xmax (r.1 * q.1) (r.1 * q.2)) (xmax (r.2 * q.1) (r.2 * q.2))
  have b2 := xmax_r (xmax (r.1 * q.1) (r.1 * q.2)) (xmax (r.2 * q.1) (r.2 * q.2))
  have b3 := xmax_l (r.1 * q.1) (r.1 * q.2)
  have b4 := xmax_r (r.1 * q.1) (r.1 * q.2)
  have b5 := xmax_l (r.2 * q.1) (r.2 * q.2)
  have b6 := xmax_r (r.2 * q.1) (r.2 * q.2)
  generalize xmin (xmin (r.1 * q.1) (r.1 * q.2)) (xmin (r.2 * q.1) (r.2 * q.2)) = lo at *
  generalize xmax (xmax (r.1 * q.1) (r.1 * q.2)) (xmax (r.2 * q.1) (r.2 * q.2)) = hi at *
  generalize xmin (r.1 * q.1) (r.1 * q.2) = m1 at *
  generalize xmin (r.2 * q.1) (r.2 * q.2) = m2 at *
  generalize xmax (r.1 * q.1) (r.1 * q.2) = m3 at *
  generalize xmax (r.2 * q.1) (r.2 * q.2) = m4 at *
  dsimp only
  cases hc : (xle L lo && xle hi H)
  · exact hw
  · rw [Bool.and_eq_true, xle_iff, xle_iff] at hc
    have c1 := x_mul1 (c := z2) h1.1 h1.2
    have c2 := x_mul1 (c := r.1) h2.1 h2.2
    have c3 := x_mul1 (c := r.2) h2.1 h2.2
    rw [Int.mul_comm q.1, Int.mul_comm q.2, Int.mul_comm z2] at c2 c3
    generalize z1 * z2 = pz at *
    generalize r.1 * z2 = p1 at *
    generalize r.2 * z2 = p2 at *
    generalize r.1 * q.1 = p3 at *
    generalize r.1 * q.2 = p4 at *
    generalize r.2 * q.1 = p5 at *
    generalize r.2 * q.2 = p6 at *
    have hl : lo ≤ pz ∧ pz ≤ hi := by omega
    have := he (by omega) (by omega)
    simp only [cond_true]
    omega
def xandB (L H : Int) (r q : xB) : xB :=
  bif xle 0 r.1 then (bif xle 0 q.1 then (0, xmin r.2 q.2) else (0, r.2)) else (bif xle 0 q.1 then (0, q.2) else (L, H))
theorem xandB_ok {L H z1 z2 w : Int} {r q : xB} (h1 : r.1 ≤ z1 ∧ z1 ≤ r.2) (h2 : q.1 ≤ z2 ∧ z2 ≤ q.2) (hw : L ≤ w ∧ w ≤ H) (e1 : 0 ≤ z1 → 0 ≤ w ∧ w ≤ z1) (e2 : 0 ≤ z2 → 0 ≤ w ∧ w ≤ z2) : (xandB L H r q).1 ≤ w ∧ w ≤ (xandB L H r q).2 := by
  unfold xandB
  cases a : xle 0 r.1 <;> cases b : xle 0 q.1
  · exact hw
  · have := xle_iff.mp b
    simp only [cond_true, cond_false]
    omega
  · have := xle_iff.mp a
    simp only [cond_true, cond_false]
    omega
  · have ha := xle_iff.mp a
    have hb := xle_iff.mp b
    simp only [cond_true]
    exact ⟨by omega, xmin_le1 (by omega) (by omega)⟩
/-- nearer to 0: a shift to the right, a division by what is above 0 -/
def xnearB (r : xB) : xB := (xmin r.1 0, xmax r.2 0)
theorem xnearB_ok {z w : Int} {r : xB} (h : r.1 ≤ z ∧ z ≤ r.2) (e1 : 0 ≤ z → 0 ≤ w ∧ w ≤ z) (e2 : z ≤ 0 → z ≤ w ∧ w ≤ 0) : (xnearB r).1 ≤ w ∧ w ≤ (xnearB r).2 := by
  unfold xnearB
  have a1 := xmin_l r.1 0
  have a2 := xmin_r r.1 0
  have a3 := xmax_l r.2 0
  have a4 := xmax_r r.2 0
  dsimp only
  omega
def xremB (r q : xB) : xB := bif xle 0 r.1 then (0, xmin r.2 (q.2 - 1)) else (1 - q.2, q.2 - 1)
theorem xremB_ok {z1 z2 : Int} {r q : xB} (h1 : r.1 ≤ z1 ∧ z1 ≤ r.2) (h2 : q.1 ≤ z2 ∧ z2 ≤ q.2) (hp : 0 < z2) : (xremB r q).1 ≤ z1.tmod z2 ∧ z1.tmod z2 ≤ (xremB r q).2 := by
  have hb := x_tm (a := z1) hp
  unfold xremB
  cases a : xle 0 r.1
  · simp only [cond_false]
    omega
  · have := xle_iff.mp a
    have hq := hb.1 (by omega)
    simp only [cond_true]
    exact ⟨hq.1, xmin_le1 (by omega) (by omega)⟩
/-- what an operation answers: a number, and the bounds -/
abbrev xR : Type := Option (xI × List xB)
def xGood (ρ : List Int) (r : xI × List xB) (w : Int) : Prop := ∃ ρ', xX ρ ρ' ∧ xSt ρ' r.2 ∧ xe ρ' r.1 = some w
def xadd (L H : Int) (σ : List xB) (a b : xI) : xR := match xrg σ a with
  | none => none
  | some ra => match xrg σ b with
    | none => none
    | some rb => bif xle L (ra.1 + rb.1) && xle (ra.2 + rb.2) H then (match a.1 with
        | none => some ((b.1, b.2 + a.2), σ)
        | some _ => match b.1 with
          | none => some ((a.1, a.2 + b.2), σ)
          | some _ => some (xmk σ (ra.1 + rb.1) (ra.2 + rb.2))) else some (xmk σ L H)
theorem xe_off {ρ : List Int} {o : Option Nat} {c d z : Int} (h : xe ρ (o, c) = some z) : xe ρ (o, c + d) = some (z + d) := by
  cases o with
  | none =>
    simp only [xe, Option.some.injEq] at h ⊢
    omega
  | some k =>
    simp only [xe] at h ⊢
    cases hk : ρ[k]? with
    | none => rw [hk] at h; cases h
    | some w =>
      rw [hk] at h
      simp only [Option.some.injEq] at h ⊢
      omega
theorem xadd_ok {L H : Int} {ρ : List Int} {σ : List xB} {a b : xI} {r : xI × List xB} {z1 z2 w : Int} (hr : xadd L H σ a b = some r) (hs : xSt ρ σ) (h1 : xe ρ a = some z1) (h2 : xe ρ b = some z2) (hw : L ≤ w ∧ w ≤ H) (he : L ≤ z1 + z2 → z1 + z2 ≤ H → w = z1 + z2) : xGood ρ r w := by
  unfold xadd at hr
  cases ha : xrg σ a with
  | none => rw [ha] at hr; cases hr
  | some ra =>
    cases hb : xrg σ b with
    | none => rw [ha, hb] at hr; cases hr
    | some rb =>
      rw [ha, hb] at hr
      have q1 := xrg_ok hs h1 ha
      have q2 := xrg_ok hs h2 hb
      dsimp only at hr
      cases hc : (xle L (ra.1 + rb.1) && xle (ra.2 + rb.2) H)
      · rw [hc] at hr
        simp only [cond_false, Option.some.injEq] at hr
        subst hr
        exact xmk_ok hs hw.1 hw.2
      · rw [hc] at hr
        rw [Bool.and_eq_true, xle_iff, xle_iff] at hc
        have e := he (by omega) (by omega)
        subst e
        simp only [cond_true] at hr
        obtain ⟨oa, ca⟩ := a
        obtain ⟨ob, cb⟩ := b
        cases oa with
        | none =>
          simp only [Option.some.injEq] at hr
          subst hr
          simp only [xe, Option.some.injEq] at h1
          subst h1
          refine ⟨ρ, xX.rf ρ, hs, ?_⟩
          have := xe_off (d := ca) h2
          rw [this]
          congr 1
          omega
        | some k =>
          cases ob with
          | none =>
            simp only [Option.some.injEq] at hr
            subst hr
            simp only [xe, Option.some.injEq] at h2
            subst h2
            exact ⟨ρ, xX.rf ρ, hs, xe_off h1⟩
          | some j =>
            simp only [Option.some.injEq] at hr
            subst hr
            exact xmk_ok hs (by omega) (by omega)
def xsub (L H : Int) (σ : List xB) (a b : xI) : xR := match xrg σ a with
  | none => none
  | some ra => match xrg σ b with
    | none => none
    | some rb => bif xle L (ra.1 - rb.2) && xle (ra.2 - rb.1) H then (match b.1 with
        | none => some ((a.1, a.2 + (- b.2)), σ)
        | some _ => some (xmk σ (ra.1 - rb.2) (ra.2 - rb.1))) else some (xmk σ L H)
theorem xsub_ok {L H : Int} {ρ : List Int} {σ : List xB} {a b : xI} {r : xI × List xB} {z1 z2 w : Int} (hr : xsub L H σ a b = some r) (hs : xSt ρ σ) (h1 : xe ρ a = some z1) (h2 : xe ρ b = some z2) (hw : L ≤ w ∧ w ≤ H) (he : L ≤ z1 - z2 → z1 - z2 ≤ H → w = z1 - z2) : xGood ρ r w := by
  unfold xsub at hr
  cases ha : xrg σ a with
  | none => rw [ha] at hr; cases hr
  | some ra =>
    cases hb : xrg σ b with
    | none => rw [ha, hb] at hr; cases hr
    | some rb =>
      rw [ha, hb] at hr
      have q1 := xrg_ok hs h1 ha
      have q2 := xrg_ok hs h2 hb
      dsimp only at hr
      cases hc : (xle L (ra.1 - rb.2) && xle (ra.2 - rb.1) H)
      · rw [hc] at hr
        simp only [cond_false, Option.some.injEq] at hr
        subst hr
        exact xmk_ok hs hw.1 hw.2
      · rw [hc] at hr
        rw [Bool.and_eq_true, xle_iff, xle_iff] at hc
        have e := he (by omega) (by omega)
        subst e
        simp only [cond_true] at hr
        obtain ⟨oa, ca⟩ := a
        obtain ⟨ob, cb⟩ := b
        cases ob with
        | none =>
          simp only [Option.some.injEq] at hr
          subst hr
          simp only [xe, Option.some.injEq] at h2
          subst h2
          exact ⟨ρ, xX.rf ρ, hs, xe_off h1⟩
        | some j =>
          simp only [Option.some.injEq] at hr
          subst hr
          exact xmk_ok hs (by omega) (by omega)
/-- an operation of which only bounds are told -/
def xop2 (g : xB → xB → xB) (σ : List xB) (a b : xI) : xR := match xrg σ a with
  | none => none
  | some ra => match xrg σ b with
    | none => none
    | some rb => some (xmk σ (g ra rb).1 (g ra rb).2)
theorem xop2_ok {g : xB → xB → xB} {ρ : List Int} {σ : List xB} {a b : xI} {r : xI × List xB} {z1 z2 w : Int} (hr : xop2 g σ a b = some r) (hs : xSt ρ σ) (h1 : xe ρ a = some z1) (h2 : xe ρ b = some z2) (hw : ∀ ra rb : xB, xrg σ b = some rb → ra.1 ≤ z1 ∧ z1 ≤ ra.2 → rb.1 ≤ z2 ∧ z2 ≤ rb.2 → (g ra rb).1 ≤ w ∧ w ≤ (g ra rb).2) : xGood ρ r w := by
  unfold xop2 at hr
  cases ha : xrg σ a with
  | none => rw [ha] at hr; cases hr
  | some ra =>
    cases hb : xrg σ b with
    | none => rw [ha, hb] at hr; cases hr
    | some rb =>
      rw [ha, hb] at hr
      have q := hw ra rb hb (xrg_ok hs h1 ha) (xrg_ok hs h2 hb)
      simp only [Option.some.injEq] at hr
      subst hr
      exact xmk_ok hs q.1 q.2
/-- a cut to bounds: within them the number itself, else any between them -/
def xcut (L H : Int) (σ : List xB) (a : xI) : xR := match xrg σ a with
  | none => none
  | some ra => bif xle L ra.1 && xle ra.2 H then some (a, σ) else some (xmk σ L H)
theorem xcut_ok {L H : Int} {ρ : List Int} {σ : List xB} {a : xI} {r : xI × List xB} {z w : Int} (hr : xcut L H σ a = some r) (hs : xSt ρ σ) (h1 : xe ρ a = some z) (hw : L ≤ w ∧ w ≤ H) (he : L ≤ z → z ≤ H → w = z) : xGood ρ r w := by
  unfold xcut at hr
  cases ha : xrg σ a with
  | none => rw [ha] at hr; cases hr
  | some ra =>
    rw [ha] at hr
    have q := xrg_ok hs h1 ha
    dsimp only at hr
    cases hc : (xle L ra.1 && xle ra.2 H)
    · rw [hc] at hr
      simp only [cond_false, Option.some.injEq] at hr
      subst hr
      exact xmk_ok hs hw.1 hw.2
    · rw [hc] at hr
      rw [Bool.and_eq_true, xle_iff, xle_iff] at hc
      simp only [cond_true, Option.some.injEq] at hr
      subst hr
      exact ⟨ρ, xX.rf ρ, hs, by rw [he (by omega) (by omega)]; exact h1⟩
end
section
/-! Instructions that touch neither the heap nor the place in the code. -/
theorem xAll2.filter {α β : Type} {R : α → β → Prop} {p : α → Bool} {q : β → Bool} (hpq : ∀ a b, R a b → p a = q b) : ∀ {l : List α} {r : List β}, xAll2 R l r → xAll2 R (l.filter p) (r.filter q)
  | [], [], _ => trivial
  | a :: as, b :: bs, h => by
    have e := hpq a b h.1
    cases hp : p a with
    | true =>
      rw [List.filter_cons_of_pos hp, List.filter_cons_of_pos (by rw [← e]; exact hp)]
      exact ⟨h.1, xAll2.filter hpq h.2⟩
    | false =>
      rw [List.filter_cons_of_neg (by rw [hp]; decide), List.filter_cons_of_neg (by rw [← e, hp]; decide)]
      exact xAll2.filter hpq h.2
  | [], _ :: _, h => h.elim
  | _ :: _, [], h => h.elim
/-- the locals -/
def xLo (ρ : List Int) (ad ex : List Nat) (nL : Nat) (loc : List (Nat × xV)) (ls : Array Slot) : Prop := ∃ lv : List (Nat × Value), lv_has ls nL lv ∧ xAll2 (fun q r => q.1 = r.1 ∧ xv ρ ad ex q.2 r.2) loc lv
theorem xLo.mono {ρ ρ' : List Int} {ad ad' ex : List Nat} {nL : Nat} {loc : List (Nat × xV)} {ls : Array Slot} (h1 : xX ρ ρ') (h2 : xX ad ad') (h : xLo ρ ad ex nL loc ls) : xLo ρ' ad' ex nL loc ls := by
  obtain ⟨lv, a, b⟩ := h
  exact ⟨lv, a, b.mono (fun q r hq => ⟨hq.1, xv.mono h1 h2 _ _ hq.2⟩)⟩
def xget : List (Nat × xV) → Nat → Option xV
  | [], _ => none
  | q :: t, i => bif Nat.beq q.1 i then some q.2 else xget t i
theorem xget_mem : ∀ {loc : List (Nat × xV)} {i : Nat} {v : xV}, xget loc i = some v → ∃ k : Nat, loc[k]? = some (i, v)
  | [], _, _, h => by cases h
  | q :: t, i, v, h => by
    unfold xget at h
    cases hb : Nat.beq q.1 i with
    | true =>
      rw [hb] at h
      simp only [cond_true, Option.some.injEq] at h
      have := Nat.eq_of_beq_eq_true hb
      refine ⟨0, ?_⟩
      obtain ⟨a, b⟩ := q
      dsimp only at h this
      subst h; subst this
      rfl
    | false =>
      rw [hb] at h
      obtain ⟨k, hk⟩ := xget_mem (show xget t i = some v from h)
      exact ⟨k + 1, by simpa using hk⟩
theorem xLo.get {ρ : List Int} {ad ex : List Nat} {nL : Nat} {loc : List (Nat × xV)} {ls : Array Slot} (h : xLo ρ ad ex nL loc ls) {i : Nat} {v : xV} (hv : xget loc i = some v) : ∃ w, ls[i]? = some (.val w) ∧ xv ρ ad ex v w := by
  obtain ⟨lv, a, b⟩ := h
  obtain ⟨k, hk⟩ := xget_mem hv
  obtain ⟨r, h1, h2, h3⟩ := b.get hk
  obtain ⟨j, w⟩ := r
  dsimp only at h2 h3
  subst h2
  exact ⟨w, lv_at a k h1, h3⟩
def xsto1 (loc : List (Nat × xV)) (i : Nat) (v : xV) : List (Nat × xV) := (i, v) :: loc.filter (fun q => !(q.1 == i) && !(q.1 + 1 == i && xcat q.2 == 2))
def xsto2 (loc : List (Nat × xV)) (i : Nat) (v : xV) : List (Nat × xV) := (i, v) :: loc.filter (fun q => !(q.1 == i) && (!(q.1 == i + 1) && !(q.1 + 1 == i && xcat q.2 == 2)))
theorem xLo.size {ρ : List Int} {ad ex : List Nat} {nL : Nat} {loc : List (Nat × xV)} {ls : Array Slot} (h : xLo ρ ad ex nL loc ls) : ls.size = nL := by
  obtain ⟨lv, a, b⟩ := h
  exact a.1
section XO
variable {p : Program} {l : Launch} {e : Env} {R : Room} {s : State} {m : MethodId} {args : Array Value} {below : List Frame} {meth : Method} {c : Code} {H : Heap} {locs : List Loc} {cells slots : Nat} {Q : State → Prop} {cc : ByteArray} {pc : Nat} {ls : Array Slot} {st rest : List Value} {ρ : List Int} {ad ex : List Nat} {nL : Nat} {loc : List (Nat × xV)} {σ : List xB} {len : Nat} {i : Instr}
def xConst (i : Instr) (len : Nat) : Option xV := match i with
  | .iconst n => bif Nat.beq len 1 && (xle (-128) n && xle n 127) then some (.inl (none, n)) else none
  | .bipush n => bif Nat.beq len 2 && (xle (-128) n && xle n 127) then some (.inl (none, n)) else none
  | .sipush n => bif Nat.beq len 3 && (xle (-32768) n && xle n 32767) then some (.inl (none, n)) else none
  | .lconst n => bif Nat.beq len 1 then some (.inr (.inl (none, Int.ofNat n.val))) else none
  | _ => none
theorem x_and3 {a b c : Bool} (h : (a && (b && c)) = true) : a = true ∧ b = true ∧ c = true := by
  rw [Bool.and_eq_true, Bool.and_eq_true] at h
  exact h
theorem x_bif {α : Type} {b : Bool} {x y : α} (h : (bif b then some x else none) = some y) : b = true ∧ x = y := by
  cases b
  · cases h
  · exact ⟨rfl, Option.some.inj h⟩
theorem x_bifO {α : Type} {b : Bool} {x : Option α} {y : α} (h : (bif b then x else none) = some y) : b = true ∧ x = some y := by
  cases b
  · cases h
  · exact ⟨rfl, h⟩
theorem xConst_ok {v : xV} (hv : xConst i len = some v) (hx : p.tables.exec = Jvm.exec) (hb : c.code = cc) (hd : decode cc pc = .ok (i, len))
    (k : ∀ w, xv ρ ad ex v w → W p l e R s m args below meth c H locs cells slots Q (F0 m (pc + len) ls (w :: rest))) : W p l e R s m args below meth c H locs cells slots Q (F0 m pc ls rest) := by
  unfold xConst at hv
  split at hv
  · rename_i n
    obtain ⟨h1, h2⟩ := x_bif hv
    obtain ⟨g1, g2, g3⟩ := x_and3 h1
    have e1 := Nat.eq_of_beq_eq_true g1
    rw [xle_iff] at g2 g3
    subst e1; subst h2
    exact lv_iconst hx hb hd rfl (k _ ⟨_, rfl, by rw [x_of32 (by omega) (by omega)]; rfl⟩)
  · rename_i n
    obtain ⟨h1, h2⟩ := x_bif hv
    obtain ⟨g1, g2, g3⟩ := x_and3 h1
    have e1 := Nat.eq_of_beq_eq_true g1
    rw [xle_iff] at g2 g3
    subst e1; subst h2
    refine lv_bipush hx hb hd rfl (k _ ⟨_, rfl, ?_⟩)
    rw [Int8.toInt_toInt32, Int8.toInt_ofInt_of_le (by omega) (by omega)]
    rfl
  · rename_i n
    obtain ⟨h1, h2⟩ := x_bif hv
    obtain ⟨g1, g2, g3⟩ := x_and3 h1
    have e1 := Nat.eq_of_beq_eq_true g1
    rw [xle_iff] at g2 g3
    subst e1; subst h2
    refine lv_sipush hx hb hd rfl (k _ ⟨_, rfl, ?_⟩)
    rw [Int16.toInt_toInt32, Int16.toInt_ofInt_of_le (by omega) (by omega)]
    rfl
  · rename_i n
    obtain ⟨h1, h2⟩ := x_bif hv
    have e1 := Nat.eq_of_beq_eq_true h1
    subst e1; subst h2
    refine lv_lconst hx hb hd rfl (k _ ⟨_, rfl, ?_⟩)
    have := n.isLt
    rw [Int64.toInt_ofNat_of_lt (by omega)]
    rfl
  · cases hv
/-- what is loaded from a local, its kind by the instruction -/
def xLoad (i : Instr) (len : Nat) (loc : List (Nat × xV)) : Option xV := match i with
  | .iload_n k => bif Nat.beq len 1 then (match xget loc k.val with
    | some (.inl a) => some (.inl a)
    | _ => none) else none
  | .iload k => bif Nat.beq len 2 then (match xget loc k with
    | some (.inl a) => some (.inl a)
    | _ => none) else none
  | .aload_n k => bif Nat.beq len 1 then (match xget loc k.val with
    | some (.inr (.inr (.inl (some a)))) => some (.inr (.inr (.inl (some a))))
    | some (.inr (.inr (.inr a))) => some (.inr (.inr (.inr a)))
    | _ => none) else none
  | .aload k => bif Nat.beq len 2 then (match xget loc k with
    | some (.inr (.inr (.inl (some a)))) => some (.inr (.inr (.inl (some a))))
    | some (.inr (.inr (.inr a))) => some (.inr (.inr (.inr a)))
    | _ => none) else none
  | .lload_n k => bif Nat.beq len 1 then (match xget loc k.val with
    | some (.inr (.inl a)) => some (.inr (.inl a))
    | _ => none) else none
  | .lload k => bif Nat.beq len 2 then (match xget loc k with
    | some (.inr (.inl a)) => some (.inr (.inl a))
    | _ => none) else none
  | _ => none
theorem xLoad_ok {v : xV} (hv : xLoad i len loc = some v) (hx : p.tables.exec = Jvm.exec) (hb : c.code = cc) (hd : decode cc pc = .ok (i, len)) (hL : xLo ρ ad ex nL loc ls)
    (k : ∀ w, xv ρ ad ex v w → W p l e R s m args below meth c H locs cells slots Q (F0 m (pc + len) ls (w :: rest))) : W p l e R s m args below meth c H locs cells slots Q (F0 m pc ls rest) := by
  unfold xLoad at hv
  split at hv
  · obtain ⟨h1, h2⟩ := x_bifO hv
    have e1 := Nat.eq_of_beq_eq_true h1
    subst e1
    split at h2
    · rename_i a hg
      obtain ⟨w, hw1, x, rfl, hw2⟩ := hL.get hg
      cases h2
      exact lv_iload_n hx hb hd rfl hw1 (k _ ⟨x, rfl, hw2⟩)
    · cases h2
  · obtain ⟨h1, h2⟩ := x_bifO hv
    have e1 := Nat.eq_of_beq_eq_true h1
    subst e1
    split at h2
    · rename_i a hg
      obtain ⟨w, hw1, x, rfl, hw2⟩ := hL.get hg
      cases h2
      exact lv_iload hx hb hd hw1 (k _ ⟨x, rfl, hw2⟩)
    · cases h2
  · obtain ⟨h1, h2⟩ := x_bifO hv
    have e1 := Nat.eq_of_beq_eq_true h1
    subst e1
    split at h2
    · rename_i a hg
      obtain ⟨w, hw1, x, hw2, rfl⟩ := hL.get hg
      cases h2
      exact lv_aload_n hx hb hd rfl hw1 (k _ ⟨x, hw2, rfl⟩)
    · rename_i a hg
      obtain ⟨w, hw1, x, hw2, rfl⟩ := hL.get hg
      cases h2
      exact lv_aload_n hx hb hd rfl hw1 (k _ ⟨x, hw2, rfl⟩)
    · cases h2
  · obtain ⟨h1, h2⟩ := x_bifO hv
    have e1 := Nat.eq_of_beq_eq_true h1
    subst e1
    split at h2
    · rename_i a hg
      obtain ⟨w, hw1, x, hw2, rfl⟩ := hL.get hg
      cases h2
      exact lv_aload hx hb hd hw1 (k _ ⟨x, hw2, rfl⟩)
    · rename_i a hg
      obtain ⟨w, hw1, x, hw2, rfl⟩ := hL.get hg
      cases h2
      exact lv_aload hx hb hd hw1 (k _ ⟨x, hw2, rfl⟩)
    · cases h2
  · obtain ⟨h1, h2⟩ := x_bifO hv
    have e1 := Nat.eq_of_beq_eq_true h1
    subst e1
    split at h2
    · rename_i a hg
      obtain ⟨w, hw1, x, rfl, hw2⟩ := hL.get hg
      cases h2
      exact lv_lload_n hx hb hd rfl hw1 (k _ ⟨x, rfl, hw2⟩)
    · cases h2
  · obtain ⟨h1, h2⟩ := x_bifO hv
    have e1 := Nat.eq_of_beq_eq_true h1
    subst e1
    split at h2
    · rename_i a hg
      obtain ⟨w, hw1, x, rfl, hw2⟩ := hL.get hg
      cases h2
      exact lv_lload hx hb hd hw1 (k _ ⟨x, rfl, hw2⟩)
    · cases h2
  · cases hv
/-- a store: the kind of the value by the instruction -/
def xSto (i : Instr) (len : Nat) (nL : Nat) (loc : List (Nat × xV)) (v : xV) : Option (List (Nat × xV)) := match i with
  | .istore_n k => bif Nat.beq len 1 && Nat.blt k.val nL then (match v with
    | .inl _ => some (xsto1 loc k.val v)
    | _ => none) else none
  | .istore k => bif Nat.beq len 2 && Nat.blt k nL then (match v with
    | .inl _ => some (xsto1 loc k v)
    | _ => none) else none
  | .astore_n k => bif Nat.beq len 1 && Nat.blt k.val nL then (match v with
    | .inr (.inr (.inl (some _))) => some (xsto1 loc k.val v)
    | _ => none) else none
  | .astore k => bif Nat.beq len 2 && Nat.blt k nL then (match v with
    | .inr (.inr (.inl (some _))) => some (xsto1 loc k v)
    | _ => none) else none
  | .lstore_n k => bif Nat.beq len 1 && Nat.blt (k.val + 1) nL then (match v with
    | .inr (.inl _) => some (xsto2 loc k.val v)
    | _ => none) else none
  | .lstore k => bif Nat.beq len 2 && Nat.blt (k + 1) nL then (match v with
    | .inr (.inl _) => some (xsto2 loc k v)
    | _ => none) else none
  | _ => none
theorem x_blt {a b : Nat} (h : Nat.blt a b = true) : a < b := by
  unfold Nat.blt at h
  exact Nat.le_of_ble_eq_true h
theorem xLo_f1 {lv : List (Nat × Value)} {j : Nat} (h2 : xAll2 (fun q r => q.1 = r.1 ∧ xv ρ ad ex q.2 r.2) loc lv) {v : xV} {w : Value} (hv : xv ρ ad ex v w) : xAll2 (fun q r => q.1 = r.1 ∧ xv ρ ad ex q.2 r.2) (xsto1 loc j v) ((j, w) :: lv.filter (fun q => !(q.1 == j) && !(q.1 + 1 == j && q.2.category == 2))) :=
  ⟨⟨rfl, hv⟩, h2.filter (fun a b hab => by rw [hab.1, hab.2.cat])⟩
theorem xLo_f2 {lv : List (Nat × Value)} {j : Nat} (h2 : xAll2 (fun q r => q.1 = r.1 ∧ xv ρ ad ex q.2 r.2) loc lv) {v : xV} {w : Value} (hv : xv ρ ad ex v w) : xAll2 (fun q r => q.1 = r.1 ∧ xv ρ ad ex q.2 r.2) (xsto2 loc j v) ((j, w) :: lv.filter (fun q => !(q.1 == j) && (!(q.1 == j + 1) && !(q.1 + 1 == j && q.2.category == 2)))) :=
  ⟨⟨rfl, hv⟩, h2.filter (fun a b hab => by rw [hab.1, hab.2.cat])⟩
theorem xSto_ok {v : xV} {w : Value} {loc' : List (Nat × xV)} (hv : xSto i len nL loc v = some loc') (hx : p.tables.exec = Jvm.exec) (hb : c.code = cc) (hd : decode cc pc = .ok (i, len)) (hL : xLo ρ ad ex nL loc ls) (hw : xv ρ ad ex v w)
    (k : ∀ ls', xLo ρ ad ex nL loc' ls' → W p l e R s m args below meth c H locs cells slots Q (F0 m (pc + len) ls' rest)) : W p l e R s m args below meth c H locs cells slots Q (F0 m pc ls (w :: rest)) := by
  obtain ⟨lv, hl, h2⟩ := hL
  unfold xSto at hv
  split at hv
  · obtain ⟨h1, h3⟩ := x_bifO hv
    rw [Bool.and_eq_true] at h1
    have e1 := Nat.eq_of_beq_eq_true h1.1
    subst e1
    split at h3
    · cases h3
      obtain ⟨x, rfl, hw2⟩ := hw
      exact lv_istore_n hx hb hd rfl hl (x_blt h1.2) rfl (fun ls' h' => k ls' ⟨_, h', xLo_f1 h2 ⟨x, rfl, hw2⟩⟩)
    · cases h3
  · obtain ⟨h1, h3⟩ := x_bifO hv
    rw [Bool.and_eq_true] at h1
    have e1 := Nat.eq_of_beq_eq_true h1.1
    subst e1
    split at h3
    · cases h3
      obtain ⟨x, rfl, hw2⟩ := hw
      exact lv_istore hx hb hd hl (x_blt h1.2) rfl (fun ls' h' => k ls' ⟨_, h', xLo_f1 h2 ⟨x, rfl, hw2⟩⟩)
    · cases h3
  · obtain ⟨h1, h3⟩ := x_bifO hv
    rw [Bool.and_eq_true] at h1
    have e1 := Nat.eq_of_beq_eq_true h1.1
    subst e1
    split at h3
    · cases h3
      obtain ⟨x, hw2, rfl⟩ := hw
      exact lv_astore_n hx hb hd rfl hl (x_blt h1.2) rfl (fun ls' h' => k ls' ⟨_, h', xLo_f1 h2 ⟨x, hw2, rfl⟩⟩)
    · cases h3
  · obtain ⟨h1, h3⟩ := x_bifO hv
    rw [Bool.and_eq_true] at h1
    have e1 := Nat.eq_of_beq_eq_true h1.1
    subst e1
    split at h3
    · cases h3
      obtain ⟨x, hw2, rfl⟩ := hw
      exact lv_astore hx hb hd hl (x_blt h1.2) rfl (fun ls' h' => k ls' ⟨_, h', xLo_f1 h2 ⟨x, hw2, rfl⟩⟩)
    · cases h3
  · obtain ⟨h1, h3⟩ := x_bifO hv
    rw [Bool.and_eq_true] at h1
    have e1 := Nat.eq_of_beq_eq_true h1.1
    subst e1
    split at h3
    · cases h3
      obtain ⟨x, rfl, hw2⟩ := hw
      exact lv_lstore_n hx hb hd rfl hl (x_blt h1.2) rfl (fun ls' h' => k ls' ⟨_, h', xLo_f2 h2 ⟨x, rfl, hw2⟩⟩)
    · cases h3
  · obtain ⟨h1, h3⟩ := x_bifO hv
    rw [Bool.and_eq_true] at h1
    have e1 := Nat.eq_of_beq_eq_true h1.1
    subst e1
    split at h3
    · cases h3
      obtain ⟨x, rfl, hw2⟩ := hw
      exact lv_lstore hx hb hd hl (x_blt h1.2) rfl (fun ls' h' => k ls' ⟨_, h', xLo_f2 h2 ⟨x, rfl, hw2⟩⟩)
    · cases h3
  · cases hv
def xIinc (j : Nat) (n : Int) (nL : Nat) (σ : List xB) (loc : List (Nat × xV)) : Option (List xB × List (Nat × xV)) := bif Nat.blt j nL && (xle (-32768) n && xle n 32767) then (match xget loc j with
  | some (.inl a) => (match xadd (-2147483648) 2147483647 σ a (none, n) with
    | some r => some (r.2, xsto1 loc j (.inl r.1))
    | none => none)
  | _ => none) else none
theorem xIinc_ok {j : Nat} {n : Int} {σ' : List xB} {loc' : List (Nat × xV)} (hv : xIinc j n nL σ loc = some (σ', loc')) (hx : p.tables.exec = Jvm.exec) (hb : c.code = cc) (hd : decode cc pc = .ok (.iinc j n, 3)) (hS : xSt ρ σ) (hL : xLo ρ ad ex nL loc ls)
    (k : ∀ ρ' ls', xX ρ ρ' → xSt ρ' σ' → xLo ρ' ad ex nL loc' ls' → W p l e R s m args below meth c H locs cells slots Q (F0 m (pc + 3) ls' rest)) : W p l e R s m args below meth c H locs cells slots Q (F0 m pc ls rest) := by
  unfold xIinc at hv
  obtain ⟨h1, h3⟩ := x_bifO hv
  obtain ⟨g1, g2, g3⟩ := x_and3 h1
  rw [xle_iff] at g2 g3
  split at h3
  · rename_i a hg
    split at h3
    · rename_i r hr
      cases h3
      obtain ⟨lv, hl, h2⟩ := hL
      obtain ⟨q, hq⟩ := xget_mem hg
      obtain ⟨t, ht, ht1, x, ht2, ht3⟩ := h2.get hq
      obtain ⟨tj, tw⟩ := t
      dsimp only at ht1 ht2
      subst ht1; subst ht2
      have hn : (Int32.ofInt n).toInt = n := x_of32 (by omega) (by omega)
      obtain ⟨ρ', hX, hS', hE⟩ := xadd_ok (w := (x + Int32.ofInt n).toInt) hr hS ht3 (show xe ρ (none, n) = some n from rfl) (x_b32 _) (fun e1 e2 => by
        rw [x_add32 (by rw [hn]; omega) (by rw [hn]; omega), hn])
      refine lv_iinc (k := q) hx hb hd hl ht rfl (x_blt g1) rfl (fun ls' h' => k ρ' ls' hX hS' ⟨_, h', ?_⟩)
      exact xLo_f1 (h2.mono (fun q r hq => ⟨hq.1, xv.mono hX (xX.rf ad) _ _ hq.2⟩)) ⟨_, rfl, hE⟩
    · cases h3
  · cases h3
/-- two ints -/
def xBinI (i : Instr) (σ : List xB) (a b : xI) : xR := match i with
  | .iadd => xadd (-2147483648) 2147483647 σ a b
  | .isub => xsub (-2147483648) 2147483647 σ a b
  | .imul => xop2 (xmulB (-2147483648) 2147483647) σ a b
  | .iand => xop2 (xandB (-2147483648) 2147483647) σ a b
  | .ior => xop2 (fun _ _ => (-2147483648, 2147483647)) σ a b
  | .ixor => xop2 (fun _ _ => (-2147483648, 2147483647)) σ a b
  | .ishl => xop2 (fun _ _ => (-2147483648, 2147483647)) σ a b
  | .ishr => xop2 (fun r _ => xnearB r) σ a b
  | .idiv => (match xrg σ b with
    | some rb => bif xle 1 rb.1 then xop2 (fun r _ => xnearB r) σ a b else none
    | none => none)
  | .irem => (match xrg σ b with
    | some rb => bif xle 1 rb.1 then xop2 xremB σ a b else none
    | none => none)
  | _ => none
theorem x_pos32 {rb : xB} {b : xI} {y : Int32} (hS : xSt ρ σ) (hy : xe ρ b = some y.toInt) (hr : xrg σ b = some rb) (h : xle 1 rb.1 = true) : 0 < y.toInt := by
  have := xrg_ok hS hy hr
  have := xle_iff.mp h
  omega
theorem x_pos64 {rb : xB} {b : xI} {y : Int64} (hS : xSt ρ σ) (hy : xe ρ b = some y.toInt) (hr : xrg σ b = some rb) (h : xle 1 rb.1 = true) : 0 < y.toInt := by
  have := xrg_ok hS hy hr
  have := xle_iff.mp h
  omega
theorem xBinI_ok {a b : xI} {r : xI × List xB} {x y : Int32} (hv : xBinI i σ a b = some r) (hlen : len = 1) (hx : p.tables.exec = Jvm.exec) (hb : c.code = cc) (hd : decode cc pc = .ok (i, len)) (hS : xSt ρ σ) (ha : xe ρ a = some x.toInt) (hb2 : xe ρ b = some y.toInt)
    (k : ∀ (z : Int32) ρ', xX ρ ρ' → xSt ρ' r.2 → xe ρ' r.1 = some z.toInt → W p l e R s m args below meth c H locs cells slots Q (F0 m (pc + len) ls (.int z :: rest))) : W p l e R s m args below meth c H locs cells slots Q (F0 m pc ls (.int y :: .int x :: rest)) := by
  subst hlen
  unfold xBinI at hv
  split at hv
  · obtain ⟨ρ', h1, h2, h3⟩ := xadd_ok (w := (x + y).toInt) hv hS ha hb2 (x_b32 _) (fun e1 e2 => x_add32 e1 e2)
    exact lv_iadd hx hb hd (k _ ρ' h1 h2 h3)
  · obtain ⟨ρ', h1, h2, h3⟩ := xsub_ok (w := (x - y).toInt) hv hS ha hb2 (x_b32 _) (fun e1 e2 => x_sub32 e1 e2)
    exact lv_isub hx hb hd (k _ ρ' h1 h2 h3)
  · obtain ⟨ρ', h1, h2, h3⟩ := xop2_ok (w := (x * y).toInt) hv hS ha hb2 (fun ra rb _ g1 g2 => xmulB_ok g1 g2 (x_b32 _) (fun e1 e2 => x_mul32 e1 e2))
    exact lv_imul hx hb hd (k _ ρ' h1 h2 h3)
  · obtain ⟨ρ', h1, h2, h3⟩ := xop2_ok (w := (x &&& y).toInt) hv hS ha hb2 (fun ra rb _ g1 g2 => xandB_ok g1 g2 (x_b32 _) (fun e1 => by rw [x_and32c]; exact x_and32 e1) (fun e1 => x_and32 e1))
    exact lv_iand hx hb hd (k _ ρ' h1 h2 h3)
  · obtain ⟨ρ', h1, h2, h3⟩ := xop2_ok (w := (x ||| y).toInt) hv hS ha hb2 (fun ra rb _ g1 g2 => x_b32 _)
    exact lv_ior hx hb hd (k _ ρ' h1 h2 h3)
  · obtain ⟨ρ', h1, h2, h3⟩ := xop2_ok (w := (x ^^^ y).toInt) hv hS ha hb2 (fun ra rb _ g1 g2 => x_b32 _)
    exact lv_ixor hx hb hd (k _ ρ' h1 h2 h3)
  · obtain ⟨ρ', h1, h2, h3⟩ := xop2_ok (w := (x <<< (y &&& 31)).toInt) hv hS ha hb2 (fun ra rb _ g1 g2 => x_b32 _)
    exact lv_ishl hx hb hd (k _ ρ' h1 h2 h3)
  · obtain ⟨ρ', h1, h2, h3⟩ := xop2_ok (w := (x >>> (y &&& 31)).toInt) hv hS ha hb2 (fun ra rb _ g1 g2 => xnearB_ok g1 (x_shr32 _ _).1 (x_shr32 _ _).2)
    exact lv_ishr hx hb hd (k _ ρ' h1 h2 h3)
  · split at hv
    · rename_i rb hrb
      obtain ⟨g, hv⟩ := x_bifO hv
      have hp := x_pos32 hS hb2 hrb g
      obtain ⟨ρ', h1, h2, h3⟩ := xop2_ok (w := (x / y).toInt) hv hS ha hb2 (fun ra rb _ g1 g2 => by
        rw [x_div32 hp]
        exact xnearB_ok g1 (x_tdiv hp).1 (x_tdiv hp).2)
      exact lv_idiv hx hb hd (fun q => by rw [q] at hp; exact absurd hp (by decide)) (k _ ρ' h1 h2 h3)
    · cases hv
  · split at hv
    · rename_i rb hrb
      obtain ⟨g, hv⟩ := x_bifO hv
      have hp := x_pos32 hS hb2 hrb g
      obtain ⟨ρ', h1, h2, h3⟩ := xop2_ok (w := (x - x / y * y).toInt) hv hS ha hb2 (fun ra rb _ g1 g2 => by
        rw [x_rem32 hp]
        exact xremB_ok g1 g2 hp)
      exact lv_irem hx hb hd (fun q => by rw [q] at hp; exact absurd hp (by decide)) (k _ ρ' h1 h2 h3)
    · cases hv
  · cases hv
/-- two longs -/
def xBinL (i : Instr) (σ : List xB) (a b : xI) : xR := match i with
  | .ladd => xadd (-9223372036854775808) 9223372036854775807 σ a b
  | .lsub => xsub (-9223372036854775808) 9223372036854775807 σ a b
  | .lmul => xop2 (xmulB (-9223372036854775808) 9223372036854775807) σ a b
  | .land => xop2 (xandB (-9223372036854775808) 9223372036854775807) σ a b
  | .lor => xop2 (fun _ _ => (-9223372036854775808, 9223372036854775807)) σ a b
  | .lxor => xop2 (fun _ _ => (-9223372036854775808, 9223372036854775807)) σ a b
  | .ldiv => (match xrg σ b with
    | some rb => bif xle 1 rb.1 then xop2 (fun r _ => xnearB r) σ a b else none
    | none => none)
  | .lrem => (match xrg σ b with
    | some rb => bif xle 1 rb.1 then xop2 xremB σ a b else none
    | none => none)
  | _ => none
theorem xBinL_ok {a b : xI} {r : xI × List xB} {x y : Int64} (hv : xBinL i σ a b = some r) (hlen : len = 1) (hx : p.tables.exec = Jvm.exec) (hb : c.code = cc) (hd : decode cc pc = .ok (i, len)) (hS : xSt ρ σ) (ha : xe ρ a = some x.toInt) (hb2 : xe ρ b = some y.toInt)
    (k : ∀ (z : Int64) ρ', xX ρ ρ' → xSt ρ' r.2 → xe ρ' r.1 = some z.toInt → W p l e R s m args below meth c H locs cells slots Q (F0 m (pc + len) ls (.long z :: rest))) : W p l e R s m args below meth c H locs cells slots Q (F0 m pc ls (.long y :: .long x :: rest)) := by
  subst hlen
  unfold xBinL at hv
  split at hv
  · obtain ⟨ρ', h1, h2, h3⟩ := xadd_ok (w := (x + y).toInt) hv hS ha hb2 (x_b64 _) (fun e1 e2 => x_add64 e1 e2)
    exact lv_ladd hx hb hd (k _ ρ' h1 h2 h3)
  · obtain ⟨ρ', h1, h2, h3⟩ := xsub_ok (w := (x - y).toInt) hv hS ha hb2 (x_b64 _) (fun e1 e2 => x_sub64 e1 e2)
    exact lv_lsub hx hb hd (k _ ρ' h1 h2 h3)
  · obtain ⟨ρ', h1, h2, h3⟩ := xop2_ok (w := (x * y).toInt) hv hS ha hb2 (fun ra rb _ g1 g2 => xmulB_ok g1 g2 (x_b64 _) (fun e1 e2 => x_mul64 e1 e2))
    exact lv_lmul hx hb hd (k _ ρ' h1 h2 h3)
  · obtain ⟨ρ', h1, h2, h3⟩ := xop2_ok (w := (x &&& y).toInt) hv hS ha hb2 (fun ra rb _ g1 g2 => xandB_ok g1 g2 (x_b64 _) (fun e1 => by rw [x_and64c]; exact x_and64 e1) (fun e1 => x_and64 e1))
    exact lv_land hx hb hd (k _ ρ' h1 h2 h3)
  · obtain ⟨ρ', h1, h2, h3⟩ := xop2_ok (w := (x ||| y).toInt) hv hS ha hb2 (fun ra rb _ g1 g2 => x_b64 _)
    exact lv_lor hx hb hd (k _ ρ' h1 h2 h3)
  · obtain ⟨ρ', h1, h2, h3⟩ := xop2_ok (w := (x ^^^ y).toInt) hv hS ha hb2 (fun ra rb _ g1 g2 => x_b64 _)
    exact lv_lxor hx hb hd (k _ ρ' h1 h2 h3)
  · split at hv
    · rename_i rb hrb
      obtain ⟨g, hv⟩ := x_bifO hv
      have hp := x_pos64 hS hb2 hrb g
      obtain ⟨ρ', h1, h2, h3⟩ := xop2_ok (w := (x / y).toInt) hv hS ha hb2 (fun ra rb _ g1 g2 => by
        rw [x_div64 hp]
        exact xnearB_ok g1 (x_tdiv hp).1 (x_tdiv hp).2)
      exact lv_ldiv hx hb hd (fun q => by rw [q] at hp; exact absurd hp (by decide)) (k _ ρ' h1 h2 h3)
    · cases hv
  · split at hv
    · rename_i rb hrb
      obtain ⟨g, hv⟩ := x_bifO hv
      have hp := x_pos64 hS hb2 hrb g
      obtain ⟨ρ', h1, h2, h3⟩ := xop2_ok (w := (x - x / y * y).toInt) hv hS ha hb2 (fun ra rb _ g1 g2 => by
        rw [x_rem64 hp]
        exact xremB_ok g1 g2 hp)
      exact lv_lrem hx hb hd (fun q => by rw [q] at hp; exact absurd hp (by decide)) (k _ ρ' h1 h2 h3)
    · cases hv
  · cases hv
/-- a long and an int -/
def xShL (i : Instr) (σ : List xB) (a b : xI) : xR := match i with
  | .lshl => xop2 (fun _ _ => (-9223372036854775808, 9223372036854775807)) σ a b
  | .lshr => xop2 (fun r _ => xnearB r) σ a b
  | _ => none
theorem xShL_ok {a b : xI} {r : xI × List xB} {x : Int64} {y : Int32} (hv : xShL i σ a b = some r) (hlen : len = 1) (hx : p.tables.exec = Jvm.exec) (hb : c.code = cc) (hd : decode cc pc = .ok (i, len)) (hS : xSt ρ σ) (ha : xe ρ a = some x.toInt) (hb2 : xe ρ b = some y.toInt)
    (k : ∀ (z : Int64) ρ', xX ρ ρ' → xSt ρ' r.2 → xe ρ' r.1 = some z.toInt → W p l e R s m args below meth c H locs cells slots Q (F0 m (pc + len) ls (.long z :: rest))) : W p l e R s m args below meth c H locs cells slots Q (F0 m pc ls (.int y :: .long x :: rest)) := by
  subst hlen
  unfold xShL at hv
  split at hv
  · obtain ⟨ρ', h1, h2, h3⟩ := xop2_ok (w := (x <<< (y.toInt64 &&& 63)).toInt) hv hS ha hb2 (fun ra rb _ g1 g2 => x_b64 _)
    exact lv_lshl hx hb hd rfl (k _ ρ' h1 h2 h3)
  · obtain ⟨ρ', h1, h2, h3⟩ := xop2_ok (w := (x >>> (y.toInt64 &&& 63)).toInt) hv hS ha hb2 (fun ra rb _ g1 g2 => xnearB_ok g1 (x_shr64 _ _).1 (x_shr64 _ _).2)
    exact lv_lshr hx hb hd rfl (k _ ρ' h1 h2 h3)
  · cases hv
/-- one int -/
def xUnI (i : Instr) (σ : List xB) (a : xI) : Option (xV × List xB) := match i with
  | .i2l => some (.inr (.inl a), σ)
  | .i2b => (match xcut (-128) 127 σ a with
    | some r => some (.inl r.1, r.2)
    | none => none)
  | .i2s => (match xcut (-32768) 32767 σ a with
    | some r => some (.inl r.1, r.2)
    | none => none)
  | _ => none
theorem xUnI_ok {a : xI} {r : xV × List xB} {x : Int32} (hv : xUnI i σ a = some r) (hlen : len = 1) (hx : p.tables.exec = Jvm.exec) (hb : c.code = cc) (hd : decode cc pc = .ok (i, len)) (hS : xSt ρ σ) (ha : xe ρ a = some x.toInt)
    (k : ∀ (w : Value) ρ', xX ρ ρ' → xSt ρ' r.2 → xv ρ' ad ex r.1 w → W p l e R s m args below meth c H locs cells slots Q (F0 m (pc + len) ls (w :: rest))) : W p l e R s m args below meth c H locs cells slots Q (F0 m pc ls (.int x :: rest)) := by
  subst hlen
  unfold xUnI at hv
  split at hv
  · cases hv
    exact lv_i2l hx hb hd rfl (k _ ρ (xX.rf ρ) hS ⟨_, rfl, by rw [Int32.toInt_toInt64]; exact ha⟩)
  · split at hv
    · rename_i q hq
      cases hv
      have hw : -128 ≤ x.toInt8.toInt32.toInt ∧ x.toInt8.toInt32.toInt ≤ 127 := by
        rw [Int8.toInt_toInt32]
        have h1 := x.toInt8.le_toInt
        have h2 := x.toInt8.toInt_lt
        constructor <;> omega
      obtain ⟨ρ', h1, h2, h3⟩ := xcut_ok (w := x.toInt8.toInt32.toInt) hq hS ha hw (fun e1 e2 => by
        rw [Int8.toInt_toInt32, Int32.toInt_toInt8]
        rw [Int.bmod_eq_of_le (by omega) (by omega)])
      exact lv_i2b hx hb hd rfl (k _ ρ' h1 h2 ⟨_, rfl, h3⟩)
    · cases hv
  · split at hv
    · rename_i q hq
      cases hv
      have hw : -32768 ≤ x.toInt16.toInt32.toInt ∧ x.toInt16.toInt32.toInt ≤ 32767 := by
        rw [Int16.toInt_toInt32]
        have h1 := x.toInt16.le_toInt
        have h2 := x.toInt16.toInt_lt
        constructor <;> omega
      obtain ⟨ρ', h1, h2, h3⟩ := xcut_ok (w := x.toInt16.toInt32.toInt) hq hS ha hw (fun e1 e2 => by
        rw [Int16.toInt_toInt32, Int32.toInt_toInt16]
        rw [Int.bmod_eq_of_le (by omega) (by omega)])
      exact lv_i2s hx hb hd rfl (k _ ρ' h1 h2 ⟨_, rfl, h3⟩)
    · cases hv
  · cases hv
theorem xL2i_ok {a : xI} {r : xI × List xB} {x : Int64} (hv : xcut (-2147483648) 2147483647 σ a = some r) (hx : p.tables.exec = Jvm.exec) (hb : c.code = cc) (hd : decode cc pc = .ok (.l2i, 1)) (hS : xSt ρ σ) (ha : xe ρ a = some x.toInt)
    (k : ∀ (z : Int32) ρ', xX ρ ρ' → xSt ρ' r.2 → xe ρ' r.1 = some z.toInt → W p l e R s m args below meth c H locs cells slots Q (F0 m (pc + 1) ls (.int z :: rest))) : W p l e R s m args below meth c H locs cells slots Q (F0 m pc ls (.long x :: rest)) := by
  obtain ⟨ρ', h1, h2, h3⟩ := xcut_ok (w := x.toInt32.toInt) hv hS ha (x_b32 _) (fun e1 e2 => by
    rw [Int64.toInt_toInt32]
    rw [Int.bmod_eq_of_le (by omega) (by omega)])
  exact lv_l2i hx hb hd rfl (k _ ρ' h1 h2 h3)
/-- the stack alone -/
def xStk (i : Instr) (stk : List xV) : Option (List xV) := match i with
  | .dup => (match stk with
    | v :: t => bif Nat.beq (xcat v) 1 then some (v :: v :: t) else none
    | _ => none)
  | .pop => (match stk with
    | v :: t => bif Nat.beq (xcat v) 1 then some t else none
    | _ => none)
  | .pop2 => (match stk with
    | v :: t => bif Nat.beq (xcat v) 2 then some t else none
    | _ => none)
  | .dup2 => (match stk with
    | v :: u :: t => bif Nat.beq (xcat v) 1 && Nat.beq (xcat u) 1 then some (v :: u :: v :: u :: t) else none
    | _ => none)
  | .dup_x1 => (match stk with
    | v :: u :: t => bif Nat.beq (xcat v) 1 && Nat.beq (xcat u) 1 then some (v :: u :: v :: t) else none
    | _ => none)
  | _ => none
theorem xStk_ok {stk stk' : List xV} (hv : xStk i stk = some stk') (hlen : len = 1) (hx : p.tables.exec = Jvm.exec) (hb : c.code = cc) (hd : decode cc pc = .ok (i, len)) (hst : xAll2 (xv ρ ad ex) stk st)
    (k : ∀ st', xAll2 (xv ρ ad ex) stk' st' → W p l e R s m args below meth c H locs cells slots Q (F0 m (pc + len) ls st')) : W p l e R s m args below meth c H locs cells slots Q (F0 m pc ls st) := by
  subst hlen
  unfold xStk at hv
  split at hv
  · split at hv
    · obtain ⟨h1, h2⟩ := x_bif hv
      subst h2
      obtain ⟨w, t, rfl, q1, q2⟩ := hst.cons
      exact lv_dup hx hb hd (by rw [q1.cat]; exact Nat.eq_of_beq_eq_true h1) (k _ ⟨q1, q1, q2⟩)
    · cases hv
  · split at hv
    · obtain ⟨h1, h2⟩ := x_bif hv
      subst h2
      obtain ⟨w, t, rfl, q1, q2⟩ := hst.cons
      exact lv_pop hx hb hd (by rw [q1.cat]; exact Nat.eq_of_beq_eq_true h1) (k _ q2)
    · cases hv
  · split at hv
    · obtain ⟨h1, h2⟩ := x_bif hv
      subst h2
      obtain ⟨w, t, rfl, q1, q2⟩ := hst.cons
      exact lv_pop2_2 hx hb hd (by rw [q1.cat]; exact Nat.eq_of_beq_eq_true h1) (k _ q2)
    · cases hv
  · split at hv
    · obtain ⟨h1, h2⟩ := x_bif hv
      subst h2
      rw [Bool.and_eq_true] at h1
      obtain ⟨w, t, rfl, q1, q2⟩ := hst.cons
      obtain ⟨w2, t2, rfl, q3, q4⟩ := q2.cons
      exact lv_dup2_11 hx hb hd (by rw [q1.cat]; exact Nat.eq_of_beq_eq_true h1.1) (by rw [q3.cat]; exact Nat.eq_of_beq_eq_true h1.2) (k _ ⟨q1, q3, q1, q3, q4⟩)
    · cases hv
  · split at hv
    · obtain ⟨h1, h2⟩ := x_bif hv
      subst h2
      rw [Bool.and_eq_true] at h1
      obtain ⟨w, t, rfl, q1, q2⟩ := hst.cons
      obtain ⟨w2, t2, rfl, q3, q4⟩ := q2.cons
      exact lv_dup_x1 hx hb hd (by rw [q1.cat]; exact Nat.eq_of_beq_eq_true h1.1) (by rw [q3.cat]; exact Nat.eq_of_beq_eq_true h1.2) (k _ ⟨q1, q3, q1, q4⟩)
    · cases hv
  · cases hv
end XO
end
section
/-! Branches: what a condition says of the bounds. -/
def xltR (σ : List xB) (a b : xI) : List (List xB) := match xrg σ a with
  | none => [σ]
  | some ra => match xrg σ b with
    | none => [σ]
    | some rb => bif xle ra.1 (xmin ra.2 (rb.2 - 1)) && xle (xmax rb.1 (ra.1 + 1)) rb.2 then [xput (xput σ a ra.1 (xmin ra.2 (rb.2 - 1))) b (xmax rb.1 (ra.1 + 1)) rb.2] else []
theorem xltR_ok {ρ : List Int} {σ : List xB} {a b : xI} {z1 z2 : Int} (hS : xSt ρ σ) (h1 : xe ρ a = some z1) (h2 : xe ρ b = some z2) (h : z1 < z2) : ∃ τ ∈ xltR σ a b, xSt ρ τ := by
  unfold xltR
  cases ha : xrg σ a with
  | none => exact ⟨σ, List.mem_singleton.mpr rfl, hS⟩
  | some ra =>
    cases hb : xrg σ b with
    | none => exact ⟨σ, List.mem_singleton.mpr rfl, hS⟩
    | some rb =>
      have q1 := xrg_ok hS h1 ha
      have q2 := xrg_ok hS h2 hb
      have m1 : z1 ≤ xmin ra.2 (rb.2 - 1) := xmin_le1 (by omega) (by omega)
      have m2 : xmax rb.1 (ra.1 + 1) ≤ z2 := xmax_le1 (by omega) (by omega)
      dsimp only
      rw [xle_iff.mpr (show ra.1 ≤ xmin ra.2 (rb.2 - 1) by omega), xle_iff.mpr (show xmax rb.1 (ra.1 + 1) ≤ rb.2 by omega)]
      exact ⟨_, List.mem_singleton.mpr rfl, xput_ok (xput_ok hS h1 q1.1 m1) h2 m2 q2.2⟩
def xleR (σ : List xB) (a b : xI) : List (List xB) := match xrg σ a with
  | none => [σ]
  | some ra => match xrg σ b with
    | none => [σ]
    | some rb => bif xle ra.1 (xmin ra.2 rb.2) && xle (xmax rb.1 ra.1) rb.2 then [xput (xput σ a ra.1 (xmin ra.2 rb.2)) b (xmax rb.1 ra.1) rb.2] else []
theorem xleR_ok {ρ : List Int} {σ : List xB} {a b : xI} {z1 z2 : Int} (hS : xSt ρ σ) (h1 : xe ρ a = some z1) (h2 : xe ρ b = some z2) (h : z1 ≤ z2) : ∃ τ ∈ xleR σ a b, xSt ρ τ := by
  unfold xleR
  cases ha : xrg σ a with
  | none => exact ⟨σ, List.mem_singleton.mpr rfl, hS⟩
  | some ra =>
    cases hb : xrg σ b with
    | none => exact ⟨σ, List.mem_singleton.mpr rfl, hS⟩
    | some rb =>
      have q1 := xrg_ok hS h1 ha
      have q2 := xrg_ok hS h2 hb
      have m1 : z1 ≤ xmin ra.2 rb.2 := xmin_le1 (by omega) (by omega)
      have m2 : xmax rb.1 ra.1 ≤ z2 := xmax_le1 (by omega) (by omega)
      dsimp only
      rw [xle_iff.mpr (show ra.1 ≤ xmin ra.2 rb.2 by omega), xle_iff.mpr (show xmax rb.1 ra.1 ≤ rb.2 by omega)]
      exact ⟨_, List.mem_singleton.mpr rfl, xput_ok (xput_ok hS h1 q1.1 m1) h2 m2 q2.2⟩
def xeqR (σ : List xB) (a b : xI) : List (List xB) := match xrg σ a with
  | none => [σ]
  | some ra => match xrg σ b with
    | none => [σ]
    | some rb => bif xle (xmax ra.1 rb.1) (xmin ra.2 rb.2) then [xput (xput σ a (xmax ra.1 rb.1) (xmin ra.2 rb.2)) b (xmax ra.1 rb.1) (xmin ra.2 rb.2)] else []
theorem xeqR_ok {ρ : List Int} {σ : List xB} {a b : xI} {z1 z2 : Int} (hS : xSt ρ σ) (h1 : xe ρ a = some z1) (h2 : xe ρ b = some z2) (h : z1 = z2) : ∃ τ ∈ xeqR σ a b, xSt ρ τ := by
  unfold xeqR
  cases ha : xrg σ a with
  | none => exact ⟨σ, List.mem_singleton.mpr rfl, hS⟩
  | some ra =>
    cases hb : xrg σ b with
    | none => exact ⟨σ, List.mem_singleton.mpr rfl, hS⟩
    | some rb =>
      have q1 := xrg_ok hS h1 ha
      have q2 := xrg_ok hS h2 hb
      have m1 : z1 ≤ xmin ra.2 rb.2 := xmin_le1 (by omega) (by omega)
      have m2 : xmax ra.1 rb.1 ≤ z1 := xmax_le1 (by omega) (by omega)
      dsimp only
      rw [xle_iff.mpr (show xmax ra.1 rb.1 ≤ xmin ra.2 rb.2 by omega)]
      exact ⟨_, List.mem_singleton.mpr rfl, xput_ok (xput_ok hS h1 m2 m1) h2 (by omega) (by omega)⟩
/-- a number isn't a constant c: its bounds without c at their ends -/
def xneC (σ : List xB) (a : xI) (ra : xB) (c : Int) : List (List xB) :=
  bif xeq ra.1 c then (bif xle (c + 1) ra.2 then [xput σ a (c + 1) ra.2] else []) else (bif xeq ra.2 c then (bif xle ra.1 (c - 1) then [xput σ a ra.1 (c - 1)] else []) else (bif xle ra.1 c && xle c ra.2 then [xput σ a ra.1 (c - 1), xput σ a (c + 1) ra.2] else [σ]))
theorem xneC_ok {ρ : List Int} {σ : List xB} {a : xI} {ra : xB} {c z : Int} (hS : xSt ρ σ) (h1 : xe ρ a = some z) (hr : ra.1 ≤ z ∧ z ≤ ra.2) (h : ¬ z = c) : ∃ τ ∈ xneC σ a ra c, xSt ρ τ := by
  unfold xneC
  cases e1 : xeq ra.1 c
  · cases e2 : xeq ra.2 c
    · simp only [cond_false]
      cases e3 : (xle ra.1 c && xle c ra.2)
      · exact ⟨σ, List.mem_singleton.mpr rfl, hS⟩
      · simp only [cond_true]
        rcases (show z ≤ c - 1 ∨ c + 1 ≤ z by omega) with q | q
        · exact ⟨_, List.mem_cons_self, xput_ok hS h1 hr.1 q⟩
        · exact ⟨_, List.mem_cons_of_mem _ (List.mem_singleton.mpr rfl), xput_ok hS h1 q hr.2⟩
    · have e2 := xeq_iff.mp e2
      simp only [cond_true, cond_false]
      rw [xle_iff.mpr (show ra.1 ≤ c - 1 by omega)]
      exact ⟨_, List.mem_singleton.mpr rfl, xput_ok hS h1 hr.1 (by omega)⟩
  · have e1 := xeq_iff.mp e1
    simp only [cond_true]
    rw [xle_iff.mpr (show c + 1 ≤ ra.2 by omega)]
    exact ⟨_, List.mem_singleton.mpr rfl, xput_ok hS h1 (by omega) hr.2⟩
def xneR (σ : List xB) (a b : xI) : List (List xB) := match xrg σ a with
  | none => [σ]
  | some ra => match xrg σ b with
    | none => [σ]
    | some rb => bif xeq rb.1 rb.2 then xneC σ a ra rb.1 else (bif xeq ra.1 ra.2 then xneC σ b rb ra.1 else [σ])
theorem xneR_ok {ρ : List Int} {σ : List xB} {a b : xI} {z1 z2 : Int} (hS : xSt ρ σ) (h1 : xe ρ a = some z1) (h2 : xe ρ b = some z2) (h : ¬ z1 = z2) : ∃ τ ∈ xneR σ a b, xSt ρ τ := by
  unfold xneR
  cases ha : xrg σ a with
  | none => exact ⟨σ, List.mem_singleton.mpr rfl, hS⟩
  | some ra =>
    cases hb : xrg σ b with
    | none => exact ⟨σ, List.mem_singleton.mpr rfl, hS⟩
    | some rb =>
      have q1 := xrg_ok hS h1 ha
      have q2 := xrg_ok hS h2 hb
      dsimp only
      cases e1 : xeq rb.1 rb.2
      · cases e2 : xeq ra.1 ra.2
        · exact ⟨σ, List.mem_singleton.mpr rfl, hS⟩
        · have e2 := xeq_iff.mp e2
          exact xneC_ok hS h2 q2 (by omega)
      · have e1 := xeq_iff.mp e1
        exact xneC_ok hS h1 q1 (by omega)
/-- taken, and not taken -/
def xIf (c : Jvm.ClassFile.Cond) (σ : List xB) (a b : xI) : List (List xB) × List (List xB) := match c with
  | .eq => (xeqR σ a b, xneR σ a b)
  | .ne => (xneR σ a b, xeqR σ a b)
  | .lt => (xltR σ a b, xleR σ b a)
  | .ge => (xleR σ b a, xltR σ a b)
  | .gt => (xltR σ b a, xleR σ a b)
  | .le => (xleR σ a b, xltR σ b a)
/-- a jump's aim -/
def xtg (pc : Nat) (off : Int) : Option Nat := match Int.ofNat pc + off with
  | .ofNat t => some t
  | .negSucc _ => none
theorem xtg_ok {pc : Nat} {off : Int} {t : Nat} (h : xtg pc off = some t) : (pc : Int) + off = (t : Int) := by
  unfold xtg at h
  split at h
  · rename_i q hq
    cases h
    exact hq
  · cases h
/-- the roads on from a condition: where to, and the bounds there -/
def xCond (c : Jvm.ClassFile.Cond) (σ : List xB) (a b : xI) (pc : Nat) (off : Int) : Option (List (Nat × List xB)) := match xtg pc off with
  | none => none
  | some t => some ((xIf c σ a b).1.map (fun τ => (t, τ)) ++ (xIf c σ a b).2.map (fun τ => (pc + 3, τ)))
section XB
variable {p : Program} {l : Launch} {e : Env} {R : Room} {s : State} {m : MethodId} {args : Array Value} {below : List Frame} {meth : Method} {c : Code} {H : Heap} {locs : List Loc} {cells slots : Nat} {Q : State → Prop} {cc : ByteArray} {pc : Nat} {ls : Array Slot} {st rest : List Value} {ρ : List Int} {ad ex : List Nat} {nL : Nat} {loc : List (Nat × xV)} {σ : List xB} {len : Nat} {i : Instr}
theorem xIf_split {cd : Jvm.ClassFile.Cond} {a b : xI} {off : Int} {L : List (Nat × List xB)} {t : Nat} (ht : xtg pc off = some t) (hv : xCond cd σ a b pc off = some L) :
    (∀ τ ∈ (xIf cd σ a b).1, (t, τ) ∈ L) ∧ (∀ τ ∈ (xIf cd σ a b).2, (pc + 3, τ) ∈ L) := by
  unfold xCond at hv
  rw [ht] at hv
  cases hv
  exact ⟨fun τ h => List.mem_append_left _ (List.mem_map.mpr ⟨τ, h, rfl⟩), fun τ h => List.mem_append_right _ (List.mem_map.mpr ⟨τ, h, rfl⟩)⟩
theorem xIcmp_ok {cd : Jvm.ClassFile.Cond} {a b : xI} {x y : Int32} {off : Int} {L : List (Nat × List xB)} (hv : xCond cd σ a b pc off = some L) (hx : p.tables.exec = Jvm.exec) (hb : c.code = cc) (hd : decode cc pc = .ok (.if_icmp cd off, 3)) (hS : xSt ρ σ) (ha : xe ρ a = some x.toInt) (hb2 : xe ρ b = some y.toInt)
    (k : ∀ q ∈ L, xSt ρ q.2 → W p l e R s m args below meth c H locs cells slots Q (F0 m q.1 ls rest)) : W p l e R s m args below meth c H locs cells slots Q (F0 m pc ls (.int y :: .int x :: rest)) := by
  cases ht : xtg pc off with
  | none => unfold xCond at hv; rw [ht] at hv; cases hv
  | some t =>
    obtain ⟨k1, k2⟩ := xIf_split ht hv
    have hT := xtg_ok ht
    have go1 : ∀ {P : Prop}, (P → ∃ τ ∈ (xIf cd σ a b).1, xSt ρ τ) → P → W p l e R s m args below meth c H locs cells slots Q (F0 m t ls rest) := fun f h => by
      obtain ⟨τ, g1, g2⟩ := f h
      exact k _ (k1 τ g1) g2
    have go2 : ∀ {P : Prop}, (P → ∃ τ ∈ (xIf cd σ a b).2, xSt ρ τ) → P → W p l e R s m args below meth c H locs cells slots Q (F0 m (pc + 3) ls rest) := fun f h => by
      obtain ⟨τ, g1, g2⟩ := f h
      exact k _ (k2 τ g1) g2
    cases cd with
    | eq => exact lv_icmp_eq hx hb hd hT (go1 fun h => xeqR_ok hS ha hb2 (by rw [h])) (go2 fun h => xneR_ok hS ha hb2 (fun q => h (Int32.toInt_inj.mp q)))
    | ne => exact lv_icmp_ne hx hb hd hT (go1 fun h => xneR_ok hS ha hb2 (fun q => h (Int32.toInt_inj.mp q))) (go2 fun h => xeqR_ok hS ha hb2 (by rw [h]))
    | lt => exact lv_icmp_lt hx hb hd hT (go1 fun h => xltR_ok hS ha hb2 (Int32.lt_iff_toInt_lt.mp h)) (go2 fun h => xleR_ok hS hb2 ha (by rw [Int32.lt_iff_toInt_lt] at h; omega))
    | ge => exact lv_icmp_ge hx hb hd hT (go1 fun h => xleR_ok hS hb2 ha (Int32.le_iff_toInt_le.mp h)) (go2 fun h => xltR_ok hS ha hb2 (by rw [Int32.le_iff_toInt_le] at h; omega))
    | gt => exact lv_icmp_gt hx hb hd hT (go1 fun h => xltR_ok hS hb2 ha (Int32.lt_iff_toInt_lt.mp h)) (go2 fun h => xleR_ok hS ha hb2 (by rw [Int32.lt_iff_toInt_lt] at h; omega))
    | le => exact lv_icmp_le hx hb hd hT (go1 fun h => xleR_ok hS ha hb2 (Int32.le_iff_toInt_le.mp h)) (go2 fun h => xltR_ok hS hb2 ha (by rw [Int32.le_iff_toInt_le] at h; omega))
theorem xIfc_ok {cd : Jvm.ClassFile.Cond} {a : xI} {x : Int32} {off : Int} {L : List (Nat × List xB)} (hv : xCond cd σ a (none, 0) pc off = some L) (hx : p.tables.exec = Jvm.exec) (hb : c.code = cc) (hd : decode cc pc = .ok (.ifCond cd off, 3)) (hS : xSt ρ σ) (ha : xe ρ a = some x.toInt)
    (k : ∀ q ∈ L, xSt ρ q.2 → W p l e R s m args below meth c H locs cells slots Q (F0 m q.1 ls rest)) : W p l e R s m args below meth c H locs cells slots Q (F0 m pc ls (.int x :: rest)) := by
  have hb2 : xe ρ (none, 0) = some (0 : Int32).toInt := rfl
  have z0 : (0 : Int32).toInt = 0 := rfl
  cases ht : xtg pc off with
  | none => unfold xCond at hv; rw [ht] at hv; cases hv
  | some t =>
    obtain ⟨k1, k2⟩ := xIf_split ht hv
    have hT := xtg_ok ht
    have go1 : ∀ {P : Prop}, (P → ∃ τ ∈ (xIf cd σ a (none, 0)).1, xSt ρ τ) → P → W p l e R s m args below meth c H locs cells slots Q (F0 m t ls rest) := fun f h => by
      obtain ⟨τ, g1, g2⟩ := f h
      exact k _ (k1 τ g1) g2
    have go2 : ∀ {P : Prop}, (P → ∃ τ ∈ (xIf cd σ a (none, 0)).2, xSt ρ τ) → P → W p l e R s m args below meth c H locs cells slots Q (F0 m (pc + 3) ls rest) := fun f h => by
      obtain ⟨τ, g1, g2⟩ := f h
      exact k _ (k2 τ g1) g2
    cases cd with
    | eq => exact lv_if_eq hx hb hd hT (go1 fun h => xeqR_ok hS ha hb2 (by rw [h])) (go2 fun h => xneR_ok hS ha hb2 (fun q => h (Int32.toInt_inj.mp q)))
    | ne => exact lv_if_ne hx hb hd hT (go1 fun h => xneR_ok hS ha hb2 (fun q => h (Int32.toInt_inj.mp q))) (go2 fun h => xeqR_ok hS ha hb2 (by rw [h]))
    | lt => exact lv_if_lt hx hb hd hT (go1 fun h => xltR_ok hS ha hb2 (Int32.lt_iff_toInt_lt.mp h)) (go2 fun h => xleR_ok hS hb2 ha (by rw [Int32.lt_iff_toInt_lt] at h; omega))
    | ge => exact lv_if_ge hx hb hd hT (go1 fun h => xleR_ok hS hb2 ha (Int32.le_iff_toInt_le.mp h)) (go2 fun h => xltR_ok hS ha hb2 (by rw [Int32.le_iff_toInt_le] at h; omega))
    | gt => exact lv_if_gt hx hb hd hT (go1 fun h => xltR_ok hS hb2 ha (Int32.lt_iff_toInt_lt.mp h)) (go2 fun h => xleR_ok hS ha hb2 (by rw [Int32.lt_iff_toInt_lt] at h; omega))
    | le => exact lv_if_le hx hb hd hT (go1 fun h => xleR_ok hS ha hb2 (Int32.le_iff_toInt_le.mp h)) (go2 fun h => xltR_ok hS hb2 ha (by rw [Int32.le_iff_toInt_le] at h; omega))
theorem x_lcmp (x y : Int64) : (lg_cmp x y = 1 ∧ y.toInt < x.toInt) ∨ (lg_cmp x y = 0 ∧ x.toInt = y.toInt) ∨ (lg_cmp x y = -1 ∧ x.toInt < y.toInt) := by
  unfold lg_cmp
  by_cases h : x > y
  · rw [if_pos h]
    exact Or.inl ⟨rfl, Int64.lt_iff_toInt_lt.mp h⟩
  · rw [if_neg h]
    by_cases h2 : x = y
    · rw [if_pos h2]
      exact Or.inr (Or.inl ⟨rfl, by rw [h2]⟩)
    · rw [if_neg h2]
      refine Or.inr (Or.inr ⟨rfl, ?_⟩)
      have h3 : ¬ y.toInt < x.toInt := fun q => h (Int64.lt_iff_toInt_lt.mpr q)
      have h4 : ¬ x.toInt = y.toInt := fun q => h2 (Int64.toInt_inj.mp q)
      omega
/-- a comparison of two longs, and the branch behind it -/
theorem xLcmp_ok {cd : Jvm.ClassFile.Cond} {a b : xI} {x y : Int64} {off : Int} {L : List (Nat × List xB)} (hv : xCond cd σ a b (pc + 1) off = some L) (hx : p.tables.exec = Jvm.exec) (hb : c.code = cc) (hd0 : decode cc pc = .ok (.lcmp, 1)) (hd : decode cc (pc + 1) = .ok (.ifCond cd off, 3)) (hS : xSt ρ σ) (ha : xe ρ a = some x.toInt) (hb2 : xe ρ b = some y.toInt)
    (k : ∀ q ∈ L, xSt ρ q.2 → W p l e R s m args below meth c H locs cells slots Q (F0 m q.1 ls rest)) : W p l e R s m args below meth c H locs cells slots Q (F0 m pc ls (.long y :: .long x :: rest)) := by
  refine W.lcmp hx hb hd0 ?_
  cases ht : xtg (pc + 1) off with
  | none => unfold xCond at hv; rw [ht] at hv; cases hv
  | some t =>
    obtain ⟨k1, k2⟩ := xIf_split ht hv
    have hT := xtg_ok ht
    have go1 : ∀ {P : Prop}, (P → ∃ τ ∈ (xIf cd σ a b).1, xSt ρ τ) → P → W p l e R s m args below meth c H locs cells slots Q (F0 m t ls rest) := fun f h => by
      obtain ⟨τ, g1, g2⟩ := f h
      exact k _ (k1 τ g1) g2
    have go2 : ∀ {P : Prop}, (P → ∃ τ ∈ (xIf cd σ a b).2, xSt ρ τ) → P → W p l e R s m args below meth c H locs cells slots Q (F0 m (pc + 1 + 3) ls rest) := fun f h => by
      obtain ⟨τ, g1, g2⟩ := f h
      exact k _ (k2 τ g1) g2
    have d1 : ¬ (1 : Int32) = 0 := by decide
    have d2 : ¬ (-1 : Int32) = 0 := by decide
    have d3 : ¬ (1 : Int32) < 0 := by decide
    have d4 : ¬ (0 : Int32) < 0 := by decide
    have d5 : (-1 : Int32) < 0 := by decide
    have d6 : (0 : Int32) ≤ 1 := by decide
    have d7 : (0 : Int32) ≤ 0 := by decide
    have d8 : ¬ (0 : Int32) ≤ -1 := by decide
    have d9 : (0 : Int32) < 1 := by decide
    have d10 : ¬ (0 : Int32) < -1 := by decide
    have d11 : ¬ (1 : Int32) ≤ 0 := by decide
    have d12 : (-1 : Int32) ≤ 0 := by decide
    rcases x_lcmp x y with ⟨e1, e2⟩ | ⟨e1, e2⟩ | ⟨e1, e2⟩ <;> rw [e1] <;> cases cd with
    | eq => first
      | exact lv_if_eq hx hb hd hT (go1 fun h => absurd h (by assumption)) (go2 fun h => xneR_ok hS ha hb2 (by omega))
      | exact lv_if_eq hx hb hd hT (go1 fun h => xeqR_ok hS ha hb2 (by omega)) (go2 fun h => absurd rfl h)
    | ne => first
      | exact lv_if_ne hx hb hd hT (go1 fun h => xneR_ok hS ha hb2 (by omega)) (go2 fun h => absurd h (by assumption))
      | exact lv_if_ne hx hb hd hT (go1 fun h => absurd rfl h) (go2 fun h => xeqR_ok hS ha hb2 (by omega))
    | lt => first
      | exact lv_if_lt hx hb hd hT (go1 fun h => xltR_ok hS ha hb2 (by omega)) (go2 fun h => absurd (by assumption) h)
      | exact lv_if_lt hx hb hd hT (go1 fun h => absurd h (by assumption)) (go2 fun h => xleR_ok hS hb2 ha (by omega))
    | ge => first
      | exact lv_if_ge hx hb hd hT (go1 fun h => xleR_ok hS hb2 ha (by omega)) (go2 fun h => absurd (by assumption) h)
      | exact lv_if_ge hx hb hd hT (go1 fun h => absurd h (by assumption)) (go2 fun h => xltR_ok hS ha hb2 (by omega))
    | gt => first
      | exact lv_if_gt hx hb hd hT (go1 fun h => xltR_ok hS hb2 ha (by omega)) (go2 fun h => absurd (by assumption) h)
      | exact lv_if_gt hx hb hd hT (go1 fun h => absurd h (by assumption)) (go2 fun h => xleR_ok hS ha hb2 (by omega))
    | le => first
      | exact lv_if_le hx hb hd hT (go1 fun h => xleR_ok hS ha hb2 (by omega)) (go2 fun h => absurd (by assumption) h)
      | exact lv_if_le hx hb hd hT (go1 fun h => absurd h (by assumption)) (go2 fun h => xltR_ok hS hb2 ha (by omega))
/-- a table: each row that the number can be -/
def xTabGo (σ : List xB) (a : xI) (pc : Nat) (r : xB) : Int → List Int → Option (List (Nat × List xB))
  | _, [] => some []
  | j, off :: t => match xTabGo σ a pc r (j + 1) t with
    | none => none
    | some L => bif xle r.1 j && xle j r.2 then (match xtg pc off with
      | none => none
      | some q => some ((q, xput σ a j j) :: L)) else some L
def xTab (σ : List xB) (a : xI) (pc : Nat) (d lo hi : Int) (offs : List Int) : Option (List (Nat × List xB)) := match xrg σ a with
  | none => none
  | some r => match xtg pc d with
    | none => none
    | some q => match xTabGo σ a pc r lo offs with
      | none => none
      | some L => some ((bif xle r.1 (lo - 1) then [(q, xput σ a r.1 (xmin r.2 (lo - 1)))] else []) ++ ((bif xle (hi + 1) r.2 then [(q, xput σ a (xmax r.1 (hi + 1)) r.2)] else []) ++ L))
theorem xTabGo_ok {a : xI} {r : xB} {z : Int} (hz : r.1 ≤ z ∧ z ≤ r.2) : ∀ {offs : List Int} {j : Int} {L : List (Nat × List xB)}, xTabGo σ a pc r j offs = some L → ∀ {n : Nat} {off : Int}, offs[n]? = some off → z = j + n → ∃ q, xtg pc off = some q ∧ (q, xput σ a z z) ∈ L
  | [], _, _, _, _, _, h, _ => by simp at h
  | o :: t, j, L, hv, n, off, h, hn => by
    unfold xTabGo at hv
    split at hv
    · cases hv
    · rename_i L' hL'
      cases n with
      | zero =>
        simp at h
        subst h
        have e : z = j := by omega
        rw [xle_iff.mpr (show r.1 ≤ j by omega), xle_iff.mpr (show j ≤ r.2 by omega)] at hv
        simp only [Bool.and_self, cond_true] at hv
        split at hv
        · cases hv
        · rename_i q hq
          cases hv
          exact ⟨q, hq, by rw [e]; exact List.mem_cons_self⟩
      | succ n =>
        simp at h
        obtain ⟨q, h1, h2⟩ := xTabGo_ok hz hL' h (by omega)
        refine ⟨q, h1, ?_⟩
        cases hc : (xle r.1 j && xle j r.2) with
        | true =>
          rw [hc] at hv
          simp only [cond_true] at hv
          split at hv
          · cases hv
          · cases hv
            exact List.mem_cons_of_mem _ h2
        | false =>
          rw [hc] at hv
          simp only [cond_false, Option.some.injEq] at hv
          subst hv
          exact h2
theorem xTab_ok {a : xI} {x : Int32} {d lo hi : Int} {offs : Array Int} {L : List (Nat × List xB)} (hv : xTab σ a pc d lo hi offs.toList = some L) (hh : hi = lo + (offs.toList.length : Int) - 1) (hx : p.tables.exec = Jvm.exec) (hb : c.code = cc) (hd : decode cc pc = .ok (.tableswitch d lo hi offs, len)) (hS : xSt ρ σ) (ha : xe ρ a = some x.toInt)
    (k : ∀ q ∈ L, xSt ρ q.2 → W p l e R s m args below meth c H locs cells slots Q (F0 m q.1 ls rest)) : W p l e R s m args below meth c H locs cells slots Q (F0 m pc ls (.int x :: rest)) := by
  unfold xTab at hv
  split at hv
  · cases hv
  · rename_i r hr
    split at hv
    · cases hv
    · rename_i q hq
      split at hv
      · cases hv
      · rename_i L' hL'
        have hz := xrg_ok hS ha hr
        cases hv
        by_cases h1 : x.toInt < lo
        · refine lv_tableOut hx hb hd (Or.inl h1) (xtg_ok hq) ?_
          refine k (q, xput σ a r.1 (xmin r.2 (lo - 1))) ?_ (xput_ok hS ha hz.1 (xmin_le1 hz.2 (by omega)))
          rw [xle_iff.mpr (show r.1 ≤ lo - 1 by omega)]
          exact List.mem_append_left _ (List.mem_singleton.mpr rfl)
        · by_cases h2 : hi < x.toInt
          · refine lv_tableOut hx hb hd (Or.inr h2) (xtg_ok hq) ?_
            refine k (q, xput σ a (xmax r.1 (hi + 1)) r.2) ?_ (xput_ok hS ha (xmax_le1 hz.1 (by omega)) hz.2)
            rw [xle_iff.mpr (show hi + 1 ≤ r.2 by omega)]
            exact List.mem_append_right _ (List.mem_append_left _ (List.mem_singleton.mpr rfl))
          · have hn : (x.toInt - lo).toNat < offs.toList.length := by omega
            obtain ⟨off, hoff⟩ : ∃ off, offs.toList[(x.toInt - lo).toNat]? = some off := ⟨_, List.getElem?_eq_getElem hn⟩
            obtain ⟨t, g1, g2⟩ := xTabGo_ok hz hL' hoff (by omega)
            refine lv_tableIn hx hb hd h1 h2 (by rw [← Array.getElem?_toList]; exact hoff) (xtg_ok g1) ?_
            exact k _ (List.mem_append_right _ (List.mem_append_right _ g2)) (xput_ok hS ha (Int.le_refl _) (Int.le_refl _))
end XB
end
section
/-! The classes of the world, their fields' types, their words. -/
abbrev xcl : List vw_C := [(RX0, TX0, 5), (RX1, TX1, 5), (RX2, TX2, 15), (RX3, TX3, 11), (RX4, TX4, 3), (RX5, TX5, 8), (RX6, TX6, 11), (RX7, TX7, 8), (RX8, TX8, 4), (RX9, TX9, 14), (RX10, TX10, 56)]
def xct : Nat → Nat → FieldType
  | 0 => tyX0
  | 1 => tyX1
  | 2 => tyX2
  | 3 => tyX3
  | 4 => tyX4
  | 5 => tyX5
  | 6 => tyX6
  | 7 => tyX7
  | 8 => tyX8
  | 9 => tyX9
  | _ => tyX10
def xcn (i : Nat) : String := match xcl[i]? with
  | some r => r.1
  | none => ""
def xNest : Jvm.Cond → Bool
  | .fieldLinkNest .. => true
  | .methodLinkNest .. => true
  | .arrayOver (.object _) => true
  | _ => false
theorem xw_0 : ∀ w ∈ u_ws RX0 TX0 5, w ∈ lw_tbl ∧ goodWord w = true := by
  intro w hw
  have h1 : u_ws RX0 TX0 5 = [463, 465, 467, 469, 471].filterMap (fun i => lw_tbl[i]?) := by decide +kernel
  have h2 : (u_ws RX0 TX0 5).all goodWord = true := by decide +kernel
  refine ⟨?_, List.all_eq_true.mp h2 w hw⟩
  rw [h1] at hw
  obtain ⟨i, -, hi⟩ := List.mem_filterMap.mp hw
  exact List.mem_of_getElem? hi
theorem xw_1 : ∀ w ∈ u_ws RX1 TX1 5, w ∈ lw_tbl ∧ goodWord w = true := by
  intro w hw
  have h1 : u_ws RX1 TX1 5 = [441, 443, 445, 447, 449].filterMap (fun i => lw_tbl[i]?) := by decide +kernel
  have h2 : (u_ws RX1 TX1 5).all goodWord = true := by decide +kernel
  refine ⟨?_, List.all_eq_true.mp h2 w hw⟩
  rw [h1] at hw
  obtain ⟨i, -, hi⟩ := List.mem_filterMap.mp hw
  exact List.mem_of_getElem? hi
theorem xw_2 : ∀ w ∈ u_ws RX2 TX2 15, w ∈ lw_tbl ∧ goodWord w = true := by
  intro w hw
  have h1 : u_ws RX2 TX2 15 = [246, 248, 250, 252, 254, 256, 258, 260, 262, 264, 266, 268, 270, 272, 274].filterMap (fun i => lw_tbl[i]?) := by decide +kernel
  have h2 : (u_ws RX2 TX2 15).all goodWord = true := by decide +kernel
  refine ⟨?_, List.all_eq_true.mp h2 w hw⟩
  rw [h1] at hw
  obtain ⟨i, -, hi⟩ := List.mem_filterMap.mp hw
  exact List.mem_of_getElem? hi
theorem xw_3 : ∀ w ∈ u_ws RX3 TX3 11, w ∈ lw_tbl ∧ goodWord w = true := by
  intro w hw
  have h1 : u_ws RX3 TX3 11 = [298, 300, 302, 304, 306, 308, 310, 312, 314, 316, 318].filterMap (fun i => lw_tbl[i]?) := by decide +kernel
  have h2 : (u_ws RX3 TX3 11).all goodWord = true := by decide +kernel
  refine ⟨?_, List.all_eq_true.mp h2 w hw⟩
  rw [h1] at hw
  obtain ⟨i, -, hi⟩ := List.mem_filterMap.mp hw
  exact List.mem_of_getElem? hi
theorem xw_4 : ∀ w ∈ u_ws RX4 TX4 3, w ∈ lw_tbl ∧ goodWord w = true := by
  intro w hw
  have h1 : u_ws RX4 TX4 3 = [337, 339, 341].filterMap (fun i => lw_tbl[i]?) := by decide +kernel
  have h2 : (u_ws RX4 TX4 3).all goodWord = true := by decide +kernel
  refine ⟨?_, List.all_eq_true.mp h2 w hw⟩
  rw [h1] at hw
  obtain ⟨i, -, hi⟩ := List.mem_filterMap.mp hw
  exact List.mem_of_getElem? hi
theorem xw_5 : ∀ w ∈ u_ws RX5 TX5 8, w ∈ lw_tbl ∧ goodWord w = true := by
  intro w hw
  have h1 : u_ws RX5 TX5 8 = [411, 413, 415, 417, 419, 421, 423, 425].filterMap (fun i => lw_tbl[i]?) := by decide +kernel
  have h2 : (u_ws RX5 TX5 8).all goodWord = true := by decide +kernel
  refine ⟨?_, List.all_eq_true.mp h2 w hw⟩
  rw [h1] at hw
  obtain ⟨i, -, hi⟩ := List.mem_filterMap.mp hw
  exact List.mem_of_getElem? hi
theorem xw_6 : ∀ w ∈ u_ws RX6 TX6 11, w ∈ lw_tbl ∧ goodWord w = true := by
  intro w hw
  have h1 : u_ws RX6 TX6 11 = [372, 374, 376, 378, 380, 382, 384, 386, 388, 390, 392].filterMap (fun i => lw_tbl[i]?) := by decide +kernel
  have h2 : (u_ws RX6 TX6 11).all goodWord = true := by decide +kernel
  refine ⟨?_, List.all_eq_true.mp h2 w hw⟩
  rw [h1] at hw
  obtain ⟨i, -, hi⟩ := List.mem_filterMap.mp hw
  exact List.mem_of_getElem? hi
theorem xw_7 : ∀ w ∈ u_ws RX7 TX7 8, w ∈ lw_tbl ∧ goodWord w = true := by
  intro w hw
  have h1 : u_ws RX7 TX7 8 = [493, 495, 497, 499, 501, 503, 505, 507].filterMap (fun i => lw_tbl[i]?) := by decide +kernel
  have h2 : (u_ws RX7 TX7 8).all goodWord = true := by decide +kernel
  refine ⟨?_, List.all_eq_true.mp h2 w hw⟩
  rw [h1] at hw
  obtain ⟨i, -, hi⟩ := List.mem_filterMap.mp hw
  exact List.mem_of_getElem? hi
theorem xw_8 : ∀ w ∈ u_ws RX8 TX8 4, w ∈ lw_tbl ∧ goodWord w = true := by
  intro w hw
  have h1 : u_ws RX8 TX8 4 = [520, 522, 524, 526].filterMap (fun i => lw_tbl[i]?) := by decide +kernel
  have h2 : (u_ws RX8 TX8 4).all goodWord = true := by decide +kernel
  refine ⟨?_, List.all_eq_true.mp h2 w hw⟩
  rw [h1] at hw
  obtain ⟨i, -, hi⟩ := List.mem_filterMap.mp hw
  exact List.mem_of_getElem? hi
theorem xw_9 : ∀ w ∈ u_ws RX9 TX9 14, w ∈ lw_tbl ∧ goodWord w = true := by
  intro w hw
  have h1 : u_ws RX9 TX9 14 = [543, 545, 547, 549, 551, 553, 555, 557, 559, 561, 563, 565, 567, 569].filterMap (fun i => lw_tbl[i]?) := by decide +kernel
  have h2 : (u_ws RX9 TX9 14).all goodWord = true := by decide +kernel
  refine ⟨?_, List.all_eq_true.mp h2 w hw⟩
  rw [h1] at hw
  obtain ⟨i, -, hi⟩ := List.mem_filterMap.mp hw
  exact List.mem_of_getElem? hi
theorem xw_10 : ∀ w ∈ u_ws RX10 TX10 56, w ∈ lw_tbl ∧ goodWord w = true := by
  intro w hw
  have h1 : u_ws RX10 TX10 56 = [1459, 1461, 1463, 1465, 1467, 1469, 1471, 1473, 1475, 1477, 1479, 1481, 1483, 1485, 1487, 1489, 1491, 1493, 1495, 1497, 1499, 1501, 1503, 1505, 1507, 1509, 1511, 1513, 1515, 1517, 1519, 1521, 1523, 1525, 1527, 1529, 1531, 1533, 1535, 1537, 1539, 1541, 1543, 1545, 1547, 1549, 1551, 1553, 1555, 1557, 1559, 1561, 1563, 1565, 1567, 1569].filterMap (fun i => lw_tbl[i]?) := by decide +kernel
  have h2 : (u_ws RX10 TX10 56).all goodWord = true := by decide +kernel
  refine ⟨?_, List.all_eq_true.mp h2 w hw⟩
  rw [h1] at hw
  obtain ⟨i, -, hi⟩ := List.mem_filterMap.mp hw
  exact List.mem_of_getElem? hi
/-- what is known of a class of the list -/
def xClOk (ci : Nat) (C : String) (T : u_T) (N : Nat) : Prop := (∀ w ∈ u_ws C T N, w ∈ lw_tbl ∧ goodWord w = true) ∧ (∀ k, k < N → parseFieldDescriptor (T k).2.2.1 = some (xct ci k)) ∧ (∀ a, a < N → ∀ b, b < N → a ≠ b → (T a).2.1 ≠ (T b).2.1) ∧ C = xcn ci
theorem xcl_ok : ∀ (ci : Nat) (C : String) (T : u_T) (N : Nat), xcl[ci]? = some (C, T, N) → xClOk ci C T N
  | 0, _, _, _, h => by cases h; exact ⟨xw_0, tyX0_ok, nmX0, rfl⟩
  | 1, _, _, _, h => by cases h; exact ⟨xw_1, tyX1_ok, nmX1, rfl⟩
  | 2, _, _, _, h => by cases h; exact ⟨xw_2, tyX2_ok, nmX2, rfl⟩
  | 3, _, _, _, h => by cases h; exact ⟨xw_3, tyX3_ok, nmX3, rfl⟩
  | 4, _, _, _, h => by cases h; exact ⟨xw_4, tyX4_ok, nmX4, rfl⟩
  | 5, _, _, _, h => by cases h; exact ⟨xw_5, tyX5_ok, nmX5, rfl⟩
  | 6, _, _, _, h => by cases h; exact ⟨xw_6, tyX6_ok, nmX6, rfl⟩
  | 7, _, _, _, h => by cases h; exact ⟨xw_7, tyX7_ok, nmX7, rfl⟩
  | 8, _, _, _, h => by cases h; exact ⟨xw_8, tyX8_ok, nmX8, rfl⟩
  | 9, _, _, _, h => by cases h; exact ⟨xw_9, tyX9_ok, nmX9, rfl⟩
  | 10, _, _, _, h => by cases h; exact ⟨xw_10, tyX10_ok, nmX10, rfl⟩
  | k + 11, _, _, _, h => by simp [xcl] at h
end
section
/-! Stretches of arrays: read, written. -/
def xsame : (xI ⊕ xB) → (xI ⊕ xB) → Bool
  | .inl a, .inl b => (match a.1, b.1 with
    | none, none => xeq a.2 b.2
    | some i, some j => Nat.beq i j && xeq a.2 b.2
    | _, _ => false)
  | .inr r, .inr q => xeq r.1 q.1 && xeq r.2 q.2
  | _, _ => false
theorem xsame_ok : ∀ {x u : xI ⊕ xB}, xsame x u = true → x = u
  | .inl (none, c), .inl (none, d), h => by
    have := xeq_iff.mp (show xeq c d = true from h)
    rw [this]
  | .inl (some i, c), .inl (some j, d), h => by
    have h : (Nat.beq i j && xeq c d) = true := h
    rw [Bool.and_eq_true] at h
    rw [Nat.eq_of_beq_eq_true h.1, xeq_iff.mp h.2]
  | .inr (a, b), .inr (c, d), h => by
    have h : (xeq a c && xeq b d) = true := h
    rw [Bool.and_eq_true] at h
    rw [xeq_iff.mp h.1, xeq_iff.mp h.2]
  | .inl (none, _), .inl (some _, _), h => by cases h
  | .inl (some _, _), .inl (none, _), h => by cases h
  | .inl _, .inr _, h => by cases h
  | .inr _, .inl _, h => by cases h
def xpre (n : Nat) (x : xI ⊕ xB) (t : List xG) : List xG := match n with
  | 0 => t
  | n + 1 => (n + 1, x) :: t
theorem xseg_cons (g : xG) (t : List xG) (j : Nat) : xseg (g :: t) j = if j < g.1 then some g.2 else xseg t (j - g.1) := by
  show (bif Nat.blt j g.1 then some g.2 else xseg t (j - g.1)) = _
  by_cases h : j < g.1
  · rw [if_pos h]
    have : Nat.blt j g.1 = true := by
      unfold Nat.blt
      exact Nat.ble_eq_true_of_le h
    rw [this]
    rfl
  · rw [if_neg h]
    have : Nat.blt j g.1 = false := by
      cases hb : Nat.blt j g.1 with
      | false => rfl
      | true => exact absurd (x_blt hb) h
    rw [this]
    rfl
theorem xseg_pre (n : Nat) (x : xI ⊕ xB) (t : List xG) (k : Nat) : xseg (xpre n x t) k = if k < n then some x else xseg t (k - n) := by
  cases n with
  | zero => simp [xpre]
  | succ n => exact xseg_cons (n + 1, x) t k
def xsset : List xG → Nat → (xI ⊕ xB) → List xG
  | [], _, _ => []
  | g :: t, j, u => bif Nat.blt j g.1 then (bif xsame g.2 u then g :: t else xpre j g.2 ((1, u) :: xpre (g.1 - j - 1) g.2 t)) else g :: xsset t (j - g.1) u
theorem xseg_set : ∀ (gs : List xG) (j : Nat) (u : xI ⊕ xB) (k : Nat), (∃ x, xseg gs j = some x) → xseg (xsset gs j u) k = if k = j then some u else xseg gs k
  | [], _, _, _, h => by
    obtain ⟨x, h⟩ := h
    cases h
  | g :: t, j, u, k, h => by
    unfold xsset
    cases hb : Nat.blt j g.1 with
    | true =>
      have hj := x_blt hb
      simp only [cond_true]
      cases hs : xsame g.2 u with
      | true =>
        have e := xsame_ok hs
        simp only [cond_true]
        by_cases hk : k = j
        · rw [if_pos hk, hk, xseg_cons, if_pos hj, e]
        · rw [if_neg hk]
      | false =>
        simp only [cond_false]
        rw [xseg_pre]
        by_cases hk : k = j
        · subst hk
          rw [if_neg (Nat.lt_irrefl k), if_pos rfl, xseg_cons]
          simp
        · rw [if_neg hk, xseg_cons g t k]
          by_cases h1 : k < j
          · rw [if_pos h1, if_pos (by omega)]
          · rw [if_neg h1, xseg_cons, if_neg (by simp; omega), xseg_pre]
            simp only
            by_cases h2 : k < g.1
            · rw [if_pos h2, if_pos (by omega)]
            · rw [if_neg h2, if_neg (by omega)]
              congr 1
              omega
    | false =>
      have hj : ¬ j < g.1 := fun q => by
        have : Nat.blt j g.1 = true := by
          unfold Nat.blt
          exact Nat.ble_eq_true_of_le q
        rw [hb] at this
        cases this
      simp only [cond_false]
      rw [xseg_cons, xseg_cons]
      have hx : ∃ x, xseg t (j - g.1) = some x := by
        obtain ⟨x, h⟩ := h
        rw [xseg_cons, if_neg hj] at h
        exact ⟨x, h⟩
      by_cases h1 : k < g.1
      · rw [if_pos h1, if_pos h1, if_neg (by omega)]
      · rw [if_neg h1, if_neg h1, xseg_set t (j - g.1) u (k - g.1) hx]
        by_cases h2 : k = j
        · rw [if_pos h2, if_pos (by omega)]
        · rw [if_neg h2, if_neg (by omega)]
/-- bounds of what stands at a place -/
def xelr (σ : List xB) (u : xI ⊕ xB) : Option xB := match u with
  | .inl a => xrg σ a
  | .inr r => some r
theorem xelr_ok {ρ : List Int} {σ : List xB} (hS : xSt ρ σ) {u : xI ⊕ xB} {z : Int} {q : xB} (h : xel ρ u z) (hq : xelr σ u = some q) : q.1 ≤ z ∧ z ≤ q.2 := by
  cases u with
  | inl a => exact xrg_ok hS h hq
  | inr r => cases hq; exact h
def xjn (q r : xB) : xB := (xmin q.1 r.1, xmax q.2 r.2)
theorem xjn_l {q r : xB} {z : Int} (h : q.1 ≤ z ∧ z ≤ q.2) : (xjn q r).1 ≤ z ∧ z ≤ (xjn q r).2 := by
  have h1 := xmin_l q.1 r.1
  have h2 := xmax_l q.2 r.2
  unfold xjn
  dsimp only
  omega
theorem xjn_r {q r : xB} {z : Int} (h : r.1 ≤ z ∧ z ≤ r.2) : (xjn q r).1 ≤ z ∧ z ≤ (xjn q r).2 := by
  have h1 := xmin_r q.1 r.1
  have h2 := xmax_r q.2 r.2
  unfold xjn
  dsimp only
  omega
/-- one of several places is written: each of them may be as before -/
def xsweak (σ : List xB) : List xG → Int → Int → xB → Option (List xG)
  | [], _, _, _ => some []
  | g :: t, lo, hi, r => match xsweak σ t (lo - Int.ofNat g.1) (hi - Int.ofNat g.1) r with
    | none => none
    | some t' => bif xle 0 hi && xle lo (Int.ofNat g.1 - 1) then (match xelr σ g.2 with
      | none => none
      | some q => some ((g.1, .inr (xjn q r)) :: t')) else some (g :: t')
theorem xsweak_ok {ρ : List Int} {σ : List xB} (hS : xSt ρ σ) {r : xB} : ∀ {gs gs' : List xG} {lo hi : Int}, xsweak σ gs lo hi r = some gs' → ∀ {k : Nat} {x : xI ⊕ xB} {z : Int}, xseg gs k = some x → xel ρ x z → ∃ x', xseg gs' k = some x' ∧ xel ρ x' z ∧ (lo ≤ k → (k : Int) ≤ hi → ∀ z', r.1 ≤ z' → z' ≤ r.2 → xel ρ x' z')
  | [], _, _, _, _, _, _, _, h, _ => by cases h
  | g :: t, gs', lo, hi, hv, k, x, z, hx, hz => by
    unfold xsweak at hv
    split at hv
    · cases hv
    · rename_i t' ht'
      rw [xseg_cons] at hx
      cases hc : (xle 0 hi && xle lo (Int.ofNat g.1 - 1)) with
      | true =>
        rw [hc] at hv
        simp only [cond_true] at hv
        split at hv
        · cases hv
        · rename_i q hq
          cases hv
          rw [xseg_cons]
          by_cases h1 : k < g.1
          · rw [if_pos h1] at hx
            rw [if_pos h1]
            cases hx
            exact ⟨_, rfl, xjn_l (xelr_ok hS hz hq), fun _ _ z' a b => xjn_r ⟨a, b⟩⟩
          · rw [if_neg h1] at hx
            rw [if_neg h1]
            obtain ⟨x', e1, e2, e3⟩ := xsweak_ok hS ht' hx hz
            refine ⟨x', e1, e2, fun a b => e3 ?_ ?_⟩
            · have : (Int.ofNat g.1 : Int) = (g.1 : Int) := rfl
              omega
            · have : (Int.ofNat g.1 : Int) = (g.1 : Int) := rfl
              omega
      | false =>
        rw [hc] at hv
        simp only [cond_false, Option.some.injEq] at hv
        subst hv
        rw [xseg_cons]
        by_cases h1 : k < g.1
        · rw [if_pos h1] at hx
          rw [if_pos h1]
          cases hx
          refine ⟨_, rfl, hz, fun a b => ?_⟩
          exfalso
          have c1 : xle 0 hi = true := xle_iff.mpr (by omega)
          have c2 : xle lo (Int.ofNat g.1 - 1) = true := xle_iff.mpr (by
            have : (Int.ofNat g.1 : Int) = (g.1 : Int) := rfl
            omega)
          rw [c1, c2] at hc
          cases hc
        · rw [if_neg h1] at hx
          rw [if_neg h1]
          obtain ⟨x', e1, e2, e3⟩ := xsweak_ok hS ht' hx hz
          refine ⟨x', e1, e2, fun a b => e3 ?_ ?_⟩
          · have : (Int.ofNat g.1 : Int) = (g.1 : Int) := rfl
            omega
          · have : (Int.ofNat g.1 : Int) = (g.1 : Int) := rfl
            omega
/-- bounds of all places between two -/
def xsjoin (σ : List xB) : List xG → Int → Int → Option (Option xB)
  | [], _, _ => some none
  | g :: t, lo, hi => match xsjoin σ t (lo - Int.ofNat g.1) (hi - Int.ofNat g.1) with
    | none => none
    | some acc => bif xle 0 hi && xle lo (Int.ofNat g.1 - 1) then (match xelr σ g.2 with
      | none => none
      | some q => some (some (match acc with
        | none => q
        | some r => xjn q r))) else some acc
theorem xsjoin_ok {ρ : List Int} {σ : List xB} (hS : xSt ρ σ) : ∀ {gs : List xG} {lo hi : Int} {o : Option xB}, xsjoin σ gs lo hi = some o → ∀ {k : Nat} {x : xI ⊕ xB} {z : Int}, xseg gs k = some x → xel ρ x z → lo ≤ k → (k : Int) ≤ hi → ∃ q, o = some q ∧ q.1 ≤ z ∧ z ≤ q.2
  | [], _, _, _, _, _, _, _, h, _, _, _ => by cases h
  | g :: t, lo, hi, o, hv, k, x, z, hx, hz, a, b => by
    unfold xsjoin at hv
    split at hv
    · cases hv
    · rename_i acc hacc
      rw [xseg_cons] at hx
      have eg : (Int.ofNat g.1 : Int) = (g.1 : Int) := rfl
      by_cases h1 : k < g.1
      · rw [if_pos h1] at hx
        cases hx
        rw [xle_iff.mpr (show (0 : Int) ≤ hi by omega), xle_iff.mpr (show lo ≤ Int.ofNat g.1 - 1 by omega)] at hv
        simp only [Bool.and_self, cond_true] at hv
        split at hv
        · cases hv
        · rename_i q hq
          have hb := xelr_ok hS hz hq
          cases hv
          cases acc with
          | none => exact ⟨q, rfl, hb⟩
          | some r => exact ⟨_, rfl, xjn_l hb⟩
      · rw [if_neg h1] at hx
        obtain ⟨q, e1, e2⟩ := xsjoin_ok hS hacc hx hz (by omega) (by omega)
        subst e1
        cases hc : (xle 0 hi && xle lo (Int.ofNat g.1 - 1)) with
        | true =>
          rw [hc] at hv
          simp only [cond_true] at hv
          split at hv
          · cases hv
          · rename_i q' hq'
            cases hv
            exact ⟨_, rfl, xjn_r e2⟩
        | false =>
          rw [hc] at hv
          simp only [cond_false, Option.some.injEq] at hv
          subst hv
          exact ⟨q, rfl, e2⟩
/-- a place of an array of n is read -/
def xLd (σ : List xB) (gs : List xG) (n : Nat) (i : xI) : xR := match xrg σ i with
  | none => none
  | some r => bif xle 0 r.1 && xle r.2 (Int.ofNat n - 1) then (bif xeq r.1 r.2 then (match xseg gs r.1.toNat with
      | some (.inl a) => some (a, σ)
      | some (.inr q) => some (xmk σ q.1 q.2)
      | none => none) else (match xsjoin σ gs r.1 r.2 with
      | some (some q) => some (xmk σ q.1 q.2)
      | _ => none)) else none
theorem xLd_ok {ρ : List Int} {σ : List xB} {gs : List xG} {n : Nat} {i : xI} {r : xI × List xB} {z : Int} {f : Nat → Int} (hv : xLd σ gs n i = some r) (hS : xSt ρ σ) (hi : xe ρ i = some z) (hf : xarr ρ gs n f) : 0 ≤ z ∧ z < n ∧ xGood ρ r (f z.toNat) := by
  unfold xLd at hv
  split at hv
  · cases hv
  · rename_i q hq
    have hb := xrg_ok hS hi hq
    obtain ⟨h1, hv⟩ := x_bifO hv
    rw [Bool.and_eq_true, xle_iff, xle_iff] at h1
    have en : (Int.ofNat n : Int) = (n : Int) := rfl
    have hz : 0 ≤ z ∧ z < n := by omega
    refine ⟨hz.1, hz.2, ?_⟩
    obtain ⟨u, hu, hel⟩ := hf z.toNat (by omega)
    cases hc : xeq q.1 q.2 with
    | true =>
      rw [hc] at hv
      simp only [cond_true] at hv
      have := xeq_iff.mp hc
      have e : q.1 = z := by omega
      rw [e, hu] at hv
      split at hv
      · rename_i a ha
        cases ha
        cases hv
        exact ⟨ρ, xX.rf ρ, hS, hel⟩
      · rename_i b hb2
        cases hb2
        cases hv
        exact xmk_ok hS hel.1 hel.2
      · cases hv
    | false =>
      rw [hc] at hv
      simp only [cond_false] at hv
      split at hv
      · rename_i w hw
        cases hv
        obtain ⟨w', e1, e2⟩ := xsjoin_ok hS hw hu hel (by omega) (by omega)
        cases e1
        exact xmk_ok hS e2.1 e2.2
      · cases hv
/-- a place of an array of n is written -/
def xSta (σ : List xB) (gs : List xG) (n : Nat) (i v : xI) : Option (List xG) := match xrg σ i with
  | none => none
  | some r => bif xle 0 r.1 && xle r.2 (Int.ofNat n - 1) then (bif xeq r.1 r.2 then some (xsset gs r.1.toNat (.inl v)) else (match xrg σ v with
      | some q => xsweak σ gs r.1 r.2 q
      | none => none)) else none
theorem xSta_ok {ρ : List Int} {σ : List xB} {gs gs' : List xG} {n : Nat} {i v : xI} {z y : Int} {f : Nat → Int} (hv : xSta σ gs n i v = some gs') (hS : xSt ρ σ) (hi : xe ρ i = some z) (hy : xe ρ v = some y) (hf : xarr ρ gs n f) : 0 ≤ z ∧ z < n ∧ xarr ρ gs' n (fun k => if k = z.toNat then y else f k) := by
  unfold xSta at hv
  split at hv
  · cases hv
  · rename_i q hq
    have hb := xrg_ok hS hi hq
    obtain ⟨h1, hv⟩ := x_bifO hv
    rw [Bool.and_eq_true, xle_iff, xle_iff] at h1
    have en : (Int.ofNat n : Int) = (n : Int) := rfl
    have hz : 0 ≤ z ∧ z < n := by omega
    refine ⟨hz.1, hz.2, fun k hk => ?_⟩
    obtain ⟨u, hu, hel⟩ := hf k hk
    cases hc : xeq q.1 q.2 with
    | true =>
      rw [hc] at hv
      simp only [cond_true, Option.some.injEq] at hv
      have := xeq_iff.mp hc
      have e : q.1 = z := by omega
      subst hv
      rw [e]
      obtain ⟨u0, hu0, -⟩ := hf z.toNat (by omega)
      rw [xseg_set gs z.toNat (.inl v) k ⟨u0, hu0⟩]
      by_cases h2 : k = z.toNat
      · rw [if_pos h2]
        refine ⟨_, rfl, ?_⟩
        simp only [if_pos h2]
        exact hy
      · rw [if_neg h2]
        refine ⟨u, hu, ?_⟩
        simp only [if_neg h2]
        exact hel
    | false =>
      rw [hc] at hv
      simp only [cond_false] at hv
      split at hv
      · rename_i w hw
        have hyb := xrg_ok hS hy hw
        obtain ⟨x', e1, e2, e3⟩ := xsweak_ok hS hv hu hel
        refine ⟨x', e1, ?_⟩
        by_cases h2 : k = z.toNat
        · simp only [if_pos h2]
          exact e3 (by omega) (by omega) y hyb.1 hyb.2
        · simp only [if_neg h2]
          exact e2
      · cases hv
end
section
/-! The world, and the instructions that read and write it. -/
def xHp (ρ : List Int) (ad ex : List Nat) (tys : List (ClassId × FieldType)) (h : List xC) (ws : va_W) : Prop := ws.map Prod.fst = ad ∧ xAll2 (fun x q => xcell xcn ρ ad ex tys x q.2) h ws
def xWd (D : va_G) (A : Nat → Prop) (s : State) (H : Heap) (locs : List Loc) (ρ : List Int) (ad ex : List Nat) (h : List xC) : Prop :=
  ∃ (ws : va_W) (tys : List (ClassId × FieldType)), va_K D xcl tys s ∧ va_P D xcl ws H ∧ va_D A ws ∧ va_S A s.heap H locs ∧ xHp ρ ad ex tys h ws
theorem xWd.mono {D : va_G} {A : Nat → Prop} {s : State} {H : Heap} {locs : List Loc} {ρ ρ' : List Int} {ad ex : List Nat} {h : List xC} (hX : xX ρ ρ') (hw : xWd D A s H locs ρ ad ex h) : xWd D A s H locs ρ' ad ex h := by
  obtain ⟨ws, tys, hK, hP, hD, hS, e, hh⟩ := hw
  exact ⟨ws, tys, hK, hP, hD, hS, e, hh.mono (fun a b hab => xcell.mono hX (xX.rf ad) (fun _ q => q) a b.2 hab)⟩
/-- a method's surroundings: the machine, its code, the words of the tables -/
def xCtx (p : Program) (s : State) (m : MethodId) (args : Array Value) (c : Code) (cc : ByteArray) (nL : Nat) (own : String) : Prop :=
  p.tables.exec = Jvm.exec ∧ c.code = cc ∧ c.maxLocals = nL ∧ s.vm.findClass own = some m.cls ∧ (∀ w ∈ lw_tbl, goodWord w = true → w.before args s = true) ∧ (∀ w ∈ lw_tbl, xNest w = true → va_Nw w s)
/-- the words that every method has -/
def xU : List Jvm.Cond := lw_tbl.filter goodWord
theorem xU_mem {w : Jvm.Cond} (h : w ∈ lw_tbl) (g : goodWord w = true) : w ∈ xU := List.mem_filter.mpr ⟨h, g⟩
theorem xU_of {w : Jvm.Cond} (h : w ∈ xU) : w ∈ lw_tbl ∧ goodWord w = true := List.mem_filter.mp h
section XH
variable {p : Program} {l : Launch} {e : Env} {R : Room} {s : State} {m : MethodId} {args : Array Value} {below : List Frame} {meth : Method} {c : Code} {H : Heap} {locs : List Loc} {cells slots : Nat} {Q : State → Prop} {cc : ByteArray} {pc : Nat} {ls : Array Slot} {st rest : List Value} {ρ : List Int} {ad ex : List Nat} {nL : Nat} {loc : List (Nat × xV)} {σ : List xB} {len : Nat} {i : Instr} {D : va_G} {A : Nat → Prop} {own : String} {h : List xC}
theorem xCtx.u (C : xCtx p s m args c cc nL own) : ∀ w ∈ xU, w.before args s = true := fun w hw => C.2.2.2.2.1 w (xU_of hw).1 (xU_of hw).2
/-- a cell of the world, and the machine's -/
theorem xHp.at {tys : List (ClassId × FieldType)} {ws : va_W} (hh : xHp ρ ad ex tys h ws) {k q : Nat} {x : xC} (hk : h[k]? = some x) (hq : ad[k]? = some q) : ∃ y, ws[k]? = some (q, y) ∧ xcell xcn ρ ad ex tys x y := by
  obtain ⟨b, h1, h2⟩ := hh.2.get hk
  obtain ⟨a, y⟩ := b
  have h3 : (ws.map Prod.fst)[k]? = some a := by rw [List.getElem?_map, h1]; rfl
  rw [hh.1, hq] at h3
  cases h3
  exact ⟨y, h1, h2⟩
theorem xHp.put {tys : List (ClassId × FieldType)} {ws : va_W} (hh : xHp ρ ad ex tys h ws) {k q : Nat} {x : xC} {y : va_E} (hq : ad[k]? = some q) (hx : xcell xcn ρ ad ex tys x y) : xHp ρ ad ex tys (h.set k x) (ws.set k (q, y)) := by
  refine ⟨?_, hh.2.set k hx⟩
  rw [List.map_set, hh.1]
  apply List.ext_getElem?
  intro j
  by_cases hj : k = j
  · subst hj
    rw [List.getElem?_set_self', hq]
    rfl
  · rw [List.getElem?_set_ne hj]
def xGetf (h : List xC) (a b : Nat) (v : xV) : Option xV := match v with
  | .inr (.inr (.inl (some j))) => (match h[j]? with
    | some (.inl o) => bif Nat.beq o.1 a then o.2[b]? else none
    | _ => none)
  | _ => none
/-- the link of a field: plain (0), or a nest mate's -/
def xFW (own : String) (idx a b nest : Nat) : Jvm.Cond := match xcl[a]? with
  | some r => (match nest with
    | 0 => .fieldLink own idx (r.2.1 b).1 (r.2.1 b).2.1 (r.2.1 b).2.2.1
    | _ => .fieldLinkNest own idx (r.2.1 b).1 (r.2.1 b).2.1 (r.2.1 b).2.2.1 "StarchGarrison")
  | none => .tt
def xFN (a b : Nat) : Bool := match xcl[a]? with
  | some r => Nat.blt b r.2.2
  | none => false
theorem xFN_ok {a b : Nat} (h : xFN a b = true) : ∃ C T N, xcl[a]? = some (C, T, N) ∧ b < N := by
  unfold xFN at h
  split at h
  · rename_i r hr
    exact ⟨r.1, r.2.1, r.2.2, hr, x_blt h⟩
  · cases h
theorem xGetf_ok {a b idx nest : Nat} {v v' : xV} {w : Value} (hv : xGetf h a b v = some v') (C : xCtx p s m args c cc nL own) (hd : decode cc pc = .ok (.getfield idx, 3)) (hN : xFN a b = true) (hW : xFW own idx a b nest ∈ lw_tbl) (hw : xv ρ ad ex v w) (hh : xWd D A s H locs ρ ad ex h)
    (k : ∀ w', xv ρ ad ex v' w' → W p l e R s m args below meth c H locs cells slots Q (F0 m (pc + 3) ls (w' :: rest))) : W p l e R s m args below meth c H locs cells slots Q (F0 m pc ls (w :: rest)) := by
  obtain ⟨hx, hb, -, hown, hg, hn⟩ := id C
  unfold xGetf at hv
  split at hv
  · rename_i j
    split at hv
    · rename_i o ho
      obtain ⟨e1, hv⟩ := x_bifO hv
      have e1 := Nat.eq_of_beq_eq_true e1
      obtain ⟨q, hq, rfl⟩ := hw
      obtain ⟨ws, tys, hK, hP, hD, hS, hh⟩ := hh
      obtain ⟨y, y1, vs, rfl, y3⟩ := hh.at ho hq
      obtain ⟨w', w1, w2⟩ := y3.get hv
      obtain ⟨Cn, T, N, hc, hbN⟩ := xFN_ok hN
      have hcl := xcl_ok a Cn T N hc
      rw [e1] at y1
      have hin : ∀ w ∈ u_ws Cn T N, w ∈ xU := fun w q => xU_mem (hcl.1 w q).1 (hcl.1 w q).2
      unfold xFW at hW
      rw [hc] at hW
      dsimp only at hW
      split at hW
      · exact va_get (D := D) (C := Cn) (T := T) (N := N) hx hb C.u hin hown hK hP j y1 hc b hbN (hg _ hW rfl) (fun _ q => q) w1 hd (k w' w2)
      · exact va_getN (D := D) (C := Cn) (T := T) (N := N) hx hb C.u hin hown hK hP j y1 hc b hbN (va_Nw.use rfl (hn _ hW rfl)) (fun _ q => q) w1 hd (k w' w2)
    · cases hv
  · cases hv
def xfitV (ty : FieldType) (v : xV) : Bool := match ty, v with
  | .int, .inl _ => true
  | .long, .inr (.inl _) => true
  | .object _, .inr (.inr _) => true
  | .array _, .inr (.inr _) => true
  | _, _ => false
theorem xfitV_ok {ty : FieldType} {v : xV} {w : Value} (hf : xfitV ty v = true) (hw : xv ρ ad ex v w) : narrow ty w = w ∧ fits ty w = true := by
  unfold xfitV at hf
  split at hf
  · obtain ⟨x, rfl, -⟩ := hw
    exact ⟨rfl, rfl⟩
  · obtain ⟨x, rfl, -⟩ := hw
    exact ⟨rfl, rfl⟩
  · rename_i u
    rcases u with (_ | u) | u
    · have hw : w = .null := hw
      subst hw
      exact ⟨rfl, rfl⟩
    · obtain ⟨x, -, rfl⟩ := hw
      exact ⟨rfl, rfl⟩
    · obtain ⟨x, -, rfl⟩ := hw
      exact ⟨rfl, rfl⟩
  · rename_i u
    rcases u with (_ | u) | u
    · have hw : w = .null := hw
      subst hw
      exact ⟨rfl, rfl⟩
    · obtain ⟨x, -, rfl⟩ := hw
      exact ⟨rfl, rfl⟩
    · obtain ⟨x, -, rfl⟩ := hw
      exact ⟨rfl, rfl⟩
  · cases hf
/-- the flag of a final field -/
def xFF (a b : Nat) : Bool := match xcl[a]? with
  | some r => (r.2.1 b).2.2.2
  | none => false
def xPutf (h : List xC) (a b : Nat) (v u : xV) : Option (List xC) := match u with
  | .inr (.inr (.inl (some j))) => (match h[j]? with
    | some (.inl o) => bif Nat.beq o.1 a && (Nat.blt b o.2.length && xfitV (xct a b) v) then some (h.set j (.inl (o.1, o.2.set b v))) else none
    | _ => none)
  | _ => none
theorem xPutf_ok {a b idx nest : Nat} {v u : xV} {w wu : Value} {h' : List xC} (hv : xPutf h a b v u = some h') (C : xCtx p s m args c cc nL own) (hd : decode cc pc = .ok (.putfield idx, 3)) (hN : xFN a b = true) (hW : xFW own idx a b nest ∈ lw_tbl) (hF : xFF a b = false ∨ (xFF a b = true ∧ nest = 0 ∧ own = xcn a ∧ meth.name = "<init>" ∧ ∀ Cn T N, xcl[a]? = some (Cn, T, N) → (T b).1 = Cn)) (hw : xv ρ ad ex v w) (hwu : xv ρ ad ex u wu) (hh : xWd D A s H locs ρ ad ex h)
    (k : ∀ H' locs', xWd D A s H' locs' ρ ad ex h' → W p l e R s m args below meth c H' locs' cells slots Q (F0 m (pc + 3) ls rest)) : W p l e R s m args below meth c H locs cells slots Q (F0 m pc ls (w :: wu :: rest)) := by
  obtain ⟨hx, hb, -, hown, hg, hn⟩ := id C
  unfold xPutf at hv
  split at hv
  · rename_i j
    split at hv
    · rename_i o ho
      obtain ⟨e1, hv⟩ := x_bif hv
      obtain ⟨e1, e2, e3⟩ := x_and3 e1
      have e1 := Nat.eq_of_beq_eq_true e1
      have e2 := x_blt e2
      obtain ⟨q, hq, rfl⟩ := hwu
      obtain ⟨ws, tys, hK, hP, hD, hS, hh⟩ := hh
      obtain ⟨y, y1, vs, rfl, y3⟩ := hh.at ho hq
      obtain ⟨Cn, T, N, hc, hbN⟩ := xFN_ok hN
      have hcl := xcl_ok a Cn T N hc
      obtain ⟨hf1, hf2⟩ := xfitV_ok e3 hw
      have hin : ∀ w ∈ u_ws Cn T N, w ∈ xU := fun w q => xU_mem (hcl.1 w q).1 (hcl.1 w q).2
      have hlen : b < vs.length := by rw [← y3.len]; exact e2
      have hcell : xcell xcn ρ ad ex tys (.inl (o.1, o.2.set b v)) (.inr (a, vs.set b w)) := ⟨vs.set b w, by rw [e1], y3.set b hw⟩
      rw [e1] at y1
      unfold xFW at hW
      rw [hc] at hW
      have hFe : xFF a b = (T b).2.2.2 := by unfold xFF; rw [hc]
      rw [hFe] at hF
      dsimp only at hW
      have fin : ∀ (H1 : Heap) (locs1 : List Loc), va_P D xcl (ws.set j (q, .inr (a, vs.set b w))) H1 → va_D A (ws.set j (q, .inr (a, vs.set b w))) → va_S A s.heap H1 locs1 → W p l e R s m args below meth c H1 locs1 cells slots Q (F0 m (pc + 3) ls rest) := fun H1 locs1 g1 g2 g3 => by
        refine k H1 locs1 ⟨_, tys, hK, g1, g2, g3, ?_⟩
        rw [← hv]
        exact hh.put hq hcell
      split at hW
      · rcases hF with hF | ⟨hF, -, ho1, hi1, hi2⟩
        · exact va_put (D := D) (C := Cn) (T := T) (N := N) (ty := xct a b) hx hb C.u hin (xct a) hcl.2.1 hcl.2.2.1 hown hK hP hD hS j y1 hc b hbN (hg _ hW rfl) (fun _ q => q) hF (hcl.2.1 b hbN) hf1 hf2 hlen hd fin
        · exact va_putF (D := D) (C := Cn) (T := T) (N := N) (ty := xct a b) hx hb C.u hin (xct a) hcl.2.1 hcl.2.2.1 hown hK hP hD hS j y1 hc b hbN (hg _ hW rfl) (fun _ q => q) hF hi1 (by rw [hi2 Cn T N hc, ho1, hcl.2.2.2]) (hcl.2.1 b hbN) hf1 hf2 hlen hd fin
      · rename_i nx hnx
        rcases hF with hF | ⟨hF, h0, -⟩
        · exact va_putN (D := D) (C := Cn) (T := T) (N := N) (ty := xct a b) hx hb C.u hin (xct a) hcl.2.1 hcl.2.2.1 hown hK hP hD hS j y1 hc b hbN (va_Nw.use rfl (hn _ hW rfl)) (fun _ q => q) hF (hcl.2.1 b hbN) hf1 hf2 hlen hd fin
        · exact absurd h0 (fun q => hnx q)
    · cases hv
  · cases hv
/-- an element of an array is loaded; t: the instruction's kind (0 ints, 1 bytes and booleans, 2 longs) -/
def xAld (t : Nat) (σ : List xB) (h : List xC) (i : xI) (u : xV) : Option (xV × List xB) := match u with
  | .inr (.inr (.inl (some j))) => (match h[j]? with
    | some (.inr (.inl a)) => bif (match t with
        | 0 => Nat.beq a.1 0
        | 1 => Nat.blt 0 a.1
        | _ => false) then (match xLd σ a.2.2 a.2.1 i with
      | some r => some (.inl r.1, r.2)
      | none => none) else none
    | some (.inr (.inr (.inl a))) => bif Nat.beq t 2 then (match xLd σ a.2 a.1 i with
      | some r => some (.inr (.inl r.1), r.2)
      | none => none) else none
    | _ => none)
  | _ => none
theorem x_mem_tys {α : Type} {l : List α} {a : α} (h : a ∈ l) : ∃ k : Nat, l[k]? = some a := List.getElem?_of_mem h
theorem x_tn (i : Int32) : i.toNatClampNeg = i.toInt.toNat := rfl
def xAldI : Nat → Instr
  | 0 => .iaload
  | 1 => .baload
  | _ => .laload
theorem xAld_ok {t : Nat} {ix : xI} {u : xV} {x : Int32} {wu : Value} {r : xV × List xB} (hv : xAld t σ h ix u = some r) (C : xCtx p s m args c cc nL own) (hd : decode cc pc = .ok (xAldI t, 1)) (hS : xSt ρ σ) (hi : xe ρ ix = some x.toInt) (hwu : xv ρ ad ex u wu) (hh : xWd D A s H locs ρ ad ex h)
    (k : ∀ w ρ', xX ρ ρ' → xSt ρ' r.2 → xv ρ' ad ex r.1 w → W p l e R s m args below meth c H locs cells slots Q (F0 m (pc + 1) ls (w :: rest))) : W p l e R s m args below meth c H locs cells slots Q (F0 m pc ls (.int x :: wu :: rest)) := by
  obtain ⟨hx, hb, -, hown, hg, hn⟩ := id C
  rcases u with u | u | (_ | j) | u <;> first | (simp [xAld] at hv; done) | skip
  · unfold xAld at hv
    dsimp only at hv
    split at hv
    · rename_i a ha
      obtain ⟨q, hq, rfl⟩ := hwu
      obtain ⟨ws, tys, hK, hP, hD, hSS, hh⟩ := hh
      obtain ⟨e1, hv⟩ := x_bifO hv
      obtain ⟨y, y1, cA, f, rfl, y2, y3⟩ := hh.at ha hq
      obtain ⟨t0, ht0⟩ := x_mem_tys y2
      split at hv
      · rename_i r' hr'
        obtain ⟨z1, z2, ρ', g1, g2, g3⟩ := xLd_ok hr' hS hi y3
        cases hv
        have hin : vp_in x a.2.1 := vp_in_iff.mpr ⟨z1, z2⟩
        obtain ⟨ty, an, ag⟩ := a
        match t, e1, hd with
        | 0, e1, hd =>
          have e1 : ty = 0 := Nat.eq_of_beq_eq_true e1
          subst e1
          exact va_iald hx hb hK hP j t0 y1 ht0 hin hd (k _ ρ' g1 g2 ⟨_, rfl, g3⟩)
        | 1, e1, hd =>
          match ty, e1, ht0, y1 with
          | 0, e1, _, _ => cases e1
          | 1, _, ht0, y1 => exact va_bald hx hb hK hP j t0 y1 ht0 hin hd (k _ ρ' g1 g2 ⟨_, rfl, g3⟩)
          | ty + 2, _, ht0, y1 => exact va_zald hx hb hK hP j t0 y1 ht0 hin hd (k _ ρ' g1 g2 ⟨_, rfl, g3⟩)
        | t + 2, e1, hd => cases e1
      · cases hv
    · rename_i a ha
      obtain ⟨q, hq, rfl⟩ := hwu
      obtain ⟨ws, tys, hK, hP, hD, hSS, hh⟩ := hh
      obtain ⟨e1, hv⟩ := x_bifO hv
      have e1 := Nat.eq_of_beq_eq_true e1
      subst e1
      obtain ⟨y, y1, cA, f, rfl, y2, y3⟩ := hh.at ha hq
      obtain ⟨t0, ht0⟩ := x_mem_tys y2
      split at hv
      · rename_i r' hr'
        obtain ⟨z1, z2, ρ', g1, g2, g3⟩ := xLd_ok hr' hS hi y3
        cases hv
        have hin : vp_in x a.1 := vp_in_iff.mpr ⟨z1, z2⟩
        exact va_lald hx hb hK hP j t0 y1 ht0 hin hd (k _ ρ' g1 g2 ⟨_, rfl, g3⟩)
      · cases hv
    · cases hv
/-- an element of an array is stored -/
def xAst (t : Nat) (σ : List xB) (h : List xC) (v : xV) (i : xI) (u : xV) : Option (List xC) := match u with
  | .inr (.inr (.inl (some j))) => (match h[j]?, v with
    | some (.inr (.inl a)), .inl b => bif (match t with
        | 0 => Nat.beq a.1 0
        | 1 => (match xrg σ b with
          | some r => (match a.1 with
            | 0 => false
            | 1 => xle (-128) r.1 && xle r.2 127
            | _ => xle 0 r.1 && xle r.2 1)
          | none => false)
        | _ => false) then (match xSta σ a.2.2 a.2.1 i b with
      | some gs => some (h.set j (.inr (.inl (a.1, a.2.1, gs))))
      | none => none) else none
    | some (.inr (.inr (.inl a))), .inr (.inl b) => bif Nat.beq t 2 then (match xSta σ a.2 a.1 i b with
      | some gs => some (h.set j (.inr (.inr (.inl (a.1, gs)))))
      | none => none) else none
    | _, _ => none)
  | _ => none
theorem x_narB {y : Int32} (h1 : -128 ≤ y.toInt) (h2 : y.toInt ≤ 127) : vp_nar .byte y = y := by
  rw [vp_nar_byte]
  apply Int32.toInt_inj.mp
  rw [Int8.toInt_toInt32, Int32.toInt_toInt8, Int.bmod_eq_of_le (by omega) (by omega)]
theorem x_narZ {y : Int32} (h1 : 0 ≤ y.toInt) (h2 : y.toInt ≤ 1) : narrow .boolean (.int y) = .int y := by
  have h : y = 0 ∨ y = 1 := by
    have d0 : (0 : Int32).toInt = 0 := rfl
    have d1 : (1 : Int32).toInt = 1 := rfl
    rcases (show y.toInt = 0 ∨ y.toInt = 1 by omega) with q | q
    · exact Or.inl (Int32.toInt_inj.mp (by rw [q, d0]))
    · exact Or.inr (Int32.toInt_inj.mp (by rw [q, d1]))
  rcases h with rfl | rfl <;> rfl
theorem x_narZ2 {y : Int32} (h1 : 0 ≤ y.toInt) (h2 : y.toInt ≤ 1) : vp_nar .boolean y = y := by
  unfold vp_nar
  rw [x_narZ h1 h2]
def xAstI : Nat → Instr
  | 0 => .iastore
  | 1 => .bastore
  | _ => .lastore
theorem xAst_ok {t : Nat} {v : xV} {w : Value} {ix : xI} {u : xV} {x : Int32} {wu : Value} {h' : List xC} (hv : xAst t σ h v ix u = some h') (C : xCtx p s m args c cc nL own) (hd : decode cc pc = .ok (xAstI t, 1)) (hS : xSt ρ σ) (hw : xv ρ ad ex v w) (hi : xe ρ ix = some x.toInt) (hwu : xv ρ ad ex u wu) (hh : xWd D A s H locs ρ ad ex h)
    (k : ∀ H' locs', xWd D A s H' locs' ρ ad ex h' → W p l e R s m args below meth c H' locs' cells slots Q (F0 m (pc + 1) ls rest)) : W p l e R s m args below meth c H locs cells slots Q (F0 m pc ls (w :: .int x :: wu :: rest)) := by
  obtain ⟨hx, hb, -, hown, hg, hn⟩ := id C
  rcases u with u | u | (_ | j) | u <;> first | (simp [xAst] at hv; done) | skip
  · unfold xAst at hv
    dsimp only at hv
    split at hv
    · rename_i a b ha
      obtain ⟨q, hq, rfl⟩ := hwu
      obtain ⟨ws, tys, hK, hP, hD, hSS, hh⟩ := hh
      obtain ⟨e1, hv⟩ := x_bifO hv
      obtain ⟨y, y1, cA, f, rfl, y2, y3⟩ := hh.at ha hq
      obtain ⟨t0, ht0⟩ := x_mem_tys y2
      obtain ⟨z, rfl, hz⟩ := hw
      split at hv
      · rename_i gs hgs
        obtain ⟨z1, z2, g3⟩ := xSta_ok hgs hS hi hz y3
        cases hv
        have hin : vp_in x a.2.1 := vp_in_iff.mpr ⟨z1, z2⟩
        have fin : ∀ (H1 : Heap) (locs1 : List Loc), va_P D xcl (ws.set j (q, .inl (cA, a.2.1, .inl (upd f x.toNatClampNeg z)))) H1 → va_D A (ws.set j (q, .inl (cA, a.2.1, .inl (upd f x.toNatClampNeg z)))) → va_S A s.heap H1 locs1 → W p l e R s m args below meth c H1 locs1 cells slots Q (F0 m (pc + 1) ls rest) := fun H1 locs1 k1 k2 k3 => by
          refine k H1 locs1 ⟨_, tys, hK, k1, k2, k3, hh.put hq ?_⟩
          refine ⟨cA, _, rfl, y2, fun jj hjj => ?_⟩
          obtain ⟨uu, u1, u2⟩ := g3 jj hjj
          refine ⟨uu, u1, ?_⟩
          have : (upd f x.toNatClampNeg z jj).toInt = if jj = x.toInt.toNat then z.toInt else (f jj).toInt := by
            unfold upd
            rw [x_tn]
            by_cases hq : jj = x.toInt.toNat
            · rw [if_pos hq, if_pos hq]
            · rw [if_neg hq, if_neg hq]
          show xel ρ uu (upd f x.toNatClampNeg z jj).toInt
          rw [this]
          exact u2
        obtain ⟨ty, an, ag⟩ := a
        match t, e1, hd with
        | 0, e1, hd =>
          have e1 : ty = 0 := Nat.eq_of_beq_eq_true e1
          subst e1
          exact va_iast hx hb hK hP hD hSS j t0 y1 ht0 hin hd fin
        | 1, e1, hd =>
          dsimp only at e1
          cases hr : xrg σ b with
          | none => rw [hr] at e1; cases e1
          | some r =>
            rw [hr] at e1
            have hbz := xrg_ok hS hz hr
            match ty, e1, ht0, y1, fin with
            | 0, e1, _, _, _ => cases e1
            | 1, e1, ht0, y1, fin =>
              have e1 : (xle (-128) r.1 && xle r.2 127) = true := e1
              rw [Bool.and_eq_true, xle_iff, xle_iff] at e1
              refine va_bast hx hb hK hP hD hSS j t0 y1 ht0 hin hd (x := z) ?_
              rw [x_narB (by omega) (by omega)]
              exact fin
            | ty + 2, e1, ht0, y1, fin =>
              have e1 : (xle 0 r.1 && xle r.2 1) = true := e1
              rw [Bool.and_eq_true, xle_iff, xle_iff] at e1
              refine va_zast hx hb hK hP hD hSS j t0 y1 ht0 hin hd (x := z) ?_
              rw [x_narZ2 (by omega) (by omega)]
              exact fin
        | t + 2, e1, hd => cases e1
      · cases hv
    · rename_i a b ha
      obtain ⟨q, hq, rfl⟩ := hwu
      obtain ⟨ws, tys, hK, hP, hD, hSS, hh⟩ := hh
      obtain ⟨e1, hv⟩ := x_bifO hv
      have e1 := Nat.eq_of_beq_eq_true e1
      subst e1
      obtain ⟨y, y1, cA, f, rfl, y2, y3⟩ := hh.at ha hq
      obtain ⟨t0, ht0⟩ := x_mem_tys y2
      obtain ⟨z, rfl, hz⟩ := hw
      split at hv
      · rename_i gs hgs
        obtain ⟨z1, z2, g3⟩ := xSta_ok hgs hS hi hz y3
        cases hv
        have hin : vp_in x a.1 := vp_in_iff.mpr ⟨z1, z2⟩
        refine va_last hx hb hK hP hD hSS j t0 y1 ht0 hin hd (fun H1 locs1 k1 k2 k3 => ?_)
        refine k H1 locs1 ⟨_, tys, hK, k1, k2, k3, hh.put hq ?_⟩
        refine ⟨cA, _, rfl, y2, fun jj hjj => ?_⟩
        obtain ⟨uu, u1, u2⟩ := g3 jj hjj
        refine ⟨uu, u1, ?_⟩
        have : (vp_updL f x.toNatClampNeg z jj).toInt = if jj = x.toInt.toNat then z.toInt else (f jj).toInt := by
          unfold vp_updL
          rw [x_tn]
          by_cases hq : jj = x.toInt.toNat
          · rw [if_pos hq, if_pos hq]
          · rw [if_neg hq, if_neg hq]
        show xel ρ uu (vp_updL f x.toNatClampNeg z jj).toInt
        rw [this]
        exact u2
      · cases hv
    · cases hv
/-- an array's length -/
def xLen (h : List xC) (u : xV) : Option xV := match u with
  | .inr (.inr (.inl (some j))) => (match h[j]? with
    | some (.inr (.inl a)) => bif Nat.blt a.2.1 1000000 then some (.inl (none, Int.ofNat a.2.1)) else none
    | some (.inr (.inr (.inl a))) => bif Nat.blt a.1 1000000 then some (.inl (none, Int.ofNat a.1)) else none
    | _ => none)
  | _ => none
theorem x_nat32 {n : Nat} (h : n < 1000000) : (Int32.ofNat n).toInt = (n : Int) := nI_toInt (by omega)
theorem xLen_ok {u v : xV} {wu : Value} (hv : xLen h u = some v) (C : xCtx p s m args c cc nL own) (hd : decode cc pc = .ok (.arraylength, 1)) (hwu : xv ρ ad ex u wu) (hh : xWd D A s H locs ρ ad ex h)
    (k : ∀ w, xv ρ ad ex v w → W p l e R s m args below meth c H locs cells slots Q (F0 m (pc + 1) ls (w :: rest))) : W p l e R s m args below meth c H locs cells slots Q (F0 m pc ls (wu :: rest)) := by
  obtain ⟨hx, hb, -, hown, hg, hn⟩ := id C
  rcases u with u | u | (_ | j) | u <;> first | (simp [xLen] at hv; done) | skip
  · unfold xLen at hv
    dsimp only at hv
    split at hv
    · rename_i a ha
      obtain ⟨q, hq, rfl⟩ := hwu
      obtain ⟨ws, tys, hK, hP, hD, hSS, hh⟩ := hh
      obtain ⟨e1, hv⟩ := x_bif hv
      subst hv
      obtain ⟨y, y1, cA, f, rfl, y2, y3⟩ := hh.at ha hq
      obtain ⟨t0, ht0⟩ := x_mem_tys y2
      exact va_alen hx hb hK hP j t0 y1 ht0 rfl hd (k _ ⟨_, rfl, by rw [x_nat32 (x_blt e1)]; rfl⟩)
    · rename_i a ha
      obtain ⟨q, hq, rfl⟩ := hwu
      obtain ⟨ws, tys, hK, hP, hD, hSS, hh⟩ := hh
      obtain ⟨e1, hv⟩ := x_bif hv
      subst hv
      obtain ⟨y, y1, cA, f, rfl, y2, y3⟩ := hh.at ha hq
      obtain ⟨t0, ht0⟩ := x_mem_tys y2
      exact va_alen hx hb hK hP j t0 y1 ht0 rfl hd (k _ ⟨_, rfl, by rw [x_nat32 (x_blt e1)]; rfl⟩)
    · cases hv
/-- an element of an array of cells: each that it can be -/
def xCasesGo (σ : List xB) (i : xI) (r : xB) : Int → List (Option Nat) → List (List xB × Option Nat)
  | _, [] => []
  | j, o :: t => bif xle r.1 j && xle j r.2 then (xput σ i j j, o) :: xCasesGo σ i r (j + 1) t else xCasesGo σ i r (j + 1) t
theorem xCasesGo_ok {ix : xI} {r : xB} {z : Int} (hz : r.1 ≤ z ∧ z ≤ r.2) : ∀ {es : List (Option Nat)} {j : Int} {n : Nat} {o : Option Nat}, es[n]? = some o → z = j + n → (xput σ ix z z, o) ∈ xCasesGo σ ix r j es
  | [], _, _, _, h, _ => by simp at h
  | x :: t, j, 0, o, h, hn => by
    simp at h
    subst h
    have e : z = j := by omega
    unfold xCasesGo
    rw [xle_iff.mpr (show r.1 ≤ j by omega), xle_iff.mpr (show j ≤ r.2 by omega), e]
    exact List.mem_cons_self
  | x :: t, j, n + 1, o, h, hn => by
    simp at h
    have := xCasesGo_ok (ix := ix) hz h (show z = j + 1 + n by omega)
    unfold xCasesGo
    cases (xle r.1 j && xle j r.2) with
    | true => exact List.mem_cons_of_mem _ this
    | false => exact this
def xAald (σ : List xB) (h : List xC) (i : xI) (u : xV) : Option (List (List xB × Option Nat)) := match u with
  | .inr (.inr (.inl (some j))) => (match h[j]? with
    | some (.inr (.inr (.inr a))) => (match xrg σ i with
      | some r => bif xle 0 r.1 && xle r.2 (Int.ofNat a.2.length - 1) then some (xCasesGo σ i r 0 a.2) else none
      | none => none)
    | _ => none)
  | _ => none
theorem xAald_ok {ix : xI} {u : xV} {x : Int32} {wu : Value} {L : List (List xB × Option Nat)} (hv : xAald σ h ix u = some L) (C : xCtx p s m args c cc nL own) (hd : decode cc pc = .ok (.aaload, 1)) (hS : xSt ρ σ) (hi : xe ρ ix = some x.toInt) (hwu : xv ρ ad ex u wu) (hh : xWd D A s H locs ρ ad ex h)
    (k : ∀ q ∈ L, ∀ w, xSt ρ q.1 → xv ρ ad ex (.inr (.inr (.inl q.2))) w → W p l e R s m args below meth c H locs cells slots Q (F0 m (pc + 1) ls (w :: rest))) : W p l e R s m args below meth c H locs cells slots Q (F0 m pc ls (.int x :: wu :: rest)) := by
  obtain ⟨hx, hb, -, hown, hg, hn⟩ := id C
  rcases u with u | u | (_ | j) | u <;> first | (simp [xAald] at hv; done) | skip
  · unfold xAald at hv
    dsimp only at hv
    split at hv
    · rename_i a ha
      obtain ⟨q, hq, rfl⟩ := hwu
      obtain ⟨ws, tys, hK, hP, hD, hSS, hh⟩ := hh
      split at hv
      · rename_i r hr
        obtain ⟨e1, hv⟩ := x_bif hv
        subst hv
        rw [Bool.and_eq_true, xle_iff, xle_iff] at e1
        have hz := xrg_ok hS hi hr
        obtain ⟨y, y1, cA, f, rfl, y2, y3⟩ := hh.at ha hq
        obtain ⟨t0, ht0⟩ := x_mem_tys y2
        have el : (Int.ofNat a.2.length : Int) = (a.2.length : Int) := rfl
        have hin : vp_in x a.2.length := vp_in_iff.mpr ⟨by omega, by omega⟩
        obtain ⟨o, ho⟩ : ∃ o, a.2[x.toInt.toNat]? = some o := ⟨_, List.getElem?_eq_getElem (by omega)⟩
        refine va_aldq hx hb hK hP j t0 y1 ht0 hin hd ?_
        have hm := xCasesGo_ok (σ := σ) (ix := ix) hz ho (show x.toInt = 0 + (x.toInt.toNat : Int) by omega)
        refine k _ hm _ (xput_ok hS hi (Int.le_refl _) (Int.le_refl _)) ?_
        have ho2 := y3 _ o ho
        rw [x_tn]
        cases o with
        | none =>
          have ho2 : f x.toInt.toNat = none := ho2
          rw [ho2]
          rfl
        | some b =>
          obtain ⟨qq, q1, q2⟩ := ho2
          rw [q2]
          exact ⟨qq, q1, rfl⟩
      · cases hv
    · cases hv
/-- a cell is put into an array of cells, at a known place -/
def xAast (σ : List xB) (h : List xC) (v : xV) (i : xI) (u : xV) : Option (List xC) := match u, v with
  | .inr (.inr (.inl (some j))), .inr (.inr (.inl (some jv))) => (match h[j]?, h[jv]? with
    | some (.inr (.inr (.inr a))), some (.inl o) => (match xrg σ i with
      | some r => bif (Nat.beq o.1 a.1 && Nat.blt o.1 11) && (xeq r.1 r.2 && (xle 0 r.1 && xle r.2 (Int.ofNat a.2.length - 1))) then some (h.set j (.inr (.inr (.inr (a.1, a.2.set r.1.toNat (some jv)))))) else none
      | none => none)
    | _, _ => none)
  | _, _ => none
theorem xAast_ok {v : xV} {w : Value} {ix : xI} {u : xV} {x : Int32} {wu : Value} {h' : List xC} (hv : xAast σ h v ix u = some h') (C : xCtx p s m args c cc nL own) (hd : decode cc pc = .ok (.aastore, 1)) (hS : xSt ρ σ) (hw : xv ρ ad ex v w) (hi : xe ρ ix = some x.toInt) (hwu : xv ρ ad ex u wu) (hh : xWd D A s H locs ρ ad ex h)
    (k : ∀ H' locs', xWd D A s H' locs' ρ ad ex h' → W p l e R s m args below meth c H' locs' cells slots Q (F0 m (pc + 1) ls rest)) : W p l e R s m args below meth c H locs cells slots Q (F0 m pc ls (w :: .int x :: wu :: rest)) := by
  obtain ⟨hx, hb, -, hown, hg, hn⟩ := id C
  rcases u with u | u | (_ | j) | u <;> first | (simp [xAast] at hv; done) | skip
  rcases v with v | v | (_ | jv) | v <;> first | (simp [xAast] at hv; done) | skip
  · unfold xAast at hv
    dsimp only at hv
    split at hv
    · rename_i a o ha ho
      obtain ⟨q, hq, rfl⟩ := hwu
      obtain ⟨qv, hqv, rfl⟩ := hw
      obtain ⟨ws, tys, hK, hP, hD, hSS, hh⟩ := hh
      split at hv
      · rename_i r hr
        obtain ⟨e1, hv⟩ := x_bif hv
        subst hv
        rw [Bool.and_eq_true, Bool.and_eq_true, Bool.and_eq_true, Bool.and_eq_true, xle_iff, xle_iff, xeq_iff] at e1
        obtain ⟨⟨e1, e0⟩, e2, e3, e4⟩ := e1
        have e0 := x_blt e0
        have e1 := Nat.eq_of_beq_eq_true e1
        have hz := xrg_ok hS hi hr
        have ez : r.1 = x.toInt := by omega
        obtain ⟨y, y1, cA, f, rfl, y2, y3⟩ := hh.at ha hq
        obtain ⟨yv, v1, vs, rfl, v3⟩ := hh.at ho hqv
        obtain ⟨t0, ht0⟩ := x_mem_tys y2
        obtain ⟨rc, hrc⟩ : ∃ rc, xcl[o.1]? = some rc := ⟨_, List.getElem?_eq_getElem (by simpa [xcl] using e0)⟩
        have hcn : xcn a.1 = rc.1 := by
          unfold xcn
          rw [← e1, hrc]
        rw [hcn] at ht0
        have el : (Int.ofNat a.2.length : Int) = (a.2.length : Int) := rfl
        have hin : vp_in x a.2.length := vp_in_iff.mpr ⟨by omega, by omega⟩
        refine va_astq hx hb hK hP hD hSS j t0 jv o.1 y1 ht0 v1 hrc hin hd (fun H1 locs1 k1 k2 k3 => ?_)
        refine k H1 locs1 ⟨_, tys, hK, k1, k2, k3, hh.put hq ?_⟩
        refine ⟨cA, va_up f x.toNatClampNeg (some qv), by rw [List.length_set], y2, fun jj oo hoo => ?_⟩
        rw [ez] at hoo
        by_cases hj : x.toInt.toNat = jj
        · subst hj
          rw [List.getElem?_set_self (by omega)] at hoo
          cases hoo
          refine ⟨qv, hqv, ?_⟩
          unfold va_up
          rw [x_tn, if_pos rfl]
        · rw [List.getElem?_set_ne hj] at hoo
          have hoo2 := y3 jj oo hoo
          have eu : va_up f x.toNatClampNeg (some qv) jj = f jj := by
            unfold va_up
            rw [x_tn, if_neg (fun q => hj q.symm)]
          cases oo with
          | none =>
            show va_up f x.toNatClampNeg (some qv) jj = none
            rw [eu]
            exact hoo2
          | some b =>
            obtain ⟨b1, b2, b3⟩ := hoo2
            exact ⟨b1, b2, by rw [eu]; exact b3⟩
      · cases hv
    · cases hv
end XH
end
section
/-! Making cells; constants of the pool; the script; the library's own methods. -/
def xdv : FieldType → xV
  | .long => .inr (.inl (none, 0))
  | .object _ => .inr (.inr (.inl none))
  | .array _ => .inr (.inr (.inl none))
  | _ => .inl (none, 0)
def xdok : FieldType → Bool
  | .float => false
  | .double => false
  | _ => true
theorem xdv_ok {ρ : List Int} {ad ex : List Nat} {ty : FieldType} (h : xdok ty = true) : xv ρ ad ex (xdv ty) (defaultValue ty) := by
  cases ty <;> first | (cases h; done) | exact ⟨0, rfl, rfl⟩ | rfl
theorem xct_ok : ∀ ci, ci < 11 → ∀ k, k < 60 → xdok (xct ci k) = true := by decide +kernel
def xdf (ci N : Nat) : List xV := (List.range N).map (fun k => xdv (xct ci k))
section XM
variable {p : Program} {l : Launch} {e : Env} {R : Room} {s : State} {m : MethodId} {args : Array Value} {below : List Frame} {meth : Method} {c : Code} {H : Heap} {locs : List Loc} {cells slots : Nat} {Q : State → Prop} {cc : ByteArray} {pc : Nat} {ls : Array Slot} {st rest : List Value} {ρ : List Int} {ad ex : List Nat} {nL : Nat} {loc : List (Nat × xV)} {σ : List xB} {len : Nat} {i : Instr} {D : va_G} {A : Nat → Prop} {own : String} {h : List xC}
theorem xAll2_map {α β γ : Type} {P : β → γ → Prop} {f : α → β} {g : α → γ} : ∀ {L : List α}, (∀ x ∈ L, P (f x) (g x)) → xAll2 P (L.map f) (L.map g)
  | [], _ => trivial
  | _ :: _, h => ⟨h _ List.mem_cons_self, xAll2_map (fun x q => h x (List.mem_cons_of_mem _ q))⟩
/-- the world, a cell more -/
theorem xHp.push {tys tys' : List (ClassId × FieldType)} {ws : va_W} (hh : xHp ρ ad ex tys h ws) {q : Nat} {x : xC} {y : va_E} (ht : ∀ z ∈ tys, z ∈ tys') (hx : xcell xcn ρ (ad ++ [q]) ex tys' x y) : xHp ρ (ad ++ [q]) ex tys' (h ++ [x]) (ws ++ [(q, y)]) := by
  refine ⟨by rw [List.map_append, hh.1]; rfl, (hh.2.mono (fun a b hab => xcell.mono (xX.rf ρ) ⟨[q], rfl⟩ ht a b.2 hab)).app ⟨hx, trivial⟩⟩
theorem xHp.lenAd {tys : List (ClassId × FieldType)} {ws : va_W} (hh : xHp ρ ad ex tys h ws) : ad.length = h.length := by
  rw [← hh.1, List.length_map, hh.2.len]
theorem x_lastAd {q : Nat} (hl : ad.length = h.length) : (ad ++ [q])[h.length]? = some q := by
  rw [← hl, List.getElem?_concat_length]
/-- a new object of class a, of N fields -/
theorem xNew_ok {a N idx : Nat} {C : String} {T : u_T} (hc : xcl[a]? = some (C, T, N)) (hN60 : N ≤ 60) (Cx : xCtx p s m args c cc nL own) (hd : decode cc pc = .ok (.new idx, 3)) (h1 : Jvm.Cond.classLink own idx C ∈ lw_tbl) (h2 : Jvm.Cond.instantiable C N ∈ lw_tbl) (h3 : Jvm.Cond.initialized C ∈ lw_tbl) (hA : ∀ q, s.heap.size ≤ q → A q) (hcells : cells + 1 ≤ R.cells) (hslots : slots + N ≤ R.slots) (hh : xWd D A s H locs ρ ad ex h)
    (k : ∀ H' q, xWd D A s H' locs ρ (ad ++ [q]) ex (h ++ [.inl (a, xdf a N)]) → (ad ++ [q])[h.length]? = some q → W p l e R s m args below meth c H' locs (cells + 1) (slots + N) Q (F0 m (pc + 3) ls (.ref q :: rest))) : W p l e R s m args below meth c H locs cells slots Q (F0 m pc ls rest) := by
  obtain ⟨hx, hb, -, hown, hg, hn⟩ := id Cx
  obtain ⟨ws, tys, hK, hP, hD, hS, hh⟩ := hh
  have hcl := xcl_ok a C T N hc
  have ha : a < 11 := by
    have := (List.getElem?_eq_some_iff.mp hc).1
    simpa [xcl] using this
  have hin : ∀ w ∈ u_ws C T N, w ∈ xU := fun w q => xU_mem (hcl.1 w q).1 (hcl.1 w q).2
  refine va_new (ci := a) (fs := (List.range N).map (fun k => defaultValue (xct a k))) (C := C) (T := T) (N := N) hx hb Cx.u hin (xct a) hcl.2.1 hown (hg _ h1 rfl) (hg _ h2 rfl) (hg _ h3 rfl) hK hP hD hS hA hc (fun j hj => ?_) hcells hslots hd (fun q H1 k1 k2 k3 => ?_)
  · unfold vp_V
    rw [List.getD_eq_getElem?_getD, List.getElem?_map, List.getElem?_range hj]
    rfl
  · refine k H1 q ⟨_, tys, hK, k1, k2, k3, hh.push (fun z hz => hz) ?_⟩ (x_lastAd hh.lenAd)
    exact ⟨_, rfl, xAll2_map (fun x hx => xdv_ok (xct_ok a ha x (by rw [List.mem_range] at hx; omega)))⟩
def xat : ArrayType → Option Nat
  | .int => some 0
  | .byte => some 1
  | .boolean => some 2
  | .long => some 3
  | _ => none
def xnewC (t n : Nat) : xC := match t with
  | 3 => .inr (.inr (.inl (n, [(n, .inl (none, 0))])))
  | t => .inr (.inl (t, n, [(n, .inl (none, 0))]))
theorem xarr0 {n : Nat} {f : Nat → Int} (hf : ∀ j, f j = 0) : xarr ρ [(n, .inl (none, 0))] n f := fun j hj => by
  refine ⟨.inl (none, 0), ?_, ?_⟩
  · rw [xseg_cons, if_pos hj]
  · show xe ρ (none, 0) = some (f j)
    rw [hf j]
    rfl
/-- a new array of numbers -/
theorem xNewa_ok {at0 : ArrayType} {t n : Nat} {x : Int32} (ht : xat at0 = some t) (Cx : xCtx p s m args c cc nL own) (hd : decode cc pc = .ok (.newarray at0, 2)) (h1 : Jvm.Cond.arrayClass (newarray.typeOf at0) ∈ lw_tbl) (hA : ∀ q, s.heap.size ≤ q → A q) (hn : x.toInt = (n : Int)) (hsm : n < 1000000) (hcells : cells + 1 ≤ R.cells) (hslots : slots + n ≤ R.slots) (hh : xWd D A s H locs ρ ad ex h)
    (k : ∀ H' q, xWd D A s H' locs ρ (ad ++ [q]) ex (h ++ [xnewC t n]) → (ad ++ [q])[h.length]? = some q → W p l e R s m args below meth c H' locs (cells + 1) (slots + n) Q (F0 m (pc + 2) ls (.ref q :: rest))) : W p l e R s m args below meth c H locs cells slots Q (F0 m pc ls (.int x :: rest)) := by
  obtain ⟨hx, hb, -, hown, hg, hn0⟩ := id Cx
  obtain ⟨ws, tys, hK, hP, hD, hS, hh⟩ := hh
  have hneg : ¬ x < 0 := by
    rw [Int32.lt_iff_toInt_lt, hn]
    have : (0 : Int32).toInt = 0 := rfl
    omega
  have hN : x.toNatClampNeg = n := by
    rw [x_tn, hn]
    omega
  have fin : ∀ (ty : FieldType) (a0 : vp_A), newarray.typeOf at0 = ty → (∀ cA : ClassId, vp_cell cA a0 = arrV cA n (fun _ => defaultValue ty)) → n * componentBytes ty ≤ 536870912 → (∀ (q : Nat) (cA : ClassId), xcell xcn ρ (ad ++ [q]) ex (tys ++ [(cA, ty)]) (xnewC t n) (.inl (cA, a0))) → W p l e R s m args below meth c H locs cells slots Q (F0 m pc ls (.int x :: rest)) := by
    intro ty a0 hty ha hby hcell
    refine va_newa (atype := at0) (ty := ty) (a0 := a0) hx hb (hg _ h1 rfl) hty hK hP hD hS hA ha hneg hN hby hcells hslots hd (fun q cA H1 k0 k1 k2 k3 => ?_)
    exact k H1 q ⟨_, _, k0, k1, k2, k3, hh.push (fun z hz => List.mem_append_left _ hz) (hcell q cA)⟩ (x_lastAd hh.lenAd)
  cases at0 with
  | int =>
    cases ht
    exact fin .int (n, .inl (fun _ => 0)) rfl (fun _ => rfl) (by show n * 4 ≤ _; omega) (fun q cA => ⟨cA, _, rfl, List.mem_append_right _ (List.mem_singleton.mpr rfl), xarr0 (fun _ => rfl)⟩)
  | byte =>
    cases ht
    exact fin .byte (n, .inl (fun _ => 0)) rfl (fun _ => rfl) (by show n * 1 ≤ _; omega) (fun q cA => ⟨cA, _, rfl, List.mem_append_right _ (List.mem_singleton.mpr rfl), xarr0 (fun _ => rfl)⟩)
  | boolean =>
    cases ht
    exact fin .boolean (n, .inl (fun _ => 0)) rfl (fun _ => rfl) (by show n * 1 ≤ _; omega) (fun q cA => ⟨cA, _, rfl, List.mem_append_right _ (List.mem_singleton.mpr rfl), xarr0 (fun _ => rfl)⟩)
  | long =>
    cases ht
    exact fin .long (n, .inr (.inl (fun _ => 0))) rfl (fun _ => rfl) (by show n * 8 ≤ _; omega) (fun q cA => ⟨cA, _, rfl, List.mem_append_right _ (List.mem_singleton.mpr rfl), xarr0 (fun _ => rfl)⟩)
  | char => cases ht
  | short => cases ht
  | float => cases ht
  | double => cases ht
/-- a new array of cells of class a -/
theorem xNewq_ok {a n idx : Nat} {x : Int32} (Cx : xCtx p s m args c cc nL own) (hd : decode cc pc = .ok (.anewarray idx, 3)) (h1 : Jvm.Cond.classLink own idx (xcn a) ∈ lw_tbl) (h2 : Jvm.Cond.arrayOver (.object (xcn a)) ∈ lw_tbl) (hA : ∀ q, s.heap.size ≤ q → A q) (hn : x.toInt = (n : Int)) (hsm : n < 1000000) (hcells : cells + 1 ≤ R.cells) (hslots : slots + n ≤ R.slots) (hh : xWd D A s H locs ρ ad ex h)
    (k : ∀ H' q, xWd D A s H' locs ρ (ad ++ [q]) ex (h ++ [.inr (.inr (.inr (a, List.replicate n none)))]) → (ad ++ [q])[h.length]? = some q → W p l e R s m args below meth c H' locs (cells + 1) (slots + n) Q (F0 m (pc + 3) ls (.ref q :: rest))) : W p l e R s m args below meth c H locs cells slots Q (F0 m pc ls (.int x :: rest)) := by
  obtain ⟨hx, hb, -, hown, hg, hn0⟩ := id Cx
  obtain ⟨ws, tys, hK, hP, hD, hS, hh⟩ := hh
  have hneg : ¬ x < 0 := by
    rw [Int32.lt_iff_toInt_lt, hn]
    have : (0 : Int32).toInt = 0 := rfl
    omega
  have hN : x.toNatClampNeg = n := by
    rw [x_tn, hn]
    omega
  refine va_newq hx hb hown (hg _ h1 rfl) (hn0 _ h2 rfl) hK hP hD hS hA hneg hN (by omega) hcells hslots hd (fun q cA H1 k0 k1 k2 k3 => ?_)
  refine k H1 q ⟨_, _, k0, k1, k2, k3, hh.push (fun z hz => List.mem_append_left _ hz) ?_⟩ (x_lastAd hh.lenAd)
  refine ⟨cA, fun _ => none, by rw [List.length_replicate], List.mem_append_right _ (List.mem_singleton.mpr rfl), fun j o ho => ?_⟩
  have : o = none := by
    have := List.mem_of_getElem? ho
    exact List.eq_of_mem_replicate this
  subst this
  rfl
/-- constants of the pool -/
theorem xLdc_ok {idx : Nat} {n : Int} (Cx : xCtx p s m args c cc nL own) (hr : -2147483648 ≤ n ∧ n ≤ 2147483647) (hd : decode cc pc = .ok (.ldc idx, 2)) (h1 : Jvm.Cond.constant own idx (Int32.ofInt n) ∈ lw_tbl)
    (k : ∀ w, xv ρ ad ex (.inl (none, n)) w → W p l e R s m args below meth c H locs cells slots Q (F0 m (pc + 2) ls (w :: rest))) : W p l e R s m args below meth c H locs cells slots Q (F0 m pc ls rest) := by
  obtain ⟨hx, hb, -, hown, hg, hn0⟩ := id Cx
  exact lv_ldc hx hb hown (hg _ h1 rfl) hd (k _ ⟨_, rfl, by rw [x_of32 hr.1 hr.2]; rfl⟩)
theorem xLdcw_ok {idx : Nat} {n : Int} (Cx : xCtx p s m args c cc nL own) (hr : -2147483648 ≤ n ∧ n ≤ 2147483647) (hd : decode cc pc = .ok (.ldc_w idx, 3)) (h1 : Jvm.Cond.constant own idx (Int32.ofInt n) ∈ lw_tbl)
    (k : ∀ w, xv ρ ad ex (.inl (none, n)) w → W p l e R s m args below meth c H locs cells slots Q (F0 m (pc + 3) ls (w :: rest))) : W p l e R s m args below meth c H locs cells slots Q (F0 m pc ls rest) := by
  obtain ⟨hx, hb, -, hown, hg, hn0⟩ := id Cx
  exact lv_ldcw hx hb hown (hg _ h1 rfl) hd (k _ ⟨_, rfl, by rw [x_of32 hr.1 hr.2]; rfl⟩)
theorem xLdc2_ok {idx : Nat} {n : Int} (Cx : xCtx p s m args c cc nL own) (hr : -9223372036854775808 ≤ n ∧ n ≤ 9223372036854775807) (hd : decode cc pc = .ok (.ldc2_w idx, 3)) (h1 : Jvm.Cond.constantLong own idx (Int64.ofInt n) ∈ lw_tbl)
    (k : ∀ w, xv ρ ad ex (.inr (.inl (none, n))) w → W p l e R s m args below meth c H locs cells slots Q (F0 m (pc + 3) ls (w :: rest))) : W p l e R s m args below meth c H locs cells slots Q (F0 m pc ls rest) := by
  obtain ⟨hx, hb, -, hown, hg, hn0⟩ := id Cx
  exact lv_ldc2 hx hb hown (hg _ h1 rfl) hd (k _ ⟨_, rfl, by rw [x_of64 hr.1 hr.2]; rfl⟩)
/-- the script, where this method has it: its ints stand behind the first of scr -/
def xScr (A : Nat → Prop) (s : State) (ρ : List Int) (ex : List Nat) (scr : List xI) : Prop := scr = [] ∨ ∃ (a0 : xI) (is : List xI) (b : Nat) (xs : Nat → Int32), scr = a0 :: is ∧ ex[0]? = some b ∧ va_X b is.length xs s s.heap ∧ b < s.heap.size ∧ ¬ A b ∧ ∀ (j : Nat) (a : xI), is[j]? = some a → xe ρ a = some (xs j).toInt
theorem xScr.mono {ρ' : List Int} {scr : List xI} (hX : xX ρ ρ') (hs : xScr A s ρ ex scr) : xScr A s ρ' ex scr := by
  rcases hs with hs | ⟨a0, is, b, xs, h0, h1, h2, h3, h4, h5⟩
  · exact Or.inl hs
  · exact Or.inr ⟨a0, is, b, xs, h0, h1, h2, h3, h4, fun j a ha => xe.mono hX (h5 j a ha)⟩
def xSld (scr : List xI) (σ : List xB) (i : xI) (u : xV) : Option xI := match u with
  | .inr (.inr (.inr 0)) => (match scr with
    | _ :: is => (match xrg σ i with
      | some r => bif xeq r.1 r.2 && xle 0 r.1 then is[r.1.toNat]? else none
      | none => none)
    | [] => none)
  | _ => none
theorem xSld_ok {scr : List xI} {ix : xI} {u : xV} {x : Int32} {wu : Value} {r : xI} (hv : xSld scr σ ix u = some r) (C : xCtx p s m args c cc nL own) (hd : decode cc pc = .ok (.iaload, 1)) (hS : xSt ρ σ) (hs : xScr A s ρ ex scr) (hi : xe ρ ix = some x.toInt) (hwu : xv ρ ad ex u wu) (hh : xWd D A s H locs ρ ad ex h)
    (k : ∀ w, xv ρ ad ex (.inl r) w → W p l e R s m args below meth c H locs cells slots Q (F0 m (pc + 1) ls (w :: rest))) : W p l e R s m args below meth c H locs cells slots Q (F0 m pc ls (.int x :: wu :: rest)) := by
  obtain ⟨hx, hb, -, hown, hg, hn⟩ := id C
  obtain ⟨ws, tys, hK, hP, hD, hSS, hh⟩ := hh
  unfold xSld at hv
  split at hv
  · rcases hs with hs | ⟨a0, is, b, xs, h0, h1, h2, h3, h4, h5⟩
    · rw [hs] at hv
      cases hv
    · rw [h0] at hv
      dsimp only at hv
      split at hv
      · rename_i q hq
        obtain ⟨e1, hv⟩ := x_bifO hv
        rw [Bool.and_eq_true, xeq_iff, xle_iff] at e1
        have hz := xrg_ok hS hi hq
        have ez : q.1 = x.toInt := by omega
        rw [ez] at hv
        obtain ⟨b0, hb0, rfl⟩ := hwu
        rw [h1] at hb0
        cases hb0
        have hlt : x.toInt.toNat < is.length := (List.getElem?_eq_some_iff.mp hv).1
        have hin : vp_in x is.length := vp_in_iff.mpr ⟨by omega, by omega⟩
        exact va_sld hx hb h2 h3 h4 hSS hin hd (k _ ⟨_, rfl, h5 _ _ hv⟩)
      · cases hv
  · cases hv
def xSln (scr : List xI) (u : xV) : Option xV := match u with
  | .inr (.inr (.inr 0)) => (match scr with
    | _ :: is => bif Nat.blt is.length 1000000 then some (.inl (none, Int.ofNat is.length)) else none
    | [] => none)
  | _ => none
theorem xSln_ok {scr : List xI} {u v : xV} {wu : Value} (hv : xSln scr u = some v) (C : xCtx p s m args c cc nL own) (hd : decode cc pc = .ok (.arraylength, 1)) (hs : xScr A s ρ ex scr) (hwu : xv ρ ad ex u wu) (hh : xWd D A s H locs ρ ad ex h)
    (k : ∀ w, xv ρ ad ex v w → W p l e R s m args below meth c H locs cells slots Q (F0 m (pc + 1) ls (w :: rest))) : W p l e R s m args below meth c H locs cells slots Q (F0 m pc ls (wu :: rest)) := by
  obtain ⟨hx, hb, -, hown, hg, hn⟩ := id C
  obtain ⟨ws, tys, hK, hP, hD, hSS, hh⟩ := hh
  unfold xSln at hv
  split at hv
  · rcases hs with hs | ⟨a0, is, b, xs, h0, h1, h2, h3, h4, h5⟩
    · rw [hs] at hv
      cases hv
    · rw [h0] at hv
      dsimp only at hv
      obtain ⟨e1, hv⟩ := x_bif hv
      subst hv
      obtain ⟨b0, hb0, rfl⟩ := hwu
      rw [h1] at hb0
      cases hb0
      exact va_slen hx hb h2 h3 h4 hSS hd (k _ ⟨_, rfl, by rw [x_nat32 (x_blt e1)]; rfl⟩)
  · cases hv
/-- the lesser, the greater of two numbers -/
def xMin (σ : List xB) (a b : xI) : xR := match xrg σ a with
  | none => none
  | some ra => match xrg σ b with
    | none => none
    | some rb => bif xle ra.2 rb.1 then some (a, σ) else (bif xle rb.2 ra.1 then some (b, σ) else some (xmk σ (xmin ra.1 rb.1) (xmin ra.2 rb.2)))
theorem xMin_ok {a b : xI} {r : xI × List xB} {z1 z2 : Int} (hv : xMin σ a b = some r) (hS : xSt ρ σ) (h1 : xe ρ a = some z1) (h2 : xe ρ b = some z2) : xGood ρ r (if z2 < z1 then z2 else z1) := by
  unfold xMin at hv
  cases ha : xrg σ a with
  | none => rw [ha] at hv; cases hv
  | some ra =>
    cases hb : xrg σ b with
    | none => rw [ha, hb] at hv; cases hv
    | some rb =>
      rw [ha, hb] at hv
      have q1 := xrg_ok hS h1 ha
      have q2 := xrg_ok hS h2 hb
      dsimp only at hv
      cases c1 : xle ra.2 rb.1 with
      | true =>
        rw [c1] at hv
        cases hv
        have := xle_iff.mp c1
        exact ⟨ρ, xX.rf ρ, hS, by rw [if_neg (by omega)]; exact h1⟩
      | false =>
        rw [c1] at hv
        simp only [cond_false] at hv
        cases c2 : xle rb.2 ra.1 with
        | true =>
          rw [c2] at hv
          cases hv
          have := xle_iff.mp c2
          refine ⟨ρ, xX.rf ρ, hS, ?_⟩
          rw [h2]
          congr 1
          split <;> omega
        | false =>
          rw [c2] at hv
          cases hv
          have a1 := xmin_l ra.1 rb.1
          have a2 := xmin_r ra.1 rb.1
          have a3 : (if z2 < z1 then z2 else z1) ≤ xmin ra.2 rb.2 := xmin_le1 (by split <;> omega) (by split <;> omega)
          exact xmk_ok hS (by split <;> omega) a3
def xMax (σ : List xB) (a b : xI) : xR := match xrg σ a with
  | none => none
  | some ra => match xrg σ b with
    | none => none
    | some rb => bif xle rb.2 ra.1 then some (a, σ) else (bif xle ra.2 rb.1 then some (b, σ) else some (xmk σ (xmax ra.1 rb.1) (xmax ra.2 rb.2)))
theorem xMax_ok {a b : xI} {r : xI × List xB} {z1 z2 : Int} (hv : xMax σ a b = some r) (hS : xSt ρ σ) (h1 : xe ρ a = some z1) (h2 : xe ρ b = some z2) : xGood ρ r (if z1 < z2 then z2 else z1) := by
  unfold xMax at hv
  cases ha : xrg σ a with
  | none => rw [ha] at hv; cases hv
  | some ra =>
    cases hb : xrg σ b with
    | none => rw [ha, hb] at hv; cases hv
    | some rb =>
      rw [ha, hb] at hv
      have q1 := xrg_ok hS h1 ha
      have q2 := xrg_ok hS h2 hb
      dsimp only at hv
      cases c1 : xle rb.2 ra.1 with
      | true =>
        rw [c1] at hv
        cases hv
        have := xle_iff.mp c1
        exact ⟨ρ, xX.rf ρ, hS, by rw [if_neg (by omega)]; exact h1⟩
      | false =>
        rw [c1] at hv
        simp only [cond_false] at hv
        cases c2 : xle ra.2 rb.1 with
        | true =>
          rw [c2] at hv
          cases hv
          have := xle_iff.mp c2
          refine ⟨ρ, xX.rf ρ, hS, ?_⟩
          rw [h2]
          congr 1
          split <;> omega
        | false =>
          rw [c2] at hv
          cases hv
          have a1 := xmax_l ra.2 rb.2
          have a2 := xmax_r ra.2 rb.2
          have a3 : xmax ra.1 rb.1 ≤ (if z1 < z2 then z2 else z1) := xmax_le1 (by split <;> omega) (by split <;> omega)
          exact xmk_ok hS a3 (by split <;> omega)
theorem x_min32 (x y : Int32) : (if y < x then y else x).toInt = if y.toInt < x.toInt then y.toInt else x.toInt := by
  by_cases hq : y < x
  · rw [if_pos hq, if_pos (Int32.lt_iff_toInt_lt.mp hq)]
  · rw [if_neg hq, if_neg (fun q => hq (Int32.lt_iff_toInt_lt.mpr q))]
theorem x_max32 (x y : Int32) : (if x < y then y else x).toInt = if x.toInt < y.toInt then y.toInt else x.toInt := by
  by_cases hq : x < y
  · rw [if_pos hq, if_pos (Int32.lt_iff_toInt_lt.mp hq)]
  · rw [if_neg hq, if_neg (fun q => hq (Int32.lt_iff_toInt_lt.mpr q))]
theorem x_min64 (x y : Int64) : (if y < x then y else x).toInt = if y.toInt < x.toInt then y.toInt else x.toInt := by
  by_cases hq : y < x
  · rw [if_pos hq, if_pos (Int64.lt_iff_toInt_lt.mp hq)]
  · rw [if_neg hq, if_neg (fun q => hq (Int64.lt_iff_toInt_lt.mpr q))]
theorem x_nfw : nativeFrameWords "java/lang/System" "arraycopy" 5 = 7 := by decide +kernel
/-- a whole array of ints into another of the same length -/
def xCpy (σ : List xB) (h : List xC) (n dp : xI) (v : xV) (sp : xI) (u : xV) : Option (List xC) := match u, v with
  | .inr (.inr (.inl (some js))), .inr (.inr (.inl (some jd))) => (match h[js]?, h[jd]? with
    | some (.inr (.inl a)), some (.inr (.inl b)) => (match xrg σ n, xrg σ dp, xrg σ sp with
      | some rn, some rd, some rs => bif (Nat.beq a.1 0 && Nat.beq b.1 0) && ((Nat.beq a.2.1 b.2.1 && xeq rn.1 (Int.ofNat a.2.1)) && ((xeq rn.1 rn.2 && xeq rd.1 rd.2) && ((xeq rs.1 rs.2 && xeq rd.1 0) && xeq rs.1 0))) then some (h.set jd (.inr (.inl (b.1, b.2.1, a.2.2)))) else none
      | _, _, _ => none)
    | _, _ => none)
  | _, _ => none
theorem xCpy_ok {n dp sp : xI} {v u : xV} {xn xd xp : Int32} {wv wu : Value} {h' : List xC} {idx : Nat} (hv : xCpy σ h n dp v sp u = some h') (C : xCtx p s m args c cc nL own) (hsz : ls.size = nL) (hd : decode cc pc = .ok (.invokestatic idx, 3)) (h1 : Jvm.Cond.methodLink own idx arraycopyName ∈ lw_tbl) (h2 : Jvm.Cond.native arraycopyName ∈ lw_tbl) (h3 : Jvm.Cond.static arraycopyName ∈ lw_tbl) (h4 : Jvm.Cond.initialized "java/lang/System" ∈ lw_tbl) (hfr : 1 ≤ R.frames) (hlo : (rest.map fun v => v.category).sum + 18 ≤ R.locals)
    (hS : xSt ρ σ) (hn : xe ρ n = some xn.toInt) (hdp : xe ρ dp = some xd.toInt) (hsp : xe ρ sp = some xp.toInt) (hwv : xv ρ ad ex v wv) (hwu : xv ρ ad ex u wu) (hh : xWd D A s H locs ρ ad ex h)
    (k : ∀ H' locs', xWd D A s H' locs' ρ ad ex h' → W p l e R s m args below meth c H' locs' cells slots Q (F0 m (pc + 3) ls rest)) : W p l e R s m args below meth c H locs cells slots Q (F0 m pc ls (.int xn :: .int xd :: wv :: .int xp :: wu :: rest)) := by
  obtain ⟨hx, hb, hml, hown, hg, hn0⟩ := id C
  rcases u with u | u | (_ | js) | u <;> first | (simp [xCpy] at hv; done) | skip
  rcases v with v | v | (_ | jd) | v <;> first | (simp [xCpy] at hv; done) | skip
  unfold xCpy at hv
  dsimp only at hv
  split at hv
  · rename_i a b ha hb2
    split at hv
    · rename_i rn rd rs hrn hrd hrs
      obtain ⟨e1, hv⟩ := x_bif hv
      subst hv
      simp only [Bool.and_eq_true, xeq_iff] at e1
      obtain ⟨⟨e1, e2⟩, ⟨e3, e4⟩, ⟨e5, e6⟩, ⟨e7, e8⟩, e9⟩ := e1
      have f1 := Nat.eq_of_beq_eq_true e1
      have f2 := Nat.eq_of_beq_eq_true e2
      have f3 := Nat.eq_of_beq_eq_true e3
      clear e1 e2 e3
      have zn := xrg_ok hS hn hrn
      have zd := xrg_ok hS hdp hrd
      have zs := xrg_ok hS hsp hrs
      have en : (Int.ofNat a.2.1 : Int) = (a.2.1 : Int) := rfl
      have xn0 : xn.toInt = (a.2.1 : Int) := by omega
      have xd0 : xd.toInt = 0 := by omega
      have xp0 : xp.toInt = 0 := by omega
      have d0 : (0 : Int32).toInt = 0 := rfl
      obtain ⟨qd, hqd, rfl⟩ := hwv
      obtain ⟨qs, hqs, rfl⟩ := hwu
      obtain ⟨ws, tys, hK, hP, hD, hSS, hh⟩ := hh
      obtain ⟨ya, ya1, cA, f, rfl, ya2, ya3⟩ := hh.at ha hqs
      obtain ⟨yb, yb1, cB, g, rfl, yb2, yb3⟩ := hh.at hb2 hqd
      obtain ⟨t0, ht0⟩ := x_mem_tys ya2
      obtain ⟨t1, ht1⟩ := x_mem_tys yb2
      obtain ⟨ty, an, ag⟩ := a
      obtain ⟨ty2, bn, bg⟩ := b
      dsimp only at f1 f2 f3 xn0 ya1 yb1 ya3 yb3
      subst f1; subst f2; subst f3
      have tn : xn.toNatClampNeg = an := by rw [x_tn, xn0]; omega
      have td : xd.toNatClampNeg = 0 := by rw [x_tn, xd0]; omega
      have tp : xp.toNatClampNeg = 0 := by rw [x_tn, xp0]; omega
      refine va_copyi (ty := .int) hx hb (by rw [hml, hsz]) hown (hg _ h1 rfl) (hg _ h2 rfl) (hg _ h3 rfl) (hg _ h4 rfl) hK hP hD hSS js jd t0 t1 ya1 yb1 ht0 ht1 rfl (by rw [Int32.lt_iff_toInt_lt]; omega) (by rw [Int32.lt_iff_toInt_lt]; omega) (by rw [Int32.lt_iff_toInt_lt]; omega) (by omega) (by omega) (fun _ _ => rfl) hfr (by rw [x_nfw]; omega) hd (fun H1 locs1 k1 k2 k3 => ?_)
      refine k H1 locs1 ⟨_, tys, hK, k1, k2, k3, hh.put hqd ?_⟩
      refine ⟨cB, _, rfl, yb2, fun j hj => ?_⟩
      obtain ⟨uu, u1, u2⟩ := ya3 j hj
      refine ⟨uu, u1, ?_⟩
      show xel ρ uu (va_cpy f g xp.toNatClampNeg xd.toNatClampNeg xn.toNatClampNeg j).toInt
      have : va_cpy f g xp.toNatClampNeg xd.toNatClampNeg xn.toNatClampNeg j = f j := by
        unfold va_cpy
        rw [tn, td, tp, if_pos ⟨Nat.zero_le _, by have : j < an := hj; omega⟩]
        congr 1
        omega
      rw [this]
      exact u2
    · cases hv
  · cases hv
end XM
end
section
/-! Linear facts: a sum of symbols, each with its factor, and a number: at least 0. -/
abbrev xLn : Type := List (Nat × Int) × Int
abbrev xF : Type := List xLn
def xlE (ρ : List Int) : List (Nat × Int) → Option Int
  | [] => some 0
  | q :: t => (match ρ[q.1]? with
    | none => none
    | some z => (match xlE ρ t with
      | none => none
      | some w => some (q.2 * z + w)))
def xlv (ρ : List Int) (L : xLn) : Option Int := match xlE ρ L.1 with
  | none => none
  | some z => some (z + L.2)
def xFs (ρ : List Int) (F : xF) : Prop := ∀ q ∈ F, ∃ z, xlv ρ q = some z ∧ 0 ≤ z
theorem xlE_cons {ρ : List Int} {k : Nat} {c z w : Int} {t : List (Nat × Int)} (h1 : ρ[k]? = some z) (h2 : xlE ρ t = some w) : xlE ρ ((k, c) :: t) = some (c * z + w) := by
  simp only [xlE, h1, h2]
theorem xlE_inv {ρ : List Int} {k : Nat} {c x : Int} {t : List (Nat × Int)} (h : xlE ρ ((k, c) :: t) = some x) : ∃ z w, ρ[k]? = some z ∧ xlE ρ t = some w ∧ x = c * z + w := by
  simp only [xlE] at h
  split at h
  · cases h
  · rename_i z hz
    split at h
    · cases h
    · rename_i w hw
      cases h
      exact ⟨z, w, hz, hw, rfl⟩
theorem xlE.mono {ρ ρ' : List Int} (h : xX ρ ρ') : ∀ {l : List (Nat × Int)} {x : Int}, xlE ρ l = some x → xlE ρ' l = some x
  | [], _, hx => hx
  | (k, c) :: t, x, hx => by
    obtain ⟨z, w, h1, h2, rfl⟩ := xlE_inv hx
    exact xlE_cons (h.at h1) (xlE.mono h h2)
theorem xlv_inv {ρ : List Int} {L : xLn} {x : Int} (h : xlv ρ L = some x) : ∃ z, xlE ρ L.1 = some z ∧ x = z + L.2 := by
  unfold xlv at h
  split at h
  · cases h
  · rename_i z hz
    cases h
    exact ⟨z, hz, rfl⟩
theorem xlv_mk {ρ : List Int} {L : xLn} {z : Int} (h : xlE ρ L.1 = some z) : xlv ρ L = some (z + L.2) := by
  unfold xlv
  rw [h]
theorem xlv.mono {ρ ρ' : List Int} (h : xX ρ ρ') {L : xLn} {x : Int} (hx : xlv ρ L = some x) : xlv ρ' L = some x := by
  obtain ⟨z, h1, rfl⟩ := xlv_inv hx
  exact xlv_mk (xlE.mono h h1)
theorem xFs.mono {ρ ρ' : List Int} (h : xX ρ ρ') {F : xF} (hF : xFs ρ F) : xFs ρ' F := fun q hq => by
  obtain ⟨z, h1, h2⟩ := hF q hq
  exact ⟨z, xlv.mono h h1, h2⟩
/-- factors times k -/
def xlK (k : Int) : List (Nat × Int) → List (Nat × Int)
  | [] => []
  | q :: t => (q.1, k * q.2) :: xlK k t
theorem xlK_ok {ρ : List Int} {k : Int} : ∀ {b : List (Nat × Int)} {y : Int}, xlE ρ b = some y → xlE ρ (xlK k b) = some (k * y)
  | [], y, h => by
    simp only [xlE, Option.some.injEq] at h
    subst h
    simp [xlK, xlE]
  | (j, d) :: b, y, h => by
    obtain ⟨z, w, h1, h2, rfl⟩ := xlE_inv h
    have := xlE_cons (c := k * d) h1 (xlK_ok (k := k) h2)
    show xlE ρ ((j, k * d) :: xlK k b) = _
    rw [this, Int.mul_add, Int.mul_assoc]
/-- a and k times b, symbols falling -/
def xlM (k : Int) : Nat → List (Nat × Int) → List (Nat × Int) → List (Nat × Int)
  | 0, a, b => a ++ xlK k b
  | _ + 1, [], b => xlK k b
  | _ + 1, q :: a, [] => q :: a
  | f + 1, q :: a, r :: b => bif Nat.beq q.1 r.1 then (bif xeq (q.2 + k * r.2) 0 then xlM k f a b else (q.1, q.2 + k * r.2) :: xlM k f a b) else (bif Nat.blt r.1 q.1 then q :: xlM k f a (r :: b) else (r.1, k * r.2) :: xlM k f (q :: a) b)
theorem xlE_app {ρ : List Int} : ∀ {a b : List (Nat × Int)} {x y : Int}, xlE ρ a = some x → xlE ρ b = some y → xlE ρ (a ++ b) = some (x + y)
  | [], b, x, y, h1, h2 => by
    simp only [xlE, Option.some.injEq] at h1
    subst h1
    simpa using h2
  | (j, d) :: a, b, x, y, h1, h2 => by
    obtain ⟨z, w, g1, g2, rfl⟩ := xlE_inv h1
    have := xlE_cons (c := d) g1 (xlE_app g2 h2)
    show xlE ρ ((j, d) :: (a ++ b)) = _
    rw [this, Int.add_assoc]
theorem xlM_ok {ρ : List Int} {k : Int} : ∀ {f : Nat} {a b : List (Nat × Int)} {x y : Int}, xlE ρ a = some x → xlE ρ b = some y → xlE ρ (xlM k f a b) = some (x + k * y)
  | 0, a, b, x, y, h1, h2 => xlE_app h1 (xlK_ok h2)
  | f + 1, [], b, x, y, h1, h2 => by
    simp only [xlE, Option.some.injEq] at h1
    subst h1
    have := xlK_ok (k := k) h2
    show xlE ρ (xlK k b) = _
    rw [this]
    congr 1
    omega
  | f + 1, q :: a, [], x, y, h1, h2 => by
    simp only [xlE, Option.some.injEq] at h2
    subst h2
    show xlE ρ (q :: a) = _
    rw [h1, Int.mul_zero, Int.add_zero]
  | f + 1, (i, c) :: a, (j, d) :: b, x, y, h1, h2 => by
    obtain ⟨z1, w1, g1, g2, rfl⟩ := xlE_inv h1
    obtain ⟨z2, w2, g3, g4, rfl⟩ := xlE_inv h2
    unfold xlM
    cases hb : Nat.beq i j with
    | true =>
      have e := Nat.eq_of_beq_eq_true hb
      subst e
      rw [g1] at g3
      cases g3
      have ih := xlM_ok (k := k) (f := f) g2 g4
      simp only [cond_true]
      have ee : c * z1 + w1 + k * (d * z1 + w2) = (c + k * d) * z1 + (w1 + k * w2) := by
        rw [Int.mul_add, Int.add_mul, Int.mul_assoc]
        omega
      cases hz : xeq (c + k * d) 0 with
      | true =>
        have hz := xeq_iff.mp hz
        simp only [cond_true]
        rw [ih, ee, hz, Int.zero_mul, Int.zero_add]
      | false =>
        simp only [cond_false]
        rw [xlE_cons g1 ih, ee]
    | false =>
      simp only [cond_false]
      cases hc : Nat.blt j i with
      | true =>
        simp only [cond_true]
        rw [xlE_cons g1 (xlM_ok (k := k) (f := f) g2 h2)]
        congr 1
        omega
      | false =>
        simp only [cond_false]
        rw [xlE_cons g3 (xlM_ok (k := k) (f := f) h1 g4), Int.mul_add, Int.mul_assoc]
        congr 1
        omega
def xlA (k : Int) (L M : xLn) : xLn := (xlM k 40 L.1 M.1, L.2 + k * M.2)
theorem xlA_ok {ρ : List Int} {k : Int} {L M : xLn} {x y : Int} (h1 : xlv ρ L = some x) (h2 : xlv ρ M = some y) : xlv ρ (xlA k L M) = some (x + k * y) := by
  obtain ⟨z1, g1, rfl⟩ := xlv_inv h1
  obtain ⟨z2, g2, rfl⟩ := xlv_inv h2
  have := xlv_mk (L := xlA k L M) (xlM_ok (k := k) (f := 40) g1 g2)
  rw [this]
  show some (z1 + k * z2 + (L.2 + k * M.2)) = _
  rw [Int.mul_add]
  congr 1
  omega
/-- a number as a sum -/
def xln (a : xI) : xLn := match a.1 with
  | none => ([], a.2)
  | some k => ([(k, 1)], a.2)
theorem xln_ok {ρ : List Int} {a : xI} {z : Int} (h : xe ρ a = some z) : xlv ρ (xln a) = some z := by
  obtain ⟨o, c⟩ := a
  cases o with
  | none =>
    simp only [xe, Option.some.injEq] at h
    subst h
    simp [xln, xlv, xlE]
  | some k =>
    simp only [xe] at h
    cases hk : ρ[k]? with
    | none => rw [hk] at h; cases h
    | some w =>
      rw [hk] at h
      simp only [Option.some.injEq] at h
      subst h
      have := xlv_mk (L := ([(k, 1)], c)) (xlE_cons (c := 1) hk (show xlE ρ [] = some 0 from rfl))
      show xlv ρ ([(k, 1)], c) = _
      rw [this]
      congr 1
      dsimp only
      omega
/-- b less a less d, at least 0: a and d is at most b -/
def xlle (a b : xI) (d : Int) : xLn := let L := xlA (-1) (xln b) (xln a); (L.1, L.2 - d)
theorem xlle_ok {ρ : List Int} {a b : xI} {d z w : Int} (h1 : xe ρ a = some z) (h2 : xe ρ b = some w) : xlv ρ (xlle a b d) = some (w - z - d) := by
  have h := xlA_ok (k := -1) (xln_ok h2) (xln_ok h1)
  obtain ⟨x, g1, g2⟩ := xlv_inv h
  have := xlv_mk (L := xlle a b d) g1
  rw [this]
  show some (x + ((xlA (-1) (xln b) (xln a)).2 - d)) = _
  congr 1
  omega
/-- the least that a sum can be, and the greatest -/
def xlL (σ : List xB) : List (Nat × Int) → Option Int
  | [] => some 0
  | q :: t => (match σ[q.1]? with
    | none => none
    | some r => (match xlL σ t with
      | none => none
      | some w => some ((bif xle 0 q.2 then q.2 * r.1 else q.2 * r.2) + w)))
def xlU (σ : List xB) : List (Nat × Int) → Option Int
  | [] => some 0
  | q :: t => (match σ[q.1]? with
    | none => none
    | some r => (match xlU σ t with
      | none => none
      | some w => some ((bif xle 0 q.2 then q.2 * r.2 else q.2 * r.1) + w)))
theorem x_lo1 {c z : Int} {r : xB} (h : r.1 ≤ z ∧ z ≤ r.2) : (bif xle 0 c then c * r.1 else c * r.2) ≤ c * z ∧ c * z ≤ (bif xle 0 c then c * r.2 else c * r.1) := by
  cases hc : xle 0 c with
  | true =>
    have := xle_iff.mp hc
    exact ⟨Int.mul_le_mul_of_nonneg_left h.1 this, Int.mul_le_mul_of_nonneg_left h.2 this⟩
  | false =>
    have := xle_not hc
    exact ⟨Int.mul_le_mul_of_nonpos_left (by omega) h.2, Int.mul_le_mul_of_nonpos_left (by omega) h.1⟩
theorem xlL_ok {ρ : List Int} {σ : List xB} (hS : xSt ρ σ) : ∀ {l : List (Nat × Int)} {x w : Int}, xlE ρ l = some x → xlL σ l = some w → w ≤ x
  | [], x, w, h1, h2 => by
    simp only [xlE, xlL, Option.some.injEq] at h1 h2
    omega
  | (k, c) :: t, x, w, h1, h2 => by
    obtain ⟨z, y, g1, g2, rfl⟩ := xlE_inv h1
    simp only [xlL] at h2
    split at h2
    · cases h2
    · rename_i r hr
      split at h2
      · cases h2
      · rename_i v hv
        cases h2
        have := xlL_ok hS g2 hv
        have := (x_lo1 (c := c) (hS.2 k r z hr g1)).1
        omega
theorem xlU_ok {ρ : List Int} {σ : List xB} (hS : xSt ρ σ) : ∀ {l : List (Nat × Int)} {x w : Int}, xlE ρ l = some x → xlU σ l = some w → x ≤ w
  | [], x, w, h1, h2 => by
    simp only [xlE, xlU, Option.some.injEq] at h1 h2
    omega
  | (k, c) :: t, x, w, h1, h2 => by
    obtain ⟨z, y, g1, g2, rfl⟩ := xlE_inv h1
    simp only [xlU] at h2
    split at h2
    · cases h2
    · rename_i r hr
      split at h2
      · cases h2
      · rename_i v hv
        cases h2
        have := xlU_ok hS g2 hv
        have := (x_lo1 (c := c) (hS.2 k r z hr g1)).2
        omega
def xlPos (σ : List xB) (g : xLn) : Bool := match xlL σ g.1 with
  | some w => xle 0 (w + g.2)
  | none => false
/-- at least 0: by the bounds; or the first symbol goes out by a fact, or by its bound -/
def xent (σ : List xB) (F : xF) : Nat → xLn → Bool
  | 0, g => xlPos σ g
  | n + 1, g => xlPos σ g || (match g.1 with
    | [] => false
    | q :: t => F.any (fun f => f.1.any (fun r => Nat.beq r.1 q.1 && xeq r.2 q.2) && xent σ F n (xlA (-1) g f)) || (match σ[q.1]? with
      | none => false
      | some r => xent σ F n (t, g.2 + (bif xle 0 q.2 then q.2 * r.1 else q.2 * r.2))))
theorem xlPos_ok {ρ : List Int} {σ : List xB} {g : xLn} {z : Int} (hS : xSt ρ σ) (h : xlPos σ g = true) (hz : xlv ρ g = some z) : 0 ≤ z := by
  unfold xlPos at h
  obtain ⟨x, h1, rfl⟩ := xlv_inv hz
  split at h
  · rename_i w hw
    have := xle_iff.mp h
    have := xlL_ok hS h1 hw
    omega
  · cases h
theorem xent_ok {ρ : List Int} {σ : List xB} {F : xF} (hS : xSt ρ σ) (hF : xFs ρ F) : ∀ {n : Nat} {g : xLn} {z : Int}, xent σ F n g = true → xlv ρ g = some z → 0 ≤ z
  | 0, g, z, h, hz => xlPos_ok hS h hz
  | n + 1, g, z, h, hz => by
    unfold xent at h
    rw [Bool.or_eq_true] at h
    rcases h with h | h
    · exact xlPos_ok hS h hz
    · split at h
      · cases h
      · rename_i q t hg
        rw [Bool.or_eq_true] at h
        rcases h with h | h
        · obtain ⟨f, hf, hc⟩ := List.any_eq_true.mp h
          rw [Bool.and_eq_true] at hc
          obtain ⟨y, h1, h2⟩ := hF f hf
          have := xent_ok hS hF hc.2 (xlA_ok (k := -1) hz h1)
          omega
        · split at h
          · cases h
          · rename_i r hr
            obtain ⟨x, h1, rfl⟩ := xlv_inv hz
            rw [hg] at h1
            obtain ⟨a, w, g1, g2, rfl⟩ := xlE_inv (k := q.1) (c := q.2) h1
            have := xent_ok hS hF h (xlv_mk (L := (t, g.2 + (bif xle 0 q.2 then q.2 * r.1 else q.2 * r.2))) g2)
            have := (x_lo1 (c := q.2) (hS.2 q.1 r a hr g1)).1
            dsimp only at *
            omega
end
section
/-! Patterns: a state that fits one. -/
/-- the same symbol -/
def xsy (a b : xI) : Bool := match a.1, b.1 with
  | some i, some j => Nat.beq i j
  | none, none => true
  | _, _ => false
theorem xsy_ok {a b : xI} (h : xsy a b = true) : a.1 = b.1 := by
  obtain ⟨o, c⟩ := a
  obtain ⟨o', c'⟩ := b
  cases o <;> cases o' <;> simp only [xsy] at h
  · rfl
  · cases h
  · cases h
  · rw [Nat.eq_of_beq_eq_true h]
theorem xe_same {ρ : List Int} {a b : xI} {z : Int} (h : a.1 = b.1) (hz : xe ρ a = some z) : xe ρ b = some (z + (b.2 - a.2)) := by
  obtain ⟨o, c⟩ := a
  obtain ⟨o', c'⟩ := b
  have h : o = o' := h
  subst h
  have := xe_off (d := c' - c) hz
  have e : c + (c' - c) = c' := by omega
  rw [e] at this
  exact this
/-- what symbols and cells of a pattern stand for -/
abbrev xTh : Type := List (Option xI)
abbrev xPh : Type := List (Option Nat)
def xLe {α : Type} (θ θ' : List (Option α)) : Prop := θ.length = θ'.length ∧ ∀ (k : Nat) (b : α), θ[k]? = some (some b) → θ'[k]? = some (some b)
theorem xLe.rf {α : Type} (θ : List (Option α)) : xLe θ θ := ⟨rfl, fun _ _ h => h⟩
theorem xLe.tr {α : Type} {a b c : List (Option α)} (h1 : xLe a b) (h2 : xLe b c) : xLe a c := ⟨h1.1.trans h2.1, fun k x h => h2.2 k x (h1.2 k x h)⟩
theorem xLe.set {α : Type} {θ : List (Option α)} {k : Nat} {b : α} (h : θ[k]? = some none) : xLe θ (θ.set k (some b)) := by
  refine ⟨by simp, fun j x hx => ?_⟩
  by_cases hj : k = j
  · subst hj
    rw [h] at hx
    cases hx
  · rw [List.getElem?_set_ne hj]
    exact hx
/-- the symbols' values of a pattern, out of those of the state -/
def xThv (ρ : List Int) (θ : xTh) (ρp : List Int) : Prop := θ.length = ρp.length ∧ ∀ (k : Nat) (b : xI), θ[k]? = some (some b) → ∃ z, xe ρ b = some z ∧ ρp[k]? = some z
def xPhv (ad : List Nat) (φ : xPh) (adp : List Nat) : Prop := φ.length = adp.length ∧ ∀ (k : Nat) (j : Nat), φ[k]? = some (some j) → ∃ q, ad[j]? = some q ∧ adp[k]? = some q
def xmI (σ : List xB) (θ : xTh) (p a : xI) : Option xTh := match p.1 with
  | none => (match xrg σ a with
    | some r => bif xeq r.1 p.2 && xeq r.2 p.2 then some θ else none
    | none => none)
  | some k => (match θ[k]? with
    | some none => some (θ.set k (some (a.1, a.2 - p.2)))
    | some (some b) => bif xsy a b && xeq a.2 (b.2 + p.2) then some θ else none
    | none => none)
theorem xmI_ok {ρ : List Int} {σ : List xB} {θ θ' : xTh} {p a : xI} (hS : xSt ρ σ) (h : xmI σ θ p a = some θ') : xLe θ θ' ∧ ∀ {θ2 : xTh} {ρp : List Int} {z : Int}, xLe θ' θ2 → xThv ρ θ2 ρp → xe ρ a = some z → xe ρp p = some z := by
  obtain ⟨o, c⟩ := p
  cases o with
  | none =>
    simp only [xmI] at h
    split at h
    · rename_i r hr
      obtain ⟨hb, rfl⟩ := x_bif h
      rw [Bool.and_eq_true, xeq_iff, xeq_iff] at hb
      refine ⟨xLe.rf θ, fun _ _ hz => ?_⟩
      have := xrg_ok hS hz hr
      simp only [xe]
      congr 1
      omega
    · cases h
  | some k =>
    simp only [xmI] at h
    split at h
    · rename_i hk
      cases h
      refine ⟨xLe.set hk, fun {θ2 ρp z} h2 hv hz => ?_⟩
      have hlt : k < θ.length := (List.getElem?_eq_some_iff.mp hk).1
      obtain ⟨y, h3, h4⟩ := hv.2 k (a.1, a.2 - c) (h2.2 k _ (by rw [List.getElem?_set_self' ]; rw [hk]; rfl))
      have h5 := xe_same (a := a) (b := (a.1, a.2 - c)) rfl hz
      rw [h3] at h5
      cases h5
      simp only [xe]
      rw [h4]
      dsimp only
      congr 1
      omega
    · rename_i b hk
      obtain ⟨hb, rfl⟩ := x_bif h
      rw [Bool.and_eq_true, xeq_iff] at hb
      refine ⟨xLe.rf θ, fun {θ2 ρp z} h2 hv hz => ?_⟩
      obtain ⟨y, h3, h4⟩ := hv.2 k b (h2.2 k b hk)
      have h5 := xe_same (a := a) (b := b) (xsy_ok hb.1) hz
      rw [h3] at h5
      cases h5
      simp only [xe]
      rw [h4]
      dsimp only
      congr 1
      omega
    · cases h
def xmR (φ : xPh) (i j : Nat) : Option xPh := match φ[i]? with
  | some none => some (φ.set i (some j))
  | some (some k) => bif Nat.beq k j then some φ else none
  | none => none
theorem xmR_ok {ad : List Nat} {φ φ' : xPh} {i j : Nat} (h : xmR φ i j = some φ') : xLe φ φ' ∧ ∀ {φ2 : xPh} {adp : List Nat} {q : Nat}, xLe φ' φ2 → xPhv ad φ2 adp → ad[j]? = some q → adp[i]? = some q := by
  unfold xmR at h
  split at h
  · rename_i hk
    cases h
    refine ⟨xLe.set hk, fun {φ2 adp q} h2 hv hq => ?_⟩
    obtain ⟨y, h3, h4⟩ := hv.2 i j (h2.2 i j (by rw [List.getElem?_set_self']; rw [hk]; rfl))
    rw [hq] at h3
    cases h3
    exact h4
  · rename_i k hk
    obtain ⟨hb, rfl⟩ := x_bif h
    have hb := Nat.eq_of_beq_eq_true hb
    subst hb
    refine ⟨xLe.rf φ, fun {φ2 adp q} h2 hv hq => ?_⟩
    obtain ⟨y, h3, h4⟩ := hv.2 i k (h2.2 i k hk)
    rw [hq] at h3
    cases h3
    exact h4
  · cases h
/-- refs outside: what the pattern's refs 20, 21 .. stand for -/
abbrev xKp : Type := List (Option xV)
def xrq (ad ex : List Nat) : xV → Nat → Prop
  | .inr (.inr (.inl (some i))), q => ad[i]? = some q
  | .inr (.inr (.inr k)), q => ex[k]? = some q
  | _, _ => False
theorem xrq_v {ρ : List Int} {ad ex : List Nat} : ∀ {v : xV} {q : Nat}, xrq ad ex v q → xv ρ ad ex v (.ref q)
  | .inl _, _, h => h.elim
  | .inr (.inl _), _, h => h.elim
  | .inr (.inr (.inl none)), _, h => h.elim
  | .inr (.inr (.inl (some i))), q, h => ⟨q, h, rfl⟩
  | .inr (.inr (.inr k)), q, h => ⟨q, h, rfl⟩
theorem xrq_of {ρ : List Int} {ad ex : List Nat} : ∀ {v : xV} {q q' : Nat}, xrq ad ex v q → xv ρ ad ex v (.ref q') → q' = q
  | .inl _, _, _, h, _ => h.elim
  | .inr (.inl _), _, _, h, _ => h.elim
  | .inr (.inr (.inl none)), _, _, h, _ => h.elim
  | .inr (.inr (.inl (some i))), q, q', h, hv => by
    obtain ⟨z, h1, h2⟩ := hv
    have h : ad[i]? = some q := h
    rw [h] at h1
    cases h1
    cases h2
    rfl
  | .inr (.inr (.inr k)), q, q', h, hv => by
    obtain ⟨z, h1, h2⟩ := hv
    have h : ex[k]? = some q := h
    rw [h] at h1
    cases h1
    cases h2
    rfl
/-- the pattern's outside refs, out of the state's -/
def xKv (ad ex : List Nat) (κ : xKp) (exp : List Nat) : Prop := (∀ k, k < 20 → exp[k]? = ex[k]?) ∧ ∀ (k : Nat) (v : xV), κ[k]? = some (some v) → ∃ q, xrq ad ex v q ∧ exp[20 + k]? = some q
/-- two refs are one -/
def xsr : xV → xV → Bool
  | .inr (.inr (.inl (some i))), .inr (.inr (.inl (some j))) => Nat.beq i j
  | .inr (.inr (.inr i)), .inr (.inr (.inr j)) => Nat.beq i j
  | _, _ => false
theorem xsr_ok : ∀ {v w : xV}, xsr v w = true → v = w
  | .inr (.inr (.inl (some i))), .inr (.inr (.inl (some j))), h => by rw [Nat.eq_of_beq_eq_true h]
  | .inr (.inr (.inr i)), .inr (.inr (.inr j)), h => by rw [Nat.eq_of_beq_eq_true h]
  | .inl _, _, h => by cases h
  | .inr (.inl _), _, h => by cases h
  | .inr (.inr (.inl none)), _, h => by cases h
  | .inr (.inr (.inl (some _))), .inl _, h => by cases h
  | .inr (.inr (.inl (some _))), .inr (.inl _), h => by cases h
  | .inr (.inr (.inl (some _))), .inr (.inr (.inl none)), h => by cases h
  | .inr (.inr (.inl (some _))), .inr (.inr (.inr _)), h => by cases h
  | .inr (.inr (.inr _)), .inl _, h => by cases h
  | .inr (.inr (.inr _)), .inr (.inl _), h => by cases h
  | .inr (.inr (.inr _)), .inr (.inr (.inl _)), h => by cases h
def xisr : xV → Bool
  | .inr (.inr (.inl (some _))) => true
  | .inr (.inr (.inr _)) => true
  | _ => false
def xmX (κ : xKp) (k : Nat) (a : xV) : Option xKp := bif Nat.blt k 20 then (match a with
    | .inr (.inr (.inr j)) => bif Nat.beq k j then some κ else none
    | _ => none) else (match κ[k - 20]? with
    | some none => bif xisr a then some (κ.set (k - 20) (some a)) else none
    | some (some b) => bif xsr a b then some κ else none
    | none => none)
theorem xmX_ok {ρ : List Int} {ad ex : List Nat} {κ κ' : xKp} {k : Nat} {a : xV} (h : xmX κ k a = some κ') : xLe κ κ' ∧ ∀ {κ2 : xKp} {exp : List Nat} {ρp : List Int} {adp : List Nat} {w : Value}, xLe κ' κ2 → xKv ad ex κ2 exp → xv ρ ad ex a w → xv ρp adp exp (.inr (.inr (.inr k))) w := by
  unfold xmX at h
  cases hk : Nat.blt k 20 with
  | true =>
    rw [hk] at h
    simp only [cond_true] at h
    split at h
    · rename_i j
      obtain ⟨hb, rfl⟩ := x_bif h
      have hb := Nat.eq_of_beq_eq_true hb
      subst hb
      refine ⟨xLe.rf κ, fun _ hv hw => ?_⟩
      obtain ⟨q, h1, e⟩ := hw
      exact ⟨q, by rw [hv.1 k (x_blt hk)]; exact h1, e⟩
    · cases h
  | false =>
    have hge : 20 ≤ k := by
      rcases Nat.lt_or_ge k 20 with q | q
      · have : Nat.blt k 20 = true := by
          unfold Nat.blt
          exact Nat.ble_eq_true_of_le q
        rw [this] at hk
        cases hk
      · exact q
    have e20 : 20 + (k - 20) = k := by omega
    have fin : ∀ {b : xV} {κ2 : xKp} {exp : List Nat} {ρp : List Int} {adp : List Nat} {w : Value}, κ2[k - 20]? = some (some b) → xKv ad ex κ2 exp → xv ρ ad ex b w → xisr b = true → xv ρp adp exp (.inr (.inr (.inr k))) w := by
      intro b κ2 exp ρp adp w h1 hv hw hi
      obtain ⟨q, g1, g2⟩ := hv.2 (k - 20) b h1
      rw [e20] at g2
      have : ∃ q', w = .ref q' := by
        unfold xisr at hi
        split at hi
        · obtain ⟨q', -, e⟩ := hw
          exact ⟨q', e⟩
        · obtain ⟨q', -, e⟩ := hw
          exact ⟨q', e⟩
        · cases hi
      obtain ⟨q', rfl⟩ := this
      have := xrq_of g1 hw
      subst this
      exact ⟨q', g2, rfl⟩
    rw [hk] at h
    simp only [cond_false] at h
    split at h
    · rename_i hn
      obtain ⟨hb, rfl⟩ := x_bif h
      exact ⟨xLe.set hn, fun h2 hv hw => fin (h2.2 (k - 20) a (by rw [List.getElem?_set_self']; rw [hn]; rfl)) hv hw hb⟩
    · rename_i b hn
      obtain ⟨hb, rfl⟩ := x_bif h
      have e := xsr_ok hb
      subst e
      have hi : xisr a = true := by
        unfold xsr at hb
        split at hb
        · rfl
        · rfl
        · cases hb
      exact ⟨xLe.rf κ, fun h2 hv hw => fin (h2.2 (k - 20) a hn) hv hw hi⟩
    · cases h
/-- what is known: symbols, cells, outside refs -/
abbrev xT3 : Type := xTh × (xPh × xKp)
/-- a value -/
def xmV (σ : List xB) (t : xT3) : xV → xV → Option xT3
  | .inl p, .inl a => (match xmI σ t.1 p a with
    | some θ => some (θ, t.2)
    | none => none)
  | .inr (.inl p), .inr (.inl a) => (match xmI σ t.1 p a with
    | some θ => some (θ, t.2)
    | none => none)
  | .inr (.inr (.inl none)), .inr (.inr (.inl none)) => some t
  | .inr (.inr (.inl (some i))), .inr (.inr (.inl (some j))) => (match xmR t.2.1 i j with
    | some φ => some (t.1, φ, t.2.2)
    | none => none)
  | .inr (.inr (.inr k)), a => (match xmX t.2.2 k a with
    | some κ => some (t.1, t.2.1, κ)
    | none => none)
  | _, _ => none
def xL3 (t t' : xT3) : Prop := xLe t.1 t'.1 ∧ xLe t.2.1 t'.2.1 ∧ xLe t.2.2 t'.2.2
theorem xL3.rf (t : xT3) : xL3 t t := ⟨xLe.rf _, xLe.rf _, xLe.rf _⟩
theorem xL3.tr {a b c : xT3} (h1 : xL3 a b) (h2 : xL3 b c) : xL3 a c := ⟨h1.1.tr h2.1, h1.2.1.tr h2.2.1, h1.2.2.tr h2.2.2⟩
/-- all symbols, cells and outside refs stand for something -/
def xVal (ρ : List Int) (ad ex : List Nat) (t : xT3) (ρp : List Int) (adp exp : List Nat) : Prop := xThv ρ t.1 ρp ∧ xPhv ad t.2.1 adp ∧ xKv ad ex t.2.2 exp
theorem xmV_ok {ρ : List Int} {ad ex : List Nat} {σ : List xB} (hS : xSt ρ σ) {t t' : xT3} : ∀ {p a : xV}, xmV σ t p a = some t' → xL3 t t' ∧ ∀ {t2 : xT3} {ρp : List Int} {adp exp : List Nat} {w : Value}, xL3 t' t2 → xVal ρ ad ex t2 ρp adp exp → xv ρ ad ex a w → xv ρp adp exp p w
  | .inl p, .inl a, h => by
    simp only [xmV] at h
    split at h
    · rename_i θ hθ
      cases h
      obtain ⟨h1, h2⟩ := xmI_ok hS hθ
      refine ⟨⟨h1, xLe.rf _, xLe.rf _⟩, fun hl hv hw => ?_⟩
      obtain ⟨x, e, hx⟩ := hw
      exact ⟨x, e, h2 hl.1 hv.1 hx⟩
    · cases h
  | .inr (.inl p), .inr (.inl a), h => by
    simp only [xmV] at h
    split at h
    · rename_i θ hθ
      cases h
      obtain ⟨h1, h2⟩ := xmI_ok hS hθ
      refine ⟨⟨h1, xLe.rf _, xLe.rf _⟩, fun hl hv hw => ?_⟩
      obtain ⟨x, e, hx⟩ := hw
      exact ⟨x, e, h2 hl.1 hv.1 hx⟩
    · cases h
  | .inr (.inr (.inl none)), .inr (.inr (.inl none)), h => by
    simp only [xmV, Option.some.injEq] at h
    subst h
    exact ⟨xL3.rf t, fun _ _ hw => hw⟩
  | .inr (.inr (.inl (some i))), .inr (.inr (.inl (some j))), h => by
    simp only [xmV] at h
    split at h
    · rename_i φ hφ
      cases h
      obtain ⟨h1, h2⟩ := xmR_ok (ad := ad) hφ
      refine ⟨⟨xLe.rf _, h1, xLe.rf _⟩, fun hl hv hw => ?_⟩
      obtain ⟨q, hq, e⟩ := hw
      exact ⟨q, h2 hl.2.1 hv.2.1 hq, e⟩
    · cases h
  | .inr (.inr (.inr k)), a, h => by
    have h : (match xmX t.2.2 k a with
      | some κ => some (t.1, t.2.1, κ)
      | none => none) = some t' := by
      cases a with
      | inl _ => exact h
      | inr a => rcases a with a | (_ | a) | a <;> exact h
    split at h
    · rename_i κ hκ
      cases h
      obtain ⟨h1, h2⟩ := xmX_ok (ρ := ρ) (ad := ad) (ex := ex) hκ
      exact ⟨⟨xLe.rf _, xLe.rf _, h1⟩, fun hl hv hw => h2 hl.2.2 hv.2.2 hw⟩
    · cases h
  | .inl _, .inr _, h => by cases h
  | .inr (.inl _), .inl _, h => by cases h
  | .inr (.inl _), .inr (.inr _), h => by cases h
  | .inr (.inr (.inl none)), .inl _, h => by cases h
  | .inr (.inr (.inl none)), .inr (.inl _), h => by cases h
  | .inr (.inr (.inl none)), .inr (.inr (.inl (some _))), h => by cases h
  | .inr (.inr (.inl none)), .inr (.inr (.inr _)), h => by cases h
  | .inr (.inr (.inl (some _))), .inl _, h => by cases h
  | .inr (.inr (.inl (some _))), .inr (.inl _), h => by cases h
  | .inr (.inr (.inl (some _))), .inr (.inr (.inl none)), h => by cases h
  | .inr (.inr (.inl (some _))), .inr (.inr (.inr _)), h => by cases h
/-- values, one by one -/
def xmVs (σ : List xB) : xT3 → List xV → List xV → Option xT3
  | t, [], [] => some t
  | t, p :: ps, a :: as => (match xmV σ t p a with
    | some t' => xmVs σ t' ps as
    | none => none)
  | _, _, _ => none
theorem xmVs_ok {ρ : List Int} {ad ex : List Nat} {σ : List xB} (hS : xSt ρ σ) : ∀ {t t' : xT3} {ps as : List xV}, xmVs σ t ps as = some t' → xL3 t t' ∧ ∀ {t2 : xT3} {ρp : List Int} {adp exp : List Nat} {ws : List Value}, xL3 t' t2 → xVal ρ ad ex t2 ρp adp exp → xAll2 (xv ρ ad ex) as ws → xAll2 (xv ρp adp exp) ps ws
  | t, t', [], [], h => by
    simp only [xmVs, Option.some.injEq] at h
    subst h
    refine ⟨xL3.rf t, fun _ _ hw => ?_⟩
    have := hw.nil
    subst this
    trivial
  | t, t', p :: ps, a :: as, h => by
    simp only [xmVs] at h
    split at h
    · rename_i t1 h1
      obtain ⟨l1, k1⟩ := xmV_ok (ad := ad) (ex := ex) hS h1
      obtain ⟨l2, k2⟩ := xmVs_ok (ad := ad) (ex := ex) hS h
      refine ⟨l1.tr l2, fun hl hv hw => ?_⟩
      obtain ⟨w, ws', rfl, hw1, hw2⟩ := hw.cons
      exact ⟨k1 (l2.tr hl) hv hw1, k2 hl hv hw2⟩
    · cases h
  | t, t', [], _ :: _, h => by cases h
  | t, t', _ :: _, [], h => by cases h
end
section
/-! Patterns: elements of arrays, cells, the heap. -/
def xmE (σ : List xB) (θ : xTh) : (xI ⊕ xB) → (xI ⊕ xB) → Option xTh
  | .inr r, u => (match xelr σ u with
    | some q => bif xle r.1 q.1 && xle q.2 r.2 then some θ else none
    | none => none)
  | .inl p, .inl a => xmI σ θ p a
  | .inl p, .inr q => (match p.1 with
    | none => bif xeq q.1 p.2 && xeq q.2 p.2 then some θ else none
    | some _ => none)
theorem xmE_ok {ρ : List Int} {σ : List xB} (hS : xSt ρ σ) {θ θ' : xTh} : ∀ {p u : xI ⊕ xB}, xmE σ θ p u = some θ' → xLe θ θ' ∧ ∀ {θ2 : xTh} {ρp : List Int} {z : Int}, xLe θ' θ2 → xThv ρ θ2 ρp → xel ρ u z → xel ρp p z
  | .inr r, u, h => by
    simp only [xmE] at h
    split at h
    · rename_i q hq
      obtain ⟨hb, rfl⟩ := x_bif h
      rw [Bool.and_eq_true, xle_iff, xle_iff] at hb
      refine ⟨xLe.rf θ, fun _ _ hz => ?_⟩
      have := xelr_ok hS hz hq
      show r.1 ≤ _ ∧ _ ≤ r.2
      omega
    · cases h
  | .inl p, .inl a, h => by
    obtain ⟨h1, h2⟩ := xmI_ok hS (show xmI σ θ p a = some θ' from h)
    exact ⟨h1, fun hl hv hz => h2 hl hv hz⟩
  | .inl (none, c), .inr q, h => by
    simp only [xmE] at h
    obtain ⟨hb, rfl⟩ := x_bif h
    rw [Bool.and_eq_true, xeq_iff, xeq_iff] at hb
    refine ⟨xLe.rf θ, fun {θ2 ρp z} _ _ hz => ?_⟩
    have hz : q.1 ≤ z ∧ z ≤ q.2 := hz
    show xe ρp (none, c) = some z
    simp only [xe]
    congr 1
    omega
  | .inl (some k, c), .inr q, h => by cases h
def xmG (σ : List xB) : Nat → xTh → List xG → List xG → Option xTh
  | 0, _, _, _ => none
  | _ + 1, θ, [], [] => some θ
  | f + 1, θ, g :: ps, v :: us => (match xmE σ θ g.2 v.2 with
    | none => none
    | some θ' => bif Nat.beq g.1 v.1 then xmG σ f θ' ps us else (bif Nat.blt g.1 v.1 then xmG σ f θ' ps ((v.1 - g.1, v.2) :: us) else xmG σ f θ' ((g.1 - v.1, g.2) :: ps) us))
  | _ + 1, _, [], _ :: _ => none
  | _ + 1, _, _ :: _, [] => none
theorem x_nblt2 {a b : Nat} (h : Nat.blt a b = false) : b ≤ a := by
  rcases Nat.lt_or_ge a b with q | q
  · have : Nat.blt a b = true := by
      unfold Nat.blt
      exact Nat.ble_eq_true_of_le q
    rw [this] at h
    cases h
  · exact q
theorem xmG_ok {ρ : List Int} {σ : List xB} (hS : xSt ρ σ) : ∀ {f : Nat} {θ θ' : xTh} {ps us : List xG}, xmG σ f θ ps us = some θ' → xLe θ θ' ∧ ∀ {θ2 : xTh} {ρp : List Int}, xLe θ' θ2 → xThv ρ θ2 ρp → ∀ (j : Nat) (u : xI ⊕ xB) (z : Int), xseg us j = some u → xel ρ u z → ∃ p, xseg ps j = some p ∧ xel ρp p z
  | 0, _, _, _, _, h => by cases h
  | f + 1, θ, θ', [], [], h => by
    simp only [xmG, Option.some.injEq] at h
    subst h
    exact ⟨xLe.rf θ, fun _ _ j u z hu => by cases hu⟩
  | f + 1, θ, θ', g :: ps, v :: us, h => by
    simp only [xmG] at h
    split at h
    · cases h
    · rename_i θ1 h1
      obtain ⟨l1, k1⟩ := xmE_ok hS h1
      cases hb : Nat.beq g.1 v.1 with
      | true =>
        rw [hb] at h
        simp only [cond_true] at h
        have e := Nat.eq_of_beq_eq_true hb
        obtain ⟨l2, k2⟩ := xmG_ok hS h
        refine ⟨l1.tr l2, fun hl hv j u z hu hz => ?_⟩
        rw [xseg_cons] at hu ⊢
        by_cases hj : j < v.1
        · rw [if_pos hj] at hu
          cases hu
          rw [if_pos (by omega)]
          exact ⟨g.2, rfl, k1 (l2.tr hl) hv hz⟩
        · rw [if_neg hj] at hu
          rw [if_neg (by omega), e]
          exact k2 hl hv _ u z hu hz
      | false =>
        rw [hb] at h
        simp only [cond_false] at h
        cases hc : Nat.blt g.1 v.1 with
        | true =>
          rw [hc] at h
          simp only [cond_true] at h
          have e := x_blt hc
          obtain ⟨l2, k2⟩ := xmG_ok hS h
          refine ⟨l1.tr l2, fun hl hv j u z hu hz => ?_⟩
          rw [xseg_cons] at hu ⊢
          by_cases hj : j < g.1
          · rw [if_pos (by omega)] at hu
            cases hu
            rw [if_pos hj]
            exact ⟨g.2, rfl, k1 (l2.tr hl) hv hz⟩
          · rw [if_neg hj]
            refine k2 hl hv (j - g.1) u z ?_ hz
            rw [xseg_cons]
            dsimp only
            by_cases hj2 : j < v.1
            · rw [if_pos hj2] at hu
              rw [if_pos (by omega)]
              exact hu
            · rw [if_neg hj2] at hu
              rw [if_neg (by omega)]
              have : j - g.1 - (v.1 - g.1) = j - v.1 := by omega
              rw [this]
              exact hu
        | false =>
          rw [hc] at h
          simp only [cond_false] at h
          have e := x_nblt2 hc
          obtain ⟨l2, k2⟩ := xmG_ok hS h
          refine ⟨l1.tr l2, fun hl hv j u z hu hz => ?_⟩
          rw [xseg_cons] at hu ⊢
          by_cases hj : j < v.1
          · rw [if_pos hj] at hu
            cases hu
            rw [if_pos (by omega)]
            exact ⟨g.2, rfl, k1 (l2.tr hl) hv hz⟩
          · rw [if_neg hj] at hu
            obtain ⟨p, hp, hz'⟩ := k2 hl hv (j - v.1) u z hu hz
            rw [xseg_cons] at hp
            dsimp only at hp
            by_cases hj2 : j < g.1
            · rw [if_pos (by omega)] at hp
              rw [if_pos hj2]
              exact ⟨p, hp, hz'⟩
            · rw [if_neg (by omega)] at hp
              rw [if_neg hj2]
              have : j - v.1 - (g.1 - v.1) = j - g.1 := by omega
              rw [this] at hp
              exact ⟨p, hp, hz'⟩
  | f + 1, θ, θ', [], _ :: _, h => by cases h
  | f + 1, θ, θ', _ :: _, [], h => by cases h
theorem xmG_arr {ρ : List Int} {σ : List xB} (hS : xSt ρ σ) {f : Nat} {θ θ' θ2 : xTh} {ps us : List xG} {ρp : List Int} (h : xmG σ f θ ps us = some θ') (hl : xLe θ' θ2) (hv : xThv ρ θ2 ρp) {n : Nat} {g : Nat → Int} (hz : xarr ρ us n g) : xarr ρp ps n g := fun j hj => by
  obtain ⟨u, h1, h2⟩ := hz j hj
  exact (xmG_ok hS h).2 hl hv j u (g j) h1 h2
/-- cells of arrays of cells -/
def xmOs : xPh → List (Option Nat) → List (Option Nat) → Option xPh
  | φ, [], [] => some φ
  | φ, none :: ps, none :: us => xmOs φ ps us
  | φ, some i :: ps, some j :: us => (match xmR φ i j with
    | some φ' => xmOs φ' ps us
    | none => none)
  | _, _, _ => none
theorem xmOs_ok {ad : List Nat} : ∀ {φ φ' : xPh} {ps us : List (Option Nat)}, xmOs φ ps us = some φ' → xLe φ φ' ∧ ps.length = us.length ∧ ∀ {φ2 : xPh} {adp : List Nat}, xLe φ' φ2 → xPhv ad φ2 adp → ∀ (f : Nat → Option Nat), (∀ (j : Nat) (o : Option Nat), us[j]? = some o → match o with
    | none => f j = none
    | some i => ∃ q, ad[i]? = some q ∧ f j = some q) → ∀ (j : Nat) (o : Option Nat), ps[j]? = some o → match o with
    | none => f j = none
    | some i => ∃ q, adp[i]? = some q ∧ f j = some q
  | φ, φ', [], [], h => by
    simp only [xmOs, Option.some.injEq] at h
    subst h
    exact ⟨xLe.rf φ, rfl, fun _ _ f _ j o ho => by simp at ho⟩
  | φ, φ', none :: ps, none :: us, h => by
    obtain ⟨l1, n1, k1⟩ := xmOs_ok (ad := ad) (show xmOs φ ps us = some φ' from h)
    refine ⟨l1, by simp [n1], fun hl hv f hf j o ho => ?_⟩
    cases j with
    | zero =>
      simp at ho
      subst ho
      exact hf 0 none (by simp)
    | succ j => exact k1 hl hv (fun j => f (j + 1)) (fun j o ho => hf (j + 1) o (by simpa using ho)) j o (by simpa using ho)
  | φ, φ', some i :: ps, some i' :: us, h => by
    simp only [xmOs] at h
    split at h
    · rename_i φ1 h1
      obtain ⟨l0, k0⟩ := xmR_ok (ad := ad) h1
      obtain ⟨l1, n1, k1⟩ := xmOs_ok (ad := ad) h
      refine ⟨l0.tr l1, by simp [n1], fun hl hv f hf j o ho => ?_⟩
      cases j with
      | zero =>
        simp at ho
        subst ho
        obtain ⟨q, hq, e⟩ := hf 0 (some i') (by simp)
        exact ⟨q, k0 (l1.tr hl) hv hq, e⟩
      | succ j => exact k1 hl hv (fun j => f (j + 1)) (fun j o ho => hf (j + 1) o (by simpa using ho)) j o (by simpa using ho)
    · cases h
  | φ, φ', [], _ :: _, h => by cases h
  | φ, φ', none :: _, [], h => by cases h
  | φ, φ', none :: _, some _ :: _, h => by cases h
  | φ, φ', some _ :: _, [], h => by cases h
  | φ, φ', some _ :: _, none :: _, h => by cases h
/-- a cell -/
def xmC (σ : List xB) (t : xT3) : xC → xC → Option xT3
  | .inl o, .inl o' => bif Nat.beq o.1 o'.1 then xmVs σ t o.2 o'.2 else none
  | .inr (.inl a), .inr (.inl b) => bif Nat.beq a.1 b.1 && Nat.beq a.2.1 b.2.1 then (match xmG σ 600 t.1 a.2.2 b.2.2 with
    | some θ => some (θ, t.2)
    | none => none) else none
  | .inr (.inr (.inl a)), .inr (.inr (.inl b)) => bif Nat.beq a.1 b.1 then (match xmG σ 600 t.1 a.2 b.2 with
    | some θ => some (θ, t.2)
    | none => none) else none
  | .inr (.inr (.inr a)), .inr (.inr (.inr b)) => bif Nat.beq a.1 b.1 then (match xmOs t.2.1 a.2 b.2 with
    | some φ => some (t.1, φ, t.2.2)
    | none => none) else none
  | _, _ => none
theorem xmC_ok {cn : Nat → String} {ρ : List Int} {ad ex : List Nat} {tys : List (ClassId × FieldType)} {σ : List xB} (hS : xSt ρ σ) {t t' : xT3} : ∀ {p x : xC}, xmC σ t p x = some t' → xL3 t t' ∧ ∀ {t2 : xT3} {ρp : List Int} {adp exp : List Nat} {e : va_E}, xL3 t' t2 → xVal ρ ad ex t2 ρp adp exp → xcell cn ρ ad ex tys x e → xcell cn ρp adp exp tys p e
  | .inl o, .inl o', h => by
    obtain ⟨hb, h⟩ := x_bifO (show (bif Nat.beq o.1 o'.1 then xmVs σ t o.2 o'.2 else none) = some t' from h)
    have e := Nat.eq_of_beq_eq_true hb
    obtain ⟨l1, k1⟩ := xmVs_ok (ad := ad) (ex := ex) hS h
    refine ⟨l1, fun hl hv hc => ?_⟩
    obtain ⟨vs, e1, hvs⟩ := hc
    exact ⟨vs, by rw [e1, e], k1 hl hv hvs⟩
  | .inr (.inl a), .inr (.inl b), h => by
    simp only [xmC] at h
    obtain ⟨hb, h⟩ := x_bifO h
    rw [Bool.and_eq_true] at hb
    have e1 := Nat.eq_of_beq_eq_true hb.1
    have e2 := Nat.eq_of_beq_eq_true hb.2
    split at h
    · rename_i θ hθ
      cases h
      refine ⟨⟨(xmG_ok hS hθ).1, xLe.rf _, xLe.rf _⟩, fun hl hv hc => ?_⟩
      obtain ⟨cA, f, q1, q2, q3⟩ := hc
      exact ⟨cA, f, by rw [q1, e2], by rw [e1]; exact q2, by rw [e2]; exact xmG_arr hS hθ hl.1 hv.1 q3⟩
    · cases h
  | .inr (.inr (.inl a)), .inr (.inr (.inl b)), h => by
    simp only [xmC] at h
    obtain ⟨hb, h⟩ := x_bifO h
    have e1 := Nat.eq_of_beq_eq_true hb
    split at h
    · rename_i θ hθ
      cases h
      refine ⟨⟨(xmG_ok hS hθ).1, xLe.rf _, xLe.rf _⟩, fun hl hv hc => ?_⟩
      obtain ⟨cA, f, q1, q2, q3⟩ := hc
      exact ⟨cA, f, by rw [q1, e1], q2, by rw [e1]; exact xmG_arr hS hθ hl.1 hv.1 q3⟩
    · cases h
  | .inr (.inr (.inr a)), .inr (.inr (.inr b)), h => by
    simp only [xmC] at h
    obtain ⟨hb, h⟩ := x_bifO h
    have e1 := Nat.eq_of_beq_eq_true hb
    split at h
    · rename_i φ hφ
      cases h
      obtain ⟨l1, n1, k1⟩ := xmOs_ok (ad := ad) hφ
      refine ⟨⟨xLe.rf _, l1, xLe.rf _⟩, fun hl hv hc => ?_⟩
      obtain ⟨cA, f, q1, q2, q3⟩ := hc
      exact ⟨cA, f, by rw [q1, n1], by rw [e1]; exact q2, k1 hl.2.1 hv.2.1 f q3⟩
    · cases h
  | .inl _, .inr _, h => by cases h
  | .inr (.inl _), .inl _, h => by cases h
  | .inr (.inl _), .inr (.inr _), h => by cases h
  | .inr (.inr (.inl _)), .inl _, h => by cases h
  | .inr (.inr (.inl _)), .inr (.inl _), h => by cases h
  | .inr (.inr (.inl _)), .inr (.inr (.inr _)), h => by cases h
  | .inr (.inr (.inr _)), .inl _, h => by cases h
  | .inr (.inr (.inr _)), .inr (.inl _), h => by cases h
  | .inr (.inr (.inr _)), .inr (.inr (.inl _)), h => by cases h
/-- all cells of a pattern, from the i-th on -/
def xmH (σ : List xB) (h : List xC) : Nat → List xC → xT3 → Option xT3
  | _, [], t => some t
  | i, p :: ps, t => (match t.2.1[i]? with
    | some (some j) => (match h[j]? with
      | some x => (match xmC σ t p x with
        | some t' => xmH σ h (i + 1) ps t'
        | none => none)
      | none => none)
    | _ => none)
theorem xmH_ok {ρ : List Int} {ad ex : List Nat} {tys : List (ClassId × FieldType)} {σ : List xB} {h : List xC} {ws : va_W} (hS : xSt ρ σ) (hh : xHp ρ ad ex tys h ws) : ∀ {ps : List xC} {i : Nat} {t t' : xT3}, xmH σ h i ps t = some t' → xL3 t t' ∧ ∀ {t2 : xT3} {ρp : List Int} {adp exp : List Nat}, xL3 t' t2 → xVal ρ ad ex t2 ρp adp exp → ∀ (n : Nat) (p : xC), ps[n]? = some p → ∃ j y, t2.2.1[i + n]? = some (some j) ∧ ws[j]? = some y ∧ ad[j]? = some y.1 ∧ xcell xcn ρp adp exp tys p y.2
  | [], i, t, t', hv => by
    simp only [xmH, Option.some.injEq] at hv
    subst hv
    exact ⟨xL3.rf t, fun _ _ n p hp => by simp at hp⟩
  | p :: ps, i, t, t', hv => by
    simp only [xmH] at hv
    split at hv
    · rename_i j hj
      split at hv
      · rename_i x hx
        split at hv
        · rename_i t1 h1
          obtain ⟨l1, k1⟩ := xmC_ok (cn := xcn) (ad := ad) (ex := ex) (tys := tys) hS h1
          obtain ⟨l2, k2⟩ := xmH_ok hS hh hv
          refine ⟨l1.tr l2, fun {t2 ρp adp exp} hl hva n p' hp => ?_⟩
          cases n with
          | zero =>
            simp at hp
            subst hp
            obtain ⟨y, hy1, hy2⟩ := hh.2.get hx
            refine ⟨j, y, ?_, hy1, ?_, k1 (l2.tr hl) hva hy2⟩
            · exact ((l1.tr l2).tr hl).2.1.2 i j hj
            · have : (ws.map Prod.fst)[j]? = some y.1 := by rw [List.getElem?_map, hy1]; rfl
              rw [hh.1] at this
              exact this
          | succ n =>
            obtain ⟨j', y, q1, q2⟩ := k2 hl hva n p' (by simpa using hp)
            refine ⟨j', y, ?_, q2⟩
            have : i + (n + 1) = i + 1 + n := by omega
            rw [this]
            exact q1
        · cases hv
      · cases hv
    · cases hv
end
section
/-! Patterns: the whole test. -/
theorem xe_def {ρ : List Int} {σ : List xB} {a : xI} {r : xB} (hS : xSt ρ σ) (hr : xrg σ a = some r) : ∃ z, xe ρ a = some z := by
  obtain ⟨o, c⟩ := a
  cases o with
  | none => exact ⟨c, rfl⟩
  | some k =>
    simp only [xrg] at hr
    cases hk : σ[k]? with
    | none => rw [hk] at hr; cases hr
    | some q =>
      have hlt : k < σ.length := (List.getElem?_eq_some_iff.mp hk).1
      rw [hS.1] at hlt
      refine ⟨ρ[k] + c, ?_⟩
      simp only [xe]
      rw [List.getElem?_eq_getElem hlt]
/-- all are there -/
def xTot {α : Type} : List (Option α) → Option (List α)
  | [] => some []
  | some a :: t => (match xTot t with
    | some l => some (a :: l)
    | none => none)
  | none :: _ => none
theorem xTot_ok {α : Type} : ∀ {θ : List (Option α)} {l : List α}, xTot θ = some l → θ = l.map some
  | [], l, h => by
    simp only [xTot, Option.some.injEq] at h
    subst h
    rfl
  | some a :: t, l, h => by
    simp only [xTot] at h
    split at h
    · rename_i l' hl
      cases h
      rw [xTot_ok hl]
      rfl
    · cases h
  | none :: _, l, h => by cases h
/-- within the pattern's bounds -/
def xIn (σ : List xB) : List xI → List xB → Bool
  | [], [] => true
  | a :: as, r :: rs => (match xrg σ a with
    | some q => xle r.1 q.1 && (xle q.2 r.2 && xIn σ as rs)
    | none => false)
  | _, _ => false
theorem xIn_ok {ρ : List Int} {σ : List xB} (hS : xSt ρ σ) : ∀ {θ : List xI} {τ : List xB}, xIn σ θ τ = true → ∃ ρp, xSt ρp τ ∧ xThv ρ (θ.map some) ρp
  | [], [], _ => ⟨[], ⟨rfl, fun k r z h => by simp at h⟩, rfl, fun k b h => by simp at h⟩
  | a :: as, r :: rs, h => by
    simp only [xIn] at h
    split at h
    · rename_i q hq
      rw [Bool.and_eq_true, Bool.and_eq_true, xle_iff, xle_iff] at h
      obtain ⟨h1, h2, h3⟩ := h
      obtain ⟨z, hz⟩ := xe_def hS hq
      have hb := xrg_ok hS hz hq
      obtain ⟨ρp, p1, p2⟩ := xIn_ok hS h3
      refine ⟨z :: ρp, ⟨by simp [p1.1], fun k r' z' hr hz' => ?_⟩, by simpa using p2.1, fun k b hk => ?_⟩
      · cases k with
        | zero =>
          simp at hr hz'
          subst hr; subst hz'
          omega
        | succ k => exact p1.2 k r' z' (by simpa using hr) (by simpa using hz')
      · cases k with
        | zero =>
          simp at hk
          subst hk
          exact ⟨z, hz, by simp⟩
        | succ k =>
          obtain ⟨z', q1, q2⟩ := p2.2 k b (by simpa using hk)
          exact ⟨z', q1, by simpa using q2⟩
    · cases h
  | [], _ :: _, h => by cases h
  | _ :: _, [], h => by cases h
/-- a pattern's number in the state's words -/
def xsub1 (θ : List xI) (a : xI) : Option xI := match a.1 with
  | none => some a
  | some k => (match θ[k]? with
    | some b => some (b.1, b.2 + a.2)
    | none => none)
theorem xsub1_ok {ρ ρp : List Int} {θ : List xI} (hv : xThv ρ (θ.map some) ρp) {a b : xI} (h : xsub1 θ a = some b) : ∃ z, xe ρ b = some z ∧ xe ρp a = some z := by
  obtain ⟨o, c⟩ := a
  cases o with
  | none =>
    simp only [xsub1, Option.some.injEq] at h
    subst h
    exact ⟨c, rfl, rfl⟩
  | some k =>
    simp only [xsub1] at h
    split at h
    · rename_i d hd
      cases h
      obtain ⟨z, h1, h2⟩ := hv.2 k d (by rw [List.getElem?_map, hd]; rfl)
      refine ⟨z + c, xe_off h1, ?_⟩
      simp only [xe]
      rw [h2]
    · cases h
/-- a pattern's sum in the state's words -/
def xlS (θ : List xI) : List (Nat × Int) → xLn → Option xLn
  | [], acc => some acc
  | q :: t, acc => (match θ[q.1]? with
    | some b => xlS θ t (xlA q.2 acc (xln b))
    | none => none)
theorem xlS_ok {ρ ρp : List Int} {θ : List xI} (hv : xThv ρ (θ.map some) ρp) : ∀ {l : List (Nat × Int)} {acc r : xLn} {w : Int}, xlS θ l acc = some r → xlv ρ acc = some w → ∃ z, xlE ρp l = some z ∧ xlv ρ r = some (w + z)
  | [], acc, r, w, h, hw => by
    simp only [xlS, Option.some.injEq] at h
    subst h
    exact ⟨0, rfl, by rw [hw, Int.add_zero]⟩
  | (s, c) :: t, acc, r, w, h, hw => by
    simp only [xlS] at h
    split at h
    · rename_i b hb
      obtain ⟨y, h1, h2⟩ := hv.2 s b (by rw [List.getElem?_map, hb]; rfl)
      obtain ⟨z, g1, g2⟩ := xlS_ok hv h (xlA_ok (k := c) hw (xln_ok h1))
      refine ⟨c * y + z, xlE_cons h2 g1, ?_⟩
      rw [g2, Int.add_assoc]
    · cases h
def xlT (θ : List xI) (g : xLn) : Option xLn := xlS θ g.1 ([], g.2)
theorem xlT_ok {ρ ρp : List Int} {θ : List xI} (hv : xThv ρ (θ.map some) ρp) {g r : xLn} (h : xlT θ g = some r) : ∃ z, xlv ρp g = some z ∧ xlv ρ r = some z := by
  obtain ⟨z, h1, h2⟩ := xlS_ok hv h (w := g.2) (by simp [xlv, xlE])
  exact ⟨z + g.2, xlv_mk h1, by rw [h2]; congr 1; omega⟩
def xFin (σ : List xB) (F : xF) (θ : List xI) (G : xF) : Bool := G.all (fun q => match xlT θ q with
  | some g => xent σ F 12 g
  | none => false)
theorem xFin_ok {ρ ρp : List Int} {σ : List xB} {F G : xF} {θ : List xI} (hS : xSt ρ σ) (hF : xFs ρ F) (hv : xThv ρ (θ.map some) ρp) (h : xFin σ F θ G = true) : xFs ρp G := fun q hq => by
  have := List.all_eq_true.mp h q hq
  split at this
  · rename_i g hg
    obtain ⟨z, h1, h2⟩ := xlT_ok hv hg
    exact ⟨z, h1, xent_ok hS hF this h2⟩
  · cases this
def xnd : List Nat → Bool
  | [] => true
  | a :: t => !(t.any (Nat.beq a)) && xnd t
theorem xnd_ok : ∀ {l : List Nat}, xnd l = true → ∀ (i j : Nat) (a : Nat), l[i]? = some a → l[j]? = some a → i = j
  | [], _, i, j, a, h, _ => by simp at h
  | b :: t, h, i, j, a, hi, hj => by
    simp only [xnd, Bool.and_eq_true, Bool.not_eq_true'] at h
    have hn : ∀ k, t[k]? = some b → False := fun k hk => by
      have : t.any (Nat.beq b) = true := List.any_eq_true.mpr ⟨b, List.mem_of_getElem? hk, Nat.beq_refl b⟩
      rw [h.1] at this
      cases this
    cases i with
    | zero =>
      cases j with
      | zero => rfl
      | succ j =>
        simp at hi hj
        subst hi
        exact (hn j hj).elim
    | succ i =>
      cases j with
      | zero =>
        simp at hi hj
        subst hj
        exact (hn i hi).elim
      | succ j =>
        simp at hi hj
        rw [xnd_ok h.2 i j a hi hj]
/-- a pattern: cells, bounds, facts, values; how many outside refs -/
abbrev xPt : Type := List xC × (List xB × (xF × (List xV × Nat)))
/-- a ref that there is: a cell, or one outside -/
def xKin (n nx : Nat) : xV → Bool
  | .inr (.inr (.inl (some i))) => Nat.blt i n
  | .inr (.inr (.inr k)) => Nat.blt k nx
  | _ => false
/-- THE TEST. nx: how many refs outside there are. The state: cells, bounds, facts, values; t: what is known beforehand -/
def xPFit (nx : Nat) (h : List xC) (σ : List xB) (F : xF) (vs : List xV) (t : xT3) (P : xPt) : Option (List xI × (List Nat × List xV)) := match xmVs σ t P.2.2.2.1 vs with
  | none => none
  | some t1 => (match xmH σ h 0 P.1 t1 with
    | none => none
    | some t2 => (match xTot t2.1 with
      | none => none
      | some θ => (match xTot t2.2.1 with
        | none => none
        | some φ => (match xTot t2.2.2 with
          | none => none
          | some κ => bif Nat.beq φ.length P.1.length && (xnd φ && (κ.all (xKin h.length nx) && (xIn σ θ P.2.1 && xFin σ F θ P.2.2.1))) then some (θ, φ, κ) else none))))
/-- what it says -/
def xFits (ρ : List Int) (ad ex : List Nat) (tys : List (ClassId × FieldType)) (ws : va_W) (vals : List Value) (θ : List xI) (φ : List Nat) (κ : List xV) (P : xPt) (ρp : List Int) (adp exp : List Nat) (wsp : va_W) : Prop :=
  xSt ρp P.2.1 ∧ xFs ρp P.2.2.1 ∧ xHp ρp adp exp tys P.1 wsp ∧ xAll2 (xv ρp adp exp) P.2.2.2.1 vals ∧ xThv ρ (θ.map some) ρp ∧ φ.length = P.1.length ∧ (∀ (i j a : Nat), φ[i]? = some a → φ[j]? = some a → i = j) ∧ (∀ (k : Nat) (y : Nat × va_E), wsp[k]? = some y → ∃ j : Nat, φ[k]? = some j ∧ ws[j]? = some y) ∧ xKv ad ex (κ.map some) exp ∧ exp.length = 20 + κ.length
theorem xmH_cell {ρ : List Int} {σ : List xB} (hS : xSt ρ σ) {h : List xC} : ∀ {ps : List xC} {i : Nat} {t t' : xT3}, xmH σ h i ps t = some t' → xLe t.2.1 t'.2.1 ∧ ∀ n, n < ps.length → ∀ j, t'.2.1[i + n]? = some (some j) → ∃ x, h[j]? = some x
  | [], i, t, t', hv => by
    simp only [xmH, Option.some.injEq] at hv
    subst hv
    exact ⟨xLe.rf _, fun n hn => absurd hn (Nat.not_lt_zero n)⟩
  | p :: ps, i, t, t', hv => by
    simp only [xmH] at hv
    split at hv
    · rename_i j0 hj
      split at hv
      · rename_i x hx
        split at hv
        · rename_i t1 h1
          obtain ⟨l2, k2⟩ := xmH_cell hS hv
          have l1 : xLe t.2.1 t1.2.1 := (xmC_ok (cn := xcn) (ad := []) (ex := []) (tys := []) hS h1).1.2.1
          refine ⟨l1.tr l2, fun n hn j hj' => ?_⟩
          cases n with
          | zero =>
            have := (l1.tr l2).2 i j0 hj
            rw [Nat.add_zero] at hj'
            rw [hj'] at this
            cases this
            exact ⟨x, hx⟩
          | succ n =>
            have e : i + (n + 1) = i + 1 + n := by omega
            rw [e] at hj'
            exact k2 n (by simpa using hn) j hj'
        · cases hv
      · cases hv
    · cases hv
theorem xAll2_of {α β : Type} {R : α → β → Prop} : ∀ {l : List α} {r : List β}, l.length = r.length → (∀ (k : Nat) (a : α), l[k]? = some a → ∃ b, r[k]? = some b ∧ R a b) → xAll2 R l r
  | [], [], _, _ => trivial
  | a :: l, b :: r, hn, h => by
    refine ⟨?_, xAll2_of (by simpa using hn) (fun k x hx => ?_)⟩
    · obtain ⟨b', h1, h2⟩ := h 0 a (by simp)
      simp at h1
      subst h1
      exact h2
    · obtain ⟨b', h1, h2⟩ := h (k + 1) x (by simpa using hx)
      exact ⟨b', by simpa using h1, h2⟩
  | [], _ :: _, hn, _ => by simp at hn
  | _ :: _, [], hn, _ => by simp at hn
/-- the address of a ref -/
def xra (ad ex : List Nat) : xV → Nat
  | .inr (.inr (.inl (some i))) => (ad[i]?).getD 0
  | .inr (.inr (.inr k)) => (ex[k]?).getD 0
  | _ => 0
/-- all refs of a list stand for something -/
def xKok (ad ex : List Nat) (κ : List xV) : Prop := ∀ v ∈ κ, ∃ q, xrq ad ex v q
theorem xra_ok {ad ex : List Nat} : ∀ {v : xV} {q : Nat}, xrq ad ex v q → xra ad ex v = q
  | .inl _, _, h => h.elim
  | .inr (.inl _), _, h => h.elim
  | .inr (.inr (.inl none)), _, h => h.elim
  | .inr (.inr (.inl (some i))), q, h => by
    have h : ad[i]? = some q := h
    simp [xra, h]
  | .inr (.inr (.inr k)), q, h => by
    have h : ex[k]? = some q := h
    simp [xra, h]
theorem xKv_mk {ad ex : List Nat} {κ : List xV} (h20 : 20 ≤ ex.length) (h : xKok ad ex κ) : xKv ad ex (κ.map some) (ex.take 20 ++ κ.map (xra ad ex)) ∧ (ex.take 20 ++ κ.map (xra ad ex)).length = 20 + κ.length := by
  have hl : (ex.take 20).length = 20 := by rw [List.length_take]; omega
  refine ⟨⟨fun k hk => ?_, fun k v hv => ?_⟩, by rw [List.length_append, hl, List.length_map]⟩
  · rw [List.getElem?_append_left (by omega), List.getElem?_take, if_pos hk]
  · rw [List.getElem?_map] at hv
    cases hc : κ[k]? with
    | none => rw [hc] at hv; cases hv
    | some v' =>
      rw [hc] at hv
      cases hv
      obtain ⟨q, hq⟩ := h v (List.mem_of_getElem? hc)
      refine ⟨q, hq, ?_⟩
      rw [List.getElem?_append_right (by omega), hl, Nat.add_sub_cancel_left, List.getElem?_map, hc]
      simp [xra_ok hq]
theorem xKok_of {ρ : List Int} {ad ex : List Nat} {tys : List (ClassId × FieldType)} {ws : va_W} {h : List xC} {nx : Nat} {κ : List xV} (hh : xHp ρ ad ex tys h ws) (hx : nx ≤ ex.length) (hk : κ.all (xKin h.length nx) = true) : xKok ad ex κ := fun v hv => by
  have := List.all_eq_true.mp hk v hv
  have hl := hh.lenAd
  unfold xKin at this
  split at this
  · rename_i i
    have hi := x_blt this
    exact ⟨ad[i]'(by omega), List.getElem?_eq_getElem (by omega)⟩
  · rename_i k
    have hi := x_blt this
    exact ⟨ex[k]'(by omega), List.getElem?_eq_getElem (by omega)⟩
  · cases this
theorem xPFit_ok {ρ : List Int} {ad ex : List Nat} {tys : List (ClassId × FieldType)} {ws : va_W} {h : List xC} {σ : List xB} {F : xF} {vs : List xV} {vals : List Value} {t : xT3} {P : xPt} {θ : List xI} {φ : List Nat} {κ : List xV} {nx : Nat} (h20 : 20 ≤ ex.length) (hnx : nx ≤ ex.length) (hS : xSt ρ σ) (hF : xFs ρ F) (hh : xHp ρ ad ex tys h ws) (hvs : xAll2 (xv ρ ad ex) vs vals) (hv : xPFit nx h σ F vs t P = some (θ, φ, κ)) :
    xLe t.1 (θ.map some) ∧ xLe t.2.1 (φ.map some) ∧ xLe t.2.2 (κ.map some) ∧ ∃ ρp adp wsp, xFits ρ ad ex tys ws vals θ φ κ P ρp adp (ex.take 20 ++ κ.map (xra ad ex)) wsp := by
  unfold xPFit at hv
  split at hv
  · cases hv
  · rename_i t1 h1
    split at hv
    · cases hv
    · rename_i t2 h2
      split at hv
      · cases hv
      · rename_i θ' hθ
        split at hv
        · cases hv
        · rename_i φ' hφ
          split at hv
          · cases hv
          · rename_i κ' hκ
            obtain ⟨hb, e⟩ := x_bif hv
            cases e
            rw [Bool.and_eq_true, Bool.and_eq_true, Bool.and_eq_true, Bool.and_eq_true] at hb
            obtain ⟨b1, b2, b5, b3, b4⟩ := hb
            have b1 := Nat.eq_of_beq_eq_true b1
            have e1 := xTot_ok hθ
            have e2 := xTot_ok hφ
            have e3 := xTot_ok hκ
            obtain ⟨l1, k1⟩ := xmVs_ok (ad := ad) (ex := ex) hS h1
            obtain ⟨l2, k2⟩ := xmH_ok hS hh h2
            have lt := l1.tr l2
            obtain ⟨ρp, p1, p2⟩ := xIn_ok hS b3
            obtain ⟨-, k3⟩ := xmH_cell hS h2
            obtain ⟨hK, hKl⟩ := xKv_mk (ad := ad) h20 (xKok_of hh hnx b5)
            have hal : ∀ (k j : Nat), φ[k]? = some j → ∃ y, ws[j]? = some y ∧ ad[j]? = some y.1 := fun k j hk => by
              have hlt : k < P.1.length := by
                rw [← b1]
                exact (List.getElem?_eq_some_iff.mp hk).1
              obtain ⟨x, hx⟩ := k3 k hlt j (by rw [Nat.zero_add, e2, List.getElem?_map, hk]; rfl)
              obtain ⟨y, hy1, hy2⟩ := hh.2.get hx
              refine ⟨y, hy1, ?_⟩
              have : (ws.map Prod.fst)[j]? = some y.1 := by rw [List.getElem?_map, hy1]; rfl
              rw [hh.1] at this
              exact this
            let dw : Nat × va_E := (0, .inr (0, []))
            let wsp : va_W := φ.map (fun j => (ws[j]?).getD dw)
            let adp : List Nat := φ.map (fun j => (ad[j]?).getD 0)
            have hw1 : ∀ (k j : Nat) (y : Nat × va_E), φ[k]? = some j → ws[j]? = some y → wsp[k]? = some y := fun k j y hk hy => by
              show (φ.map _)[k]? = _
              rw [List.getElem?_map, hk]
              simp [hy]
            have ha1 : ∀ (k j q : Nat), φ[k]? = some j → ad[j]? = some q → adp[k]? = some q := fun k j q hk hq => by
              show (φ.map _)[k]? = _
              rw [List.getElem?_map, hk]
              simp [hq]
            have hPv : xPhv ad t2.2.1 adp := by
              rw [e2]
              refine ⟨by simp [adp], fun k j hk => ?_⟩
              rw [List.getElem?_map] at hk
              cases hf : φ[k]? with
              | none => rw [hf] at hk; cases hk
              | some j' =>
                rw [hf] at hk
                cases hk
                obtain ⟨y, -, hy⟩ := hal k j hf
                exact ⟨y.1, hy, ha1 k j y.1 hf hy⟩
            have hVl : xVal ρ ad ex t2 ρp adp (ex.take 20 ++ κ.map (xra ad ex)) := ⟨by rw [e1]; exact p2, hPv, by rw [e3]; exact hK⟩
            refine ⟨by rw [← e1]; exact lt.1, by rw [← e2]; exact lt.2.1, by rw [← e3]; exact lt.2.2, ρp, adp, wsp, p1, xFin_ok hS hF p2 b4, ⟨?_, ?_⟩, k1 l2 hVl hvs, p2, b1, xnd_ok b2, ?_, hK, hKl⟩
            · apply List.ext_getElem?
              intro k
              show ((φ.map _).map _)[k]? = (φ.map _)[k]?
              rw [List.getElem?_map, List.getElem?_map, List.getElem?_map]
              cases hf : φ[k]? with
              | none => rfl
              | some j =>
                obtain ⟨y, hy1, hy2⟩ := hal k j hf
                simp [hy1, hy2]
            · refine xAll2_of (by simp [wsp, b1]) (fun k p hp => ?_)
              obtain ⟨j, y, q1, q2, -, q4⟩ := k2 (xL3.rf t2) hVl k p hp
              rw [Nat.zero_add, e2, List.getElem?_map] at q1
              cases hf : φ[k]? with
              | none => rw [hf] at q1; cases q1
              | some j' =>
                rw [hf] at q1
                cases q1
                exact ⟨y, hw1 k j y hf q2, q4⟩
            · intro k y hy
              have hy : (φ.map (fun j => (ws[j]?).getD dw))[k]? = some y := hy
              rw [List.getElem?_map] at hy
              cases hf : φ[k]? with
              | none => rw [hf] at hy; cases hy
              | some j =>
                obtain ⟨y', hy1, -⟩ := hal k j hf
                rw [hf] at hy
                simp [hy1] at hy
                subst hy
                exact ⟨j, rfl, hy1⟩
end
section
/-! A contract in place of a call: its ends in the caller's words. -/
/-- a contract: how it begins (values: the arguments, the receiver first), how it ends (the first symbols are those of the beginning; values: the answer), how deep it goes -/
abbrev xCt : Type := xPt × (List xPt × Nat)
def xtE (θ : List xI) : (xI ⊕ xB) → Option (xI ⊕ xB)
  | .inl a => (match xsub1 θ a with
    | some b => some (.inl b)
    | none => none)
  | .inr r => some (.inr r)
def xtV (θ : List xI) (φ : List Nat) (κ : List xV) : xV → Option xV
  | .inl a => (match xsub1 θ a with
    | some b => some (.inl b)
    | none => none)
  | .inr (.inl a) => (match xsub1 θ a with
    | some b => some (.inr (.inl b))
    | none => none)
  | .inr (.inr (.inl none)) => some (.inr (.inr (.inl none)))
  | .inr (.inr (.inl (some i))) => (match φ[i]? with
    | some j => some (.inr (.inr (.inl (some j))))
    | none => none)
  | .inr (.inr (.inr k)) => bif Nat.blt k 20 then some (.inr (.inr (.inr k))) else κ[k - 20]?
def xtL {α β : Type} (f : α → Option β) : List α → Option (List β)
  | [] => some []
  | a :: t => (match f a with
    | some b => (match xtL f t with
      | some l => some (b :: l)
      | none => none)
    | none => none)
theorem xtL_ok {α β γ : Type} {f : α → Option β} {R : α → γ → Prop} {R' : β → γ → Prop} (hf : ∀ a b c, f a = some b → R a c → R' b c) : ∀ {l : List α} {r : List β} {cs : List γ}, xtL f l = some r → xAll2 R l cs → xAll2 R' r cs
  | [], r, cs, h, hc => by
    simp only [xtL, Option.some.injEq] at h
    subst h
    have := hc.nil
    subst this
    trivial
  | a :: t, r, cs, h, hc => by
    simp only [xtL] at h
    split at h
    · rename_i b hb
      split at h
      · rename_i l hl
        cases h
        obtain ⟨c, cs', rfl, h1, h2⟩ := hc.cons
        exact ⟨hf a b c hb h1, xtL_ok hf hl h2⟩
      · cases h
    · cases h
theorem xtL_get {α β : Type} {f : α → Option β} : ∀ {l : List α} {r : List β}, xtL f l = some r → l.length = r.length ∧ ∀ (k : Nat) (a : α), l[k]? = some a → ∃ b, f a = some b ∧ r[k]? = some b
  | [], r, h => by
    simp only [xtL, Option.some.injEq] at h
    subst h
    exact ⟨rfl, fun k a ha => by simp at ha⟩
  | a :: t, r, h => by
    simp only [xtL] at h
    split at h
    · rename_i b hb
      split at h
      · rename_i l hl
        cases h
        obtain ⟨n1, k1⟩ := xtL_get hl
        refine ⟨by simp [n1], fun k x hx => ?_⟩
        cases k with
        | zero =>
          simp at hx
          subst hx
          exact ⟨b, hb, by simp⟩
        | succ k =>
          obtain ⟨y, h1, h2⟩ := k1 k x (by simpa using hx)
          exact ⟨y, h1, by simpa using h2⟩
      · cases h
    · cases h
def xtG (θ : List xI) (g : xG) : Option xG := match xtE θ g.2 with
  | some u => some (g.1, u)
  | none => none
def xtO (φ : List Nat) : Option Nat → Option (Option Nat)
  | none => some none
  | some i => (match φ[i]? with
    | some j => some (some j)
    | none => none)
def xtC (θ : List xI) (φ : List Nat) (κ : List xV) : xC → Option xC
  | .inl o => (match xtL (xtV θ φ κ) o.2 with
    | some vs => some (.inl (o.1, vs))
    | none => none)
  | .inr (.inl a) => (match xtL (xtG θ) a.2.2 with
    | some gs => some (.inr (.inl (a.1, a.2.1, gs)))
    | none => none)
  | .inr (.inr (.inl a)) => (match xtL (xtG θ) a.2 with
    | some gs => some (.inr (.inr (.inl (a.1, gs))))
    | none => none)
  | .inr (.inr (.inr a)) => (match xtL (xtO φ) a.2 with
    | some os => some (.inr (.inr (.inr (a.1, os))))
    | none => none)
/-- cells put back at their places -/
def xback (θ : List xI) (φ : List Nat) (κ : List xV) : List xC → List Nat → List xC → Option (List xC)
  | [], [], h => some h
  | c :: cs, j :: js, h => (match xtC θ φ κ c with
    | some c' => xback θ φ κ cs js (h.set j c')
    | none => none)
  | _, _, _ => none
/-- fresh symbols behind those that there are -/
def xfresh (n : Nat) : Nat → List xI
  | 0 => []
  | k + 1 => (some n, 0) :: xfresh (n + 1) k
/-- one end of a contract: cells, bounds, facts, the answer -/
def xEnd (h : List xC) (σ : List xB) (F : xF) (n0 : Nat) (θ : List xI) (φ : List Nat) (κ : List xV) (P : xPt) : Option (List xC × (List xB × (xF × List xV))) :=
  let new := P.2.1.drop n0
  let θ' := θ ++ xfresh σ.length new.length
  match xback θ' φ κ P.1 φ h with
  | none => none
  | some h' => (match xtL (xlT θ') P.2.2.1 with
    | none => none
    | some G => (match xtL (xtV θ' φ κ) P.2.2.2.1 with
      | none => none
      | some vs => some (h', σ ++ new, G ++ F, vs)))
/-- all ends of a contract that fits -/
def xUse (nx : Nat) (h : List xC) (σ : List xB) (F : xF) (d : Nat) (as : List xV) (c : xCt) : Option (List (List xC × (List xB × (xF × List xV)))) :=
  bif Nat.ble c.2.2 d then (match xPFit nx h σ F as (List.replicate c.1.2.1.length none, List.replicate c.1.1.length none, List.replicate c.1.2.2.2.2 none) c.1 with
    | none => none
    | some (θ, φ, κ) => xtL (xEnd h σ F c.1.2.1.length θ φ κ) c.2.1) else none
theorem xsub1_v {ρ ρp : List Int} {θ : List xI} (hv : xThv ρ (θ.map some) ρp) {a b : xI} {z : Int} (h : xsub1 θ a = some b) (hz : xe ρp a = some z) : xe ρ b = some z := by
  obtain ⟨y, h1, h2⟩ := xsub1_ok hv h
  rw [hz] at h2
  cases h2
  exact h1
theorem xtV_ok {ρ ρp : List Int} {ad adp ex exp : List Nat} {θ : List xI} {φ : List Nat} {κ : List xV} (hv : xThv ρ (θ.map some) ρp) (hp : xPhv ad (φ.map some) adp) (hk : xKv ad ex (κ.map some) exp) : ∀ {a b : xV} {w : Value}, xtV θ φ κ a = some b → xv ρp adp exp a w → xv ρ ad ex b w
  | .inl a, b, w, h, hw => by
    simp only [xtV] at h
    split at h
    · rename_i c hc
      cases h
      obtain ⟨x, e, hx⟩ := hw
      exact ⟨x, e, xsub1_v hv hc hx⟩
    · cases h
  | .inr (.inl a), b, w, h, hw => by
    simp only [xtV] at h
    split at h
    · rename_i c hc
      cases h
      obtain ⟨x, e, hx⟩ := hw
      exact ⟨x, e, xsub1_v hv hc hx⟩
    · cases h
  | .inr (.inr (.inl none)), b, w, h, hw => by
    simp only [xtV, Option.some.injEq] at h
    subst h
    exact hw
  | .inr (.inr (.inl (some i))), b, w, h, hw => by
    simp only [xtV] at h
    split at h
    · rename_i j hj
      cases h
      obtain ⟨q, hq, e⟩ := hw
      obtain ⟨q', h1, h2⟩ := hp.2 i j (by rw [List.getElem?_map, hj]; rfl)
      rw [hq] at h2
      cases h2
      exact ⟨q, h1, e⟩
    · cases h
  | .inr (.inr (.inr k)), b, w, h, hw => by
    simp only [xtV] at h
    obtain ⟨q, hq, e⟩ := hw
    cases hb : Nat.blt k 20 with
    | true =>
      rw [hb] at h
      simp only [cond_true, Option.some.injEq] at h
      subst h
      exact ⟨q, by rw [← hk.1 k (x_blt hb)]; exact hq, e⟩
    | false =>
      rw [hb] at h
      simp only [cond_false] at h
      have hge := x_nblt2 hb
      obtain ⟨q', h1, h2⟩ := hk.2 (k - 20) b (by rw [List.getElem?_map, h]; rfl)
      have e20 : 20 + (k - 20) = k := by omega
      rw [e20, hq] at h2
      cases h2
      subst e
      exact xrq_v h1
end
section
/-! The ends of a contract in the caller's world. -/
theorem xtG_seg {θ : List xI} : ∀ {gs gs' : List xG}, xtL (xtG θ) gs = some gs' → ∀ (j : Nat) (u : xI ⊕ xB), xseg gs j = some u → ∃ u', xtE θ u = some u' ∧ xseg gs' j = some u'
  | [], gs', h, j, u, hu => by cases hu
  | g :: t, gs', h, j, u, hu => by
    simp only [xtL] at h
    split at h
    · rename_i b hb
      split at h
      · rename_i l hl
        cases h
        unfold xtG at hb
        split at hb
        · rename_i v hv
          cases hb
          rw [xseg_cons] at hu ⊢
          dsimp only
          by_cases hj : j < g.1
          · rw [if_pos hj] at hu ⊢
            cases hu
            exact ⟨v, hv, rfl⟩
          · rw [if_neg hj] at hu ⊢
            exact xtG_seg hl _ u hu
        · cases hb
      · cases h
    · cases h
theorem xtE_ok {ρ ρp : List Int} {θ : List xI} (hv : xThv ρ (θ.map some) ρp) : ∀ {u u' : xI ⊕ xB} {z : Int}, xtE θ u = some u' → xel ρp u z → xel ρ u' z
  | .inl a, u', z, h, hz => by
    simp only [xtE] at h
    split at h
    · rename_i b hb
      cases h
      exact xsub1_v hv hb hz
    · cases h
  | .inr r, u', z, h, hz => by
    simp only [xtE, Option.some.injEq] at h
    subst h
    exact hz
theorem xtG_arr {ρ ρp : List Int} {θ : List xI} (hv : xThv ρ (θ.map some) ρp) {gs gs' : List xG} (h : xtL (xtG θ) gs = some gs') {n : Nat} {f : Nat → Int} (ha : xarr ρp gs n f) : xarr ρ gs' n f := fun j hj => by
  obtain ⟨u, h1, h2⟩ := ha j hj
  obtain ⟨u', h3, h4⟩ := xtG_seg h j u h1
  exact ⟨u', h4, xtE_ok hv h3 h2⟩
theorem xtC_ok {cn : Nat → String} {ρ ρp : List Int} {ad adp ex exp : List Nat} {tys : List (ClassId × FieldType)} {θ : List xI} {φ : List Nat} {κ : List xV} (hv : xThv ρ (θ.map some) ρp) (hp : xPhv ad (φ.map some) adp) (hk : xKv ad ex (κ.map some) exp) : ∀ {c c' : xC} {e : va_E}, xtC θ φ κ c = some c' → xcell cn ρp adp exp tys c e → xcell cn ρ ad ex tys c' e
  | .inl o, c', e, h, hc => by
    simp only [xtC] at h
    split at h
    · rename_i vs hvs
      cases h
      obtain ⟨ws, e1, hw⟩ := hc
      exact ⟨ws, e1, xtL_ok (R := xv ρp adp exp) (R' := xv ρ ad ex) (fun a b c h1 h2 => xtV_ok hv hp hk h1 h2) hvs hw⟩
    · cases h
  | .inr (.inl a), c', e, h, hc => by
    simp only [xtC] at h
    split at h
    · rename_i gs hgs
      cases h
      obtain ⟨cA, f, e1, e2, e3⟩ := hc
      exact ⟨cA, f, e1, e2, xtG_arr hv hgs e3⟩
    · cases h
  | .inr (.inr (.inl a)), c', e, h, hc => by
    simp only [xtC] at h
    split at h
    · rename_i gs hgs
      cases h
      obtain ⟨cA, f, e1, e2, e3⟩ := hc
      exact ⟨cA, f, e1, e2, xtG_arr hv hgs e3⟩
    · cases h
  | .inr (.inr (.inr a)), c', e, h, hc => by
    simp only [xtC] at h
    split at h
    · rename_i os hos
      cases h
      obtain ⟨cA, f, e1, e2, e3⟩ := hc
      obtain ⟨n1, k1⟩ := xtL_get hos
      refine ⟨cA, f, by rw [e1, n1], e2, fun j o ho => ?_⟩
      have hlt : j < a.2.length := by
        rw [n1]
        exact (List.getElem?_eq_some_iff.mp ho).1
      obtain ⟨b, h1, h2⟩ := k1 j a.2[j] (List.getElem?_eq_getElem hlt)
      rw [ho] at h2
      cases h2
      have h3 := e3 j a.2[j] (List.getElem?_eq_getElem hlt)
      cases hq : a.2[j] with
      | none =>
        rw [hq] at h1 h3
        simp only [xtO, Option.some.injEq] at h1
        subst h1
        exact h3
      | some i =>
        rw [hq] at h1 h3
        simp only [xtO] at h1
        split at h1
        · rename_i j' hj'
          cases h1
          obtain ⟨q, hq1, hq2⟩ := h3
          obtain ⟨q', h4, h5⟩ := hp.2 i j' (by rw [List.getElem?_map, hj']; rfl)
          rw [hq1] at h5
          cases h5
          exact ⟨q, h4, hq2⟩
        · cases h1
    · cases h
/-- the machine's cells put back -/
def xwback : List (Nat × va_E) → List Nat → va_W → va_W
  | y :: ys, j :: js, ws => xwback ys js (ws.set j y)
  | _, _, ws => ws
theorem xback_ok {ρ ρp : List Int} {ad adp ex exp : List Nat} {tys : List (ClassId × FieldType)} {θ : List xI} {φ : List Nat} {κ : List xV} (hv : xThv ρ (θ.map some) ρp) (hp : xPhv ad (φ.map some) adp) (hk : xKv ad ex (κ.map some) exp) : ∀ {cs : List xC} {js : List Nat} {h h' : List xC} {ys : List (Nat × va_E)} {ws : va_W}, xback θ φ κ cs js h = some h' → xHp ρ ad ex tys h ws → xAll2 (fun x (q : Nat × va_E) => xcell xcn ρp adp exp tys x q.2) cs ys → xAll2 (fun (j : Nat) (q : Nat × va_E) => ad[j]? = some q.1) js ys → xHp ρ ad ex tys h' (xwback ys js ws)
  | [], [], h, h', ys, ws, hb, hh, hc, hj => by
    simp only [xback, Option.some.injEq] at hb
    subst hb
    have := hc.nil
    subst this
    exact hh
  | c :: cs, j :: js, h, h', ys, ws, hb, hh, hc, hj => by
    simp only [xback] at hb
    split at hb
    · rename_i c' hc'
      obtain ⟨y, ys', rfl, c1, c2⟩ := hc.cons
      have j1 := hj.1
      have j2 := hj.2
      show xHp ρ ad ex tys h' (xwback ys' js (ws.set j y))
      exact xback_ok hv hp hk hb (hh.put (q := y.1) j1 (xtC_ok hv hp hk hc' c1)) c2 j2
    · cases hb
  | [], _ :: _, h, h', ys, ws, hb, hh, hc, hj => by cases hb
  | _ :: _, [], h, h', ys, ws, hb, hh, hc, hj => by cases hb
/-- what stands at a place, when cells are put back -/
theorem xwback_at : ∀ {ys : List (Nat × va_E)} {js : List Nat} {ws : va_W} {k : Nat} {q : Nat × va_E}, (xwback ys js ws)[k]? = some q → (∃ i : Nat, js[i]? = some k ∧ ys[i]? = some q) ∨ ((∀ i : Nat, i < ys.length → js[i]? ≠ some k) ∧ ws[k]? = some q)
  | [], js, ws, k, q, h => by
    cases js <;> exact Or.inr ⟨fun i hi => absurd hi (Nat.not_lt_zero i), h⟩
  | y :: ys, [], ws, k, q, h => Or.inr ⟨fun i _ => by simp, h⟩
  | y :: ys, j :: js, ws, k, q, h => by
    rcases xwback_at (show (xwback ys js (ws.set j y))[k]? = some q from h) with ⟨i, h1, h2⟩ | ⟨h1, h2⟩
    · exact Or.inl ⟨i + 1, by simpa using h1, by simpa using h2⟩
    · by_cases hk : j = k
      · subst hk
        rw [List.getElem?_set_self'] at h2
        cases hw : ws[j]? with
        | none => rw [hw] at h2; cases h2
        | some w =>
          rw [hw] at h2
          have h2 : y = q := Option.some.inj h2
          subst h2
          exact Or.inl ⟨0, by simp, by simp⟩
      · rw [List.getElem?_set_ne hk] at h2
        refine Or.inr ⟨fun i hi => ?_, h2⟩
        cases i with
        | zero => simpa using hk
        | succ i => simpa using h1 i (by simpa using hi)
end
section
/-! The caller's world behind a contract's call. -/
theorem xfresh_at : ∀ (k n i : Nat), i < k → (xfresh n k)[i]? = some (some (n + i), 0)
  | 0, _, i, h => absurd h (Nat.not_lt_zero i)
  | k + 1, n, 0, _ => by simp [xfresh]
  | k + 1, n, i + 1, h => by
    have := xfresh_at k (n + 1) i (by omega)
    simp only [xfresh, List.getElem?_cons_succ]
    rw [this]
    have e : n + 1 + i = n + (i + 1) := by omega
    rw [e]
theorem xfresh_len : ∀ (k n : Nat), (xfresh n k).length = k
  | 0, _ => rfl
  | k + 1, n => by simp [xfresh, xfresh_len k]
/-- the symbols behind the call -/
theorem xEnd_sym {ρ ρp ρe : List Int} {σ τ : List xB} {θ : List xI} {n0 : Nat} (hS : xSt ρ σ) (hv : xThv ρ (θ.map some) ρp) (hn : ρp.length = n0) (hX : xX ρp ρe) (hE : xSt ρe τ) : xX ρ (ρ ++ ρe.drop n0) ∧ xSt (ρ ++ ρe.drop n0) (σ ++ τ.drop n0) ∧ xThv (ρ ++ ρe.drop n0) ((θ ++ xfresh σ.length (τ.drop n0).length).map some) ρe := by
  have hlen : τ.length = ρe.length := hE.1
  have hθ : θ.length = n0 := by rw [← hn, ← hv.1]; simp
  have hge : n0 ≤ ρe.length := by
    obtain ⟨u, rfl⟩ := hX
    rw [← hn]
    simp
  refine ⟨⟨_, rfl⟩, ⟨by simp [hS.1, hlen], fun k r z hr hz => ?_⟩, ⟨?_, fun k b hk => ?_⟩⟩
  · by_cases hk : k < σ.length
    · rw [List.getElem?_append_left hk] at hr
      rw [List.getElem?_append_left (by rw [← hS.1]; exact hk)] at hz
      exact hS.2 k r z hr hz
    · rw [List.getElem?_append_right (by omega), List.getElem?_drop] at hr
      rw [List.getElem?_append_right (by rw [← hS.1]; omega), List.getElem?_drop, ← hS.1] at hz
      exact hE.2 _ r z hr hz
  · simp [xfresh_len, hθ, hlen]
    omega
  · rw [List.getElem?_map] at hk
    cases hc : (θ ++ xfresh σ.length (τ.drop n0).length)[k]? with
    | none => rw [hc] at hk; cases hk
    | some b' =>
      rw [hc] at hk
      cases hk
      by_cases hkk : k < θ.length
      · rw [List.getElem?_append_left hkk] at hc
        obtain ⟨z, h1, h2⟩ := hv.2 k b (by rw [List.getElem?_map, hc]; rfl)
        exact ⟨z, xe.mono ⟨_, rfl⟩ h1, hX.at h2⟩
      · rw [List.getElem?_append_right (by omega)] at hc
        have hlt : k - θ.length < (τ.drop n0).length := by
          have := (List.getElem?_eq_some_iff.mp hc).1
          rw [xfresh_len] at this
          exact this
        rw [xfresh_at _ _ _ hlt] at hc
        cases hc
        have hlt2 : k < ρe.length := by
          rw [List.length_drop] at hlt
          omega
        refine ⟨ρe[k], ?_, List.getElem?_eq_getElem hlt2⟩
        simp only [xe]
        rw [List.getElem?_append_right (by rw [← hS.1]; omega), List.getElem?_drop]
        have e : n0 + (σ.length + (k - θ.length) - ρ.length) = k := by rw [← hS.1]; omega
        rw [e, List.getElem?_eq_getElem hlt2]
        simp
theorem xFits.phv {ρ : List Int} {ad ex : List Nat} {tys : List (ClassId × FieldType)} {h : List xC} {ws : va_W} {vals : List Value} {θ : List xI} {φ : List Nat} {κ : List xV} {P : xPt} {ρp : List Int} {adp exp : List Nat} {wsp : va_W} (hh : xHp ρ ad ex tys h ws) (hf : xFits ρ ad ex tys ws vals θ φ κ P ρp adp exp wsp) : xPhv ad (φ.map some) adp := by
  obtain ⟨-, -, f3, -, -, f6, -, f8, -, -⟩ := hf
  have hl : wsp.length = φ.length := by rw [f6, ← f3.2.len]
  refine ⟨by rw [← f3.1]; simp [hl], fun k j hk => ?_⟩
  rw [List.getElem?_map] at hk
  cases hc : φ[k]? with
  | none => rw [hc] at hk; cases hk
  | some j' =>
    rw [hc] at hk
    cases hk
    have hlt : k < wsp.length := by rw [hl]; exact (List.getElem?_eq_some_iff.mp hc).1
    obtain ⟨j2, h1, h2⟩ := f8 k wsp[k] (List.getElem?_eq_getElem hlt)
    rw [hc] at h1
    cases h1
    refine ⟨wsp[k].1, ?_, ?_⟩
    · rw [← hh.1, List.getElem?_map, h2]
      rfl
    · rw [← f3.1, List.getElem?_map, List.getElem?_eq_getElem hlt]
      rfl
/-- THE WORLD BEHIND THE CALL -/
theorem xEnd_ok {D : va_G} {A : Nat → Prop} {ρ : List Int} {ad ex : List Nat} {tys tyse : List (ClassId × FieldType)} {h : List xC} {ws wse : va_W} {vals : List Value} {θ : List xI} {φ : List Nat} {κ : List xV} {P E : xPt} {ρp ρe : List Int} {adp exp : List Nat} {wsp : va_W} {σ : List xB} {F : xF} {H H1 : Heap} {r : List xC × (List xB × (xF × List xV))}
    (hS : xSt ρ σ) (hF : xFs ρ F) (hh : xHp ρ ad ex tys h ws) (hP : va_P D xcl ws H) (hD : va_D A ws) (hf : xFits ρ ad ex tys ws vals θ φ κ P ρp adp exp wsp) (hX : xX ρp ρe) (eS : xSt ρe E.2.1) (eF : xFs ρe E.2.2.1) (eh : xHp ρe adp exp tyse E.1 wse) (eP : va_P D xcl wse H1) (hk : ∀ q : Nat, q < H.size → ¬ va_A wsp H.size q → H1[q]? = H[q]?) (hv : xEnd h σ F P.2.1.length θ φ κ E = some r) :
    ∃ ρ' ws', xX ρ ρ' ∧ xSt ρ' r.2.1 ∧ xFs ρ' r.2.2.1 ∧ (∀ vs, xAll2 (xv ρe adp exp) E.2.2.2.1 vs → xAll2 (xv ρ' ad ex) r.2.2.2 vs) ∧ xHp ρ' ad ex (tys ++ tyse) r.1 ws' ∧ va_P D xcl ws' H1 ∧ va_D A ws' := by
  have hph := xFits.phv hh hf
  obtain ⟨f1, f2, f3, f4, f5, f6, f7, f8, f9, f10⟩ := id hf
  obtain ⟨s1, s2, s3⟩ := xEnd_sym hS f5 f1.1.symm hX eS
  simp only [xEnd] at hv
  split at hv
  · cases hv
  · rename_i h' hb
    split at hv
    · cases hv
    · rename_i G hG
      split at hv
      · cases hv
      · rename_i vs hvs
        cases hv
        have hl : wsp.length = φ.length := by rw [f6, ← f3.2.len]
        have hle : wse.length = φ.length := by
          have e1 : wse.length = adp.length := by rw [← eh.1]; simp
          have e2 : wsp.length = adp.length := by rw [← f3.1]; simp
          omega
        have hj : xAll2 (fun (j : Nat) (q : Nat × va_E) => ad[j]? = some q.1) φ wse := xAll2_of hle.symm (fun k j hkj => by
          obtain ⟨q, q1, q2⟩ := hph.2 k j (by rw [List.getElem?_map, hkj]; rfl)
          have hlt : k < wse.length := by rw [hle]; exact (List.getElem?_eq_some_iff.mp hkj).1
          refine ⟨wse[k], List.getElem?_eq_getElem hlt, ?_⟩
          rw [← eh.1, List.getElem?_map, List.getElem?_eq_getElem hlt] at q2
          have q2 : wse[k].1 = q := Option.some.inj q2
          rw [q1, q2])
        have hh2 : xHp (ρ ++ ρe.drop P.2.1.length) ad ex (tys ++ tyse) h ws := ⟨hh.1, hh.2.mono (fun a b hab => xcell.mono s1 (xX.rf ad) (fun q hq => List.mem_append_left _ hq) a b.2 hab)⟩
        have eh2 : xAll2 (fun x (q : Nat × va_E) => xcell xcn ρe adp exp (tys ++ tyse) x q.2) E.1 wse := eh.2.mono (fun a b hab => xcell.mono (xX.rf ρe) (xX.rf adp) (fun q hq => List.mem_append_right _ hq) a b.2 hab)
        have hH := xback_ok (ex := ex) (tys := tys ++ tyse) s3 hph (show xKv ad ex (κ.map some) exp from f9) hb hh2 eh2 hj
        refine ⟨_, xwback wse φ ws, s1, s2, ?_, fun vs' hvs' => xtL_ok (R := xv ρe adp exp) (fun a b c h1 h2 => xtV_ok s3 hph f9 h1 h2) hvs hvs', hH, ?_, ?_⟩
        · intro q hq
          rcases List.mem_append.mp hq with hq | hq
          · obtain ⟨k, hkq⟩ := List.getElem?_of_mem hq
            obtain ⟨n1, k1⟩ := xtL_get hG
            have hlt : k < E.2.2.1.length := by rw [n1]; exact (List.getElem?_eq_some_iff.mp hkq).1
            obtain ⟨b, h1, h2⟩ := k1 k E.2.2.1[k] (List.getElem?_eq_getElem hlt)
            rw [hkq] at h2
            cases h2
            obtain ⟨z, g1, g2⟩ := eF E.2.2.1[k] (List.getElem_mem hlt)
            obtain ⟨z', g3, g4⟩ := xlT_ok s3 h1
            rw [g1] at g3
            cases g3
            exact ⟨z, g4, g2⟩
          · exact hF.mono s1 q hq
        · intro k q hkq
          rcases xwback_at hkq with ⟨i, h1, h2⟩ | ⟨h1, h2⟩
          · exact eP i q h2
          · refine (hP k q h2).kept (hk q.1 (hP k q h2).lt (fun ha => ?_))
            rcases ha with ⟨i, e, hi⟩ | ha
            · obtain ⟨j, g1, g2⟩ := f8 i (q.1, e) hi
              have := hD.1 j k (q.1, e) q g2 h2 rfl
              subst this
              exact h1 i (by rw [hle]; exact (List.getElem?_eq_some_iff.mp g1).1) g1
            · exact absurd (hP k q h2).lt (Nat.not_lt.mpr ha)
        · have hm : (xwback wse φ ws).map Prod.fst = ws.map Prod.fst := by rw [hH.1, hh.1]
          have old : ∀ (i : Nat) (q : Nat × va_E), (xwback wse φ ws)[i]? = some q → ∃ q0, ws[i]? = some q0 ∧ q0.1 = q.1 := fun i q hi => by
            have h1 : ((xwback wse φ ws).map Prod.fst)[i]? = some q.1 := by rw [List.getElem?_map, hi]; rfl
            rw [hm, List.getElem?_map] at h1
            cases hw : ws[i]? with
            | none => rw [hw] at h1; cases h1
            | some q0 =>
              rw [hw] at h1
              exact ⟨q0, rfl, Option.some.inj h1⟩
          refine ⟨fun i j p q hi hj' e => ?_, fun k q hk' => ?_⟩
          · obtain ⟨p0, a1, a2⟩ := old i p hi
            obtain ⟨q0, b1, b2⟩ := old j q hj'
            exact hD.1 i j p0 q0 a1 b1 (by rw [a2, b2, e])
          · obtain ⟨q0, b1, b2⟩ := old k q hk'
            rw [← b2]
            exact hD.2 k q0 b1
end
section
/-! Branches that compare two symbols: facts. -/
abbrev xRF : Type := List (List xB × xF)
def xltF (σ : List xB) (F : xF) (a b : xI) : xRF := (xltR σ a b).map (fun τ => (τ, xlle a b 1 :: F))
def xleF (σ : List xB) (F : xF) (a b : xI) : xRF := (xleR σ a b).map (fun τ => (τ, xlle a b 0 :: F))
def xeqF (σ : List xB) (F : xF) (a b : xI) : xRF := (xeqR σ a b).map (fun τ => (τ, xlle a b 0 :: xlle b a 0 :: F))
def xneF (σ : List xB) (F : xF) (a b : xI) : xRF := bif xent σ F 2 (xlle a b 0) then xltF σ F a b else (bif xent σ F 2 (xlle b a 0) then xltF σ F b a else (xneR σ a b).map (fun τ => (τ, F)))
section XF
variable {ρ : List Int} {σ : List xB} {F : xF} {a b : xI} {z1 z2 : Int}
theorem xFs.cons {L : xLn} {z : Int} (hF : xFs ρ F) (h1 : xlv ρ L = some z) (h2 : 0 ≤ z) : xFs ρ (L :: F) := fun q hq => by
  rcases List.mem_cons.mp hq with rfl | hq
  · exact ⟨z, h1, h2⟩
  · exact hF q hq
theorem xltF_ok (hS : xSt ρ σ) (hF : xFs ρ F) (h1 : xe ρ a = some z1) (h2 : xe ρ b = some z2) (h : z1 < z2) : ∃ τ ∈ xltF σ F a b, xSt ρ τ.1 ∧ xFs ρ τ.2 := by
  obtain ⟨τ, g1, g2⟩ := xltR_ok hS h1 h2 h
  exact ⟨_, List.mem_map.mpr ⟨τ, g1, rfl⟩, g2, hF.cons (xlle_ok h1 h2) (by omega)⟩
theorem xleF_ok (hS : xSt ρ σ) (hF : xFs ρ F) (h1 : xe ρ a = some z1) (h2 : xe ρ b = some z2) (h : z1 ≤ z2) : ∃ τ ∈ xleF σ F a b, xSt ρ τ.1 ∧ xFs ρ τ.2 := by
  obtain ⟨τ, g1, g2⟩ := xleR_ok hS h1 h2 h
  exact ⟨_, List.mem_map.mpr ⟨τ, g1, rfl⟩, g2, hF.cons (xlle_ok h1 h2) (by omega)⟩
theorem xeqF_ok (hS : xSt ρ σ) (hF : xFs ρ F) (h1 : xe ρ a = some z1) (h2 : xe ρ b = some z2) (h : z1 = z2) : ∃ τ ∈ xeqF σ F a b, xSt ρ τ.1 ∧ xFs ρ τ.2 := by
  obtain ⟨τ, g1, g2⟩ := xeqR_ok hS h1 h2 h
  exact ⟨_, List.mem_map.mpr ⟨τ, g1, rfl⟩, g2, (hF.cons (xlle_ok h2 h1) (by omega)).cons (xlle_ok h1 h2) (by omega)⟩
theorem xneF_ok (hS : xSt ρ σ) (hF : xFs ρ F) (h1 : xe ρ a = some z1) (h2 : xe ρ b = some z2) (h : ¬ z1 = z2) : ∃ τ ∈ xneF σ F a b, xSt ρ τ.1 ∧ xFs ρ τ.2 := by
  unfold xneF
  cases e1 : xent σ F 2 (xlle a b 0) with
  | true =>
    have := xent_ok hS hF e1 (xlle_ok h1 h2)
    exact xltF_ok hS hF h1 h2 (by omega)
  | false =>
    cases e2 : xent σ F 2 (xlle b a 0) with
    | true =>
      have := xent_ok hS hF e2 (xlle_ok h2 h1)
      exact xltF_ok hS hF h2 h1 (by omega)
    | false =>
      obtain ⟨τ, g1, g2⟩ := xneR_ok hS h1 h2 h
      exact ⟨(τ, F), List.mem_map.mpr ⟨τ, g1, rfl⟩, g2, hF⟩
end XF
def xIfF (c : Jvm.ClassFile.Cond) (σ : List xB) (F : xF) (a b : xI) : xRF × xRF := match c with
  | .eq => (xeqF σ F a b, xneF σ F a b)
  | .ne => (xneF σ F a b, xeqF σ F a b)
  | .lt => (xltF σ F a b, xleF σ F b a)
  | .ge => (xleF σ F b a, xltF σ F a b)
  | .gt => (xltF σ F b a, xleF σ F a b)
  | .le => (xleF σ F a b, xltF σ F b a)
def xCondF (c : Jvm.ClassFile.Cond) (σ : List xB) (F : xF) (a b : xI) (pc : Nat) (off : Int) : Option (List (Nat × (List xB × xF))) := match xtg pc off with
  | none => none
  | some t => some ((xIfF c σ F a b).1.map (fun τ => (t, τ)) ++ (xIfF c σ F a b).2.map (fun τ => (pc + 3, τ)))
section XG
variable {p : Program} {l : Launch} {e : Env} {R : Room} {s : State} {m : MethodId} {args : Array Value} {below : List Frame} {meth : Method} {c : Code} {H : Heap} {locs : List Loc} {cells slots : Nat} {Q : State → Prop} {cc : ByteArray} {pc : Nat} {ls : Array Slot} {st rest : List Value} {ρ : List Int} {σ : List xB} {F : xF}
theorem xIcmpF_ok {cd : Jvm.ClassFile.Cond} {a b : xI} {x y : Int32} {off : Int} {L : List (Nat × (List xB × xF))} (hv : xCondF cd σ F a b pc off = some L) (hx : p.tables.exec = Jvm.exec) (hb : c.code = cc) (hd : decode cc pc = .ok (.if_icmp cd off, 3)) (hS : xSt ρ σ) (hF : xFs ρ F) (ha : xe ρ a = some x.toInt) (hb2 : xe ρ b = some y.toInt)
    (k : ∀ q ∈ L, xSt ρ q.2.1 → xFs ρ q.2.2 → W p l e R s m args below meth c H locs cells slots Q (F0 m q.1 ls rest)) : W p l e R s m args below meth c H locs cells slots Q (F0 m pc ls (.int y :: .int x :: rest)) := by
  unfold xCondF at hv
  cases ht : xtg pc off with
  | none => rw [ht] at hv; cases hv
  | some t =>
    rw [ht] at hv
    cases hv
    have hT := xtg_ok ht
    have go1 : ∀ {P : Prop}, (P → ∃ τ ∈ (xIfF cd σ F a b).1, xSt ρ τ.1 ∧ xFs ρ τ.2) → P → W p l e R s m args below meth c H locs cells slots Q (F0 m t ls rest) := fun f h => by
      obtain ⟨τ, g1, g2, g3⟩ := f h
      exact k (t, τ) (List.mem_append_left _ (List.mem_map.mpr ⟨τ, g1, rfl⟩)) g2 g3
    have go2 : ∀ {P : Prop}, (P → ∃ τ ∈ (xIfF cd σ F a b).2, xSt ρ τ.1 ∧ xFs ρ τ.2) → P → W p l e R s m args below meth c H locs cells slots Q (F0 m (pc + 3) ls rest) := fun f h => by
      obtain ⟨τ, g1, g2, g3⟩ := f h
      exact k (pc + 3, τ) (List.mem_append_right _ (List.mem_map.mpr ⟨τ, g1, rfl⟩)) g2 g3
    cases cd with
    | eq => exact lv_icmp_eq hx hb hd hT (go1 fun h => xeqF_ok hS hF ha hb2 (by rw [h])) (go2 fun h => xneF_ok hS hF ha hb2 (fun q => h (Int32.toInt_inj.mp q)))
    | ne => exact lv_icmp_ne hx hb hd hT (go1 fun h => xneF_ok hS hF ha hb2 (fun q => h (Int32.toInt_inj.mp q))) (go2 fun h => xeqF_ok hS hF ha hb2 (by rw [h]))
    | lt => exact lv_icmp_lt hx hb hd hT (go1 fun h => xltF_ok hS hF ha hb2 (Int32.lt_iff_toInt_lt.mp h)) (go2 fun h => xleF_ok hS hF hb2 ha (by rw [Int32.lt_iff_toInt_lt] at h; omega))
    | ge => exact lv_icmp_ge hx hb hd hT (go1 fun h => xleF_ok hS hF hb2 ha (Int32.le_iff_toInt_le.mp h)) (go2 fun h => xltF_ok hS hF ha hb2 (by rw [Int32.le_iff_toInt_le] at h; omega))
    | gt => exact lv_icmp_gt hx hb hd hT (go1 fun h => xltF_ok hS hF hb2 ha (Int32.lt_iff_toInt_lt.mp h)) (go2 fun h => xleF_ok hS hF ha hb2 (by rw [Int32.lt_iff_toInt_lt] at h; omega))
    | le => exact lv_icmp_le hx hb hd hT (go1 fun h => xleF_ok hS hF ha hb2 (Int32.le_iff_toInt_le.mp h)) (go2 fun h => xltF_ok hS hF hb2 ha (by rw [Int32.le_iff_toInt_le] at h; omega))
end XG
/-! Bounds out of facts. -/
/-- a fact, factor by factor: 0 is at most the rest's greatest and c times the symbol -/
def xT1 (c0 u : Int) (q : Nat × Int) (σ : List xB) : List xB := match σ[q.1]? with
  | none => σ
  | some r => bif xle 1 q.2 then (let nl := - ((u + c0 - q.2 * r.2) / q.2); bif xle nl r.1 then σ else σ.set q.1 (nl, r.2)) else (bif xle q.2 (-1) then (let nh := (u + c0 - q.2 * r.1) / (- q.2); bif xle r.2 nh then σ else σ.set q.1 (r.1, nh)) else σ)
theorem xSt.set {ρ : List Int} {σ : List xB} (h : xSt ρ σ) {k : Nat} {z lo hi : Int} (hz : ρ[k]? = some z) (h1 : lo ≤ z) (h2 : z ≤ hi) : xSt ρ (σ.set k (lo, hi)) := by
  refine ⟨by rw [List.length_set]; exact h.1, fun j r w hr hw => ?_⟩
  by_cases hj : k = j
  · subst hj
    rw [List.getElem?_set_self'] at hr
    rw [hz] at hw
    cases hw
    cases hs : σ[k]? with
    | none => rw [hs] at hr; cases hr
    | some q =>
      rw [hs] at hr
      have hr : (lo, hi) = r := Option.some.inj hr
      subst hr
      exact ⟨h1, h2⟩
  · rw [List.getElem?_set_ne hj] at hr
    exact h.2 j r w hr hw
theorem x_dlo {c z M : Int} (hc : 1 ≤ c) (h : 0 ≤ c * z + M) : - (M / c) ≤ z := by
  have h1 : M < (M / c + 1) * c := Int.lt_ediv_add_one_mul_self M (by omega)
  rcases Int.lt_or_le z (- (M / c)) with q | q
  · have h2 : z + 1 ≤ - (M / c) := q
    have h3 : c * (z + 1) ≤ c * (- (M / c)) := Int.mul_le_mul_of_nonneg_left h2 (by omega)
    rw [Int.mul_add, Int.mul_one] at h3
    rw [Int.add_mul, Int.one_mul, Int.mul_comm (M / c) c] at h1
    rw [Int.mul_neg] at h3
    omega
  · exact q
theorem x_dhi {c z M : Int} (hc : 1 ≤ c) (h : 0 ≤ M - c * z) : z ≤ M / c := by
  have := x_dlo (c := c) (z := - z) (M := M) hc (by rw [Int.mul_neg]; omega)
  omega
theorem xT1_ok {ρ : List Int} {σ : List xB} (hS : xSt ρ σ) {l : List (Nat × Int)} {c0 u x : Int} {q : Nat × Int} (hq : q ∈ l) (hx : xlE ρ l = some x) (h0 : 0 ≤ x + c0) (hu : xlU σ l = some u) : xSt ρ (xT1 c0 u q σ) := by
  -- the rest of the sum is at most u less what the symbol's own part can be
  have key : ∀ {l : List (Nat × Int)} {x u : Int}, q ∈ l → xlE ρ l = some x → xlU σ l = some u → ∃ z r, ρ[q.1]? = some z ∧ σ[q.1]? = some r ∧ x - q.2 * z ≤ u - (bif xle 0 q.2 then q.2 * r.2 else q.2 * r.1) := by
    intro l
    induction l with
    | nil => intro x u hq; cases hq
    | cons p t ih =>
      intro x u hq hx hu
      obtain ⟨k, c⟩ := p
      obtain ⟨z, w, g1, g2, rfl⟩ := xlE_inv hx
      simp only [xlU] at hu
      split at hu
      · cases hu
      · rename_i r hr
        split at hu
        · cases hu
        · rename_i v hv
          cases hu
          rcases List.mem_cons.mp hq with rfl | hq
          · refine ⟨z, r, g1, hr, ?_⟩
            have := xlU_ok hS g2 hv
            dsimp only
            omega
          · obtain ⟨z', r', k1, k2, k3⟩ := ih hq g2 hv
            refine ⟨z', r', k1, k2, ?_⟩
            have := (x_lo1 (c := c) (hS.2 k r z hr g1)).2
            omega
  obtain ⟨z, r, g1, g2, g3⟩ := key hq hx hu
  have hb := hS.2 q.1 r z g2 g1
  unfold xT1
  rw [g2]
  dsimp only
  cases h1 : xle 1 q.2 with
  | true =>
    have c1 := xle_iff.mp h1
    simp only [cond_true]
    cases h2 : xle (- ((u + c0 - q.2 * r.2) / q.2)) r.1 with
    | true => exact hS
    | false =>
      have e : xle 0 q.2 = true := xle_iff.mpr (by omega)
      rw [e] at g3
      exact hS.set g1 (x_dlo c1 (by simp only [cond_true] at g3; omega)) hb.2
  | false =>
    simp only [cond_false]
    cases h2 : xle q.2 (-1) with
    | false => exact hS
    | true =>
      have c1 := xle_iff.mp h2
      simp only [cond_true]
      cases h3 : xle r.2 ((u + c0 - q.2 * r.1) / (- q.2)) with
      | true => exact hS
      | false =>
        have e : xle 0 q.2 = false := by
          cases he : xle 0 q.2 with
          | false => rfl
          | true => have := xle_iff.mp he; omega
        rw [e] at g3
        refine hS.set g1 hb.1 (x_dhi (c := - q.2) (by omega) ?_)
        simp only [cond_false] at g3
        rw [Int.neg_mul]
        omega
/-- one fact, each of its symbols in turn -/
def xT2 (f : xLn) : List (Nat × Int) → List xB → List xB
  | [], σ => σ
  | q :: t, σ => (match xlU σ f.1 with
    | none => σ
    | some u => xT2 f t (xT1 f.2 u q σ))
theorem xT2_ok {ρ : List Int} {f : xLn} {z : Int} (hz : xlv ρ f = some z) (h0 : 0 ≤ z) : ∀ {l : List (Nat × Int)} {σ : List xB}, (∀ q ∈ l, q ∈ f.1) → xSt ρ σ → xSt ρ (xT2 f l σ)
  | [], σ, _, hS => hS
  | q :: t, σ, hl, hS => by
    obtain ⟨x, hx, rfl⟩ := xlv_inv hz
    unfold xT2
    split
    · exact hS
    · rename_i u hu
      exact xT2_ok hz h0 (fun q' h' => hl q' (List.mem_cons_of_mem _ h')) (xT1_ok hS (hl q List.mem_cons_self) hx h0 hu)
def xT3s : xF → List xB → List xB
  | [], σ => σ
  | f :: t, σ => xT3s t (xT2 f f.1 σ)
theorem xT3s_ok {ρ : List Int} : ∀ {F : xF} {σ : List xB}, xFs ρ F → xSt ρ σ → xSt ρ (xT3s F σ)
  | [], σ, _, hS => hS
  | f :: t, σ, hF, hS => by
    obtain ⟨z, h1, h2⟩ := hF f List.mem_cons_self
    exact xT3s_ok (F := t) (fun q hq => hF q (List.mem_cons_of_mem _ hq)) (xT2_ok h1 h2 (fun _ h => h) hS)
/-- twice; a symbol whose bounds are none: the state can't be -/
def xTight (F : xF) (σ : List xB) : Option (List xB) := let τ := xT3s F (xT3s F σ); bif τ.all (fun r => xle r.1 r.2) then some τ else none
theorem xTight_ok {ρ : List Int} {F : xF} {σ : List xB} (hF : xFs ρ F) (hS : xSt ρ σ) : ∃ τ, xTight F σ = some τ ∧ xSt ρ τ := by
  have h := xT3s_ok hF (xT3s_ok hF hS)
  refine ⟨_, ?_, h⟩
  unfold xTight
  have : (xT3s F (xT3s F σ)).all (fun r => xle r.1 r.2) = true := by
    apply List.all_eq_true.mpr
    intro r hr
    obtain ⟨k, hk⟩ := List.getElem?_of_mem hr
    have hlt : k < ρ.length := by
      rw [← h.1]
      exact (List.getElem?_eq_some_iff.mp hk).1
    have := h.2 k r ρ[k] hk (List.getElem?_eq_getElem hlt)
    exact xle_iff.mpr (by omega)
  dsimp only
  rw [this]
  rfl
end
