section
/-- a private method of a class that the tables say can be made, by its rows of tables_1 -/
def lw_okq (q : MethodName × Nat) : Prop := (q.1.cls ≠ "java/lang/invoke/MethodHandle" ∧ q.1.cls ≠ "java/lang/invoke/VarHandle") ∧ Cond.instantiable q.1.cls q.2 ∈ tables_1 ∧ Cond.privateMethod q.1 ∈ tables_1 ∧ Cond.instanceMethod q.1 ∈ tables_1
theorem lw_p0 : lw_okq (⟨"SixFellows", "tell", "(I)I"⟩, 8) := ⟨⟨by decide +kernel, by decide +kernel⟩, List.mem_of_getElem? (i := 15) (by decide +kernel), List.mem_of_getElem? (i := 169) (by decide +kernel), List.mem_of_getElem? (i := 170) (by decide +kernel)⟩
theorem lw_p1 : lw_okq (⟨"SixFellows", "isFellow", "(I)Z"⟩, 8) := ⟨⟨by decide +kernel, by decide +kernel⟩, List.mem_of_getElem? (i := 15) (by decide +kernel), List.mem_of_getElem? (i := 182) (by decide +kernel), List.mem_of_getElem? (i := 183) (by decide +kernel)⟩
theorem lw_p2 : lw_okq (⟨"SixFellows", "isTask", "(I)Z"⟩, 8) := ⟨⟨by decide +kernel, by decide +kernel⟩, List.mem_of_getElem? (i := 15) (by decide +kernel), List.mem_of_getElem? (i := 267) (by decide +kernel), List.mem_of_getElem? (i := 268) (by decide +kernel)⟩
theorem lw_p3 : lw_okq (⟨"SixFellows", "bestValue", "([III)I"⟩, 8) := ⟨⟨by decide +kernel, by decide +kernel⟩, List.mem_of_getElem? (i := 15) (by decide +kernel), List.mem_of_getElem? (i := 361) (by decide +kernel), List.mem_of_getElem? (i := 362) (by decide +kernel)⟩
theorem lw_p4 : lw_okq (⟨"SixFellows", "bestSet", "()I"⟩, 8) := ⟨⟨by decide +kernel, by decide +kernel⟩, List.mem_of_getElem? (i := 15) (by decide +kernel), List.mem_of_getElem? (i := 373) (by decide +kernel), List.mem_of_getElem? (i := 374) (by decide +kernel)⟩
theorem lw_p5 : lw_okq (⟨"SixFellows", "smallestSetFor", "(I)I"⟩, 8) := ⟨⟨by decide +kernel, by decide +kernel⟩, List.mem_of_getElem? (i := 15) (by decide +kernel), List.mem_of_getElem? (i := 391) (by decide +kernel), List.mem_of_getElem? (i := 392) (by decide +kernel)⟩
theorem lw_p6 : lw_okq (⟨"SixFellows", "weighSets", "()V"⟩, 8) := ⟨⟨by decide +kernel, by decide +kernel⟩, List.mem_of_getElem? (i := 15) (by decide +kernel), List.mem_of_getElem? (i := 420) (by decide +kernel), List.mem_of_getElem? (i := 421) (by decide +kernel)⟩
theorem lw_p7 : lw_okq (⟨"SixFellows", "shareOf", "(I)J"⟩, 8) := ⟨⟨by decide +kernel, by decide +kernel⟩, List.mem_of_getElem? (i := 15) (by decide +kernel), List.mem_of_getElem? (i := 425) (by decide +kernel), List.mem_of_getElem? (i := 426) (by decide +kernel)⟩
theorem lw_p8 : lw_okq (⟨"SixFellows$Tape", "advance", "()V"⟩, 6) := ⟨⟨by decide +kernel, by decide +kernel⟩, List.mem_of_getElem? (i := 83) (by decide +kernel), List.mem_of_getElem? (i := 465) (by decide +kernel), List.mem_of_getElem? (i := 466) (by decide +kernel)⟩
theorem lw_p9 : lw_okq (⟨"SixFellows$Tape", "takeItem", "(LSixFellows$Road;)Z"⟩, 6) := ⟨⟨by decide +kernel, by decide +kernel⟩, List.mem_of_getElem? (i := 83) (by decide +kernel), List.mem_of_getElem? (i := 476) (by decide +kernel), List.mem_of_getElem? (i := 477) (by decide +kernel)⟩
theorem lw_p10 : lw_okq (⟨"SixFellows$Tape", "isWord", "(Ljava/lang/String;)Z"⟩, 6) := ⟨⟨by decide +kernel, by decide +kernel⟩, List.mem_of_getElem? (i := 83) (by decide +kernel), List.mem_of_getElem? (i := 481) (by decide +kernel), List.mem_of_getElem? (i := 482) (by decide +kernel)⟩
theorem lw_p11 : lw_okq (⟨"SixFellows$Tape", "takeTask", "(LSixFellows$Road;)Z"⟩, 6) := ⟨⟨by decide +kernel, by decide +kernel⟩, List.mem_of_getElem? (i := 83) (by decide +kernel), List.mem_of_getElem? (i := 533) (by decide +kernel), List.mem_of_getElem? (i := 534) (by decide +kernel)⟩
theorem lw_p12 : lw_okq (⟨"SixFellows$Tape", "sortInHand", "()I"⟩, 6) := ⟨⟨by decide +kernel, by decide +kernel⟩, List.mem_of_getElem? (i := 83) (by decide +kernel), List.mem_of_getElem? (i := 537) (by decide +kernel), List.mem_of_getElem? (i := 538) (by decide +kernel)⟩
theorem lw_p13 : lw_okq (⟨"SixFellows$Tape", "takeWord", "(Ljava/lang/String;)Z"⟩, 6) := ⟨⟨by decide +kernel, by decide +kernel⟩, List.mem_of_getElem? (i := 83) (by decide +kernel), List.mem_of_getElem? (i := 550) (by decide +kernel), List.mem_of_getElem? (i := 551) (by decide +kernel)⟩
theorem lw_p14 : lw_okq (⟨"SixFellows$Tape", "isNumber", "(II)Z"⟩, 6) := ⟨⟨by decide +kernel, by decide +kernel⟩, List.mem_of_getElem? (i := 83) (by decide +kernel), List.mem_of_getElem? (i := 554) (by decide +kernel), List.mem_of_getElem? (i := 555) (by decide +kernel)⟩
theorem lw_p15 : lw_okq (⟨"SixFellows$Tape", "takeNumber", "()I"⟩, 6) := ⟨⟨by decide +kernel, by decide +kernel⟩, List.mem_of_getElem? (i := 83) (by decide +kernel), List.mem_of_getElem? (i := 559) (by decide +kernel), List.mem_of_getElem? (i := 560) (by decide +kernel)⟩
def lw_privs_1 : List (MethodName × Nat) := [(⟨"SixFellows", "tell", "(I)I"⟩, 8), (⟨"SixFellows", "isFellow", "(I)Z"⟩, 8), (⟨"SixFellows", "isTask", "(I)Z"⟩, 8), (⟨"SixFellows", "bestValue", "([III)I"⟩, 8), (⟨"SixFellows", "bestSet", "()I"⟩, 8), (⟨"SixFellows", "smallestSetFor", "(I)I"⟩, 8), (⟨"SixFellows", "weighSets", "()V"⟩, 8), (⟨"SixFellows", "shareOf", "(I)J"⟩, 8), (⟨"SixFellows$Tape", "advance", "()V"⟩, 6), (⟨"SixFellows$Tape", "takeItem", "(LSixFellows$Road;)Z"⟩, 6), (⟨"SixFellows$Tape", "isWord", "(Ljava/lang/String;)Z"⟩, 6), (⟨"SixFellows$Tape", "takeTask", "(LSixFellows$Road;)Z"⟩, 6), (⟨"SixFellows$Tape", "sortInHand", "()I"⟩, 6), (⟨"SixFellows$Tape", "takeWord", "(Ljava/lang/String;)Z"⟩, 6), (⟨"SixFellows$Tape", "isNumber", "(II)Z"⟩, 6), (⟨"SixFellows$Tape", "takeNumber", "()I"⟩, 6)]
theorem lw_r1 : ∀ q ∈ lw_privs_1, lw_okq q := List.forall_mem_cons.mpr ⟨lw_p0, List.forall_mem_cons.mpr ⟨lw_p1, List.forall_mem_cons.mpr ⟨lw_p2, List.forall_mem_cons.mpr ⟨lw_p3, List.forall_mem_cons.mpr ⟨lw_p4, List.forall_mem_cons.mpr ⟨lw_p5, List.forall_mem_cons.mpr ⟨lw_p6, List.forall_mem_cons.mpr ⟨lw_p7, List.forall_mem_cons.mpr ⟨lw_p8, List.forall_mem_cons.mpr ⟨lw_p9, List.forall_mem_cons.mpr ⟨lw_p10, List.forall_mem_cons.mpr ⟨lw_p11, List.forall_mem_cons.mpr ⟨lw_p12, List.forall_mem_cons.mpr ⟨lw_p13, List.forall_mem_cons.mpr ⟨lw_p14, List.forall_mem_cons.mpr ⟨lw_p15, fun _ h => absurd h List.not_mem_nil⟩⟩⟩⟩⟩⟩⟩⟩⟩⟩⟩⟩⟩⟩⟩⟩
theorem lw_p16 : lw_okq (⟨"SixFellows$Tape", "takeSleep", "(LSixFellows$Road;Z)Z"⟩, 6) := ⟨⟨by decide +kernel, by decide +kernel⟩, List.mem_of_getElem? (i := 83) (by decide +kernel), List.mem_of_getElem? (i := 567) (by decide +kernel), List.mem_of_getElem? (i := 568) (by decide +kernel)⟩
theorem lw_p17 : lw_okq (⟨"SixFellows$Tape", "takeFellow", "(LSixFellows$Road;)Z"⟩, 6) := ⟨⟨by decide +kernel, by decide +kernel⟩, List.mem_of_getElem? (i := 83) (by decide +kernel), List.mem_of_getElem? (i := 573) (by decide +kernel), List.mem_of_getElem? (i := 574) (by decide +kernel)⟩
theorem lw_p18 : lw_okq (⟨"SixFellows$Tape", "kindInHand", "()I"⟩, 6) := ⟨⟨by decide +kernel, by decide +kernel⟩, List.mem_of_getElem? (i := 83) (by decide +kernel), List.mem_of_getElem? (i := 577) (by decide +kernel), List.mem_of_getElem? (i := 578) (by decide +kernel)⟩
theorem lw_p19 : lw_okq (⟨"SixFellowsModel", "finds", "(I)I"⟩, 21) := ⟨⟨by decide +kernel, by decide +kernel⟩, List.mem_of_getElem? (i := 673) (by decide +kernel), List.mem_of_getElem? (i := 757) (by decide +kernel), List.mem_of_getElem? (i := 758) (by decide +kernel)⟩
theorem lw_p20 : lw_okq (⟨"SixFellowsModel", "addOne", "(IIIII)V"⟩, 21) := ⟨⟨by decide +kernel, by decide +kernel⟩, List.mem_of_getElem? (i := 673) (by decide +kernel), List.mem_of_getElem? (i := 762) (by decide +kernel), List.mem_of_getElem? (i := 763) (by decide +kernel)⟩
theorem lw_p21 : lw_okq (⟨"SixFellowsModel", "puts", "(III)V"⟩, 21) := ⟨⟨by decide +kernel, by decide +kernel⟩, List.mem_of_getElem? (i := 673) (by decide +kernel), List.mem_of_getElem? (i := 766) (by decide +kernel), List.mem_of_getElem? (i := 767) (by decide +kernel)⟩
theorem lw_p22 : lw_okq (⟨"SixFellowsModel", "isOne", "(I)Z"⟩, 21) := ⟨⟨by decide +kernel, by decide +kernel⟩, List.mem_of_getElem? (i := 673) (by decide +kernel), List.mem_of_getElem? (i := 774) (by decide +kernel), List.mem_of_getElem? (i := 775) (by decide +kernel)⟩
theorem lw_p23 : lw_okq (⟨"SixFellowsModel", "isSpoilt", "(I)Z"⟩, 21) := ⟨⟨by decide +kernel, by decide +kernel⟩, List.mem_of_getElem? (i := 673) (by decide +kernel), List.mem_of_getElem? (i := 778) (by decide +kernel), List.mem_of_getElem? (i := 779) (by decide +kernel)⟩
theorem lw_p24 : lw_okq (⟨"SixFellowsModel", "its", "(II)I"⟩, 21) := ⟨⟨by decide +kernel, by decide +kernel⟩, List.mem_of_getElem? (i := 673) (by decide +kernel), List.mem_of_getElem? (i := 782) (by decide +kernel), List.mem_of_getElem? (i := 783) (by decide +kernel)⟩
theorem lw_p25 : lw_okq (⟨"SixFellowsModel", "isNear", "(II)Z"⟩, 21) := ⟨⟨by decide +kernel, by decide +kernel⟩, List.mem_of_getElem? (i := 673) (by decide +kernel), List.mem_of_getElem? (i := 786) (by decide +kernel), List.mem_of_getElem? (i := 787) (by decide +kernel)⟩
theorem lw_p26 : lw_okq (⟨"SixFellowsModel", "isUp", "(I)Z"⟩, 21) := ⟨⟨by decide +kernel, by decide +kernel⟩, List.mem_of_getElem? (i := 673) (by decide +kernel), List.mem_of_getElem? (i := 790) (by decide +kernel), List.mem_of_getElem? (i := 791) (by decide +kernel)⟩
theorem lw_p27 : lw_okq (⟨"SixFellowsModel", "paceOf", "(I)I"⟩, 21) := ⟨⟨by decide +kernel, by decide +kernel⟩, List.mem_of_getElem? (i := 673) (by decide +kernel), List.mem_of_getElem? (i := 803) (by decide +kernel), List.mem_of_getElem? (i := 804) (by decide +kernel)⟩
theorem lw_p28 : lw_okq (⟨"SixFellowsModel", "doesIt", "(II)I"⟩, 21) := ⟨⟨by decide +kernel, by decide +kernel⟩, List.mem_of_getElem? (i := 673) (by decide +kernel), List.mem_of_getElem? (i := 824) (by decide +kernel), List.mem_of_getElem? (i := 825) (by decide +kernel)⟩
theorem lw_p29 : lw_okq (⟨"SixFellowsModel", "addTask", "(IIII)V"⟩, 21) := ⟨⟨by decide +kernel, by decide +kernel⟩, List.mem_of_getElem? (i := 673) (by decide +kernel), List.mem_of_getElem? (i := 835) (by decide +kernel), List.mem_of_getElem? (i := 836) (by decide +kernel)⟩
theorem lw_p30 : lw_okq (⟨"SixFellowsModel", "isTask", "(I)Z"⟩, 21) := ⟨⟨by decide +kernel, by decide +kernel⟩, List.mem_of_getElem? (i := 673) (by decide +kernel), List.mem_of_getElem? (i := 843) (by decide +kernel), List.mem_of_getElem? (i := 844) (by decide +kernel)⟩
theorem lw_p31 : lw_okq (⟨"SixFellowsModel", "helpOf", "(I)I"⟩, 21) := ⟨⟨by decide +kernel, by decide +kernel⟩, List.mem_of_getElem? (i := 673) (by decide +kernel), List.mem_of_getElem? (i := 847) (by decide +kernel), List.mem_of_getElem? (i := 848) (by decide +kernel)⟩
def lw_privs_2 : List (MethodName × Nat) := [(⟨"SixFellows$Tape", "takeSleep", "(LSixFellows$Road;Z)Z"⟩, 6), (⟨"SixFellows$Tape", "takeFellow", "(LSixFellows$Road;)Z"⟩, 6), (⟨"SixFellows$Tape", "kindInHand", "()I"⟩, 6), (⟨"SixFellowsModel", "finds", "(I)I"⟩, 21), (⟨"SixFellowsModel", "addOne", "(IIIII)V"⟩, 21), (⟨"SixFellowsModel", "puts", "(III)V"⟩, 21), (⟨"SixFellowsModel", "isOne", "(I)Z"⟩, 21), (⟨"SixFellowsModel", "isSpoilt", "(I)Z"⟩, 21), (⟨"SixFellowsModel", "its", "(II)I"⟩, 21), (⟨"SixFellowsModel", "isNear", "(II)Z"⟩, 21), (⟨"SixFellowsModel", "isUp", "(I)Z"⟩, 21), (⟨"SixFellowsModel", "paceOf", "(I)I"⟩, 21), (⟨"SixFellowsModel", "doesIt", "(II)I"⟩, 21), (⟨"SixFellowsModel", "addTask", "(IIII)V"⟩, 21), (⟨"SixFellowsModel", "isTask", "(I)Z"⟩, 21), (⟨"SixFellowsModel", "helpOf", "(I)I"⟩, 21)]
theorem lw_r2 : ∀ q ∈ lw_privs_2, lw_okq q := List.forall_mem_cons.mpr ⟨lw_p16, List.forall_mem_cons.mpr ⟨lw_p17, List.forall_mem_cons.mpr ⟨lw_p18, List.forall_mem_cons.mpr ⟨lw_p19, List.forall_mem_cons.mpr ⟨lw_p20, List.forall_mem_cons.mpr ⟨lw_p21, List.forall_mem_cons.mpr ⟨lw_p22, List.forall_mem_cons.mpr ⟨lw_p23, List.forall_mem_cons.mpr ⟨lw_p24, List.forall_mem_cons.mpr ⟨lw_p25, List.forall_mem_cons.mpr ⟨lw_p26, List.forall_mem_cons.mpr ⟨lw_p27, List.forall_mem_cons.mpr ⟨lw_p28, List.forall_mem_cons.mpr ⟨lw_p29, List.forall_mem_cons.mpr ⟨lw_p30, List.forall_mem_cons.mpr ⟨lw_p31, fun _ h => absurd h List.not_mem_nil⟩⟩⟩⟩⟩⟩⟩⟩⟩⟩⟩⟩⟩⟩⟩⟩
theorem lw_p32 : lw_okq (⟨"SixFellowsModel", "helpsIt", "(II)I"⟩, 21) := ⟨⟨by decide +kernel, by decide +kernel⟩, List.mem_of_getElem? (i := 673) (by decide +kernel), List.mem_of_getElem? (i := 851) (by decide +kernel), List.mem_of_getElem? (i := 852) (by decide +kernel)⟩
theorem lw_p33 : lw_okq (⟨"SixFellowsModel", "asks", "(II)I"⟩, 21) := ⟨⟨by decide +kernel, by decide +kernel⟩, List.mem_of_getElem? (i := 673) (by decide +kernel), List.mem_of_getElem? (i := 855) (by decide +kernel), List.mem_of_getElem? (i := 856) (by decide +kernel)⟩
theorem lw_p34 : lw_okq (⟨"SixFellowsModel", "isMet", "(I)Z"⟩, 21) := ⟨⟨by decide +kernel, by decide +kernel⟩, List.mem_of_getElem? (i := 673) (by decide +kernel), List.mem_of_getElem? (i := 859) (by decide +kernel), List.mem_of_getElem? (i := 860) (by decide +kernel)⟩
theorem lw_p35 : lw_okq (⟨"SixFellowsModel", "helpers", "(I)I"⟩, 21) := ⟨⟨by decide +kernel, by decide +kernel⟩, List.mem_of_getElem? (i := 673) (by decide +kernel), List.mem_of_getElem? (i := 863) (by decide +kernel), List.mem_of_getElem? (i := 864) (by decide +kernel)⟩
theorem lw_p36 : lw_okq (⟨"SixFellowsModel", "oneHour", "()V"⟩, 21) := ⟨⟨by decide +kernel, by decide +kernel⟩, List.mem_of_getElem? (i := 673) (by decide +kernel), List.mem_of_getElem? (i := 880) (by decide +kernel), List.mem_of_getElem? (i := 881) (by decide +kernel)⟩
theorem lw_p37 : lw_okq (⟨"SixFellowsModel", "earned", "()I"⟩, 21) := ⟨⟨by decide +kernel, by decide +kernel⟩, List.mem_of_getElem? (i := 673) (by decide +kernel), List.mem_of_getElem? (i := 884) (by decide +kernel), List.mem_of_getElem? (i := 885) (by decide +kernel)⟩
theorem lw_p38 : lw_okq (⟨"SixFellowsModel", "metNow", "()I"⟩, 21) := ⟨⟨by decide +kernel, by decide +kernel⟩, List.mem_of_getElem? (i := 673) (by decide +kernel), List.mem_of_getElem? (i := 892) (by decide +kernel), List.mem_of_getElem? (i := 893) (by decide +kernel)⟩
theorem lw_p39 : lw_okq (⟨"SixFellowsModel", "sleepers", "()I"⟩, 21) := ⟨⟨by decide +kernel, by decide +kernel⟩, List.mem_of_getElem? (i := 673) (by decide +kernel), List.mem_of_getElem? (i := 896) (by decide +kernel), List.mem_of_getElem? (i := 897) (by decide +kernel)⟩
theorem lw_p40 : lw_okq (⟨"SixFellowsModel", "spoiltOnes", "()I"⟩, 21) := ⟨⟨by decide +kernel, by decide +kernel⟩, List.mem_of_getElem? (i := 673) (by decide +kernel), List.mem_of_getElem? (i := 900) (by decide +kernel), List.mem_of_getElem? (i := 901) (by decide +kernel)⟩
theorem lw_p41 : lw_okq (⟨"SixFellowsModel", "span", "()I"⟩, 21) := ⟨⟨by decide +kernel, by decide +kernel⟩, List.mem_of_getElem? (i := 673) (by decide +kernel), List.mem_of_getElem? (i := 904) (by decide +kernel), List.mem_of_getElem? (i := 905) (by decide +kernel)⟩
theorem lw_p42 : lw_okq (⟨"SixFellowsModel", "moveAll", "(Z[I)V"⟩, 21) := ⟨⟨by decide +kernel, by decide +kernel⟩, List.mem_of_getElem? (i := 673) (by decide +kernel), List.mem_of_getElem? (i := 912) (by decide +kernel), List.mem_of_getElem? (i := 913) (by decide +kernel)⟩
theorem lw_p43 : lw_okq (⟨"SixFellowsModel", "bestSet", "()I"⟩, 21) := ⟨⟨by decide +kernel, by decide +kernel⟩, List.mem_of_getElem? (i := 673) (by decide +kernel), List.mem_of_getElem? (i := 937) (by decide +kernel), List.mem_of_getElem? (i := 938) (by decide +kernel)⟩
theorem lw_p44 : lw_okq (⟨"SixFellowsModel", "awakeOnes", "()I"⟩, 21) := ⟨⟨by decide +kernel, by decide +kernel⟩, List.mem_of_getElem? (i := 673) (by decide +kernel), List.mem_of_getElem? (i := 941) (by decide +kernel), List.mem_of_getElem? (i := 942) (by decide +kernel)⟩
theorem lw_p45 : lw_okq (⟨"SixFellowsModel", "earnedBy", "(I)I"⟩, 21) := ⟨⟨by decide +kernel, by decide +kernel⟩, List.mem_of_getElem? (i := 673) (by decide +kernel), List.mem_of_getElem? (i := 945) (by decide +kernel), List.mem_of_getElem? (i := 946) (by decide +kernel)⟩
theorem lw_p46 : lw_okq (⟨"SixFellowsModel", "leastSet", "(I)I"⟩, 21) := ⟨⟨by decide +kernel, by decide +kernel⟩, List.mem_of_getElem? (i := 673) (by decide +kernel), List.mem_of_getElem? (i := 960) (by decide +kernel), List.mem_of_getElem? (i := 961) (by decide +kernel)⟩
theorem lw_p47 : lw_okq (⟨"SixFellowsModel", "isMetBy", "(II)Z"⟩, 21) := ⟨⟨by decide +kernel, by decide +kernel⟩, List.mem_of_getElem? (i := 673) (by decide +kernel), List.mem_of_getElem? (i := 964) (by decide +kernel), List.mem_of_getElem? (i := 965) (by decide +kernel)⟩
def lw_privs_3 : List (MethodName × Nat) := [(⟨"SixFellowsModel", "helpsIt", "(II)I"⟩, 21), (⟨"SixFellowsModel", "asks", "(II)I"⟩, 21), (⟨"SixFellowsModel", "isMet", "(I)Z"⟩, 21), (⟨"SixFellowsModel", "helpers", "(I)I"⟩, 21), (⟨"SixFellowsModel", "oneHour", "()V"⟩, 21), (⟨"SixFellowsModel", "earned", "()I"⟩, 21), (⟨"SixFellowsModel", "metNow", "()I"⟩, 21), (⟨"SixFellowsModel", "sleepers", "()I"⟩, 21), (⟨"SixFellowsModel", "spoiltOnes", "()I"⟩, 21), (⟨"SixFellowsModel", "span", "()I"⟩, 21), (⟨"SixFellowsModel", "moveAll", "(Z[I)V"⟩, 21), (⟨"SixFellowsModel", "bestSet", "()I"⟩, 21), (⟨"SixFellowsModel", "awakeOnes", "()I"⟩, 21), (⟨"SixFellowsModel", "earnedBy", "(I)I"⟩, 21), (⟨"SixFellowsModel", "leastSet", "(I)I"⟩, 21), (⟨"SixFellowsModel", "isMetBy", "(II)Z"⟩, 21)]
theorem lw_r3 : ∀ q ∈ lw_privs_3, lw_okq q := List.forall_mem_cons.mpr ⟨lw_p32, List.forall_mem_cons.mpr ⟨lw_p33, List.forall_mem_cons.mpr ⟨lw_p34, List.forall_mem_cons.mpr ⟨lw_p35, List.forall_mem_cons.mpr ⟨lw_p36, List.forall_mem_cons.mpr ⟨lw_p37, List.forall_mem_cons.mpr ⟨lw_p38, List.forall_mem_cons.mpr ⟨lw_p39, List.forall_mem_cons.mpr ⟨lw_p40, List.forall_mem_cons.mpr ⟨lw_p41, List.forall_mem_cons.mpr ⟨lw_p42, List.forall_mem_cons.mpr ⟨lw_p43, List.forall_mem_cons.mpr ⟨lw_p44, List.forall_mem_cons.mpr ⟨lw_p45, List.forall_mem_cons.mpr ⟨lw_p46, List.forall_mem_cons.mpr ⟨lw_p47, fun _ h => absurd h List.not_mem_nil⟩⟩⟩⟩⟩⟩⟩⟩⟩⟩⟩⟩⟩⟩⟩⟩
theorem lw_p48 : lw_okq (⟨"SixFellowsModel", "findShares", "()V"⟩, 21) := ⟨⟨by decide +kernel, by decide +kernel⟩, List.mem_of_getElem? (i := 673) (by decide +kernel), List.mem_of_getElem? (i := 992) (by decide +kernel), List.mem_of_getElem? (i := 993) (by decide +kernel)⟩
theorem lw_p49 : lw_okq (⟨"SixFellowsModel", "advance", "()V"⟩, 21) := ⟨⟨by decide +kernel, by decide +kernel⟩, List.mem_of_getElem? (i := 673) (by decide +kernel), List.mem_of_getElem? (i := 1020) (by decide +kernel), List.mem_of_getElem? (i := 1021) (by decide +kernel)⟩
theorem lw_p50 : lw_okq (⟨"SixFellowsModel", "byteAt", "(I)I"⟩, 21) := ⟨⟨by decide +kernel, by decide +kernel⟩, List.mem_of_getElem? (i := 673) (by decide +kernel), List.mem_of_getElem? (i := 1024) (by decide +kernel), List.mem_of_getElem? (i := 1025) (by decide +kernel)⟩
theorem lw_p51 : lw_okq (⟨"SixFellowsModel", "wantItem", "()V"⟩, 21) := ⟨⟨by decide +kernel, by decide +kernel⟩, List.mem_of_getElem? (i := 673) (by decide +kernel), List.mem_of_getElem? (i := 1037) (by decide +kernel), List.mem_of_getElem? (i := 1038) (by decide +kernel)⟩
theorem lw_p52 : lw_okq (⟨"SixFellowsModel", "kindHere", "()I"⟩, 21) := ⟨⟨by decide +kernel, by decide +kernel⟩, List.mem_of_getElem? (i := 673) (by decide +kernel), List.mem_of_getElem? (i := 1041) (by decide +kernel), List.mem_of_getElem? (i := 1042) (by decide +kernel)⟩
theorem lw_p53 : lw_okq (⟨"SixFellowsModel", "isWord", "(J)Z"⟩, 21) := ⟨⟨by decide +kernel, by decide +kernel⟩, List.mem_of_getElem? (i := 673) (by decide +kernel), List.mem_of_getElem? (i := 1046) (by decide +kernel), List.mem_of_getElem? (i := 1047) (by decide +kernel)⟩
theorem lw_p54 : lw_okq (⟨"SixFellowsModel", "wantFellow", "(I)V"⟩, 21) := ⟨⟨by decide +kernel, by decide +kernel⟩, List.mem_of_getElem? (i := 673) (by decide +kernel), List.mem_of_getElem? (i := 1055) (by decide +kernel), List.mem_of_getElem? (i := 1056) (by decide +kernel)⟩
theorem lw_p55 : lw_okq (⟨"SixFellowsModel", "wantAfter", "(JII)I"⟩, 21) := ⟨⟨by decide +kernel, by decide +kernel⟩, List.mem_of_getElem? (i := 673) (by decide +kernel), List.mem_of_getElem? (i := 1060) (by decide +kernel), List.mem_of_getElem? (i := 1061) (by decide +kernel)⟩
theorem lw_p56 : lw_okq (⟨"SixFellowsModel", "wantNumber", "(II)I"⟩, 21) := ⟨⟨by decide +kernel, by decide +kernel⟩, List.mem_of_getElem? (i := 673) (by decide +kernel), List.mem_of_getElem? (i := 1064) (by decide +kernel), List.mem_of_getElem? (i := 1065) (by decide +kernel)⟩
theorem lw_p57 : lw_okq (⟨"SixFellowsModel", "mayWant", "(JIII)I"⟩, 21) := ⟨⟨by decide +kernel, by decide +kernel⟩, List.mem_of_getElem? (i := 673) (by decide +kernel), List.mem_of_getElem? (i := 1069) (by decide +kernel), List.mem_of_getElem? (i := 1070) (by decide +kernel)⟩
theorem lw_p58 : lw_okq (⟨"SixFellowsModel", "wantTask", "()V"⟩, 21) := ⟨⟨by decide +kernel, by decide +kernel⟩, List.mem_of_getElem? (i := 673) (by decide +kernel), List.mem_of_getElem? (i := 1076) (by decide +kernel), List.mem_of_getElem? (i := 1077) (by decide +kernel)⟩
theorem lw_p59 : lw_okq (⟨"SixFellowsModel", "sortHere", "()I"⟩, 21) := ⟨⟨by decide +kernel, by decide +kernel⟩, List.mem_of_getElem? (i := 673) (by decide +kernel), List.mem_of_getElem? (i := 1080) (by decide +kernel), List.mem_of_getElem? (i := 1081) (by decide +kernel)⟩
theorem lw_p60 : lw_okq (⟨"SixFellowsModel", "wantSleep", "(I)V"⟩, 21) := ⟨⟨by decide +kernel, by decide +kernel⟩, List.mem_of_getElem? (i := 673) (by decide +kernel), List.mem_of_getElem? (i := 1092) (by decide +kernel), List.mem_of_getElem? (i := 1093) (by decide +kernel)⟩
theorem lw_p61 : lw_okq (⟨"SixFellowsModel", "isPart", "(III)Z"⟩, 21) := ⟨⟨by decide +kernel, by decide +kernel⟩, List.mem_of_getElem? (i := 673) (by decide +kernel), List.mem_of_getElem? (i := 1117) (by decide +kernel), List.mem_of_getElem? (i := 1118) (by decide +kernel)⟩
theorem lw_p62 : lw_okq (⟨"SixFellowsModel", "badSheet", "(I)I"⟩, 21) := ⟨⟨by decide +kernel, by decide +kernel⟩, List.mem_of_getElem? (i := 673) (by decide +kernel), List.mem_of_getElem? (i := 1125) (by decide +kernel), List.mem_of_getElem? (i := 1126) (by decide +kernel)⟩
theorem lw_p63 : lw_okq (⟨"SixFellowsModel", "isSo", "(I)Z"⟩, 21) := ⟨⟨by decide +kernel, by decide +kernel⟩, List.mem_of_getElem? (i := 673) (by decide +kernel), List.mem_of_getElem? (i := 1138) (by decide +kernel), List.mem_of_getElem? (i := 1139) (by decide +kernel)⟩
def lw_privs_4 : List (MethodName × Nat) := [(⟨"SixFellowsModel", "findShares", "()V"⟩, 21), (⟨"SixFellowsModel", "advance", "()V"⟩, 21), (⟨"SixFellowsModel", "byteAt", "(I)I"⟩, 21), (⟨"SixFellowsModel", "wantItem", "()V"⟩, 21), (⟨"SixFellowsModel", "kindHere", "()I"⟩, 21), (⟨"SixFellowsModel", "isWord", "(J)Z"⟩, 21), (⟨"SixFellowsModel", "wantFellow", "(I)V"⟩, 21), (⟨"SixFellowsModel", "wantAfter", "(JII)I"⟩, 21), (⟨"SixFellowsModel", "wantNumber", "(II)I"⟩, 21), (⟨"SixFellowsModel", "mayWant", "(JIII)I"⟩, 21), (⟨"SixFellowsModel", "wantTask", "()V"⟩, 21), (⟨"SixFellowsModel", "sortHere", "()I"⟩, 21), (⟨"SixFellowsModel", "wantSleep", "(I)V"⟩, 21), (⟨"SixFellowsModel", "isPart", "(III)Z"⟩, 21), (⟨"SixFellowsModel", "badSheet", "(I)I"⟩, 21), (⟨"SixFellowsModel", "isSo", "(I)Z"⟩, 21)]
theorem lw_r4 : ∀ q ∈ lw_privs_4, lw_okq q := List.forall_mem_cons.mpr ⟨lw_p48, List.forall_mem_cons.mpr ⟨lw_p49, List.forall_mem_cons.mpr ⟨lw_p50, List.forall_mem_cons.mpr ⟨lw_p51, List.forall_mem_cons.mpr ⟨lw_p52, List.forall_mem_cons.mpr ⟨lw_p53, List.forall_mem_cons.mpr ⟨lw_p54, List.forall_mem_cons.mpr ⟨lw_p55, List.forall_mem_cons.mpr ⟨lw_p56, List.forall_mem_cons.mpr ⟨lw_p57, List.forall_mem_cons.mpr ⟨lw_p58, List.forall_mem_cons.mpr ⟨lw_p59, List.forall_mem_cons.mpr ⟨lw_p60, List.forall_mem_cons.mpr ⟨lw_p61, List.forall_mem_cons.mpr ⟨lw_p62, List.forall_mem_cons.mpr ⟨lw_p63, fun _ h => absurd h List.not_mem_nil⟩⟩⟩⟩⟩⟩⟩⟩⟩⟩⟩⟩⟩⟩⟩⟩
def lw_privs : List (MethodName × Nat) := lw_privs_1 ++ (lw_privs_2 ++ (lw_privs_3 ++ (lw_privs_4)))
def lw_tbl : List Cond := k2_sels lw_privs ++ tables_1
theorem lw_privs_ok : ∀ q ∈ lw_privs, lw_okq q := by
  show ∀ q ∈ lw_privs_1 ++ (lw_privs_2 ++ (lw_privs_3 ++ (lw_privs_4))), lw_okq q
  exact List.forall_mem_append.mpr ⟨lw_r1, List.forall_mem_append.mpr ⟨lw_r2, List.forall_mem_append.mpr ⟨lw_r3, lw_r4⟩⟩⟩
end
section
def T_Rd : u_T := fun k => match k with
  | 0 => ("SixFellows$Road", "hour", "I", false)
  | 1 => ("SixFellows$Road", "fellowCount", "I", false)
  | 2 => ("SixFellows$Road", "taskCount", "I", false)
  | 3 => ("SixFellows$Road", "asleep", "I", false)
  | 4 => ("SixFellows$Road", "kinds", "[I", true)
  | 5 => ("SixFellows$Road", "miles", "[I", true)
  | 6 => ("SixFellows$Road", "goals", "[I", true)
  | 7 => ("SixFellows$Road", "skills", "[I", true)
  | 8 => ("SixFellows$Road", "sorts", "[I", true)
  | 9 => ("SixFellows$Road", "taskMiles", "[I", true)
  | 10 => ("SixFellows$Road", "needs", "[I", true)
  | _ => ("SixFellows$Road", "pays", "[I", true)
def ty_Rd : Nat → FieldType := fun k => match k with
  | 0 => .int
  | 1 => .int
  | 2 => .int
  | 3 => .int
  | 4 => .array .int
  | 5 => .array .int
  | 6 => .array .int
  | 7 => .array .int
  | 8 => .array .int
  | 9 => .array .int
  | 10 => .array .int
  | _ => .array .int
def T_Sh : u_T := fun k => match k with
  | 0 => ("SixFellows$Sheet", "bits", "I", false)
  | 1 => ("SixFellows$Sheet", "size", "I", false)
  | _ => ("SixFellows$Sheet", "numbers", "[J", true)
def ty_Sh : Nat → FieldType := fun k => match k with
  | 0 => .int
  | 1 => .int
  | _ => .array .long
def T_Tp : u_T := fun k => match k with
  | 0 => ("SixFellows$Tape", "bytes", "[I", true)
  | 1 => ("SixFellows$Tape", "size", "I", false)
  | 2 => ("SixFellows$Tape", "token", "I", false)
  | 3 => ("SixFellows$Tape", "start", "I", false)
  | 4 => ("SixFellows$Tape", "end", "I", false)
  | _ => ("SixFellows$Tape", "number", "I", false)
def ty_Tp : Nat → FieldType := fun k => match k with
  | 0 => .array .int
  | 1 => .int
  | 2 => .int
  | 3 => .int
  | 4 => .int
  | _ => .int
def T_Sx : u_T := fun k => match k with
  | 0 => ("SixFellows", "found", "[I", true)
  | 1 => ("SixFellows", "present", "LSixFellows$Road;", true)
  | 2 => ("SixFellows", "kept", "LSixFellows$Road;", true)
  | 3 => ("SixFellows", "trial", "LSixFellows$Road;", true)
  | 4 => ("SixFellows", "tape", "LSixFellows$Tape;", true)
  | 5 => ("SixFellows", "sheets", "[LSixFellows$Sheet;", true)
  | 6 => ("SixFellows", "earnedBySet", "[I", true)
  | _ => ("SixFellows", "isKept", "Z", false)
def ty_Sx : Nat → FieldType := fun k => match k with
  | 0 => .array .int
  | 1 => .object "SixFellows$Road"
  | 2 => .object "SixFellows$Road"
  | 3 => .object "SixFellows$Road"
  | 4 => .object "SixFellows$Tape"
  | 5 => .array (.object "SixFellows$Sheet")
  | 6 => .array .int
  | _ => .boolean
def T_Mo : u_T := fun k => match k with
  | 0 => ("SixFellowsModel", "row", "[I", true)
  | 1 => ("SixFellowsModel", "found", "[I", true)
  | 2 => ("SixFellowsModel", "alone", "I", false)
  | 3 => ("SixFellowsModel", "tried", "[I", true)
  | 4 => ("SixFellowsModel", "worth", "[I", true)
  | 5 => ("SixFellowsModel", "shares", "[J", true)
  | 6 => ("SixFellowsModel", "tape", "[I", true)
  | 7 => ("SixFellowsModel", "tapeMany", "I", false)
  | 8 => ("SixFellowsModel", "sort", "I", false)
  | 9 => ("SixFellowsModel", "begins", "I", false)
  | 10 => ("SixFellowsModel", "tokenEnds", "I", false)
  | 11 => ("SixFellowsModel", "word", "J", false)
  | 12 => ("SixFellowsModel", "value", "I", false)
  | 13 => ("SixFellowsModel", "good", "Z", false)
  | 14 => ("SixFellowsModel", "bitsOf", "[I", true)
  | 15 => ("SixFellowsModel", "sizeOf", "[I", true)
  | 16 => ("SixFellowsModel", "sheets", "[J", true)
  | 17 => ("SixFellowsModel", "lent", "[J", true)
  | 18 => ("SixFellowsModel", "image", "[I", true)
  | 19 => ("SixFellowsModel", "before", "[I", true)
  | _ => ("SixFellowsModel", "isKept", "Z", false)
def ty_Mo : Nat → FieldType := fun k => match k with
  | 0 => .array .int
  | 1 => .array .int
  | 2 => .int
  | 3 => .array .int
  | 4 => .array .int
  | 5 => .array .long
  | 6 => .array .int
  | 7 => .int
  | 8 => .int
  | 9 => .int
  | 10 => .int
  | 11 => .long
  | 12 => .int
  | 13 => .boolean
  | 14 => .array .int
  | 15 => .array .int
  | 16 => .array .long
  | 17 => .array .long
  | 18 => .array .int
  | 19 => .array .int
  | _ => .boolean
abbrev zCl : List vw_C := [("SixFellows$Road", T_Rd, 12), ("SixFellows$Sheet", T_Sh, 3), ("SixFellows$Tape", T_Tp, 6), ("SixFellows", T_Sx, 8), ("SixFellowsModel", T_Mo, 21)]
/-! ===== the logic of this claim: a judgement over worlds, locals and stacks alone; the machine is hidden in zOK ===== -/
abbrev zLV : Type := List (Nat × Value)
def zr (d : Nat) : Room := { frames := d, cells := 0, slots := 0, locals := 40 * d }
def zT : List Cond := lw_tbl.filter goodWord
theorem zin {w : Cond} (i : Nat) (h : lw_tbl[i]? = some w) (hg : goodWord w = true) : w ∈ zT := List.mem_filter.mpr ⟨List.mem_of_getElem? h, hg⟩
def zws (y : MethodName) (cc : ByteArray) (nL : Nat) (ret : Option FieldType) : List Cond := Cond.code y cc nL ret :: zT
theorem zgd {y : MethodName} {cc : ByteArray} {nL : Nat} {ret : Option FieldType} (h : Cond.code y cc nL ret ∈ zT) : GoodIn zT (zws y cc nL ret) := by
  intro w hw
  rcases List.mem_cons.mp hw with rfl | h2
  · exact ⟨h, good_of_word (List.mem_filter.mp h).2⟩
  · exact ⟨h2, good_of_word (List.mem_filter.mp h2).2⟩
def zB (b : Bool) : Int32 := if b then 1 else 0
theorem zB_t : zB true = 1 := rfl
theorem zB_f : zB false = 0 := rfl
theorem zB_0 {b : Bool} (h : zB b = 0) : b = false := by
  cases b
  · rfl
  · exact absurd h (by decide)
theorem zB_1 {b : Bool} (h : ¬ zB b = 0) : b = true := by
  cases b
  · exact absurd rfl h
  · rfl
theorem zB_nar (b : Bool) : narrow .boolean (.int (zB b)) = .int (zB b) := by cases b <;> rfl
theorem zB_fit (b : Bool) : fits .boolean (.int (zB b)) = true := by cases b <;> rfl
/-- links between nest mates -/
def zNl : List (String × Nat × MethodName × String) := [("SixFellows", 15, ⟨"SixFellows$Road", "<init>", "()V"⟩, "SixFellows"), ("SixFellows", 28, ⟨"SixFellows$Tape", "<init>", "()V"⟩, "SixFellows"), ("SixFellows", 35, ⟨"SixFellows$Sheet", "<init>", "()V"⟩, "SixFellows"), ("SixFellows$Road", 63, ⟨"SixFellows", "spoilerOf", "(I)I"⟩, "SixFellows"), ("SixFellows$Road", 55, ⟨"SixFellows", "has", "(II)Z"⟩, "SixFellows"), ("SixFellows$Road", 67, ⟨"SixFellows", "isOfKind", "(II)Z"⟩, "SixFellows"), ("SixFellows$Road", 99, ⟨"SixFellows", "paceOf", "(I)I"⟩, "SixFellows"), ("SixFellows$Road", 78, ⟨"SixFellows", "workOf", "(III)I"⟩, "SixFellows"), ("SixFellows$Tape", 142, ⟨"SixFellows", "isWithin", "(III)Z"⟩, "SixFellows")]
/-- the String constants -/
def zRl : List (String × Nat × String) := [("SixFellows$Tape", 38, "task"), ("SixFellows$Tape", 132, "run"), ("SixFellows$Tape", 134, "shoot"), ("SixFellows$Tape", 136, "blow"), ("SixFellows$Tape", 138, "freeze"), ("SixFellows$Tape", 140, "carry"), ("SixFellows$Tape", 67, "at"), ("SixFellows$Tape", 105, "need"), ("SixFellows$Tape", 107, "pay"), ("SixFellows$Tape", 47, "wake"), ("SixFellows$Tape", 53, "sleep"), ("SixFellows$Tape", 117, "fellow"), ("SixFellows$Tape", 119, "runner"), ("SixFellows$Tape", 121, "hunter"), ("SixFellows$Tape", 123, "blower"), ("SixFellows$Tape", 125, "legged"), ("SixFellows$Tape", 127, "hatted"), ("SixFellows$Tape", 83, "goes"), ("SixFellows$Tape", 88, "skill"), ("SixFellows$Tape", 93, "asleep")]
def zlen : List Nat := [4, 3, 5, 4, 6, 5, 2, 4, 3, 4, 5, 6, 6, 6, 6, 6, 6, 4, 5, 6]
def zbyt : List (List Int32) := [[116, 97, 115, 107], [114, 117, 110], [115, 104, 111, 111, 116], [98, 108, 111, 119], [102, 114, 101, 101, 122, 101], [99, 97, 114, 114, 121], [97, 116], [110, 101, 101, 100], [112, 97, 121], [119, 97, 107, 101], [115, 108, 101, 101, 112], [102, 101, 108, 108, 111, 119], [114, 117, 110, 110, 101, 114], [104, 117, 110, 116, 101, 114], [98, 108, 111, 119, 101, 114], [108, 101, 103, 103, 101, 100], [104, 97, 116, 116, 101, 100], [103, 111, 101, 115], [115, 107, 105, 108, 108], [97, 115, 108, 101, 101, 112]]
def zka (j : Nat) : Int32 := ([-1, 0, 0, 0, 1, 3] : List Int32).getD j 0
def zfa (j : Nat) : Int32 := ([1, 1, 2, 6, 24, 120, 720, 5040] : List Int32).getD j 0
def zwt (j : Nat) : Int32 := ([5040, 5040, 2520, 840, 210, 42, 7, 1] : List Int32).getD j 0
/-- what stands still: links, constants, static arrays. g 0: array classes and static arrays, g 1: texts, g 2: their bytes -/
def zZ (g : Nat → Nat → Nat) (A : Nat → Prop) (U : State) (H : Heap) : Prop :=
  (∀ q ∈ zNl, va_Nw (.methodLinkNest q.1 q.2.1 q.2.2.1 q.2.2.2) U) ∧
  (∀ (i : Nat) (q : String × Nat × String), zRl[i]? = some q → vk_R q.1 q.2.1 q.2.2 (g 1 i) U) ∧
  (va_Z "SixFellows" "KIND_ABOVE" "[I" (.ref (g 0 3)) A U H ∧ va_T .int (g 0 3) 6 (fun j => .int (zka j)) A U H) ∧
  (va_Z "SixFellows" "FACTORIALS" "[I" (.ref (g 0 4)) A U H ∧ va_T .int (g 0 4) 8 (fun j => .int (zfa j)) A U H) ∧
  (va_Z "SixFellows" "WEIGHT_OF_ORDER" "[I" (.ref (g 0 5)) A U H ∧ va_T .int (g 0 5) 8 (fun j => .int (zwt j)) A U H) ∧
  va_Z "java/lang/String" "COMPACT_STRINGS" "Z" (.int 1) A U H ∧
  vk_S 20 zlen zbyt (g 1) (g 2) A U H
theorem zZ.call {g : Nat → Nat → Nat} {A B : Nat → Prop} {s U : State} {H : Heap} {locs : List Loc} (h : zZ g A s s.heap) (hS : va_S A s.heap H locs) (hU : U.heap = H) (hW : s.WarmedH U.vm) (hB : ∀ q, B q → A q) : zZ g B U U.heap := by
  obtain ⟨h1, h2, ⟨h3, h4⟩, ⟨h5, h6⟩, ⟨h7, h8⟩, h9, h10⟩ := h
  rw [hU]
  have hk : ∀ a : Nat, a < s.heap.size → ¬ A a → H[a]? = s.heap[a]? := hS.2.1
  have ha := hW.alike
  exact ⟨fun q hq => va_Nw.warmM hW (h1 q hq), fun i q hq => vk_R.warm hW (h2 i q hq), ⟨((h3.kept hk).moved ha).narrow hB, ((h4.kept hk).moved ha).narrow hB⟩, ⟨((h5.kept hk).moved ha).narrow hB, ((h6.kept hk).moved ha).narrow hB⟩, ⟨((h7.kept hk).moved ha).narrow hB, ((h8.kept hk).moved ha).narrow hB⟩, ((h9.kept hk).moved ha).narrow hB, ((h10.kept hk).moved ha).narrow hB⟩
theorem zZ.blind {g : Nat → Nat → Nat} {A : Nat → Prop} {U : State} {f : JFrame} {mk : MethodId} {a : Array Value} (h : zZ g A U U.heap) : zZ g A (U.calling f mk a) (U.calling f mk a).heap := by
  obtain ⟨h1, h2, ⟨h3, h4⟩, ⟨h5, h6⟩, ⟨h7, h8⟩, h9, h10⟩ := h
  have ha : U.vm.Alike (U.calling f mk a).vm := Vm.Alike.refl U.vm
  exact ⟨fun q hq => va_Nw.same rfl (u := U) rfl (h1 q hq), fun i q hq => vk_R.same (u := U) rfl (h2 i q hq), ⟨h3.moved ha, h4.moved ha⟩, ⟨h5.moved ha, h6.moved ha⟩, ⟨h7.moved ha, h8.moved ha⟩, h9.moved ha, h10.moved ha⟩
abbrev ztys (g : Nat → Nat → Nat) : List (ClassId × FieldType) := [(g 0 0, .int), (g 0 1, .long), (g 0 2, .object "SixFellows$Sheet")]
def zJ (p : Program) (l : Launch) (e : Env) (R : Room) (s : State) (m : MethodId) (args : Array Value) (below : List Frame) (meth : Method) (c : Code) (D : va_G) (A : Nat → Prop) (nL cells slots : Nat) (Q : State → Prop) : va_W → Nat → zLV → List Value → Prop := fun w pc lv st =>
  ∀ (H : Heap) (locs : List Loc) (ls : Array Slot), va_P D zCl w H → va_D A w → va_S A s.heap H locs → lv_has ls nL lv → W p l e R s m args below meth c H locs cells slots Q (F0 m pc ls st)
def zOK (g : Nat → Nat → Nat) (J : va_W → Nat → zLV → List Value → Prop) (cc : ByteArray) (nL : Nat) (own : String) (R : Room) : Prop :=
  ∃ (p : Program) (l : Launch) (e : Env) (s : State) (m : MethodId) (args : Array Value) (below : List Frame) (meth : Method) (c : Code) (D : va_G) (A : Nat → Prop) (cells slots : Nat) (Q : State → Prop),
    J = zJ p l e R s m args below meth c D A nL cells slots Q ∧ p.tables.exec = Jvm.exec ∧ c.code = cc ∧ c.maxLocals = nL ∧ s.vm.findClass own = some m.cls ∧ (∀ w ∈ zT, w.before args s = true) ∧ meth.locks = false ∧ va_K D zCl (ztys g) s ∧ zZ g A s s.heap ∧ (∀ q : Nat, s.heap.size ≤ q → A q) ∧ cells ≤ R.cells ∧ slots ≤ R.slots
/-- an instruction at pc, its length, where the next one stands -/
def zd (cc : ByteArray) (pc : Nat) (i : Instr) (n pc' : Nat) : Prop := decode cc pc = .ok (i, n) ∧ pc + n = pc'
/-- and where it jumps to -/
def zj (cc : ByteArray) (pc : Nat) (i : Instr) (n pc' : Nat) (off : Int) (tgt : Nat) : Prop := decode cc pc = .ok (i, n) ∧ pc + n = pc' ∧ (pc : Int) + off = (tgt : Int)
def zins : zLV → Nat → Value → zLV
  | [], i, v => [(i, v)]
  | (j, u) :: l, i, v => if i < j then (i, v) :: (j, u) :: l else (j, u) :: zins l i v
theorem zins_mem {q : Nat × Value} : ∀ {l : zLV} {i : Nat} {v : Value}, q ∈ zins l i v → q ∈ (i, v) :: l
  | [], i, v, h => h
  | (j, u) :: l, i, v, h => by
    unfold zins at h
    by_cases hij : i < j
    · rw [if_pos hij] at h
      exact h
    · rw [if_neg hij] at h
      rcases List.mem_cons.mp h with rfl | h2
      · exact List.mem_cons_of_mem _ List.mem_cons_self
      · rcases List.mem_cons.mp (zins_mem h2) with rfl | h3
        · exact List.mem_cons_self
        · exact List.mem_cons_of_mem _ (List.mem_cons_of_mem _ h3)
def zst (lv : zLV) (i : Nat) (v : Value) : zLV := zins (lv.filter (fun q => !(q.1 == i) && !(q.1 + 1 == i && q.2.category == 2))) i v
def zst2 (lv : zLV) (i : Nat) (v : Value) : zLV := zins (lv.filter (fun q => !(q.1 == i) && (!(q.1 == i + 1) && !(q.1 + 1 == i && q.2.category == 2)))) i v
theorem lv_has.less {ls : Array Slot} {nL : Nat} {l l' : zLV} (h : lv_has ls nL l) (hs : ∀ q ∈ l', q ∈ l) : lv_has ls nL l' := ⟨h.1, h.2.1, fun q hq => h.2.2 q (hs q hq)⟩
/-- what is known of number ci -/
def zCls (ci : Nat) (C : String) (T : u_T) (N : Nat) (ty : Nat → FieldType) : Prop := zCl[ci]? = some (C, T, N) ∧ (∀ w ∈ u_ws C T N, w ∈ zT) ∧ (∀ k, k < N → parseFieldDescriptor (T k).2.2.1 = some (ty k)) ∧ (∀ a, a < N → ∀ b, b < N → a ≠ b → (T a).2.1 ≠ (T b).2.1)
def zFl (own : String) (idx : Nat) (T : u_T) (k : Nat) : Prop := Cond.fieldLink own idx (T k).1 (T k).2.1 (T k).2.2.1 ∈ zT
section zRules
variable {g : Nat → Nat → Nat} {J : va_W → Nat → zLV → List Value → Prop} {cc : ByteArray} {nL : Nat} {own : String} {R : Room} {w w' : va_W} {pc pc' : Nat} {lv lv' : zLV} {st : List Value}
theorem z_iadd {x y : Int32} (h : zOK g J cc nL own R) (hd : zd cc pc (.iadd) 1 pc')  (k : J w pc' lv (.int (x + y) :: st)) : J w pc lv (.int y :: .int x :: st) := by
  obtain ⟨p, l, e, s, m, args, below, meth, c, D, A, cells, slots, Q, rfl, hx, hb, hml, hown, hts, hlk, hK, hZ, hA, hcc, hss⟩ := h
  obtain ⟨hd, rfl⟩ := hd
  intro H locs ls hP hD hS hl
  exact lv_iadd hx hb hd (k H locs ls hP hD hS hl)
theorem z_isub {x y : Int32} (h : zOK g J cc nL own R) (hd : zd cc pc (.isub) 1 pc')  (k : J w pc' lv (.int (x - y) :: st)) : J w pc lv (.int y :: .int x :: st) := by
  obtain ⟨p, l, e, s, m, args, below, meth, c, D, A, cells, slots, Q, rfl, hx, hb, hml, hown, hts, hlk, hK, hZ, hA, hcc, hss⟩ := h
  obtain ⟨hd, rfl⟩ := hd
  intro H locs ls hP hD hS hl
  exact lv_isub hx hb hd (k H locs ls hP hD hS hl)
theorem z_imul {x y : Int32} (h : zOK g J cc nL own R) (hd : zd cc pc (.imul) 1 pc')  (k : J w pc' lv (.int (x * y) :: st)) : J w pc lv (.int y :: .int x :: st) := by
  obtain ⟨p, l, e, s, m, args, below, meth, c, D, A, cells, slots, Q, rfl, hx, hb, hml, hown, hts, hlk, hK, hZ, hA, hcc, hss⟩ := h
  obtain ⟨hd, rfl⟩ := hd
  intro H locs ls hP hD hS hl
  exact lv_imul hx hb hd (k H locs ls hP hD hS hl)
theorem z_iand {x y : Int32} (h : zOK g J cc nL own R) (hd : zd cc pc (.iand) 1 pc')  (k : J w pc' lv (.int (x &&& y) :: st)) : J w pc lv (.int y :: .int x :: st) := by
  obtain ⟨p, l, e, s, m, args, below, meth, c, D, A, cells, slots, Q, rfl, hx, hb, hml, hown, hts, hlk, hK, hZ, hA, hcc, hss⟩ := h
  obtain ⟨hd, rfl⟩ := hd
  intro H locs ls hP hD hS hl
  exact lv_iand hx hb hd (k H locs ls hP hD hS hl)
theorem z_ior {x y : Int32} (h : zOK g J cc nL own R) (hd : zd cc pc (.ior) 1 pc')  (k : J w pc' lv (.int (x ||| y) :: st)) : J w pc lv (.int y :: .int x :: st) := by
  obtain ⟨p, l, e, s, m, args, below, meth, c, D, A, cells, slots, Q, rfl, hx, hb, hml, hown, hts, hlk, hK, hZ, hA, hcc, hss⟩ := h
  obtain ⟨hd, rfl⟩ := hd
  intro H locs ls hP hD hS hl
  exact lv_ior hx hb hd (k H locs ls hP hD hS hl)
theorem z_ixor {x y : Int32} (h : zOK g J cc nL own R) (hd : zd cc pc (.ixor) 1 pc')  (k : J w pc' lv (.int (x ^^^ y) :: st)) : J w pc lv (.int y :: .int x :: st) := by
  obtain ⟨p, l, e, s, m, args, below, meth, c, D, A, cells, slots, Q, rfl, hx, hb, hml, hown, hts, hlk, hK, hZ, hA, hcc, hss⟩ := h
  obtain ⟨hd, rfl⟩ := hd
  intro H locs ls hP hD hS hl
  exact lv_ixor hx hb hd (k H locs ls hP hD hS hl)
theorem z_ishl {x y : Int32} (h : zOK g J cc nL own R) (hd : zd cc pc (.ishl) 1 pc')  (k : J w pc' lv (.int (x <<< (y &&& 31)) :: st)) : J w pc lv (.int y :: .int x :: st) := by
  obtain ⟨p, l, e, s, m, args, below, meth, c, D, A, cells, slots, Q, rfl, hx, hb, hml, hown, hts, hlk, hK, hZ, hA, hcc, hss⟩ := h
  obtain ⟨hd, rfl⟩ := hd
  intro H locs ls hP hD hS hl
  exact lv_ishl hx hb hd (k H locs ls hP hD hS hl)
theorem z_ishr {x y : Int32} (h : zOK g J cc nL own R) (hd : zd cc pc (.ishr) 1 pc')  (k : J w pc' lv (.int (x >>> (y &&& 31)) :: st)) : J w pc lv (.int y :: .int x :: st) := by
  obtain ⟨p, l, e, s, m, args, below, meth, c, D, A, cells, slots, Q, rfl, hx, hb, hml, hown, hts, hlk, hK, hZ, hA, hcc, hss⟩ := h
  obtain ⟨hd, rfl⟩ := hd
  intro H locs ls hP hD hS hl
  exact lv_ishr hx hb hd (k H locs ls hP hD hS hl)
theorem z_idiv {x y : Int32} (h : zOK g J cc nL own R) (hd : zd cc pc (.idiv) 1 pc') (hne : ¬ y = 0) (k : J w pc' lv (.int (x / y) :: st)) : J w pc lv (.int y :: .int x :: st) := by
  obtain ⟨p, l, e, s, m, args, below, meth, c, D, A, cells, slots, Q, rfl, hx, hb, hml, hown, hts, hlk, hK, hZ, hA, hcc, hss⟩ := h
  obtain ⟨hd, rfl⟩ := hd
  intro H locs ls hP hD hS hl
  exact lv_idiv hx hb hd hne (k H locs ls hP hD hS hl)
theorem z_ineg {x : Int32} (h : zOK g J cc nL own R) (hd : zd cc pc (.ineg) 1 pc')  (k : J w pc' lv (.int (-x) :: st)) : J w pc lv (.int x :: st) := by
  obtain ⟨p, l, e, s, m, args, below, meth, c, D, A, cells, slots, Q, rfl, hx, hb, hml, hown, hts, hlk, hK, hZ, hA, hcc, hss⟩ := h
  obtain ⟨hd, rfl⟩ := hd
  intro H locs ls hP hD hS hl
  exact lv_ineg hx hb hd (k H locs ls hP hD hS hl)
theorem z_ladd {x y : Int64} (h : zOK g J cc nL own R) (hd : zd cc pc (.ladd) 1 pc')  (k : J w pc' lv (.long (x + y) :: st)) : J w pc lv (.long y :: .long x :: st) := by
  obtain ⟨p, l, e, s, m, args, below, meth, c, D, A, cells, slots, Q, rfl, hx, hb, hml, hown, hts, hlk, hK, hZ, hA, hcc, hss⟩ := h
  obtain ⟨hd, rfl⟩ := hd
  intro H locs ls hP hD hS hl
  exact lv_ladd hx hb hd (k H locs ls hP hD hS hl)
theorem z_lsub {x y : Int64} (h : zOK g J cc nL own R) (hd : zd cc pc (.lsub) 1 pc')  (k : J w pc' lv (.long (x - y) :: st)) : J w pc lv (.long y :: .long x :: st) := by
  obtain ⟨p, l, e, s, m, args, below, meth, c, D, A, cells, slots, Q, rfl, hx, hb, hml, hown, hts, hlk, hK, hZ, hA, hcc, hss⟩ := h
  obtain ⟨hd, rfl⟩ := hd
  intro H locs ls hP hD hS hl
  exact lv_lsub hx hb hd (k H locs ls hP hD hS hl)
theorem z_lmul {x y : Int64} (h : zOK g J cc nL own R) (hd : zd cc pc (.lmul) 1 pc')  (k : J w pc' lv (.long (x * y) :: st)) : J w pc lv (.long y :: .long x :: st) := by
  obtain ⟨p, l, e, s, m, args, below, meth, c, D, A, cells, slots, Q, rfl, hx, hb, hml, hown, hts, hlk, hK, hZ, hA, hcc, hss⟩ := h
  obtain ⟨hd, rfl⟩ := hd
  intro H locs ls hP hD hS hl
  exact lv_lmul hx hb hd (k H locs ls hP hD hS hl)
theorem z_land {x y : Int64} (h : zOK g J cc nL own R) (hd : zd cc pc (.land) 1 pc')  (k : J w pc' lv (.long (x &&& y) :: st)) : J w pc lv (.long y :: .long x :: st) := by
  obtain ⟨p, l, e, s, m, args, below, meth, c, D, A, cells, slots, Q, rfl, hx, hb, hml, hown, hts, hlk, hK, hZ, hA, hcc, hss⟩ := h
  obtain ⟨hd, rfl⟩ := hd
  intro H locs ls hP hD hS hl
  exact lv_land hx hb hd (k H locs ls hP hD hS hl)
theorem z_lor {x y : Int64} (h : zOK g J cc nL own R) (hd : zd cc pc (.lor) 1 pc')  (k : J w pc' lv (.long (x ||| y) :: st)) : J w pc lv (.long y :: .long x :: st) := by
  obtain ⟨p, l, e, s, m, args, below, meth, c, D, A, cells, slots, Q, rfl, hx, hb, hml, hown, hts, hlk, hK, hZ, hA, hcc, hss⟩ := h
  obtain ⟨hd, rfl⟩ := hd
  intro H locs ls hP hD hS hl
  exact lv_lor hx hb hd (k H locs ls hP hD hS hl)
theorem z_ldiv {x y : Int64} (h : zOK g J cc nL own R) (hd : zd cc pc (.ldiv) 1 pc') (hne : ¬ y = 0) (k : J w pc' lv (.long (x / y) :: st)) : J w pc lv (.long y :: .long x :: st) := by
  obtain ⟨p, l, e, s, m, args, below, meth, c, D, A, cells, slots, Q, rfl, hx, hb, hml, hown, hts, hlk, hK, hZ, hA, hcc, hss⟩ := h
  obtain ⟨hd, rfl⟩ := hd
  intro H locs ls hP hD hS hl
  exact lv_ldiv hx hb hd hne (k H locs ls hP hD hS hl)
theorem z_lcmp {x y : Int64} (h : zOK g J cc nL own R) (hd : zd cc pc (.lcmp) 1 pc')  (k : J w pc' lv (.int (lg_cmp x y) :: st)) : J w pc lv (.long y :: .long x :: st) := by
  obtain ⟨p, l, e, s, m, args, below, meth, c, D, A, cells, slots, Q, rfl, hx, hb, hml, hown, hts, hlk, hK, hZ, hA, hcc, hss⟩ := h
  obtain ⟨hd, rfl⟩ := hd
  intro H locs ls hP hD hS hl
  exact W.lcmp hx hb hd (k H locs ls hP hD hS hl)
theorem z_iushr {x y : Int32} (h : zOK g J cc nL own R) (hd : zd cc pc (.iushr) 1 pc')  (k : J w pc' lv (.int ((x.toUInt32 >>> (y.toUInt32 &&& Int32.toUInt32 31)).toInt32) :: st)) : J w pc lv (.int y :: .int x :: st) := by
  obtain ⟨p, l, e, s, m, args, below, meth, c, D, A, cells, slots, Q, rfl, hx, hb, hml, hown, hts, hlk, hK, hZ, hA, hcc, hss⟩ := h
  obtain ⟨hd, rfl⟩ := hd
  intro H locs ls hP hD hS hl
  exact lv_iushr hx hb hd rfl (k H locs ls hP hD hS hl)
theorem z_lshl {x : Int64} {y : Int32} (h : zOK g J cc nL own R) (hd : zd cc pc (.lshl) 1 pc')  (k : J w pc' lv (.long (x <<< (y.toInt64 &&& 63)) :: st)) : J w pc lv (.int y :: .long x :: st) := by
  obtain ⟨p, l, e, s, m, args, below, meth, c, D, A, cells, slots, Q, rfl, hx, hb, hml, hown, hts, hlk, hK, hZ, hA, hcc, hss⟩ := h
  obtain ⟨hd, rfl⟩ := hd
  intro H locs ls hP hD hS hl
  exact lv_lshl hx hb hd rfl (k H locs ls hP hD hS hl)
theorem z_lshr {x : Int64} {y : Int32} (h : zOK g J cc nL own R) (hd : zd cc pc (.lshr) 1 pc')  (k : J w pc' lv (.long (x >>> (y.toInt64 &&& 63)) :: st)) : J w pc lv (.int y :: .long x :: st) := by
  obtain ⟨p, l, e, s, m, args, below, meth, c, D, A, cells, slots, Q, rfl, hx, hb, hml, hown, hts, hlk, hK, hZ, hA, hcc, hss⟩ := h
  obtain ⟨hd, rfl⟩ := hd
  intro H locs ls hP hD hS hl
  exact lv_lshr hx hb hd rfl (k H locs ls hP hD hS hl)
theorem z_i2l {x : Int32} (h : zOK g J cc nL own R) (hd : zd cc pc (.i2l) 1 pc')  (k : J w pc' lv (.long x.toInt64 :: st)) : J w pc lv (.int x :: st) := by
  obtain ⟨p, l, e, s, m, args, below, meth, c, D, A, cells, slots, Q, rfl, hx, hb, hml, hown, hts, hlk, hK, hZ, hA, hcc, hss⟩ := h
  obtain ⟨hd, rfl⟩ := hd
  intro H locs ls hP hD hS hl
  exact lv_i2l hx hb hd rfl (k H locs ls hP hD hS hl)
theorem z_l2i {x : Int64} (h : zOK g J cc nL own R) (hd : zd cc pc (.l2i) 1 pc')  (k : J w pc' lv (.int x.toInt32 :: st)) : J w pc lv (.long x :: st) := by
  obtain ⟨p, l, e, s, m, args, below, meth, c, D, A, cells, slots, Q, rfl, hx, hb, hml, hown, hts, hlk, hK, hZ, hA, hcc, hss⟩ := h
  obtain ⟨hd, rfl⟩ := hd
  intro H locs ls hP hD hS hl
  exact lv_l2i hx hb hd rfl (k H locs ls hP hD hS hl)
theorem z_i2b {x : Int32} (h : zOK g J cc nL own R) (hd : zd cc pc (.i2b) 1 pc')  (k : J w pc' lv (.int x.toInt8.toInt32 :: st)) : J w pc lv (.int x :: st) := by
  obtain ⟨p, l, e, s, m, args, below, meth, c, D, A, cells, slots, Q, rfl, hx, hb, hml, hown, hts, hlk, hK, hZ, hA, hcc, hss⟩ := h
  obtain ⟨hd, rfl⟩ := hd
  intro H locs ls hP hD hS hl
  exact lv_i2b hx hb hd rfl (k H locs ls hP hD hS hl)
theorem z_i2s {x : Int32} (h : zOK g J cc nL own R) (hd : zd cc pc (.i2s) 1 pc')  (k : J w pc' lv (.int x.toInt16.toInt32 :: st)) : J w pc lv (.int x :: st) := by
  obtain ⟨p, l, e, s, m, args, below, meth, c, D, A, cells, slots, Q, rfl, hx, hb, hml, hown, hts, hlk, hK, hZ, hA, hcc, hss⟩ := h
  obtain ⟨hd, rfl⟩ := hd
  intro H locs ls hP hD hS hl
  exact lv_i2s hx hb hd rfl (k H locs ls hP hD hS hl)
theorem z_i2c {x v : Int32} (h : zOK g J cc nL own R) (hd : zd cc pc (.i2c) 1 pc') (hv : (x.toUInt32 % 65536).toInt32 = v) (k : J w pc' lv (.int v :: st)) : J w pc lv (.int x :: st) := by
  obtain ⟨p, l, e, s, m, args, below, meth, c, D, A, cells, slots, Q, rfl, hx, hb, hml, hown, hts, hlk, hK, hZ, hA, hcc, hss⟩ := h
  obtain ⟨hd, rfl⟩ := hd
  intro H locs ls hP hD hS hl
  exact lv_i2c hx hb hd hv (k H locs ls hP hD hS hl)
theorem z_iconst {i : Int} {v : Int32} (h : zOK g J cc nL own R) (hd : zd cc pc (.iconst i) 1 pc') (hv : Int32.ofInt i = v) (k : J w pc' lv (.int v :: st)) : J w pc lv (st) := by
  obtain ⟨p, l, e, s, m, args, below, meth, c, D, A, cells, slots, Q, rfl, hx, hb, hml, hown, hts, hlk, hK, hZ, hA, hcc, hss⟩ := h
  obtain ⟨hd, rfl⟩ := hd
  intro H locs ls hP hD hS hl
  exact lv_iconst hx hb hd hv (k H locs ls hP hD hS hl)
theorem z_bipush {i : Int} {v : Int32} (h : zOK g J cc nL own R) (hd : zd cc pc (.bipush i) 2 pc') (hv : (Int8.ofInt i).toInt32 = v) (k : J w pc' lv (.int v :: st)) : J w pc lv (st) := by
  obtain ⟨p, l, e, s, m, args, below, meth, c, D, A, cells, slots, Q, rfl, hx, hb, hml, hown, hts, hlk, hK, hZ, hA, hcc, hss⟩ := h
  obtain ⟨hd, rfl⟩ := hd
  intro H locs ls hP hD hS hl
  exact lv_bipush hx hb hd hv (k H locs ls hP hD hS hl)
theorem z_sipush {i : Int} {v : Int32} (h : zOK g J cc nL own R) (hd : zd cc pc (.sipush i) 3 pc') (hv : (Int16.ofInt i).toInt32 = v) (k : J w pc' lv (.int v :: st)) : J w pc lv (st) := by
  obtain ⟨p, l, e, s, m, args, below, meth, c, D, A, cells, slots, Q, rfl, hx, hb, hml, hown, hts, hlk, hK, hZ, hA, hcc, hss⟩ := h
  obtain ⟨hd, rfl⟩ := hd
  intro H locs ls hP hD hS hl
  exact lv_sipush hx hb hd hv (k H locs ls hP hD hS hl)
theorem z_lconst {i : Fin 2} {v : Int64} (h : zOK g J cc nL own R) (hd : zd cc pc (.lconst i) 1 pc') (hv : Int64.ofNat (i : Nat) = v) (k : J w pc' lv (.long v :: st)) : J w pc lv (st) := by
  obtain ⟨p, l, e, s, m, args, below, meth, c, D, A, cells, slots, Q, rfl, hx, hb, hml, hown, hts, hlk, hK, hZ, hA, hcc, hss⟩ := h
  obtain ⟨hd, rfl⟩ := hd
  intro H locs ls hP hD hS hl
  exact lv_lconst hx hb hd hv (k H locs ls hP hD hS hl)
theorem z_ldc {idx : Nat} {v : Int32} (h : zOK g J cc nL own R) (hd : zd cc pc (.ldc idx) 2 pc') (hv : Cond.constant own idx v ∈ zT) (k : J w pc' lv (.int v :: st)) : J w pc lv (st) := by
  obtain ⟨p, l, e, s, m, args, below, meth, c, D, A, cells, slots, Q, rfl, hx, hb, hml, hown, hts, hlk, hK, hZ, hA, hcc, hss⟩ := h
  obtain ⟨hd, rfl⟩ := hd
  intro H locs ls hP hD hS hl
  exact lv_ldc hx hb hown (hts _ hv) hd (k H locs ls hP hD hS hl)
theorem z_ldcw {idx : Nat} {v : Int32} (h : zOK g J cc nL own R) (hd : zd cc pc (.ldc_w idx) 3 pc') (hv : Cond.constant own idx v ∈ zT) (k : J w pc' lv (.int v :: st)) : J w pc lv (st) := by
  obtain ⟨p, l, e, s, m, args, below, meth, c, D, A, cells, slots, Q, rfl, hx, hb, hml, hown, hts, hlk, hK, hZ, hA, hcc, hss⟩ := h
  obtain ⟨hd, rfl⟩ := hd
  intro H locs ls hP hD hS hl
  exact lv_ldcw hx hb hown (hts _ hv) hd (k H locs ls hP hD hS hl)
theorem z_ldc2 {idx : Nat} {v : Int64} (h : zOK g J cc nL own R) (hd : zd cc pc (.ldc2_w idx) 3 pc') (hv : Cond.constantLong own idx v ∈ zT) (k : J w pc' lv (.long v :: st)) : J w pc lv (st) := by
  obtain ⟨p, l, e, s, m, args, below, meth, c, D, A, cells, slots, Q, rfl, hx, hb, hml, hown, hts, hlk, hK, hZ, hA, hcc, hss⟩ := h
  obtain ⟨hd, rfl⟩ := hd
  intro H locs ls hP hD hS hl
  exact lv_ldc2 hx hb hown (hts _ hv) hd (k H locs ls hP hD hS hl)
theorem z_ldcS {idx i : Nat} {tx : String} (h : zOK g J cc nL own R) (hd : zd cc pc (.ldc idx) 2 pc') (hv : zRl[i]? = some (own, idx, tx)) (k : J w pc' lv (.ref (g 1 i) :: st)) : J w pc lv (st) := by
  obtain ⟨p, l, e, s, m, args, below, meth, c, D, A, cells, slots, Q, rfl, hx, hb, hml, hown, hts, hlk, hK, hZ, hA, hcc, hss⟩ := h
  obtain ⟨hd, rfl⟩ := hd
  intro H locs ls hP hD hS hl
  exact va_ldcS hx hb hown (hZ.2.1 i _ hv) hd (k H locs ls hP hD hS hl)
theorem z_iload_n {x : Int32} {i : Fin 4} (h : zOK g J cc nL own R) (hd : zd cc pc (.iload_n i) 1 pc') (q : Nat) (hk : lv[q]? = some ((i : Nat), .int x)) (k : J w pc' lv (.int x :: st)) : J w pc lv (st) := by
  obtain ⟨p, l, e, s, m, args, below, meth, c, D, A, cells, slots, Q, rfl, hx, hb, hml, hown, hts, hlk, hK, hZ, hA, hcc, hss⟩ := h
  obtain ⟨hd, rfl⟩ := hd
  intro H locs ls hP hD hS hl
  exact lv_iload_n hx hb hd rfl (lv_at hl q hk) (k H locs ls hP hD hS hl)
theorem z_iload {x : Int32} {i : Nat} (h : zOK g J cc nL own R) (hd : zd cc pc (.iload i) 2 pc') (q : Nat) (hk : lv[q]? = some (i, .int x)) (k : J w pc' lv (.int x :: st)) : J w pc lv (st) := by
  obtain ⟨p, l, e, s, m, args, below, meth, c, D, A, cells, slots, Q, rfl, hx, hb, hml, hown, hts, hlk, hK, hZ, hA, hcc, hss⟩ := h
  obtain ⟨hd, rfl⟩ := hd
  intro H locs ls hP hD hS hl
  exact lv_iload hx hb hd (lv_at hl q hk) (k H locs ls hP hD hS hl)
theorem z_istore_n {x : Int32} {i : Fin 4} (h : zOK g J cc nL own R) (hd : zd cc pc (.istore_n i) 1 pc') (hn : (i : Nat) < nL) (hv : zst lv (i : Nat) (.int x) = lv') (k : J w pc' lv' (st)) : J w pc lv (.int x :: st) := by
  obtain ⟨p, l, e, s, m, args, below, meth, c, D, A, cells, slots, Q, rfl, hx, hb, hml, hown, hts, hlk, hK, hZ, hA, hcc, hss⟩ := h
  obtain ⟨hd, rfl⟩ := hd
  intro H locs ls hP hD hS hl
  exact lv_istore_n hx hb hd rfl hl hn rfl (fun ls hl => k H locs ls hP hD hS (hl.less (fun q hq => zins_mem (by rw [← hv] at hq; exact hq))))
theorem z_istore {x : Int32} {i : Nat} (h : zOK g J cc nL own R) (hd : zd cc pc (.istore i) 2 pc') (hn : (i : Nat) < nL) (hv : zst lv i (.int x) = lv') (k : J w pc' lv' (st)) : J w pc lv (.int x :: st) := by
  obtain ⟨p, l, e, s, m, args, below, meth, c, D, A, cells, slots, Q, rfl, hx, hb, hml, hown, hts, hlk, hK, hZ, hA, hcc, hss⟩ := h
  obtain ⟨hd, rfl⟩ := hd
  intro H locs ls hP hD hS hl
  exact lv_istore hx hb hd hl hn rfl (fun ls hl => k H locs ls hP hD hS (hl.less (fun q hq => zins_mem (by rw [← hv] at hq; exact hq))))
theorem z_lload_n {x : Int64} {i : Fin 4} (h : zOK g J cc nL own R) (hd : zd cc pc (.lload_n i) 1 pc') (q : Nat) (hk : lv[q]? = some ((i : Nat), .long x)) (k : J w pc' lv (.long x :: st)) : J w pc lv (st) := by
  obtain ⟨p, l, e, s, m, args, below, meth, c, D, A, cells, slots, Q, rfl, hx, hb, hml, hown, hts, hlk, hK, hZ, hA, hcc, hss⟩ := h
  obtain ⟨hd, rfl⟩ := hd
  intro H locs ls hP hD hS hl
  exact lv_lload_n hx hb hd rfl (lv_at hl q hk) (k H locs ls hP hD hS hl)
theorem z_lload {x : Int64} {i : Nat} (h : zOK g J cc nL own R) (hd : zd cc pc (.lload i) 2 pc') (q : Nat) (hk : lv[q]? = some (i, .long x)) (k : J w pc' lv (.long x :: st)) : J w pc lv (st) := by
  obtain ⟨p, l, e, s, m, args, below, meth, c, D, A, cells, slots, Q, rfl, hx, hb, hml, hown, hts, hlk, hK, hZ, hA, hcc, hss⟩ := h
  obtain ⟨hd, rfl⟩ := hd
  intro H locs ls hP hD hS hl
  exact lv_lload hx hb hd (lv_at hl q hk) (k H locs ls hP hD hS hl)
theorem z_lstore_n {x : Int64} {i : Fin 4} (h : zOK g J cc nL own R) (hd : zd cc pc (.lstore_n i) 1 pc') (hn : (i : Nat) + 1 < nL) (hv : zst2 lv (i : Nat) (.long x) = lv') (k : J w pc' lv' (st)) : J w pc lv (.long x :: st) := by
  obtain ⟨p, l, e, s, m, args, below, meth, c, D, A, cells, slots, Q, rfl, hx, hb, hml, hown, hts, hlk, hK, hZ, hA, hcc, hss⟩ := h
  obtain ⟨hd, rfl⟩ := hd
  intro H locs ls hP hD hS hl
  exact lv_lstore_n hx hb hd rfl hl hn rfl (fun ls hl => k H locs ls hP hD hS (hl.less (fun q hq => zins_mem (by rw [← hv] at hq; exact hq))))
theorem z_lstore {x : Int64} {i : Nat} (h : zOK g J cc nL own R) (hd : zd cc pc (.lstore i) 2 pc') (hn : (i : Nat) + 1 < nL) (hv : zst2 lv i (.long x) = lv') (k : J w pc' lv' (st)) : J w pc lv (.long x :: st) := by
  obtain ⟨p, l, e, s, m, args, below, meth, c, D, A, cells, slots, Q, rfl, hx, hb, hml, hown, hts, hlk, hK, hZ, hA, hcc, hss⟩ := h
  obtain ⟨hd, rfl⟩ := hd
  intro H locs ls hP hD hS hl
  exact lv_lstore hx hb hd hl hn rfl (fun ls hl => k H locs ls hP hD hS (hl.less (fun q hq => zins_mem (by rw [← hv] at hq; exact hq))))
theorem z_aload_n {x : Nat} {i : Fin 4} (h : zOK g J cc nL own R) (hd : zd cc pc (.aload_n i) 1 pc') (q : Nat) (hk : lv[q]? = some ((i : Nat), .ref x)) (k : J w pc' lv (.ref x :: st)) : J w pc lv (st) := by
  obtain ⟨p, l, e, s, m, args, below, meth, c, D, A, cells, slots, Q, rfl, hx, hb, hml, hown, hts, hlk, hK, hZ, hA, hcc, hss⟩ := h
  obtain ⟨hd, rfl⟩ := hd
  intro H locs ls hP hD hS hl
  exact lv_aload_n hx hb hd rfl (lv_at hl q hk) (k H locs ls hP hD hS hl)
theorem z_aload {x : Nat} {i : Nat} (h : zOK g J cc nL own R) (hd : zd cc pc (.aload i) 2 pc') (q : Nat) (hk : lv[q]? = some (i, .ref x)) (k : J w pc' lv (.ref x :: st)) : J w pc lv (st) := by
  obtain ⟨p, l, e, s, m, args, below, meth, c, D, A, cells, slots, Q, rfl, hx, hb, hml, hown, hts, hlk, hK, hZ, hA, hcc, hss⟩ := h
  obtain ⟨hd, rfl⟩ := hd
  intro H locs ls hP hD hS hl
  exact lv_aload hx hb hd (lv_at hl q hk) (k H locs ls hP hD hS hl)
theorem z_astore_n {x : Nat} {i : Fin 4} (h : zOK g J cc nL own R) (hd : zd cc pc (.astore_n i) 1 pc') (hn : (i : Nat) < nL) (hv : zst lv (i : Nat) (.ref x) = lv') (k : J w pc' lv' (st)) : J w pc lv (.ref x :: st) := by
  obtain ⟨p, l, e, s, m, args, below, meth, c, D, A, cells, slots, Q, rfl, hx, hb, hml, hown, hts, hlk, hK, hZ, hA, hcc, hss⟩ := h
  obtain ⟨hd, rfl⟩ := hd
  intro H locs ls hP hD hS hl
  exact lv_astore_n hx hb hd rfl hl hn rfl (fun ls hl => k H locs ls hP hD hS (hl.less (fun q hq => zins_mem (by rw [← hv] at hq; exact hq))))
theorem z_astore {x : Nat} {i : Nat} (h : zOK g J cc nL own R) (hd : zd cc pc (.astore i) 2 pc') (hn : (i : Nat) < nL) (hv : zst lv i (.ref x) = lv') (k : J w pc' lv' (st)) : J w pc lv (.ref x :: st) := by
  obtain ⟨p, l, e, s, m, args, below, meth, c, D, A, cells, slots, Q, rfl, hx, hb, hml, hown, hts, hlk, hK, hZ, hA, hcc, hss⟩ := h
  obtain ⟨hd, rfl⟩ := hd
  intro H locs ls hP hD hS hl
  exact lv_astore hx hb hd hl hn rfl (fun ls hl => k H locs ls hP hD hS (hl.less (fun q hq => zins_mem (by rw [← hv] at hq; exact hq))))
theorem z_iinc {x v : Int32} {i : Nat} {n : Int} (h : zOK g J cc nL own R) (hd : zd cc pc (.iinc i n) 3 pc') (q : Nat) (hk : lv[q]? = some (i, .int x)) (he : x + Int32.ofInt n = v) (hn : i < nL) (hv : zst lv i (.int v) = lv') (k : J w pc' lv' (st)) : J w pc lv (st) := by
  obtain ⟨p, l, e, s, m, args, below, meth, c, D, A, cells, slots, Q, rfl, hx, hb, hml, hown, hts, hlk, hK, hZ, hA, hcc, hss⟩ := h
  obtain ⟨hd, rfl⟩ := hd
  intro H locs ls hP hD hS hl
  exact lv_iinc hx hb hd hl (k := q) hk he hn rfl (fun ls hl => k H locs ls hP hD hS (hl.less (fun q hq => zins_mem (by rw [← hv] at hq; exact hq))))
theorem z_dup {v : Value} (h : zOK g J cc nL own R) (hd : zd cc pc (.dup) 1 pc') (hv : v.category = 1) (k : J w pc' lv (v :: v :: st)) : J w pc lv (v :: st) := by
  obtain ⟨p, l, e, s, m, args, below, meth, c, D, A, cells, slots, Q, rfl, hx, hb, hml, hown, hts, hlk, hK, hZ, hA, hcc, hss⟩ := h
  obtain ⟨hd, rfl⟩ := hd
  intro H locs ls hP hD hS hl
  exact lv_dup hx hb hd hv (k H locs ls hP hD hS hl)
theorem z_pop {v : Value} (h : zOK g J cc nL own R) (hd : zd cc pc (.pop) 1 pc') (hv : v.category = 1) (k : J w pc' lv (st)) : J w pc lv (v :: st) := by
  obtain ⟨p, l, e, s, m, args, below, meth, c, D, A, cells, slots, Q, rfl, hx, hb, hml, hown, hts, hlk, hK, hZ, hA, hcc, hss⟩ := h
  obtain ⟨hd, rfl⟩ := hd
  intro H locs ls hP hD hS hl
  exact lv_pop hx hb hd hv (k H locs ls hP hD hS hl)
theorem z_dup2 {va vb : Value} (h : zOK g J cc nL own R) (hd : zd cc pc (.dup2) 1 pc') (hv : va.category = 1) (hv2 : vb.category = 1) (k : J w pc' lv (va :: vb :: va :: vb :: st)) : J w pc lv (va :: vb :: st) := by
  obtain ⟨p, l, e, s, m, args, below, meth, c, D, A, cells, slots, Q, rfl, hx, hb, hml, hown, hts, hlk, hK, hZ, hA, hcc, hss⟩ := h
  obtain ⟨hd, rfl⟩ := hd
  intro H locs ls hP hD hS hl
  exact lv_dup2_11 hx hb hd hv hv2 (k H locs ls hP hD hS hl)
theorem z_dup_x1 {va vb : Value} (h : zOK g J cc nL own R) (hd : zd cc pc (.dup_x1) 1 pc') (hv : va.category = 1) (hv2 : vb.category = 1) (k : J w pc' lv (va :: vb :: va :: st)) : J w pc lv (va :: vb :: st) := by
  obtain ⟨p, l, e, s, m, args, below, meth, c, D, A, cells, slots, Q, rfl, hx, hb, hml, hown, hts, hlk, hK, hZ, hA, hcc, hss⟩ := h
  obtain ⟨hd, rfl⟩ := hd
  intro H locs ls hP hD hS hl
  exact lv_dup_x1 hx hb hd hv hv2 (k H locs ls hP hD hS hl)
theorem z_if_eq {x : Int32} {off : Int} {tgt : Nat} (h : zOK g J cc nL own R) (hd : zj cc pc (.ifCond .eq off) 3 pc' off tgt) (kt : x = 0 → J w tgt lv st) (kf : ¬ x = 0 → J w pc' lv st) : J w pc lv (.int x :: st) := by
  obtain ⟨p, l, e, s, m, args, below, meth, c, D, A, cells, slots, Q, rfl, hx, hb, hml, hown, hts, hlk, hK, hZ, hA, hcc, hss⟩ := h
  obtain ⟨hd, rfl, ht⟩ := hd
  intro H locs ls hP hD hS hl
  exact lv_if_eq hx hb hd ht (fun q => kt q H locs ls hP hD hS hl) (fun q => kf q H locs ls hP hD hS hl)
theorem z_icmp_eq {x y : Int32} {off : Int} {tgt : Nat} (h : zOK g J cc nL own R) (hd : zj cc pc (.if_icmp .eq off) 3 pc' off tgt) (kt : x = y → J w tgt lv st) (kf : ¬ x = y → J w pc' lv st) : J w pc lv (.int y :: .int x :: st) := by
  obtain ⟨p, l, e, s, m, args, below, meth, c, D, A, cells, slots, Q, rfl, hx, hb, hml, hown, hts, hlk, hK, hZ, hA, hcc, hss⟩ := h
  obtain ⟨hd, rfl, ht⟩ := hd
  intro H locs ls hP hD hS hl
  exact lv_icmp_eq hx hb hd ht (fun q => kt q H locs ls hP hD hS hl) (fun q => kf q H locs ls hP hD hS hl)
theorem z_if_ne {x : Int32} {off : Int} {tgt : Nat} (h : zOK g J cc nL own R) (hd : zj cc pc (.ifCond .ne off) 3 pc' off tgt) (kt : ¬ x = 0 → J w tgt lv st) (kf : x = 0 → J w pc' lv st) : J w pc lv (.int x :: st) := by
  obtain ⟨p, l, e, s, m, args, below, meth, c, D, A, cells, slots, Q, rfl, hx, hb, hml, hown, hts, hlk, hK, hZ, hA, hcc, hss⟩ := h
  obtain ⟨hd, rfl, ht⟩ := hd
  intro H locs ls hP hD hS hl
  exact lv_if_ne hx hb hd ht (fun q => kt q H locs ls hP hD hS hl) (fun q => kf q H locs ls hP hD hS hl)
theorem z_icmp_ne {x y : Int32} {off : Int} {tgt : Nat} (h : zOK g J cc nL own R) (hd : zj cc pc (.if_icmp .ne off) 3 pc' off tgt) (kt : ¬ x = y → J w tgt lv st) (kf : x = y → J w pc' lv st) : J w pc lv (.int y :: .int x :: st) := by
  obtain ⟨p, l, e, s, m, args, below, meth, c, D, A, cells, slots, Q, rfl, hx, hb, hml, hown, hts, hlk, hK, hZ, hA, hcc, hss⟩ := h
  obtain ⟨hd, rfl, ht⟩ := hd
  intro H locs ls hP hD hS hl
  exact lv_icmp_ne hx hb hd ht (fun q => kt q H locs ls hP hD hS hl) (fun q => kf q H locs ls hP hD hS hl)
theorem z_if_lt {x : Int32} {off : Int} {tgt : Nat} (h : zOK g J cc nL own R) (hd : zj cc pc (.ifCond .lt off) 3 pc' off tgt) (kt : x < 0 → J w tgt lv st) (kf : ¬ x < 0 → J w pc' lv st) : J w pc lv (.int x :: st) := by
  obtain ⟨p, l, e, s, m, args, below, meth, c, D, A, cells, slots, Q, rfl, hx, hb, hml, hown, hts, hlk, hK, hZ, hA, hcc, hss⟩ := h
  obtain ⟨hd, rfl, ht⟩ := hd
  intro H locs ls hP hD hS hl
  exact lv_if_lt hx hb hd ht (fun q => kt q H locs ls hP hD hS hl) (fun q => kf q H locs ls hP hD hS hl)
theorem z_icmp_lt {x y : Int32} {off : Int} {tgt : Nat} (h : zOK g J cc nL own R) (hd : zj cc pc (.if_icmp .lt off) 3 pc' off tgt) (kt : x < y → J w tgt lv st) (kf : ¬ x < y → J w pc' lv st) : J w pc lv (.int y :: .int x :: st) := by
  obtain ⟨p, l, e, s, m, args, below, meth, c, D, A, cells, slots, Q, rfl, hx, hb, hml, hown, hts, hlk, hK, hZ, hA, hcc, hss⟩ := h
  obtain ⟨hd, rfl, ht⟩ := hd
  intro H locs ls hP hD hS hl
  exact lv_icmp_lt hx hb hd ht (fun q => kt q H locs ls hP hD hS hl) (fun q => kf q H locs ls hP hD hS hl)
theorem z_if_ge {x : Int32} {off : Int} {tgt : Nat} (h : zOK g J cc nL own R) (hd : zj cc pc (.ifCond .ge off) 3 pc' off tgt) (kt : 0 ≤ x → J w tgt lv st) (kf : ¬ 0 ≤ x → J w pc' lv st) : J w pc lv (.int x :: st) := by
  obtain ⟨p, l, e, s, m, args, below, meth, c, D, A, cells, slots, Q, rfl, hx, hb, hml, hown, hts, hlk, hK, hZ, hA, hcc, hss⟩ := h
  obtain ⟨hd, rfl, ht⟩ := hd
  intro H locs ls hP hD hS hl
  exact lv_if_ge hx hb hd ht (fun q => kt q H locs ls hP hD hS hl) (fun q => kf q H locs ls hP hD hS hl)
theorem z_icmp_ge {x y : Int32} {off : Int} {tgt : Nat} (h : zOK g J cc nL own R) (hd : zj cc pc (.if_icmp .ge off) 3 pc' off tgt) (kt : y ≤ x → J w tgt lv st) (kf : ¬ y ≤ x → J w pc' lv st) : J w pc lv (.int y :: .int x :: st) := by
  obtain ⟨p, l, e, s, m, args, below, meth, c, D, A, cells, slots, Q, rfl, hx, hb, hml, hown, hts, hlk, hK, hZ, hA, hcc, hss⟩ := h
  obtain ⟨hd, rfl, ht⟩ := hd
  intro H locs ls hP hD hS hl
  exact lv_icmp_ge hx hb hd ht (fun q => kt q H locs ls hP hD hS hl) (fun q => kf q H locs ls hP hD hS hl)
theorem z_if_gt {x : Int32} {off : Int} {tgt : Nat} (h : zOK g J cc nL own R) (hd : zj cc pc (.ifCond .gt off) 3 pc' off tgt) (kt : 0 < x → J w tgt lv st) (kf : ¬ 0 < x → J w pc' lv st) : J w pc lv (.int x :: st) := by
  obtain ⟨p, l, e, s, m, args, below, meth, c, D, A, cells, slots, Q, rfl, hx, hb, hml, hown, hts, hlk, hK, hZ, hA, hcc, hss⟩ := h
  obtain ⟨hd, rfl, ht⟩ := hd
  intro H locs ls hP hD hS hl
  exact lv_if_gt hx hb hd ht (fun q => kt q H locs ls hP hD hS hl) (fun q => kf q H locs ls hP hD hS hl)
theorem z_icmp_gt {x y : Int32} {off : Int} {tgt : Nat} (h : zOK g J cc nL own R) (hd : zj cc pc (.if_icmp .gt off) 3 pc' off tgt) (kt : y < x → J w tgt lv st) (kf : ¬ y < x → J w pc' lv st) : J w pc lv (.int y :: .int x :: st) := by
  obtain ⟨p, l, e, s, m, args, below, meth, c, D, A, cells, slots, Q, rfl, hx, hb, hml, hown, hts, hlk, hK, hZ, hA, hcc, hss⟩ := h
  obtain ⟨hd, rfl, ht⟩ := hd
  intro H locs ls hP hD hS hl
  exact lv_icmp_gt hx hb hd ht (fun q => kt q H locs ls hP hD hS hl) (fun q => kf q H locs ls hP hD hS hl)
theorem z_if_le {x : Int32} {off : Int} {tgt : Nat} (h : zOK g J cc nL own R) (hd : zj cc pc (.ifCond .le off) 3 pc' off tgt) (kt : x ≤ 0 → J w tgt lv st) (kf : ¬ x ≤ 0 → J w pc' lv st) : J w pc lv (.int x :: st) := by
  obtain ⟨p, l, e, s, m, args, below, meth, c, D, A, cells, slots, Q, rfl, hx, hb, hml, hown, hts, hlk, hK, hZ, hA, hcc, hss⟩ := h
  obtain ⟨hd, rfl, ht⟩ := hd
  intro H locs ls hP hD hS hl
  exact lv_if_le hx hb hd ht (fun q => kt q H locs ls hP hD hS hl) (fun q => kf q H locs ls hP hD hS hl)
theorem z_icmp_le {x y : Int32} {off : Int} {tgt : Nat} (h : zOK g J cc nL own R) (hd : zj cc pc (.if_icmp .le off) 3 pc' off tgt) (kt : x ≤ y → J w tgt lv st) (kf : ¬ x ≤ y → J w pc' lv st) : J w pc lv (.int y :: .int x :: st) := by
  obtain ⟨p, l, e, s, m, args, below, meth, c, D, A, cells, slots, Q, rfl, hx, hb, hml, hown, hts, hlk, hK, hZ, hA, hcc, hss⟩ := h
  obtain ⟨hd, rfl, ht⟩ := hd
  intro H locs ls hP hD hS hl
  exact lv_icmp_le hx hb hd ht (fun q => kt q H locs ls hP hD hS hl) (fun q => kf q H locs ls hP hD hS hl)
theorem zb_eq {x : Bool} {off : Int} {tgt : Nat} (h : zOK g J cc nL own R) (hd : zj cc pc (.ifCond .eq off) 3 pc' off tgt) (kt : x = false → J w tgt lv st) (kf : x = true → J w pc' lv st) : J w pc lv (.int (zB x) :: st) := by
  obtain ⟨p, l, e, s, m, args, below, meth, c, D, A, cells, slots, Q, rfl, hx, hb, hml, hown, hts, hlk, hK, hZ, hA, hcc, hss⟩ := h
  obtain ⟨hd, rfl, ht⟩ := hd
  intro H locs ls hP hD hS hl
  exact lv_if_eq hx hb hd ht (fun q => kt (zB_0 q) H locs ls hP hD hS hl) (fun q => kf (zB_1 q) H locs ls hP hD hS hl)
theorem zb_ne {x : Bool} {off : Int} {tgt : Nat} (h : zOK g J cc nL own R) (hd : zj cc pc (.ifCond .ne off) 3 pc' off tgt) (kt : x = true → J w tgt lv st) (kf : x = false → J w pc' lv st) : J w pc lv (.int (zB x) :: st) := by
  obtain ⟨p, l, e, s, m, args, below, meth, c, D, A, cells, slots, Q, rfl, hx, hb, hml, hown, hts, hlk, hK, hZ, hA, hcc, hss⟩ := h
  obtain ⟨hd, rfl, ht⟩ := hd
  intro H locs ls hP hD hS hl
  exact lv_if_ne hx hb hd ht (fun q => kt (zB_1 q) H locs ls hP hD hS hl) (fun q => kf (zB_0 q) H locs ls hP hD hS hl)
theorem z_goto {off : Int} {tgt : Nat} (h : zOK g J cc nL own R) (hd : zj cc pc (.goto off) 3 pc' off tgt) (k : J w tgt lv st) : J w pc lv st := by
  obtain ⟨p, l, e, s, m, args, below, meth, c, D, A, cells, slots, Q, rfl, hx, hb, hml, hown, hts, hlk, hK, hZ, hA, hcc, hss⟩ := h
  obtain ⟨hd, rfl, ht⟩ := hd
  intro H locs ls hP hD hS hl
  exact lv_goto hx hb hd ht (k H locs ls hP hD hS hl)
theorem z_tin {dflt lo hi : Int} {offs : Array Int} {n : Nat} {x : Int32} {off : Int} {tgt : Nat} (h : zOK g J cc nL own R) (hd : zd cc pc (.tableswitch dflt lo hi offs) n pc') (h1 : ¬ x.toInt < lo) (h2 : ¬ hi < x.toInt) (ho : offs[(x.toInt - lo).toNat]? = some off) (ht : (pc : Int) + off = (tgt : Int)) (k : J w tgt lv st) : J w pc lv (.int x :: st) := by
  obtain ⟨p, l, e, s, m, args, below, meth, c, D, A, cells, slots, Q, rfl, hx, hb, hml, hown, hts, hlk, hK, hZ, hA, hcc, hss⟩ := h
  obtain ⟨hd, rfl⟩ := hd
  intro H locs ls hP hD hS hl
  exact lv_tableIn hx hb hd h1 h2 ho ht (k H locs ls hP hD hS hl)
theorem z_tout {dflt lo hi : Int} {offs : Array Int} {n : Nat} {x : Int32} {tgt : Nat} (h : zOK g J cc nL own R) (hd : zd cc pc (.tableswitch dflt lo hi offs) n pc') (h1 : x.toInt < lo ∨ hi < x.toInt) (ht : (pc : Int) + dflt = (tgt : Int)) (k : J w tgt lv st) : J w pc lv (.int x :: st) := by
  obtain ⟨p, l, e, s, m, args, below, meth, c, D, A, cells, slots, Q, rfl, hx, hb, hml, hown, hts, hlk, hK, hZ, hA, hcc, hss⟩ := h
  obtain ⟨hd, rfl⟩ := hd
  intro H locs ls hP hD hS hl
  exact lv_tableOut hx hb hd h1 ht (k H locs ls hP hD hS hl)
theorem z_get {ci N idx k0 a : Nat} {C : String} {T : u_T} {ty : Nat → FieldType} {fs : List Value} {v : Value} (h : zOK g J cc nL own R) (hd : zd cc pc (.getfield idx) 3 pc') (hc : zCls ci C T N ty) (hf : zFl own idx T k0) (q : Nat) (he : w[q]? = some (a, .inr (ci, fs))) (hv : fs[k0]? = some v) (hk0 : k0 < N) (k : J w pc' lv (v :: st)) : J w pc lv (.ref a :: st) := by
  obtain ⟨p, l, e, s, m, args, below, meth, c, D, A, cells, slots, Q, rfl, hx, hb, hml, hown, hts, hlk, hK, hZ, hA, hcc, hss⟩ := h
  obtain ⟨hd, rfl⟩ := hd
  intro H locs ls hP hD hS hl
  exact va_get (ci := ci) (C := C) (T := T) (N := N) hx hb hts hc.2.1 hown hK hP q he hc.1 k0 hk0 (hts _ hf) (fun _ h9 => h9) hv hd (k H locs ls hP hD hS hl)
theorem z_put {ci N idx k0 a : Nat} {C : String} {T : u_T} {ty : Nat → FieldType} {fs : List Value} {v : Value} (h : zOK g J cc nL own R) (hd : zd cc pc (.putfield idx) 3 pc') (hc : zCls ci C T N ty) (hf : zFl own idx T k0) (q : Nat) (he : w[q]? = some (a, .inr (ci, fs))) (hfin : (T k0).2.2.2 = false) (hnar : narrow (ty k0) v = v) (hfit : fits (ty k0) v = true) (hk0 : k0 < N) (hlen : k0 < fs.length) (hw : w.set q (a, .inr (ci, fs.set k0 v)) = w') (k : J w' pc' lv (st)) : J w pc lv (v :: .ref a :: st) := by
  obtain ⟨p, l, e, s, m, args, below, meth, c, D, A, cells, slots, Q, rfl, hx, hb, hml, hown, hts, hlk, hK, hZ, hA, hcc, hss⟩ := h
  obtain ⟨hd, rfl⟩ := hd
  intro H locs ls hP hD hS hl
  exact va_put (ci := ci) (C := C) (T := T) (N := N) hx hb hts hc.2.1 ty hc.2.2.1 hc.2.2.2 hown hK hP hD hS q he hc.1 k0 hk0 (hts _ hf) (fun _ h9 => h9) hfin (hc.2.2.1 k0 hk0) hnar hfit hlen hd (fun H locs hP hD hS => k H locs ls (by rw [← hw]; exact hP) (by rw [← hw]; exact hD) hS hl)
theorem z_iald {a n : Nat} {i : Int32} {f : Nat → Int32} (h : zOK g J cc nL own R) (hd : zd cc pc (.iaload) 1 pc') (q j : Nat) (he : w[q]? = some (a, .inl (g 0 0, n, .inl f))) (hi : i = nI j) (hj : j < n) (hn : n < 2 ^ 31) (k : J w pc' lv (.int (f j) :: st)) : J w pc lv (.int i :: .ref a :: st) := by
  obtain ⟨p, l, e, s, m, args, below, meth, c, D, A, cells, slots, Q, rfl, hx, hb, hml, hown, hts, hlk, hK, hZ, hA, hcc, hss⟩ := h
  obtain ⟨hd, rfl⟩ := hd
  intro H locs ls hP hD hS hl
  exact (by
    have hc2 : i.toNatClampNeg = j := by rw [hi]; exact nI_clamp (Nat.lt_trans hj hn)
    exact va_iald hx hb hK hP q 0 he rfl (by rw [hi]; exact vp_in_nI hj hn) hd (by rw [hc2]; exact k H locs ls hP hD hS hl))
theorem z_iast {a n : Nat} {i : Int32} {f : Nat → Int32} {x : Int32} (h : zOK g J cc nL own R) (hd : zd cc pc (.iastore) 1 pc') (q j : Nat) (he : w[q]? = some (a, .inl (g 0 0, n, .inl f))) (hi : i = nI j) (hj : j < n) (hn : n < 2 ^ 31) (hw : w.set q (a, .inl (g 0 0, n, .inl (upd f j x))) = w') (k : J w' pc' lv (st)) : J w pc lv (.int x :: .int i :: .ref a :: st) := by
  obtain ⟨p, l, e, s, m, args, below, meth, c, D, A, cells, slots, Q, rfl, hx, hb, hml, hown, hts, hlk, hK, hZ, hA, hcc, hss⟩ := h
  obtain ⟨hd, rfl⟩ := hd
  intro H locs ls hP hD hS hl
  exact (by
    have hc2 : i.toNatClampNeg = j := by rw [hi]; exact nI_clamp (Nat.lt_trans hj hn)
    exact va_iast hx hb hK hP hD hS q 0 he rfl (by rw [hi]; exact vp_in_nI hj hn) hd (fun H locs hP hD hS => k H locs ls (by rw [← hw, ← hc2]; exact hP) (by rw [← hw, ← hc2]; exact hD) hS hl))
theorem z_lald {a n : Nat} {i : Int32} {f : Nat → Int64} (h : zOK g J cc nL own R) (hd : zd cc pc (.laload) 1 pc') (q j : Nat) (he : w[q]? = some (a, .inl (g 0 1, n, .inr (.inl f)))) (hi : i = nI j) (hj : j < n) (hn : n < 2 ^ 31) (k : J w pc' lv (.long (f j) :: st)) : J w pc lv (.int i :: .ref a :: st) := by
  obtain ⟨p, l, e, s, m, args, below, meth, c, D, A, cells, slots, Q, rfl, hx, hb, hml, hown, hts, hlk, hK, hZ, hA, hcc, hss⟩ := h
  obtain ⟨hd, rfl⟩ := hd
  intro H locs ls hP hD hS hl
  exact (by
    have hc2 : i.toNatClampNeg = j := by rw [hi]; exact nI_clamp (Nat.lt_trans hj hn)
    exact va_lald hx hb hK hP q 1 he rfl (by rw [hi]; exact vp_in_nI hj hn) hd (by rw [hc2]; exact k H locs ls hP hD hS hl))
theorem z_last {a n : Nat} {i : Int32} {f : Nat → Int64} {x : Int64} (h : zOK g J cc nL own R) (hd : zd cc pc (.lastore) 1 pc') (q j : Nat) (he : w[q]? = some (a, .inl (g 0 1, n, .inr (.inl f)))) (hi : i = nI j) (hj : j < n) (hn : n < 2 ^ 31) (hw : w.set q (a, .inl (g 0 1, n, .inr (.inl (vp_updL f j x)))) = w') (k : J w' pc' lv (st)) : J w pc lv (.long x :: .int i :: .ref a :: st) := by
  obtain ⟨p, l, e, s, m, args, below, meth, c, D, A, cells, slots, Q, rfl, hx, hb, hml, hown, hts, hlk, hK, hZ, hA, hcc, hss⟩ := h
  obtain ⟨hd, rfl⟩ := hd
  intro H locs ls hP hD hS hl
  exact (by
    have hc2 : i.toNatClampNeg = j := by rw [hi]; exact nI_clamp (Nat.lt_trans hj hn)
    exact va_last hx hb hK hP hD hS q 1 he rfl (by rw [hi]; exact vp_in_nI hj hn) hd (fun H locs hP hD hS => k H locs ls (by rw [← hw, ← hc2]; exact hP) (by rw [← hw, ← hc2]; exact hD) hS hl))
theorem z_aald {a n b : Nat} {i : Int32} {f : Nat → Option Nat} (h : zOK g J cc nL own R) (hd : zd cc pc (.aaload) 1 pc') (q j : Nat) (he : w[q]? = some (a, .inl (g 0 2, n, .inr (.inr (.inr (.inr f)))))) (hi : i = nI j) (hj : j < n) (hn : n < 2 ^ 31) (hb2 : f j = some b) (k : J w pc' lv (.ref b :: st)) : J w pc lv (.int i :: .ref a :: st) := by
  obtain ⟨p, l, e, s, m, args, below, meth, c, D, A, cells, slots, Q, rfl, hx, hb, hml, hown, hts, hlk, hK, hZ, hA, hcc, hss⟩ := h
  obtain ⟨hd, rfl⟩ := hd
  intro H locs ls hP hD hS hl
  exact (by
    have hc2 : i.toNatClampNeg = j := by rw [hi]; exact nI_clamp (Nat.lt_trans hj hn)
    exact va_aldq hx hb hK hP q 2 he rfl (by rw [hi]; exact vp_in_nI hj hn) hd (by rw [hc2, hb2]; exact k H locs ls hP hD hS hl))
theorem z_alen {a : Nat} {x : vp_A} {v : Int32} {cA : ClassId} {ty : FieldType} (h : zOK g J cc nL own R) (hd : zd cc pc (.arraylength) 1 pc') (q t : Nat) (he : w[q]? = some (a, .inl (cA, x))) (ht : (ztys g)[t]? = some (cA, ty)) (hv : Int32.ofNat x.1 = v) (k : J w pc' lv (.int v :: st)) : J w pc lv (.ref a :: st) := by
  obtain ⟨p, l, e, s, m, args, below, meth, c, D, A, cells, slots, Q, rfl, hx, hb, hml, hown, hts, hlk, hK, hZ, hA, hcc, hss⟩ := h
  obtain ⟨hd, rfl⟩ := hd
  intro H locs ls hP hD hS hl
  exact va_alen hx hb hK hP q t he ht hv hd (k H locs ls hP hD hS hl)
theorem z_gs3 {idx : Nat} (h : zOK g J cc nL own R) (hd : zd cc pc (.getstatic idx) 3 pc') (hf : Cond.fieldLink own idx "SixFellows" "KIND_ABOVE" "[I" ∈ zT) (k : J w pc' lv (.ref (g 0 3) :: st)) : J w pc lv (st) := by
  obtain ⟨p, l, e, s, m, args, below, meth, c, D, A, cells, slots, Q, rfl, hx, hb, hml, hown, hts, hlk, hK, hZ, hA, hcc, hss⟩ := h
  obtain ⟨hd, rfl⟩ := hd
  intro H locs ls hP hD hS hl
  exact va_gets hx hb hZ.2.2.1.1 hS hown (hts _ hf) (fun _ h9 => h9) hd (k H locs ls hP hD hS hl)
theorem z_ti3 {i : Int32} (h : zOK g J cc nL own R) (hd : zd cc pc (.iaload) 1 pc') (j : Nat) (hi : i = nI j) (hj : j < 6) (k : J w pc' lv (.int (zka j) :: st)) : J w pc lv (.int i :: .ref (g 0 3) :: st) := by
  obtain ⟨p, l, e, s, m, args, below, meth, c, D, A, cells, slots, Q, rfl, hx, hb, hml, hown, hts, hlk, hK, hZ, hA, hcc, hss⟩ := h
  obtain ⟨hd, rfl⟩ := hd
  intro H locs ls hP hD hS hl
  exact va_ti hx hb hZ.2.2.1.2 hS (by rw [hi]; exact vp_in_nI hj (by decide)) (by rw [hi, nI_clamp (Nat.lt_trans hj (by decide))]) hd (k H locs ls hP hD hS hl)
theorem z_gs4 {idx : Nat} (h : zOK g J cc nL own R) (hd : zd cc pc (.getstatic idx) 3 pc') (hf : Cond.fieldLink own idx "SixFellows" "FACTORIALS" "[I" ∈ zT) (k : J w pc' lv (.ref (g 0 4) :: st)) : J w pc lv (st) := by
  obtain ⟨p, l, e, s, m, args, below, meth, c, D, A, cells, slots, Q, rfl, hx, hb, hml, hown, hts, hlk, hK, hZ, hA, hcc, hss⟩ := h
  obtain ⟨hd, rfl⟩ := hd
  intro H locs ls hP hD hS hl
  exact va_gets hx hb hZ.2.2.2.1.1 hS hown (hts _ hf) (fun _ h9 => h9) hd (k H locs ls hP hD hS hl)
theorem z_ti4 {i : Int32} (h : zOK g J cc nL own R) (hd : zd cc pc (.iaload) 1 pc') (j : Nat) (hi : i = nI j) (hj : j < 8) (k : J w pc' lv (.int (zfa j) :: st)) : J w pc lv (.int i :: .ref (g 0 4) :: st) := by
  obtain ⟨p, l, e, s, m, args, below, meth, c, D, A, cells, slots, Q, rfl, hx, hb, hml, hown, hts, hlk, hK, hZ, hA, hcc, hss⟩ := h
  obtain ⟨hd, rfl⟩ := hd
  intro H locs ls hP hD hS hl
  exact va_ti hx hb hZ.2.2.2.1.2 hS (by rw [hi]; exact vp_in_nI hj (by decide)) (by rw [hi, nI_clamp (Nat.lt_trans hj (by decide))]) hd (k H locs ls hP hD hS hl)
theorem z_gs5 {idx : Nat} (h : zOK g J cc nL own R) (hd : zd cc pc (.getstatic idx) 3 pc') (hf : Cond.fieldLink own idx "SixFellows" "WEIGHT_OF_ORDER" "[I" ∈ zT) (k : J w pc' lv (.ref (g 0 5) :: st)) : J w pc lv (st) := by
  obtain ⟨p, l, e, s, m, args, below, meth, c, D, A, cells, slots, Q, rfl, hx, hb, hml, hown, hts, hlk, hK, hZ, hA, hcc, hss⟩ := h
  obtain ⟨hd, rfl⟩ := hd
  intro H locs ls hP hD hS hl
  exact va_gets hx hb hZ.2.2.2.2.1.1 hS hown (hts _ hf) (fun _ h9 => h9) hd (k H locs ls hP hD hS hl)
theorem z_ti5 {i : Int32} (h : zOK g J cc nL own R) (hd : zd cc pc (.iaload) 1 pc') (j : Nat) (hi : i = nI j) (hj : j < 8) (k : J w pc' lv (.int (zwt j) :: st)) : J w pc lv (.int i :: .ref (g 0 5) :: st) := by
  obtain ⟨p, l, e, s, m, args, below, meth, c, D, A, cells, slots, Q, rfl, hx, hb, hml, hown, hts, hlk, hK, hZ, hA, hcc, hss⟩ := h
  obtain ⟨hd, rfl⟩ := hd
  intro H locs ls hP hD hS hl
  exact va_ti hx hb hZ.2.2.2.2.1.2 hS (by rw [hi]; exact vp_in_nI hj (by decide)) (by rw [hi, nI_clamp (Nat.lt_trans hj (by decide))]) hd (k H locs ls hP hD hS hl)
theorem z_gsC {idx : Nat} (h : zOK g J cc nL own R) (hd : zd cc pc (.getstatic idx) 3 pc') (hf : Cond.fieldLink own idx "java/lang/String" "COMPACT_STRINGS" "Z" ∈ zT) (k : J w pc' lv (.int 1 :: st)) : J w pc lv (st) := by
  obtain ⟨p, l, e, s, m, args, below, meth, c, D, A, cells, slots, Q, rfl, hx, hb, hml, hown, hts, hlk, hK, hZ, hA, hcc, hss⟩ := h
  obtain ⟨hd, rfl⟩ := hd
  intro H locs ls hP hD hS hl
  exact va_gets hx hb hZ.2.2.2.2.2.1 hS hown (hts _ hf) (fun _ h9 => h9) hd (k H locs ls hP hD hS hl)
theorem z_tcod {idx i : Nat} (h : zOK g J cc nL own R) (hd : zd cc pc (.getfield idx) 3 pc') (hf : Cond.fieldLink own idx "java/lang/String" "coder" "B" ∈ zT) (hi : i < 20) (k : J w pc' lv (.int 0 :: st)) : J w pc lv (.ref (g 1 i) :: st) := by
  obtain ⟨p, l, e, s, m, args, below, meth, c, D, A, cells, slots, Q, rfl, hx, hb, hml, hown, hts, hlk, hK, hZ, hA, hcc, hss⟩ := h
  obtain ⟨hd, rfl⟩ := hd
  intro H locs ls hP hD hS hl
  exact vk_getf hx hb (hZ.2.2.2.2.2.2.1 i hi).2.1 hS hown (hts _ hf) (fun _ h9 => h9) hd (k H locs ls hP hD hS hl)
theorem z_tval {idx i : Nat} (h : zOK g J cc nL own R) (hd : zd cc pc (.getfield idx) 3 pc') (hf : Cond.fieldLink own idx "java/lang/String" "value" "[B" ∈ zT) (hi : i < 20) (k : J w pc' lv (.ref (g 2 i) :: st)) : J w pc lv (.ref (g 1 i) :: st) := by
  obtain ⟨p, l, e, s, m, args, below, meth, c, D, A, cells, slots, Q, rfl, hx, hb, hml, hown, hts, hlk, hK, hZ, hA, hcc, hss⟩ := h
  obtain ⟨hd, rfl⟩ := hd
  intro H locs ls hP hD hS hl
  exact vk_getf hx hb (hZ.2.2.2.2.2.2.1 i hi).2.2.1 hS hown (hts _ hf) (fun _ h9 => h9) hd (k H locs ls hP hD hS hl)
theorem z_tlen {i : Nat} {v : Int32} (h : zOK g J cc nL own R) (hd : zd cc pc (.arraylength) 1 pc') (hi : i < 20) (hv : Int32.ofNat (zlen.getD i 0) = v) (k : J w pc' lv (.int v :: st)) : J w pc lv (.ref (g 2 i) :: st) := by
  obtain ⟨p, l, e, s, m, args, below, meth, c, D, A, cells, slots, Q, rfl, hx, hb, hml, hown, hts, hlk, hK, hZ, hA, hcc, hss⟩ := h
  obtain ⟨hd, rfl⟩ := hd
  intro H locs ls hP hD hS hl
  exact va_tlen hx hb (hZ.2.2.2.2.2.2.1 i hi).2.2.2 hS hv hd (k H locs ls hP hD hS hl)
theorem z_tb {i : Nat} {x : Int32} (h : zOK g J cc nL own R) (hd : zd cc pc (.baload) 1 pc') (j : Nat) (hi : i < 20) (hx2 : x = nI j) (hj : j < zlen.getD i 0) (hn : zlen.getD i 0 < 2 ^ 31) (k : J w pc' lv (.int ((zbyt.getD i []).getD j 0) :: st)) : J w pc lv (.int x :: .ref (g 2 i) :: st) := by
  obtain ⟨p, l, e, s, m, args, below, meth, c, D, A, cells, slots, Q, rfl, hx, hb, hml, hown, hts, hlk, hK, hZ, hA, hcc, hss⟩ := h
  obtain ⟨hd, rfl⟩ := hd
  intro H locs ls hP hD hS hl
  exact va_tb hx hb (hZ.2.2.2.2.2.2.1 i hi).2.2.2 hS (by rw [hx2]; exact vp_in_nI hj hn) (by rw [hx2, nI_clamp (Nat.lt_trans hj hn)]) hd (k H locs ls hP hD hS hl)
theorem z_mmax {idx : Nat} {x y : Int32} (h : zOK g J cc nL own R) (hd : zd cc pc (.invokestatic idx) 3 pc') (hc : Cond.methodLink own idx Lib.Math.max.name ∈ zT ∧ Cond.static Lib.Math.max.name ∈ zT ∧ Cond.initialized "java/lang/Math" ∈ zT ∧ Cond.code Lib.Math.max.name Lib.Math.max.code 2 (some .int) ∈ zT) (hr : (st.map fun v => v.category).sum ≤ 8) (hR : 1 ≤ R.frames ∧ 8 + 13 ≤ R.locals) (k : J w pc' lv (.int (if x < y then y else x) :: st)) : J w pc lv (.int y :: .int x :: st) := by
  obtain ⟨p, l, e, s, m, args, below, meth, c, D, A, cells, slots, Q, rfl, hx, hb, hml, hown, hts, hlk, hK, hZ, hA, hcc, hss⟩ := h
  obtain ⟨hd, rfl⟩ := hd
  intro H locs ls hP hD hS hl
  exact va_mmax hx hb (hml.trans hl.1.symm) hown (hts _ hc.1) (hts _ hc.2.1) (hts _ hc.2.2.1) (hts _ hc.2.2.2) hR.1 (Nat.le_trans (Nat.add_le_add_right hr 13) hR.2) hcc hss hd (k H locs ls hP hD hS hl)
theorem z_mmin {idx : Nat} {x y : Int32} (h : zOK g J cc nL own R) (hd : zd cc pc (.invokestatic idx) 3 pc') (hc : Cond.methodLink own idx Lib.Math.min.name ∈ zT ∧ Cond.static Lib.Math.min.name ∈ zT ∧ Cond.initialized "java/lang/Math" ∈ zT ∧ Cond.code Lib.Math.min.name Lib.Math.min.code 2 (some .int) ∈ zT) (hr : (st.map fun v => v.category).sum ≤ 8) (hR : 1 ≤ R.frames ∧ 8 + 13 ≤ R.locals) (k : J w pc' lv (.int (if y < x then y else x) :: st)) : J w pc lv (.int y :: .int x :: st) := by
  obtain ⟨p, l, e, s, m, args, below, meth, c, D, A, cells, slots, Q, rfl, hx, hb, hml, hown, hts, hlk, hK, hZ, hA, hcc, hss⟩ := h
  obtain ⟨hd, rfl⟩ := hd
  intro H locs ls hP hD hS hl
  exact va_mmin hx hb (hml.trans hl.1.symm) hown (hts _ hc.1) (hts _ hc.2.1) (hts _ hc.2.2.1) (hts _ hc.2.2.2) hR.1 (Nat.le_trans (Nat.add_le_add_right hr 13) hR.2) hcc hss hd (k H locs ls hP hD hS hl)
theorem z_mabs {idx : Nat} {x : Int32} (h : zOK g J cc nL own R) (hd : zd cc pc (.invokestatic idx) 3 pc') (hc : Cond.methodLink own idx Lib.Math.abs.name ∈ zT ∧ Cond.static Lib.Math.abs.name ∈ zT ∧ Cond.initialized "java/lang/Math" ∈ zT ∧ Cond.code Lib.Math.abs.name Lib.Math.abs.code 1 (some .int) ∈ zT) (hr : (st.map fun v => v.category).sum ≤ 8) (hR : 1 ≤ R.frames ∧ 8 + 13 ≤ R.locals) (k : J w pc' lv (.int (if 0 ≤ x then x else 0 - x) :: st)) : J w pc lv (.int x :: st) := by
  obtain ⟨p, l, e, s, m, args, below, meth, c, D, A, cells, slots, Q, rfl, hx, hb, hml, hown, hts, hlk, hK, hZ, hA, hcc, hss⟩ := h
  obtain ⟨hd, rfl⟩ := hd
  intro H locs ls hP hD hS hl
  exact va_mabs hx hb (hml.trans hl.1.symm) hown (hts _ hc.1) (hts _ hc.2.1) (hts _ hc.2.2.1) (hts _ hc.2.2.2) hR.1 (Nat.le_trans (Nat.add_le_add_right hr 13) hR.2) hcc hss hd (k H locs ls hP hD hS hl)
theorem z_copyi {idx a0 a1 n0 n1 : Nat} {sp dp n : Int32} {f f1 : Nat → Int32} (h : zOK g J cc nL own R) (hd : zd cc pc (.invokestatic idx) 3 pc') (hc : Cond.methodLink own idx arraycopyName ∈ zT ∧ Cond.native arraycopyName ∈ zT ∧ Cond.static arraycopyName ∈ zT ∧ Cond.initialized "java/lang/System" ∈ zT) (q0 q1 : Nat) (he0 : w[q0]? = some (a0, .inl (g 0 0, n0, .inl f))) (he1 : w[q1]? = some (a1, .inl (g 0 0, n1, .inl f1))) (h1 : ¬ sp < 0) (h2 : ¬ dp < 0) (h3 : ¬ n < 0) (h4 : sp.toNatClampNeg + n.toNatClampNeg ≤ n0) (h5 : dp.toNatClampNeg + n.toNatClampNeg ≤ n1) (hr : (st.map fun v => v.category).sum ≤ 8) (hR : 1 ≤ R.frames ∧ 8 + (nativeFrameWords "java/lang/System" "arraycopy" 5 + 11) ≤ R.locals) (hw : w.set q1 (a1, .inl (g 0 0, n1, .inl (va_cpy f f1 sp.toNatClampNeg dp.toNatClampNeg n.toNatClampNeg))) = w') (k : J w' pc' lv (st)) : J w pc lv (.int n :: .int dp :: .ref a1 :: .int sp :: .ref a0 :: st) := by
  obtain ⟨p, l, e, s, m, args, below, meth, c, D, A, cells, slots, Q, rfl, hx, hb, hml, hown, hts, hlk, hK, hZ, hA, hcc, hss⟩ := h
  obtain ⟨hd, rfl⟩ := hd
  intro H locs ls hP hD hS hl
  exact va_copyi hx hb (hml.trans hl.1.symm) hown (hts _ hc.1) (hts _ hc.2.1) (hts _ hc.2.2.1) (hts _ hc.2.2.2) hK hP hD hS q0 q1 0 0 he0 he1 rfl rfl rfl h1 h2 h3 h4 h5 (fun i _ => rfl) hR.1 (Nat.le_trans (Nat.add_le_add_right hr _) hR.2) hd (fun H locs hP hD hS => k H locs ls (by rw [← hw]; exact hP) (by rw [← hw]; exact hD) hS hl)
theorem z_copyl {idx a0 a1 n0 n1 : Nat} {sp dp n : Int32} {f f1 : Nat → Int64} (h : zOK g J cc nL own R) (hd : zd cc pc (.invokestatic idx) 3 pc') (hc : Cond.methodLink own idx arraycopyName ∈ zT ∧ Cond.native arraycopyName ∈ zT ∧ Cond.static arraycopyName ∈ zT ∧ Cond.initialized "java/lang/System" ∈ zT) (q0 q1 : Nat) (he0 : w[q0]? = some (a0, .inl (g 0 1, n0, .inr (.inl f)))) (he1 : w[q1]? = some (a1, .inl (g 0 1, n1, .inr (.inl f1)))) (h1 : ¬ sp < 0) (h2 : ¬ dp < 0) (h3 : ¬ n < 0) (h4 : sp.toNatClampNeg + n.toNatClampNeg ≤ n0) (h5 : dp.toNatClampNeg + n.toNatClampNeg ≤ n1) (hr : (st.map fun v => v.category).sum ≤ 8) (hR : 1 ≤ R.frames ∧ 8 + (nativeFrameWords "java/lang/System" "arraycopy" 5 + 11) ≤ R.locals) (hw : w.set q1 (a1, .inl (g 0 1, n1, .inr (.inl (va_cpy f f1 sp.toNatClampNeg dp.toNatClampNeg n.toNatClampNeg)))) = w') (k : J w' pc' lv (st)) : J w pc lv (.int n :: .int dp :: .ref a1 :: .int sp :: .ref a0 :: st) := by
  obtain ⟨p, l, e, s, m, args, below, meth, c, D, A, cells, slots, Q, rfl, hx, hb, hml, hown, hts, hlk, hK, hZ, hA, hcc, hss⟩ := h
  obtain ⟨hd, rfl⟩ := hd
  intro H locs ls hP hD hS hl
  exact va_copyl hx hb (hml.trans hl.1.symm) hown (hts _ hc.1) (hts _ hc.2.1) (hts _ hc.2.2.1) (hts _ hc.2.2.2) hK hP hD hS q0 q1 1 1 he0 he1 rfl rfl rfl h1 h2 h3 h4 h5 (fun i _ => rfl) hR.1 (Nat.le_trans (Nat.add_le_add_right hr _) hR.2) hd (fun H locs hP hD hS => k H locs ls (by rw [← hw]; exact hP) (by rw [← hw]; exact hD) hS hl)
theorem z_c {x y : Int32} (e : x = y) (k : J w pc lv (.int y :: st)) : J w pc lv (.int x :: st) := e ▸ k
theorem z_cl {x y : Int64} (e : x = y) (k : J w pc lv (.long y :: st)) : J w pc lv (.long x :: st) := e ▸ k
theorem z_w (e : w = w') (k : J w' pc lv st) : J w pc lv st := e ▸ k
theorem z_lv (e : lv = lv') (k : J w pc lv' st) : J w pc lv st := e ▸ k
theorem z_ri {x y : Int32} (k : ∀ pc pc' lv, zd cc pc .ireturn 1 pc' → J w' pc lv [.int y]) (hd : zd cc pc .ireturn 1 pc') (e : x = y) (ew : w = w') : J w pc lv [.int x] := by
  subst e
  subst ew
  exact k _ _ _ hd
theorem z_rl {x y : Int64} (k : ∀ pc pc' lv, zd cc pc .lreturn 1 pc' → J w' pc lv [.long y]) (hd : zd cc pc .lreturn 1 pc') (e : x = y) (ew : w = w') : J w pc lv [.long x] := by
  subst e
  subst ew
  exact k _ _ _ hd
theorem z_rv (k : ∀ pc pc' lv, zd cc pc .return_ 1 pc' → J w' pc lv []) (hd : zd cc pc .return_ 1 pc') (ew : w = w') : J w pc lv [] := by
  subst ew
  exact k _ _ _ hd
theorem z_ra {x y : Nat} (k : ∀ pc pc' lv, zd cc pc .areturn 1 pc' → J w' pc lv [.ref y]) (hd : zd cc pc .areturn 1 pc') (e : x = y) (ew : w = w') : J w pc lv [.ref x] := by
  subst e
  subst ew
  exact k _ _ _ hd
end zRules
/-! ===== contracts ===== -/
def zQ (D : va_G) (rv : List Value) (w' : va_W) (A : Nat → Prop) : Array Value → State → Outcome → State → Prop := fun _ st oc t => oc = .returned rv.head? ∧ va_P D zCl w' t.heap ∧ va_D A w' ∧ va_F A st t
def zPc (g : Nat → Nat → Nat) (D : va_G) (av : List Value) (w : va_W) (sz : Nat) : Array Value → State → Prop := va_Pc av (fun U => U.heap.size = sz ∧ va_P D zCl w U.heap ∧ va_K D zCl (ztys g) U ∧ va_D (fun _ => True) w ∧ zZ g (va_A w sz) U U.heap)
theorem zPc.blind {g : Nat → Nat → Nat} {D : va_G} {av : List Value} {w : va_W} {sz : Nat} : FrameBlind (zPc g D av w sz) := fun a U f mk q => by
  obtain ⟨q0, q1, qP, qK, qD, qZ⟩ := q
  exact ⟨q0, q1, qP, va_K.moved (u := U) (U := U.calling f mk a) (Vm.Alike.refl U.vm) qK, qD, qZ.blind⟩
/-- THE CONTRACT: called with the values av in the world w it returns rv (none or one) and the world is w' -/
def zM (g : Nat → Nat → Nat) (y : MethodName) (cc : ByteArray) (nL : Nat) (ret : Option FieldType) (d : Nat) (av : List Value) (w : va_W) (rv : List Value) (w' : va_W) : Prop :=
  ∀ (l : Launch) (D : va_G) (sz : Nat), Met l y (zws y cc nL ret) (zr d) (zPc g D av w sz) (zQ D rv w' (va_A w sz)) 0 0 (va_A w sz)
section zIntro
variable {g : Nat → Nat → Nat} {y : MethodName} {cc : ByteArray} {nL d : Nat} {av : List Value} {w w' : va_W} {lv : zLV}
theorem zM.of {ret : Option FieldType} {rv : List Value} (hy : plainName y.cls = true) (hsl : (lg_sl av).length ≤ nL) (hlv : lv_args 0 av = lv)
    (body : ∀ (p : Program) (l : Launch) (e : Env) (s : State) (m : MethodId) (args : Array Value) (below : List Frame) (meth : Method) (c : Code) (D : va_G) (A : Nat → Prop),
      p.tables.exec = Jvm.exec → c.code = cc → meth.sig.returnType = ret → meth.locks = false →
      zOK g (zJ p l e (zr d) s m args below meth c D A nL 0 0 (MQ below (zQ D rv w' A) args s 0 0 A)) cc nL y.cls (zr d) → zJ p l e (zr d) s m args below meth c D A nL 0 0 (MQ below (zQ D rv w' A) args s 0 0 A) w 0 lv []) : zM g y cc nL ret d av w rv w' := by
  intro l D sz
  refine Met.ofW (cc := cc) (maxL := nL) (ret := ret) hy rfl ?_
  intro p e s m args below meth c s₁ B hml hv
  obtain ⟨rfl, hsz, hP, hK, hD0, hZ⟩ := hv
  have hts := atoms_spec (ws := zws y cc nL ret) B.pre
  have hown : s.vm.findClass y.cls = some m.cls := findClass_of_methodNamed B.named
  subst hsz
  have hD := hD0.self (sz := s.heap.size)
  have hl := lv_entry av (n := nL) hsl
  rw [lg_entry_eq]
  rw [hlv] at hl
  exact body p l e s m _ below meth c D (va_A w s.heap.size) B.exec B.bytes B.returns B.notSynchronized ⟨p, l, e, s, m, _, below, meth, c, D, _, 0, 0, _, rfl, B.exec, B.bytes, hml, hown, fun w hw => hts w (List.mem_cons_of_mem _ hw), B.notSynchronized, hK, hZ, fun q h => Or.inr h, Nat.le_refl _, Nat.le_refl _⟩ s.heap [] _ hP hD va_S.rf hl
theorem zMi {r : Int32} (hy : plainName y.cls = true) (hsl : (lg_sl av).length ≤ nL) (hlv : lv_args 0 av = lv)
    (body : ∀ J, zOK g J cc nL y.cls (zr d) → (∀ pc pc' lv, zd cc pc .ireturn 1 pc' → J w' pc lv [.int r]) → J w 0 lv []) : zM g y cc nL (some .int) d av w [.int r] w' := by
  refine zM.of hy hsl hlv (fun p l e s m args below meth c D A hx hb hr hlk hJ => body _ hJ ?_)
  intro pc pc' lv hd H locs ls hP hD hS hl
  exact W.iret hx hb hr (fun t ht hW => ⟨rfl, by rw [ht]; exact hP, hD, hS.F ht⟩) hS.2.2 hd.1
theorem zMz {r : Bool} (hy : plainName y.cls = true) (hsl : (lg_sl av).length ≤ nL) (hlv : lv_args 0 av = lv)
    (body : ∀ J, zOK g J cc nL y.cls (zr d) → (∀ pc pc' lv, zd cc pc .ireturn 1 pc' → J w' pc lv [.int (zB r)]) → J w 0 lv []) : zM g y cc nL (some .boolean) d av w [.int (zB r)] w' := by
  refine zM.of hy hsl hlv (fun p l e s m args below meth c D A hx hb hr hlk hJ => body _ hJ ?_)
  intro pc pc' lv hd H locs ls hP hD hS hl
  exact W.zret hx hb hr (zB_nar r) (fun t ht hW => ⟨rfl, by rw [ht]; exact hP, hD, hS.F ht⟩) hS.2.2 hd.1
theorem zMc {r : Int32} (hn : narrow .char (.int r) = .int r) (hy : plainName y.cls = true) (hsl : (lg_sl av).length ≤ nL) (hlv : lv_args 0 av = lv)
    (body : ∀ J, zOK g J cc nL y.cls (zr d) → (∀ pc pc' lv, zd cc pc .ireturn 1 pc' → J w' pc lv [.int r]) → J w 0 lv []) : zM g y cc nL (some .char) d av w [.int r] w' := by
  refine zM.of hy hsl hlv (fun p l e s m args below meth c D A hx hb hr hlk hJ => body _ hJ ?_)
  intro pc pc' lv hd H locs ls hP hD hS hl
  exact W.zret hx hb hr hn (fun t ht hW => ⟨rfl, by rw [ht]; exact hP, hD, hS.F ht⟩) hS.2.2 hd.1
theorem zMbt {r : Int32} (hn : narrow .byte (.int r) = .int r) (hy : plainName y.cls = true) (hsl : (lg_sl av).length ≤ nL) (hlv : lv_args 0 av = lv)
    (body : ∀ J, zOK g J cc nL y.cls (zr d) → (∀ pc pc' lv, zd cc pc .ireturn 1 pc' → J w' pc lv [.int r]) → J w 0 lv []) : zM g y cc nL (some .byte) d av w [.int r] w' := by
  refine zM.of hy hsl hlv (fun p l e s m args below meth c D A hx hb hr hlk hJ => body _ hJ ?_)
  intro pc pc' lv hd H locs ls hP hD hS hl
  exact W.zret hx hb hr hn (fun t ht hW => ⟨rfl, by rw [ht]; exact hP, hD, hS.F ht⟩) hS.2.2 hd.1
theorem zMl {r : Int64} (hy : plainName y.cls = true) (hsl : (lg_sl av).length ≤ nL) (hlv : lv_args 0 av = lv)
    (body : ∀ J, zOK g J cc nL y.cls (zr d) → (∀ pc pc' lv, zd cc pc .lreturn 1 pc' → J w' pc lv [.long r]) → J w 0 lv []) : zM g y cc nL (some .long) d av w [.long r] w' := by
  refine zM.of hy hsl hlv (fun p l e s m args below meth c D A hx hb hr hlk hJ => body _ hJ ?_)
  intro pc pc' lv hd H locs ls hP hD hS hl
  exact W.lret hx hb hr (fun t ht hW => ⟨rfl, by rw [ht]; exact hP, hD, hS.F ht⟩) hS.2.2 hd.1
theorem zMv (hy : plainName y.cls = true) (hsl : (lg_sl av).length ≤ nL) (hlv : lv_args 0 av = lv)
    (body : ∀ J, zOK g J cc nL y.cls (zr d) → (∀ pc pc' lv, zd cc pc .return_ 1 pc' → J w' pc lv []) → J w 0 lv []) : zM g y cc nL none d av w [] w' := by
  refine zM.of hy hsl hlv (fun p l e s m args below meth c D A hx hb hr hlk hJ => body _ hJ ?_)
  intro pc pc' lv hd H locs ls hP hD hS hl
  exact W.vret hx hb hr (fun t ht hW => ⟨rfl, by rw [ht]; exact hP, hD, hS.F ht⟩) hS.2.2 hd.1
theorem zMa {r : Nat} {C : String} (hy : plainName y.cls = true) (hsl : (lg_sl av).length ≤ nL) (hlv : lv_args 0 av = lv)
    (body : ∀ J, zOK g J cc nL y.cls (zr d) → (∀ pc pc' lv, zd cc pc .areturn 1 pc' → J w' pc lv [.ref r]) → J w 0 lv []) : zM g y cc nL (some (.object C)) d av w [.ref r] w' := by
  refine zM.of hy hsl hlv (fun p l e s m args below meth c D A hx hb hr hlk hJ => body _ hJ ?_)
  intro pc pc' lv hd H locs ls hP hD hS hl
  exact W.aret hx hb hr (Or.inl ⟨C, rfl⟩) (Or.inr ⟨r, rfl⟩) (fun t ht hW => ⟨rfl, by rw [ht]; exact hP, hD, hS.F ht⟩) hS.2.2 hd.1
end zIntro
/-! ===== calls ===== -/
/-- the cells wc among those of w become wc': then w is w' -/
def zL (w wc wc' w' : va_W) : Prop := ∃ (isC isR perm : List Nat) (wr : va_W), isC.map (fun i => w[i]?) = wc.map some ∧ isR.map (fun i => w[i]?) = wr.map some ∧ va_nd isR = true ∧ (∀ i ∈ isR, i ∉ isC) ∧ va_nd isC = true ∧ perm.map (fun i => (wr ++ wc')[i]?) = w'.map some ∧ va_nd perm = true
theorem zpick {w w' : va_W} {is : List Nat} (h : is.map (fun i => w[i]?) = w'.map some) : is.filterMap (fun i => w[i]?) = w' := by
  induction is generalizing w' with
  | nil => cases w' with
    | nil => rfl
    | cons a l => cases h
  | cons i is ih => cases w' with
    | nil => cases h
    | cons a l =>
      simp only [List.map_cons, List.cons.injEq] at h
      rw [List.filterMap_cons, h.1, ih h.2]
theorem zrange_map (w : va_W) : (List.range w.length).map (fun i => w[i]?) = w.map some := by
  apply List.ext_getElem?
  intro i
  simp only [List.getElem?_map]
  by_cases h : i < w.length
  · rw [List.getElem?_range h, List.getElem?_eq_getElem h]; simp [List.getElem?_eq_getElem h]
  · rw [List.getElem?_eq_none (by simpa using h), List.getElem?_eq_none (by simpa using h)]; rfl
theorem znd_range : ∀ n : Nat, va_nd (List.range n) = true := by
  have h : ∀ l : List Nat, l.Nodup → va_nd l = true := by
    intro l
    induction l with
    | nil => intro _; rfl
    | cons a l ih =>
      intro hn
      have h2 := List.nodup_cons.mp hn
      simp only [va_nd, Bool.and_eq_true, decide_eq_true_eq]
      exact ⟨h2.1, ih h2.2⟩
  exact fun n => h _ List.nodup_range
theorem zL.id {w w' : va_W} : zL w w w' w' := ⟨List.range w.length, [], List.range w'.length, [], zrange_map w, rfl, rfl, (fun i h => absurd h List.not_mem_nil), znd_range _, by rw [List.nil_append]; exact zrange_map w', znd_range _⟩
theorem zL.nil {w : va_W} : zL w [] [] w := ⟨[], List.range w.length, List.range w.length, w, rfl, zrange_map w, znd_range _, (fun i _ h => absurd h List.not_mem_nil), rfl, by rw [List.append_nil]; exact zrange_map w, znd_range _⟩
section zCalls
variable {g : Nat → Nat → Nat} {J : va_W → Nat → zLV → List Value → Prop} {cc : ByteArray} {nL : Nat} {own : String} {R : Room} {w w' wc wc' : va_W} {pc pc' : Nat} {lv : zLV} {st : List Value} {y : MethodName} {bytes : ByteArray} {maxL idx n d : Nat} {ret : Option FieldType} {av rv rest : List Value}
/-- the words of a call, by the caller and the index: virtual, static, static of a nest mate -/
def zCV (own : String) (idx : Nat) (y : MethodName) (bytes : ByteArray) (maxL : Nat) (ret : Option FieldType) (n : Nat) : Prop := Cond.methodLink own idx y ∈ zT ∧ Cond.instanceMethod y ∈ zT ∧ Cond.selects y.cls y y ∈ zT ∧ Cond.initialized y.cls ∈ zT ∧ Cond.code y bytes maxL ret ∈ zT ∧ (y.cls ≠ "java/lang/invoke/MethodHandle" ∧ y.cls ≠ "java/lang/invoke/VarHandle" ∧ (parseMethodDescriptor y.desc).map (fun d => d.parameters.length) = some n) ∧ maxL ≤ 21
def zCS (own : String) (idx : Nat) (y : MethodName) (bytes : ByteArray) (maxL : Nat) (ret : Option FieldType) (n : Nat) : Prop := Cond.methodLink own idx y ∈ zT ∧ Cond.static y ∈ zT ∧ Cond.initialized y.cls ∈ zT ∧ Cond.code y bytes maxL ret ∈ zT ∧ (y.cls ≠ "java/lang/invoke/MethodHandle" ∧ y.cls ≠ "java/lang/invoke/VarHandle" ∧ (parseMethodDescriptor y.desc).map (fun d => d.parameters.length) = some n) ∧ maxL ≤ 21
def zCN (own : String) (idx : Nat) (y : MethodName) (bytes : ByteArray) (maxL : Nat) (ret : Option FieldType) (n : Nat) : Prop := (∃ h, (own, idx, y, h) ∈ zNl) ∧ Cond.static y ∈ zT ∧ Cond.initialized y.cls ∈ zT ∧ Cond.code y bytes maxL ret ∈ zT ∧ (y.cls ≠ "java/lang/invoke/MethodHandle" ∧ y.cls ≠ "java/lang/invoke/VarHandle" ∧ (parseMethodDescriptor y.desc).map (fun d => d.parameters.length) = some n) ∧ maxL ≤ 21
/-- a call's run, then what follows -/
theorem z_after {p : Program} {l : Launch} {e : Env} {s : State} {m : MethodId} {args : Array Value} {below : List Frame} {meth : Method} {c : Code} {D : va_G} {A : Nat → Prop} {cells slots : Nat} {Q : State → Prop} {H : Heap} {locs : List Loc} {ls : Array Slot} {a : Array Value}
    (hr : va_Run p l e R s m args below meth c H locs cells slots 0 0 (F0 m pc ls st) rest (zQ D rv wc' (va_A wc H.size) a) (va_A wc H.size)) (hlen : rv.length ≤ 1) (hL : zL w wc wc' w') (hP : va_P D zCl w H) (hD : va_D A w) (hS : va_S A s.heap H locs) (hA : ∀ q : Nat, s.heap.size ≤ q → A q)
    (k : ∀ (H1 : Heap) (locs1 : List Loc), va_P D zCl w' H1 → va_D A w' → va_S A s.heap H1 locs1 → W p l e R s m args below meth c H1 locs1 cells slots Q (F0 m (pc + 3) ls (rv ++ rest))) : W p l e R s m args below meth c H locs cells slots Q (F0 m pc ls st) := by
  intro T hT X
  obtain ⟨isC, isR, perm, wr, hC, hR, hn, hdis, hnC, hp, hnp⟩ := hL
  have hF := va_free hD hS hA isC hC
  obtain ⟨v, st₀, t, T', L, h0, X', hLq, e1, e2, ⟨hv, hP1, hD1, hz, hk⟩, stp⟩ := hr T hT X
  have hv := Outcome.returned.inj hv
  subst hv
  rw [h0] at hz hk
  have hk1 : ∀ q : Nat, q < H.size → ¬ va_A wc H.size q → T'.heap[q]? = H[q]? := fun q h1 h2 => by rw [e1]; exact hk q h1 h2
  obtain ⟨hPj, hDj⟩ := va_join hP hD isC isR hC hR hn hdis hk1 hF (by rw [e1]; exact hP1) hD1
  have hrv : rv.head?.toList = rv := by
    match rv, hlen with
    | [], _ => rfl
    | [x], _ => rfl
  obtain ⟨t2, a1, b1⟩ := k T'.heap (locs ++ L) (hPj.sub perm (zpick hp)) (hDj.sub perm hnp hp)
    ⟨Nat.le_trans hS.1 (by rw [e1]; exact hz), fun q h1 h2 => by rw [e1, hk q (Nat.lt_of_lt_of_le h1 hS.1) (fun z => h2 (hF q z))]; exact hS.2.1 q h1 h2, fun q hq => by
      rcases List.mem_append.mp hq with h | h
      · exact hS.2.2 q h
      · exact hF _ (hLq q h)⟩ T' rfl X'
  refine ⟨t2, stp t2 ?_, b1⟩
  rw [hrv]
  exact a1
theorem z_pre {p : Program} {s : State} {D : va_G} {A : Nat → Prop} {H : Heap} {locs : List Loc} (hL : zL w wc wc' w') (hP : va_P D zCl w H) (hD : va_D A w) (hS : va_S A s.heap H locs) (hA : ∀ q : Nat, s.heap.size ≤ q → A q) (hK : va_K D zCl (ztys g) s) (hZ : zZ g A s s.heap) : ∀ U : State, U.heap = H → s.WarmedH U.vm → zPc g D av wc H.size av.toArray U := by
  obtain ⟨isC, isR, perm, wr, hC, hR, hn, hdis, hnC, hp, hnp⟩ := hL
  intro U hU hW
  exact ⟨rfl, by rw [hU], by rw [hU]; exact hP.sub isC (zpick hC), va_K.moved hW.alike hK, (hD.sub isC hnC hC).weaken (fun _ _ _ _ => trivial), hZ.call hS hU hW (va_free hD hS hA isC hC)⟩
theorem z_roomy (hm : maxL ≤ 21) (hd : d + 1 ≤ R.frames ∧ 40 * d + 40 ≤ R.locals) : (zr d).frames + 1 ≤ R.frames ∧ 8 + (maxL + 11) + (zr d).locals ≤ R.locals := ⟨hd.1, by show 8 + (maxL + 11) + 40 * d ≤ R.locals; omega⟩
theorem z_callS (h : zOK g J cc nL own R) (hM : zM g y bytes maxL ret d av wc rv wc') (hc : zCS own idx y bytes maxL ret n) (hL : zL w wc wc' w') (hd : zd cc pc (.invokestatic idx) 3 pc') (hlen : rv.length ≤ 1) (hn : av.length = n) (hst : av.reverse ++ rest = st) (hr : (rest.map fun v => v.category).sum ≤ 8) (hdp : d + 1 ≤ R.frames ∧ 40 * d + 40 ≤ R.locals) (k : J w' pc' lv (rv ++ rest)) : J w pc lv st := by
  obtain ⟨p, l, e, s, m, args, below, meth, c, D, A, cells, slots, Q, rfl, hx, hb, hml, hown, hts, hlk, hK, hZ, hA, hcc, hss⟩ := h
  obtain ⟨hd, rfl⟩ := hd
  obtain ⟨c1, c2, c3, c4, c5, c6⟩ := hc
  intro H locs ls hP hD hS hl
  subst hst
  refine z_after (va_runS (As := av) (rest := rest) (own := own) (Ts := zT) (n := n) ⟨hx, hb, hml, hown, hts⟩ (hM l D H.size) ⟨callB_of n hts (zgd c4) rfl rfl rfl (hts _ c3) (hts _ c1) c5 (z_roomy c6 hdp), hts _ c2⟩ ⟨zPc.blind, z_pre (p := p) hL hP hD hS hA hK hZ⟩ rfl hn hl.1 rfl (lv_room hr) hd ⟨hcc, hss⟩) hlen hL hP hD hS hA (fun H1 locs1 a1 a2 a3 => k H1 locs1 ls a1 a2 a3 hl)
theorem z_callN (h : zOK g J cc nL own R) (hM : zM g y bytes maxL ret d av wc rv wc') (hc : zCN own idx y bytes maxL ret n) (hL : zL w wc wc' w') (hd : zd cc pc (.invokestatic idx) 3 pc') (hlen : rv.length ≤ 1) (hn : av.length = n) (hst : av.reverse ++ rest = st) (hr : (rest.map fun v => v.category).sum ≤ 8) (hdp : d + 1 ≤ R.frames ∧ 40 * d + 40 ≤ R.locals) (k : J w' pc' lv (rv ++ rest)) : J w pc lv st := by
  obtain ⟨p, l, e, s, m, args, below, meth, c, D, A, cells, slots, Q, rfl, hx, hb, hml, hown, hts, hlk, hK, hZ, hA, hcc, hss⟩ := h
  obtain ⟨hd, rfl⟩ := hd
  obtain ⟨⟨host, c1⟩, c2, c3, c4, c5, c6⟩ := hc
  intro H locs ls hP hD hS hl
  subst hst
  refine z_after (va_runSN (As := av) (rest := rest) (own := own) (host := host) (Ts := zT) (n := n) ⟨hx, hb, hml, hown, hts⟩ (hM l D H.size) ⟨va_cnB n hts (zgd c4) rfl rfl rfl (hZ.1 _ c1) (hts _ c3) c5 (z_roomy c6 hdp), hts _ c2, trivial⟩ ⟨zPc.blind, z_pre (p := p) hL hP hD hS hA hK hZ⟩ rfl hn hl.1 rfl (lv_room hr) hd ⟨hcc, hss⟩) hlen hL hP hD hS hA (fun H1 locs1 a1 a2 a3 => k H1 locs1 ls a1 a2 a3 hl)
theorem z_callV {b q ci N : Nat} {fs : List Value} {T : u_T} {ty : Nat → FieldType} (h : zOK g J cc nL own R) (hM : zM g y bytes maxL ret d (.ref b :: av) wc rv wc') (hc : zCV own idx y bytes maxL ret n) (hL : zL w wc wc' w') (hd : zd cc pc (.invokevirtual idx) 3 pc') (hcl : zCls ci y.cls T N ty) (q : Nat) (he : w[q]? = some (b, .inr (ci, fs))) (hlen : rv.length ≤ 1) (hn : av.length = n) (hst : av.reverse ++ .ref b :: rest = st) (hr : (rest.map fun v => v.category).sum ≤ 8) (hdp : d + 1 ≤ R.frames ∧ 40 * d + 40 ≤ R.locals) (k : J w' pc' lv (rv ++ rest)) : J w pc lv st := by
  obtain ⟨p, l, e, s, m, args, below, meth, c, D, A, cells, slots, Q, rfl, hx, hb, hml, hown, hts, hlk, hK, hZ, hA, hcc, hss⟩ := h
  obtain ⟨hd, rfl⟩ := hd
  obtain ⟨c1, c2, c3, c4, c5, c6, c7⟩ := hc
  intro H locs ls hP hD hS hl
  subst hst
  refine z_after (va_runV (As := av) (rest := rest) (own := own) (C := y.cls) (Ts := zT) (n := n) ⟨hx, hb, hml, hown, hts⟩ (hM l D H.size) ⟨callB_of n hts (zgd c5) rfl rfl rfl (hts _ c4) (hts _ c1) c6 (z_roomy c7 hdp), hts _ c2, hts _ c3⟩ ⟨zPc.blind, va_recv hK hP hcl.1 he, z_pre (p := p) hL hP hD hS hA hK hZ⟩ rfl hn hl.1 rfl (lv_room hr) hd ⟨hcc, hss⟩) hlen hL hP hD hS hA (fun H1 locs1 a1 a2 a3 => k H1 locs1 ls a1 a2 a3 hl)
/-- a call on a text -/
theorem z_callT {i : Nat} (h : zOK g J cc nL own R) (hM : zM g y bytes maxL ret d (.ref (g 1 i) :: av) wc rv wc') (hc : zCV own idx y bytes maxL ret n) (hy : y.cls = "java/lang/String") (hi : i < 20) (hL : zL w wc wc' w') (hd : zd cc pc (.invokevirtual idx) 3 pc') (hlen : rv.length ≤ 1) (hn : av.length = n) (hst : av.reverse ++ .ref (g 1 i) :: rest = st) (hr : (rest.map fun v => v.category).sum ≤ 8) (hdp : d + 1 ≤ R.frames ∧ 40 * d + 40 ≤ R.locals) (k : J w' pc' lv (rv ++ rest)) : J w pc lv st := by
  obtain ⟨p, l, e, s, m, args, below, meth, c, D, A, cells, slots, Q, rfl, hx, hb, hml, hown, hts, hlk, hK, hZ, hA, hcc, hss⟩ := h
  obtain ⟨hd, rfl⟩ := hd
  obtain ⟨c1, c2, c3, c4, c5, c6, c7⟩ := hc
  intro H locs ls hP hD hS hl
  subst hst
  refine z_after (va_runV (As := av) (rest := rest) (own := own) (C := y.cls) (Ts := zT) (n := n) ⟨hx, hb, hml, hown, hts⟩ (hM l D H.size) ⟨callB_of n hts (zgd c5) rfl rfl rfl (hts _ c4) (hts _ c1) c6 (z_roomy c7 hdp), hts _ c2, hts _ c3⟩ ⟨zPc.blind, by rw [hy]; exact vk_recv hZ.2.2.2.2.2.2 hi hS, z_pre (p := p) hL hP hD hS hA hK hZ⟩ rfl hn hl.1 rfl (lv_room hr) hd ⟨hcc, hss⟩) hlen hL hP hD hS hA (fun H1 locs1 a1 a2 a3 => k H1 locs1 ls a1 a2 a3 hl)
end zCalls

theorem hc_Rd : zCls 0 "SixFellows$Road" T_Rd 12 ty_Rd := ⟨rfl, by
  have h : (u_ws "SixFellows$Road" T_Rd 12).all (fun w => decide (w ∈ lw_tbl) && goodWord w) = true := by decide +kernel
  intro w hw
  have h1 := List.all_eq_true.mp h w hw
  simp only [Bool.and_eq_true, decide_eq_true_eq] at h1
  exact List.mem_filter.mpr h1, by decide +kernel, by decide +kernel⟩
theorem hc_Sh : zCls 1 "SixFellows$Sheet" T_Sh 3 ty_Sh := ⟨rfl, by
  have h : (u_ws "SixFellows$Sheet" T_Sh 3).all (fun w => decide (w ∈ lw_tbl) && goodWord w) = true := by decide +kernel
  intro w hw
  have h1 := List.all_eq_true.mp h w hw
  simp only [Bool.and_eq_true, decide_eq_true_eq] at h1
  exact List.mem_filter.mpr h1, by decide +kernel, by decide +kernel⟩
theorem hc_Tp : zCls 2 "SixFellows$Tape" T_Tp 6 ty_Tp := ⟨rfl, by
  have h : (u_ws "SixFellows$Tape" T_Tp 6).all (fun w => decide (w ∈ lw_tbl) && goodWord w) = true := by decide +kernel
  intro w hw
  have h1 := List.all_eq_true.mp h w hw
  simp only [Bool.and_eq_true, decide_eq_true_eq] at h1
  exact List.mem_filter.mpr h1, by decide +kernel, by decide +kernel⟩
theorem hc_Sx : zCls 3 "SixFellows" T_Sx 8 ty_Sx := ⟨rfl, by
  have h : (u_ws "SixFellows" T_Sx 8).all (fun w => decide (w ∈ lw_tbl) && goodWord w) = true := by decide +kernel
  intro w hw
  have h1 := List.all_eq_true.mp h w hw
  simp only [Bool.and_eq_true, decide_eq_true_eq] at h1
  exact List.mem_filter.mpr h1, by decide +kernel, by decide +kernel⟩
theorem hc_Mo : zCls 4 "SixFellowsModel" T_Mo 21 ty_Mo := ⟨rfl, by
  have h : (u_ws "SixFellowsModel" T_Mo 21).all (fun w => decide (w ∈ lw_tbl) && goodWord w) = true := by decide +kernel
  intro w hw
  have h1 := List.all_eq_true.mp h w hw
  simp only [Bool.and_eq_true, decide_eq_true_eq] at h1
  exact List.mem_filter.mpr h1, by decide +kernel, by decide +kernel⟩
end
section
abbrev b_Rd_init : ByteArray := prog_2_method_1_code
def y_Rd_init : MethodName := ⟨"SixFellows$Road", "<init>", "()V"⟩
theorem hk_Rd_init : Cond.code y_Rd_init b_Rd_init 1 none ∈ zT := zin 90 (by decide +kernel) rfl
abbrev b_Rd_become : ByteArray := prog_2_method_2_code
def y_Rd_become : MethodName := ⟨"SixFellows$Road", "become", "(LSixFellows$Road;)V"⟩
theorem hk_Rd_become : Cond.code y_Rd_become b_Rd_become 2 none ∈ zT := zin 407 (by decide +kernel) rfl
abbrev b_Rd_addFellow : ByteArray := prog_2_method_3_code
def y_Rd_addFellow : MethodName := ⟨"SixFellows$Road", "addFellow", "(II)I"⟩
theorem hk_Rd_addFellow : Cond.code y_Rd_addFellow b_Rd_addFellow 4 (some .int) ∈ zT := zin 240 (by decide +kernel) rfl
abbrev b_Rd_addTask : ByteArray := prog_2_method_4_code
def y_Rd_addTask : MethodName := ⟨"SixFellows$Road", "addTask", "(IIII)I"⟩
theorem hk_Rd_addTask : Cond.code y_Rd_addTask b_Rd_addTask 6 (some .int) ∈ zT := zin 325 (by decide +kernel) rfl
abbrev b_Rd_dropTask : ByteArray := prog_2_method_5_code
def y_Rd_dropTask : MethodName := ⟨"SixFellows$Road", "dropTask", "(I)V"⟩
theorem hk_Rd_dropTask : Cond.code y_Rd_dropTask b_Rd_dropTask 3 none ∈ zT := zin 370 (by decide +kernel) rfl
abbrev b_Rd_putAsleep : ByteArray := prog_2_method_6_code
def y_Rd_putAsleep : MethodName := ⟨"SixFellows$Road", "putAsleep", "(IZ)I"⟩
theorem hk_Rd_putAsleep : Cond.code y_Rd_putAsleep b_Rd_putAsleep 4 (some .int) ∈ zT := zin 297 (by decide +kernel) rfl
abbrev b_Rd_allSet : ByteArray := prog_2_method_7_code
def y_Rd_allSet : MethodName := ⟨"SixFellows$Road", "allSet", "()I"⟩
theorem hk_Rd_allSet : Cond.code y_Rd_allSet b_Rd_allSet 1 (some .int) ∈ zT := zin 259 (by decide +kernel) rfl
abbrev b_Rd_awakeSet : ByteArray := prog_2_method_8_code
def y_Rd_awakeSet : MethodName := ⟨"SixFellows$Road", "awakeSet", "()I"⟩
theorem hk_Rd_awakeSet : Cond.code y_Rd_awakeSet b_Rd_awakeSet 1 (some .int) ∈ zT := zin 255 (by decide +kernel) rfl
abbrev b_Rd_isSpoilt : ByteArray := prog_2_method_9_code
def y_Rd_isSpoilt : MethodName := ⟨"SixFellows$Road", "isSpoilt", "(II)Z"⟩
theorem hk_Rd_isSpoilt : Cond.code y_Rd_isSpoilt b_Rd_isSpoilt 5 (some .boolean) ∈ zT := zin 263 (by decide +kernel) rfl
abbrev b_Rd_spoiltSet : ByteArray := prog_2_method_10_code
def y_Rd_spoiltSet : MethodName := ⟨"SixFellows$Road", "spoiltSet", "(I)I"⟩
theorem hk_Rd_spoiltSet : Cond.code y_Rd_spoiltSet b_Rd_spoiltSet 4 (some .int) ∈ zT := zin 337 (by decide +kernel) rfl
abbrev b_Rd_helpOf : ByteArray := prog_2_method_11_code
def y_Rd_helpOf : MethodName := ⟨"SixFellows$Road", "helpOf", "(IIII)I"⟩
theorem hk_Rd_helpOf : Cond.code y_Rd_helpOf b_Rd_helpOf 7 (some .int) ∈ zT := zin 346 (by decide +kernel) rfl
abbrev b_Rd_helpOfAll : ByteArray := prog_2_method_12_code
def y_Rd_helpOfAll : MethodName := ⟨"SixFellows$Road", "helpOfAll", "(III)I"⟩
theorem hk_Rd_helpOfAll : Cond.code y_Rd_helpOfAll b_Rd_helpOfAll 6 (some .int) ∈ zT := zin 342 (by decide +kernel) rfl
abbrev b_Rd_helperSet : ByteArray := prog_2_method_13_code
def y_Rd_helperSet : MethodName := ⟨"SixFellows$Road", "helperSet", "(III)I"⟩
theorem hk_Rd_helperSet : Cond.code y_Rd_helperSet b_Rd_helperSet 6 (some .int) ∈ zT := zin 357 (by decide +kernel) rfl
abbrev b_Rd_isMet : ByteArray := prog_2_method_14_code
def y_Rd_isMet : MethodName := ⟨"SixFellows$Road", "isMet", "(II)Z"⟩
theorem hk_Rd_isMet : Cond.code y_Rd_isMet b_Rd_isMet 3 (some .boolean) ∈ zT := zin 351 (by decide +kernel) rfl
abbrev b_Rd_metSet : ByteArray := prog_2_method_15_code
def y_Rd_metSet : MethodName := ⟨"SixFellows$Road", "metSet", "(I)I"⟩
theorem hk_Rd_metSet : Cond.code y_Rd_metSet b_Rd_metSet 5 (some .int) ∈ zT := zin 390 (by decide +kernel) rfl
abbrev b_Rd_earned : ByteArray := prog_2_method_16_code
def y_Rd_earned : MethodName := ⟨"SixFellows$Road", "earned", "(I)I"⟩
theorem hk_Rd_earned : Cond.code y_Rd_earned b_Rd_earned 5 (some .int) ∈ zT := zin 386 (by decide +kernel) rfl
abbrev b_Rd_hoursToGoal : ByteArray := prog_2_method_17_code
def y_Rd_hoursToGoal : MethodName := ⟨"SixFellows$Road", "hoursToGoal", "(I)I"⟩
theorem hk_Rd_hoursToGoal : Cond.code y_Rd_hoursToGoal b_Rd_hoursToGoal 3 (some .int) ∈ zT := zin 282 (by decide +kernel) rfl
abbrev b_Rd_letHoursGo : ByteArray := prog_2_method_18_code
def y_Rd_letHoursGo : MethodName := ⟨"SixFellows$Road", "letHoursGo", "(I)V"⟩
theorem hk_Rd_letHoursGo : Cond.code y_Rd_letHoursGo b_Rd_letHoursGo 5 none ∈ zT := zin 379 (by decide +kernel) rfl
abbrev b_Rd_spread : ByteArray := prog_2_method_19_code
def y_Rd_spread : MethodName := ⟨"SixFellows$Road", "spread", "()I"⟩
theorem hk_Rd_spread : Cond.code y_Rd_spread b_Rd_spread 4 (some .int) ∈ zT := zin 399 (by decide +kernel) rfl
abbrev b_Sh_init : ByteArray := prog_3_method_1_code
def y_Sh_init : MethodName := ⟨"SixFellows$Sheet", "<init>", "()V"⟩
theorem hk_Sh_init : Cond.code y_Sh_init b_Sh_init 1 none ∈ zT := zin 177 (by decide +kernel) rfl
abbrev b_Sh_isMissing : ByteArray := prog_3_method_2_code
def y_Sh_isMissing : MethodName := ⟨"SixFellows$Sheet", "isMissing", "()Z"⟩
theorem hk_Sh_isMissing : Cond.code y_Sh_isMissing b_Sh_isMissing 1 (some .boolean) ∈ zT := zin 680 (by decide +kernel) rfl
abbrev b_Sh_begin : ByteArray := prog_3_method_3_code
def y_Sh_begin : MethodName := ⟨"SixFellows$Sheet", "begin", "(II)V"⟩
theorem hk_Sh_begin : Cond.code y_Sh_begin b_Sh_begin 3 none ∈ zT := zin 669 (by decide +kernel) rfl
abbrev b_Sh_put : ByteArray := prog_3_method_4_code
def y_Sh_put : MethodName := ⟨"SixFellows$Sheet", "put", "(IJ)V"⟩
theorem hk_Sh_put : Cond.code y_Sh_put b_Sh_put 4 none ∈ zT := zin 685 (by decide +kernel) rfl
abbrev b_Sh_holds : ByteArray := prog_3_method_5_code
def y_Sh_holds : MethodName := ⟨"SixFellows$Sheet", "holds", "(II)Z"⟩
theorem hk_Sh_holds : Cond.code y_Sh_holds b_Sh_holds 3 (some .boolean) ∈ zT := zin 693 (by decide +kernel) rfl
abbrev b_Sh_otherThanZero : ByteArray := prog_3_method_6_code
def y_Sh_otherThanZero : MethodName := ⟨"SixFellows$Sheet", "otherThanZero", "()I"⟩
theorem hk_Sh_otherThanZero : Cond.code y_Sh_otherThanZero b_Sh_otherThanZero 3 (some .int) ∈ zT := zin 711 (by decide +kernel) rfl
abbrev b_Tp_init : ByteArray := prog_4_method_1_code
def y_Tp_init : MethodName := ⟨"SixFellows$Tape", "<init>", "()V"⟩
theorem hk_Tp_init : Cond.code y_Tp_init b_Tp_init 1 none ∈ zT := zin 150 (by decide +kernel) rfl
abbrev b_Tp_append : ByteArray := prog_4_method_2_code
def y_Tp_append : MethodName := ⟨"SixFellows$Tape", "append", "(II)V"⟩
theorem hk_Tp_append : Cond.code y_Tp_append b_Tp_append 4 none ∈ zT := zin 511 (by decide +kernel) rfl
abbrev b_Tp_empty : ByteArray := prog_4_method_3_code
def y_Tp_empty : MethodName := ⟨"SixFellows$Tape", "empty", "()I"⟩
theorem hk_Tp_empty : Cond.code y_Tp_empty b_Tp_empty 2 (some .int) ∈ zT := zin 519 (by decide +kernel) rfl
abbrev b_Tp_tellTo : ByteArray := prog_4_method_4_code
def y_Tp_tellTo : MethodName := ⟨"SixFellows$Tape", "tellTo", "(LSixFellows$Road;)I"⟩
theorem hk_Tp_tellTo : Cond.code y_Tp_tellTo b_Tp_tellTo 3 (some .int) ∈ zT := zin 527 (by decide +kernel) rfl
abbrev b_Tp_takeItem : ByteArray := prog_4_method_5_code
def y_Tp_takeItem : MethodName := ⟨"SixFellows$Tape", "takeItem", "(LSixFellows$Road;)Z"⟩
theorem hk_Tp_takeItem : Cond.code y_Tp_takeItem b_Tp_takeItem 2 (some .boolean) ∈ zT := zin 542 (by decide +kernel) rfl
abbrev b_Tp_takeFellow : ByteArray := prog_4_method_6_code
def y_Tp_takeFellow : MethodName := ⟨"SixFellows$Tape", "takeFellow", "(LSixFellows$Road;)Z"⟩
theorem hk_Tp_takeFellow : Cond.code y_Tp_takeFellow b_Tp_takeFellow 4 (some .boolean) ∈ zT := zin 639 (by decide +kernel) rfl
abbrev b_Tp_takeTask : ByteArray := prog_4_method_7_code
def y_Tp_takeTask : MethodName := ⟨"SixFellows$Tape", "takeTask", "(LSixFellows$Road;)Z"⟩
theorem hk_Tp_takeTask : Cond.code y_Tp_takeTask b_Tp_takeTask 5 (some .boolean) ∈ zT := zin 599 (by decide +kernel) rfl
abbrev b_Tp_takeSleep : ByteArray := prog_4_method_8_code
def y_Tp_takeSleep : MethodName := ⟨"SixFellows$Tape", "takeSleep", "(LSixFellows$Road;Z)Z"⟩
theorem hk_Tp_takeSleep : Cond.code y_Tp_takeSleep b_Tp_takeSleep 3 (some .boolean) ∈ zT := zin 633 (by decide +kernel) rfl
abbrev b_Tp_kindInHand : ByteArray := prog_4_method_9_code
def y_Tp_kindInHand : MethodName := ⟨"SixFellows$Tape", "kindInHand", "()I"⟩
theorem hk_Tp_kindInHand : Cond.code y_Tp_kindInHand b_Tp_kindInHand 2 (some .int) ∈ zT := zin 643 (by decide +kernel) rfl
abbrev b_Tp_nameOfKind : ByteArray := prog_4_method_10_code
def y_Tp_nameOfKind : MethodName := ⟨"SixFellows$Tape", "nameOfKind", "(I)Ljava/lang/String;"⟩
theorem hk_Tp_nameOfKind : Cond.code y_Tp_nameOfKind b_Tp_nameOfKind 1 (some (.object "java/lang/String")) ∈ zT := zin 646 (by decide +kernel) rfl
abbrev b_Tp_sortInHand : ByteArray := prog_4_method_11_code
def y_Tp_sortInHand : MethodName := ⟨"SixFellows$Tape", "sortInHand", "()I"⟩
theorem hk_Tp_sortInHand : Cond.code y_Tp_sortInHand b_Tp_sortInHand 2 (some .int) ∈ zT := zin 603 (by decide +kernel) rfl
abbrev b_Tp_nameOfSort : ByteArray := prog_4_method_12_code
def y_Tp_nameOfSort : MethodName := ⟨"SixFellows$Tape", "nameOfSort", "(I)Ljava/lang/String;"⟩
theorem hk_Tp_nameOfSort : Cond.code y_Tp_nameOfSort b_Tp_nameOfSort 1 (some (.object "java/lang/String")) ∈ zT := zin 606 (by decide +kernel) rfl
abbrev b_Tp_takeWord : ByteArray := prog_4_method_13_code
def y_Tp_takeWord : MethodName := ⟨"SixFellows$Tape", "takeWord", "(Ljava/lang/String;)Z"⟩
theorem hk_Tp_takeWord : Cond.code y_Tp_takeWord b_Tp_takeWord 2 (some .boolean) ∈ zT := zin 616 (by decide +kernel) rfl
abbrev b_Tp_takeNumber : ByteArray := prog_4_method_14_code
def y_Tp_takeNumber : MethodName := ⟨"SixFellows$Tape", "takeNumber", "()I"⟩
theorem hk_Tp_takeNumber : Cond.code y_Tp_takeNumber b_Tp_takeNumber 2 (some .int) ∈ zT := zin 625 (by decide +kernel) rfl
abbrev b_Tp_isNumber : ByteArray := prog_4_method_15_code
def y_Tp_isNumber : MethodName := ⟨"SixFellows$Tape", "isNumber", "(II)Z"⟩
theorem hk_Tp_isNumber : Cond.code y_Tp_isNumber b_Tp_isNumber 3 (some .boolean) ∈ zT := zin 620 (by decide +kernel) rfl
abbrev b_Tp_isWord : ByteArray := prog_4_method_16_code
def y_Tp_isWord : MethodName := ⟨"SixFellows$Tape", "isWord", "(Ljava/lang/String;)Z"⟩
theorem hk_Tp_isWord : Cond.code y_Tp_isWord b_Tp_isWord 3 (some .boolean) ∈ zT := zin 547 (by decide +kernel) rfl
abbrev b_Tp_advance : ByteArray := prog_4_method_17_code
def y_Tp_advance : MethodName := ⟨"SixFellows$Tape", "advance", "()V"⟩
theorem hk_Tp_advance : Cond.code y_Tp_advance b_Tp_advance 1 none ∈ zT := zin 531 (by decide +kernel) rfl
abbrev b_Tp_isLetter : ByteArray := prog_4_method_18_code
def y_Tp_isLetter : MethodName := ⟨"SixFellows$Tape", "isLetter", "(I)Z"⟩
theorem hk_Tp_isLetter : Cond.code y_Tp_isLetter b_Tp_isLetter 1 (some .boolean) ∈ zT := zin 534 (by decide +kernel) rfl
abbrev b_Tp_isDigit : ByteArray := prog_4_method_19_code
def y_Tp_isDigit : MethodName := ⟨"SixFellows$Tape", "isDigit", "(I)Z"⟩
theorem hk_Tp_isDigit : Cond.code y_Tp_isDigit b_Tp_isDigit 1 (some .boolean) ∈ zT := zin 537 (by decide +kernel) rfl
abbrev b_Sx_init : ByteArray := prog_1_method_1_code
def y_Sx_init : MethodName := ⟨"SixFellows", "<init>", "()V"⟩
theorem hk_Sx_init : Cond.code y_Sx_init b_Sx_init 1 none ∈ zT := zin 82 (by decide +kernel) rfl
abbrev b_Sx_fellow : ByteArray := prog_1_method_2_code
def y_Sx_fellow : MethodName := ⟨"SixFellows", "fellow", "(II)I"⟩
theorem hk_Sx_fellow : Cond.code y_Sx_fellow b_Sx_fellow 3 (some .int) ∈ zT := zin 221 (by decide +kernel) rfl
abbrev b_Sx_of : ByteArray := prog_1_method_3_code
def y_Sx_of : MethodName := ⟨"SixFellows", "of", "(II)I"⟩
theorem hk_Sx_of : Cond.code y_Sx_of b_Sx_of 3 (some .int) ∈ zT := zin 244 (by decide +kernel) rfl
abbrev b_Sx_set : ByteArray := prog_1_method_4_code
def y_Sx_set : MethodName := ⟨"SixFellows", "set", "(III)I"⟩
theorem hk_Sx_set : Cond.code y_Sx_set b_Sx_set 6 (some .int) ∈ zT := zin 290 (by decide +kernel) rfl
abbrev b_Sx_maySet : ByteArray := prog_1_method_5_code
def y_Sx_maySet : MethodName := ⟨"SixFellows", "maySet", "(II)Z"⟩
theorem hk_Sx_maySet : Cond.code y_Sx_maySet b_Sx_maySet 2 (some .boolean) ∈ zT := zin 293 (by decide +kernel) rfl
abbrev b_Sx_turn : ByteArray := prog_1_method_6_code
def y_Sx_turn : MethodName := ⟨"SixFellows", "turn", "(II)I"⟩
theorem hk_Sx_turn : Cond.code y_Sx_turn b_Sx_turn 4 (some .int) ∈ zT := zin 301 (by decide +kernel) rfl
abbrev b_Sx_as : ByteArray := prog_1_method_7_code
def y_Sx_as : MethodName := ⟨"SixFellows", "as", "(II)I"⟩
theorem hk_Sx_as : Cond.code y_Sx_as b_Sx_as 3 (some .int) ∈ zT := zin 305 (by decide +kernel) rfl
abbrev b_Sx_does : ByteArray := prog_1_method_8_code
def y_Sx_does : MethodName := ⟨"SixFellows", "does", "(II)I"⟩
theorem hk_Sx_does : Cond.code y_Sx_does b_Sx_does 3 (some .int) ∈ zT := zin 311 (by decide +kernel) rfl
abbrev b_Sx_task : ByteArray := prog_1_method_9_code
def y_Sx_task : MethodName := ⟨"SixFellows", "task", "(IIII)I"⟩
theorem hk_Sx_task : Cond.code y_Sx_task b_Sx_task 5 (some .int) ∈ zT := zin 321 (by decide +kernel) rfl
abbrev b_Sx_taskOf : ByteArray := prog_1_method_10_code
def y_Sx_taskOf : MethodName := ⟨"SixFellows", "taskOf", "(II)I"⟩
theorem hk_Sx_taskOf : Cond.code y_Sx_taskOf b_Sx_taskOf 5 (some .int) ∈ zT := zin 329 (by decide +kernel) rfl
abbrev b_Sx_helps : ByteArray := prog_1_method_11_code
def y_Sx_helps : MethodName := ⟨"SixFellows", "helps", "(II)I"⟩
theorem hk_Sx_helps : Cond.code y_Sx_helps b_Sx_helps 4 (some .int) ∈ zT := zin 361 (by decide +kernel) rfl
abbrev b_Sx_done : ByteArray := prog_1_method_12_code
def y_Sx_done : MethodName := ⟨"SixFellows", "done", "(I)I"⟩
theorem hk_Sx_done : Cond.code y_Sx_done b_Sx_done 3 (some .int) ∈ zT := zin 366 (by decide +kernel) rfl
abbrev b_Sx_hours : ByteArray := prog_1_method_13_code
def y_Sx_hours : MethodName := ⟨"SixFellows", "hours", "(I)I"⟩
theorem hk_Sx_hours : Cond.code y_Sx_hours b_Sx_hours 2 (some .int) ∈ zT := zin 374 (by decide +kernel) rfl
abbrev b_Sx_now : ByteArray := prog_1_method_14_code
def y_Sx_now : MethodName := ⟨"SixFellows", "now", "(I)I"⟩
theorem hk_Sx_now : Cond.code y_Sx_now b_Sx_now 3 (some .int) ∈ zT := zin 394 (by decide +kernel) rfl
abbrev b_Sx_on : ByteArray := prog_1_method_15_code
def y_Sx_on : MethodName := ⟨"SixFellows", "on", "(I)I"⟩
theorem hk_Sx_on : Cond.code y_Sx_on b_Sx_on 2 (some .int) ∈ zT := zin 403 (by decide +kernel) rfl
abbrev b_Sx_when : ByteArray := prog_1_method_16_code
def y_Sx_when : MethodName := ⟨"SixFellows", "when", "(I)I"⟩
theorem hk_Sx_when : Cond.code y_Sx_when b_Sx_when 3 (some .int) ∈ zT := zin 414 (by decide +kernel) rfl
abbrev b_Sx_best : ByteArray := prog_1_method_17_code
def y_Sx_best : MethodName := ⟨"SixFellows", "best", "()I"⟩
theorem hk_Sx_best : Cond.code y_Sx_best b_Sx_best 5 (some .int) ∈ zT := zin 419 (by decide +kernel) rfl
abbrev b_Sx_stand : ByteArray := prog_1_method_18_code
def y_Sx_stand : MethodName := ⟨"SixFellows", "stand", "(I)I"⟩
theorem hk_Sx_stand : Cond.code y_Sx_stand b_Sx_stand 2 (some .int) ∈ zT := zin 423 (by decide +kernel) rfl
abbrev b_Sx_kind : ByteArray := prog_1_method_19_code
def y_Sx_kind : MethodName := ⟨"SixFellows", "kind", "(I)I"⟩
theorem hk_Sx_kind : Cond.code y_Sx_kind b_Sx_kind 2 (some .int) ∈ zT := zin 431 (by decide +kernel) rfl
abbrev b_Sx_bestValue : ByteArray := prog_1_method_20_code
def y_Sx_bestValue : MethodName := ⟨"SixFellows", "bestValue", "([III)I"⟩
theorem hk_Sx_bestValue : Cond.code y_Sx_bestValue b_Sx_bestValue 8 (some .int) ∈ zT := zin 427 (by decide +kernel) rfl
abbrev b_Sx_awake : ByteArray := prog_1_method_21_code
def y_Sx_awake : MethodName := ⟨"SixFellows", "awake", "()I"⟩
theorem hk_Sx_awake : Cond.code y_Sx_awake b_Sx_awake 1 (some .int) ∈ zT := zin 435 (by decide +kernel) rfl
abbrev b_Sx_most : ByteArray := prog_1_method_22_code
def y_Sx_most : MethodName := ⟨"SixFellows", "most", "()I"⟩
theorem hk_Sx_most : Cond.code y_Sx_most b_Sx_most 1 (some .int) ∈ zT := zin 449 (by decide +kernel) rfl
abbrev b_Sx_bestSet : ByteArray := prog_1_method_23_code
def y_Sx_bestSet : MethodName := ⟨"SixFellows", "bestSet", "()I"⟩
theorem hk_Sx_bestSet : Cond.code y_Sx_bestSet b_Sx_bestSet 7 (some .int) ∈ zT := zin 439 (by decide +kernel) rfl
abbrev b_Sx_fewest : ByteArray := prog_1_method_24_code
def y_Sx_fewest : MethodName := ⟨"SixFellows", "fewest", "(I)I"⟩
theorem hk_Sx_fewest : Cond.code y_Sx_fewest b_Sx_fewest 3 (some .int) ∈ zT := zin 453 (by decide +kernel) rfl
abbrev b_Sx_who : ByteArray := prog_1_method_25_code
def y_Sx_who : MethodName := ⟨"SixFellows", "who", "(I)I"⟩
theorem hk_Sx_who : Cond.code y_Sx_who b_Sx_who 3 (some .int) ∈ zT := zin 461 (by decide +kernel) rfl
abbrev b_Sx_smallestSetFor : ByteArray := prog_1_method_26_code
def y_Sx_smallestSetFor : MethodName := ⟨"SixFellows", "smallestSetFor", "(I)I"⟩
theorem hk_Sx_smallestSetFor : Cond.code y_Sx_smallestSetFor b_Sx_smallestSetFor 5 (some .int) ∈ zT := zin 457 (by decide +kernel) rfl
abbrev b_Sx_spoils : ByteArray := prog_1_method_27_code
def y_Sx_spoils : MethodName := ⟨"SixFellows", "spoils", "()I"⟩
theorem hk_Sx_spoils : Cond.code y_Sx_spoils b_Sx_spoils 5 (some .int) ∈ zT := zin 465 (by decide +kernel) rfl
abbrev b_Sx_learn : ByteArray := prog_1_method_28_code
def y_Sx_learn : MethodName := ⟨"SixFellows", "learn", "()I"⟩
theorem hk_Sx_learn : Cond.code y_Sx_learn b_Sx_learn 7 (some .int) ∈ zT := zin 469 (by decide +kernel) rfl
abbrev b_Sx_skill : ByteArray := prog_1_method_29_code
def y_Sx_skill : MethodName := ⟨"SixFellows", "skill", "(II)I"⟩
theorem hk_Sx_skill : Cond.code y_Sx_skill b_Sx_skill 4 (some .int) ∈ zT := zin 474 (by decide +kernel) rfl
abbrev b_Sx_missed : ByteArray := prog_1_method_30_code
def y_Sx_missed : MethodName := ⟨"SixFellows", "missed", "(I)I"⟩
theorem hk_Sx_missed : Cond.code y_Sx_missed b_Sx_missed 3 (some .int) ∈ zT := zin 478 (by decide +kernel) rfl
abbrev b_Sx_share : ByteArray := prog_1_method_31_code
def y_Sx_share : MethodName := ⟨"SixFellows", "share", "(I)J"⟩
theorem hk_Sx_share : Cond.code y_Sx_share b_Sx_share 2 (some .long) ∈ zT := zin 482 (by decide +kernel) rfl
abbrev b_Sx_first : ByteArray := prog_1_method_32_code
def y_Sx_first : MethodName := ⟨"SixFellows", "first", "()I"⟩
theorem hk_Sx_first : Cond.code y_Sx_first b_Sx_first 3 (some .int) ∈ zT := zin 499 (by decide +kernel) rfl
abbrev b_Sx_weighSets : ByteArray := prog_1_method_33_code
def y_Sx_weighSets : MethodName := ⟨"SixFellows", "weighSets", "()V"⟩
theorem hk_Sx_weighSets : Cond.code y_Sx_weighSets b_Sx_weighSets 4 none ∈ zT := zin 486 (by decide +kernel) rfl
abbrev b_Sx_shareOf : ByteArray := prog_1_method_34_code
def y_Sx_shareOf : MethodName := ⟨"SixFellows", "shareOf", "(I)J"⟩
theorem hk_Sx_shareOf : Cond.code y_Sx_shareOf b_Sx_shareOf 10 (some .long) ∈ zT := zin 491 (by decide +kernel) rfl
abbrev b_Sx_sets : ByteArray := prog_1_method_35_code
def y_Sx_sets : MethodName := ⟨"SixFellows", "sets", "(I)I"⟩
theorem hk_Sx_sets : Cond.code y_Sx_sets b_Sx_sets 6 (some .int) ∈ zT := zin 503 (by decide +kernel) rfl
abbrev b_Sx_feed : ByteArray := prog_1_method_36_code
def y_Sx_feed : MethodName := ⟨"SixFellows", "feed", "(II)I"⟩
theorem hk_Sx_feed : Cond.code y_Sx_feed b_Sx_feed 3 (some .int) ∈ zT := zin 507 (by decide +kernel) rfl
abbrev b_Sx_wipe : ByteArray := prog_1_method_37_code
def y_Sx_wipe : MethodName := ⟨"SixFellows", "wipe", "()I"⟩
theorem hk_Sx_wipe : Cond.code y_Sx_wipe b_Sx_wipe 1 (some .int) ∈ zT := zin 515 (by decide +kernel) rfl
abbrev b_Sx_road : ByteArray := prog_1_method_38_code
def y_Sx_road : MethodName := ⟨"SixFellows", "road", "()I"⟩
theorem hk_Sx_road : Cond.code y_Sx_road b_Sx_road 2 (some .int) ∈ zT := zin 523 (by decide +kernel) rfl
abbrev b_Sx_sheet : ByteArray := prog_1_method_39_code
def y_Sx_sheet : MethodName := ⟨"SixFellows", "sheet", "(III)I"⟩
theorem hk_Sx_sheet : Cond.code y_Sx_sheet b_Sx_sheet 4 (some .int) ∈ zT := zin 661 (by decide +kernel) rfl
abbrev b_Sx_write : ByteArray := prog_1_method_40_code
def y_Sx_write : MethodName := ⟨"SixFellows", "write", "(IIJ)J"⟩
theorem hk_Sx_write : Cond.code y_Sx_write b_Sx_write 8 (some .long) ∈ zT := zin 676 (by decide +kernel) rfl
abbrev b_Sx_copy : ByteArray := prog_1_method_41_code
def y_Sx_copy : MethodName := ⟨"SixFellows", "copy", "(IIIII)I"⟩
theorem hk_Sx_copy : Cond.code y_Sx_copy b_Sx_copy 8 (some .int) ∈ zT := zin 689 (by decide +kernel) rfl
abbrev b_Sx_lays : ByteArray := prog_1_method_42_code
def y_Sx_lays : MethodName := ⟨"SixFellows", "lays", "(I)I"⟩
theorem hk_Sx_lays : Cond.code y_Sx_lays b_Sx_lays 7 (some .int) ∈ zT := zin 698 (by decide +kernel) rfl
abbrev b_Sx_book : ByteArray := prog_1_method_43_code
def y_Sx_book : MethodName := ⟨"SixFellows", "book", "(I)I"⟩
theorem hk_Sx_book : Cond.code y_Sx_book b_Sx_book 4 (some .int) ∈ zT := zin 703 (by decide +kernel) rfl
abbrev b_Sx_read : ByteArray := prog_1_method_44_code
def y_Sx_read : MethodName := ⟨"SixFellows", "read", "(I)I"⟩
theorem hk_Sx_read : Cond.code y_Sx_read b_Sx_read 8 (some .int) ∈ zT := zin 707 (by decide +kernel) rfl
abbrev b_Sx_image : ByteArray := prog_1_method_45_code
def y_Sx_image : MethodName := ⟨"SixFellows", "image", "()I"⟩
theorem hk_Sx_image : Cond.code y_Sx_image b_Sx_image 1 (some .int) ∈ zT := zin 716 (by decide +kernel) rfl
abbrev b_Sx_undo : ByteArray := prog_1_method_46_code
def y_Sx_undo : MethodName := ⟨"SixFellows", "undo", "()I"⟩
theorem hk_Sx_undo : Cond.code y_Sx_undo b_Sx_undo 1 (some .int) ∈ zT := zin 720 (by decide +kernel) rfl
abbrev b_Sx_tear : ByteArray := prog_1_method_47_code
def y_Sx_tear : MethodName := ⟨"SixFellows", "tear", "()I"⟩
theorem hk_Sx_tear : Cond.code y_Sx_tear b_Sx_tear 2 (some .int) ∈ zT := zin 724 (by decide +kernel) rfl
abbrev b_Sx_count : ByteArray := prog_1_method_48_code
def y_Sx_count : MethodName := ⟨"SixFellows", "count", "(I)I"⟩
theorem hk_Sx_count : Cond.code y_Sx_count b_Sx_count 2 (some .int) ∈ zT := zin 728 (by decide +kernel) rfl
abbrev b_Sx_status : ByteArray := prog_1_method_49_code
def y_Sx_status : MethodName := ⟨"SixFellows", "status", "(I)I"⟩
theorem hk_Sx_status : Cond.code y_Sx_status b_Sx_status 2 (some .int) ∈ zT := zin 735 (by decide +kernel) rfl
abbrev b_Sx_tell : ByteArray := prog_1_method_50_code
def y_Sx_tell : MethodName := ⟨"SixFellows", "tell", "(I)I"⟩
theorem hk_Sx_tell : Cond.code y_Sx_tell b_Sx_tell 3 (some .int) ∈ zT := zin 235 (by decide +kernel) rfl
abbrev b_Sx_isFellow : ByteArray := prog_1_method_51_code
def y_Sx_isFellow : MethodName := ⟨"SixFellows", "isFellow", "(I)Z"⟩
theorem hk_Sx_isFellow : Cond.code y_Sx_isFellow b_Sx_isFellow 2 (some .boolean) ∈ zT := zin 248 (by decide +kernel) rfl
abbrev b_Sx_isTask : ByteArray := prog_1_method_52_code
def y_Sx_isTask : MethodName := ⟨"SixFellows", "isTask", "(I)Z"⟩
theorem hk_Sx_isTask : Cond.code y_Sx_isTask b_Sx_isTask 2 (some .boolean) ∈ zT := zin 333 (by decide +kernel) rfl
abbrev b_Sx_isKind : ByteArray := prog_1_method_53_code
def y_Sx_isKind : MethodName := ⟨"SixFellows", "isKind", "(I)Z"⟩
theorem hk_Sx_isKind : Cond.code y_Sx_isKind b_Sx_isKind 1 (some .boolean) ∈ zT := zin 224 (by decide +kernel) rfl
abbrev b_Sx_isSort : ByteArray := prog_1_method_54_code
def y_Sx_isSort : MethodName := ⟨"SixFellows", "isSort", "(I)Z"⟩
theorem hk_Sx_isSort : Cond.code y_Sx_isSort b_Sx_isSort 1 (some .boolean) ∈ zT := zin 314 (by decide +kernel) rfl
abbrev b_Sx_isMile : ByteArray := prog_1_method_55_code
def y_Sx_isMile : MethodName := ⟨"SixFellows", "isMile", "(I)Z"⟩
theorem hk_Sx_isMile : Cond.code y_Sx_isMile b_Sx_isMile 1 (some .boolean) ∈ zT := zin 230 (by decide +kernel) rfl
abbrev b_Sx_isSheet : ByteArray := prog_1_method_56_code
def y_Sx_isSheet : MethodName := ⟨"SixFellows", "isSheet", "(I)Z"⟩
theorem hk_Sx_isSheet : Cond.code y_Sx_isSheet b_Sx_isSheet 1 (some .boolean) ∈ zT := zin 664 (by decide +kernel) rfl
abbrev b_Sx_isWithin : ByteArray := prog_1_method_57_code
def y_Sx_isWithin : MethodName := ⟨"SixFellows", "isWithin", "(III)Z"⟩
theorem hk_Sx_isWithin : Cond.code y_Sx_isWithin b_Sx_isWithin 3 (some .boolean) ∈ zT := zin 227 (by decide +kernel) rfl
abbrev b_Sx_has : ByteArray := prog_1_method_58_code
def y_Sx_has : MethodName := ⟨"SixFellows", "has", "(II)Z"⟩
theorem hk_Sx_has : Cond.code y_Sx_has b_Sx_has 2 (some .boolean) ∈ zT := zin 251 (by decide +kernel) rfl
abbrev b_Sx_sumOf : ByteArray := prog_1_method_59_code
def y_Sx_sumOf : MethodName := ⟨"SixFellows", "sumOf", "([II)I"⟩
theorem hk_Sx_sumOf : Cond.code y_Sx_sumOf b_Sx_sumOf 4 (some .int) ∈ zT := zin 731 (by decide +kernel) rfl
abbrev b_Sx_isOfKind : ByteArray := prog_1_method_60_code
def y_Sx_isOfKind : MethodName := ⟨"SixFellows", "isOfKind", "(II)Z"⟩
theorem hk_Sx_isOfKind : Cond.code y_Sx_isOfKind b_Sx_isOfKind 4 (some .boolean) ∈ zT := zin 270 (by decide +kernel) rfl
abbrev b_Sx_workOf : ByteArray := prog_1_method_61_code
def y_Sx_workOf : MethodName := ⟨"SixFellows", "workOf", "(III)I"⟩
theorem hk_Sx_workOf : Cond.code y_Sx_workOf b_Sx_workOf 3 (some .int) ∈ zT := zin 317 (by decide +kernel) rfl
abbrev b_Sx_paceOf : ByteArray := prog_1_method_62_code
def y_Sx_paceOf : MethodName := ⟨"SixFellows", "paceOf", "(I)I"⟩
theorem hk_Sx_paceOf : Cond.code y_Sx_paceOf b_Sx_paceOf 1 (some .int) ∈ zT := zin 278 (by decide +kernel) rfl
abbrev b_Sx_spoilerOf : ByteArray := prog_1_method_63_code
def y_Sx_spoilerOf : MethodName := ⟨"SixFellows", "spoilerOf", "(I)I"⟩
theorem hk_Sx_spoilerOf : Cond.code y_Sx_spoilerOf b_Sx_spoilerOf 1 (some .int) ∈ zT := zin 266 (by decide +kernel) rfl
abbrev b_Mo_init : ByteArray := prog_6_method_1_code
def y_Mo_init : MethodName := ⟨"SixFellowsModel", "<init>", "()V"⟩
theorem hk_Mo_init : Cond.code y_Mo_init b_Mo_init 1 none ∈ zT := zin 740 (by decide +kernel) rfl
abbrev b_Mo_in : ByteArray := prog_6_method_2_code
def y_Mo_in : MethodName := ⟨"SixFellowsModel", "in", "(III)Z"⟩
theorem hk_Mo_in : Cond.code y_Mo_in b_Mo_in 3 (some .boolean) ∈ zT := zin 815 (by decide +kernel) rfl
abbrev b_Mo_finds : ByteArray := prog_6_method_3_code
def y_Mo_finds : MethodName := ⟨"SixFellowsModel", "finds", "(I)I"⟩
theorem hk_Mo_finds : Cond.code y_Mo_finds b_Mo_finds 2 (some .int) ∈ zT := zin 823 (by decide +kernel) rfl
abbrev b_Mo_size : ByteArray := prog_6_method_4_code
def y_Mo_size : MethodName := ⟨"SixFellowsModel", "size", "(I)I"⟩
theorem hk_Mo_size : Cond.code y_Mo_size b_Mo_size 1 (some .int) ∈ zT := zin 865 (by decide +kernel) rfl
abbrev b_Mo_has : ByteArray := prog_6_method_5_code
def y_Mo_has : MethodName := ⟨"SixFellowsModel", "has", "(II)Z"⟩
theorem hk_Mo_has : Cond.code y_Mo_has b_Mo_has 2 (some .boolean) ∈ zT := zin 859 (by decide +kernel) rfl
abbrev b_Mo_bits : ByteArray := prog_6_method_6_code
def y_Mo_bits : MethodName := ⟨"SixFellowsModel", "bits", "(I)I"⟩
theorem hk_Mo_bits : Cond.code y_Mo_bits b_Mo_bits 3 (some .int) ∈ zT := zin 1014 (by decide +kernel) rfl
abbrev b_Mo_its : ByteArray := prog_6_method_7_code
def y_Mo_its : MethodName := ⟨"SixFellowsModel", "its", "(II)I"⟩
theorem hk_Mo_its : Cond.code y_Mo_its b_Mo_its 3 (some .int) ∈ zT := zin 848 (by decide +kernel) rfl
abbrev b_Mo_puts : ByteArray := prog_6_method_8_code
def y_Mo_puts : MethodName := ⟨"SixFellowsModel", "puts", "(III)V"⟩
theorem hk_Mo_puts : Cond.code y_Mo_puts b_Mo_puts 4 none ∈ zT := zin 832 (by decide +kernel) rfl
abbrev b_Mo_asks : ByteArray := prog_6_method_9_code
def y_Mo_asks : MethodName := ⟨"SixFellowsModel", "asks", "(II)I"⟩
theorem hk_Mo_asks : Cond.code y_Mo_asks b_Mo_asks 3 (some .int) ∈ zT := zin 921 (by decide +kernel) rfl
abbrev b_Mo_isOne : ByteArray := prog_6_method_10_code
def y_Mo_isOne : MethodName := ⟨"SixFellowsModel", "isOne", "(I)Z"⟩
theorem hk_Mo_isOne : Cond.code y_Mo_isOne b_Mo_isOne 2 (some .boolean) ∈ zT := zin 840 (by decide +kernel) rfl
abbrev b_Mo_isTask : ByteArray := prog_6_method_11_code
def y_Mo_isTask : MethodName := ⟨"SixFellowsModel", "isTask", "(I)Z"⟩
theorem hk_Mo_isTask : Cond.code y_Mo_isTask b_Mo_isTask 2 (some .boolean) ∈ zT := zin 909 (by decide +kernel) rfl
abbrev b_Mo_isKind : ByteArray := prog_6_method_12_code
def y_Mo_isKind : MethodName := ⟨"SixFellowsModel", "isKind", "(I)Z"⟩
theorem hk_Mo_isKind : Cond.code y_Mo_isKind b_Mo_isKind 1 (some .boolean) ∈ zT := zin 812 (by decide +kernel) rfl
abbrev b_Mo_isMile : ByteArray := prog_6_method_13_code
def y_Mo_isMile : MethodName := ⟨"SixFellowsModel", "isMile", "(I)Z"⟩
theorem hk_Mo_isMile : Cond.code y_Mo_isMile b_Mo_isMile 1 (some .boolean) ∈ zT := zin 818 (by decide +kernel) rfl
abbrev b_Mo_addOne : ByteArray := prog_6_method_14_code
def y_Mo_addOne : MethodName := ⟨"SixFellowsModel", "addOne", "(IIIII)V"⟩
theorem hk_Mo_addOne : Cond.code y_Mo_addOne b_Mo_addOne 7 none ∈ zT := zin 828 (by decide +kernel) rfl
abbrev b_Mo_fellow : ByteArray := prog_6_method_15_code
def y_Mo_fellow : MethodName := ⟨"SixFellowsModel", "fellow", "(II)I"⟩
theorem hk_Mo_fellow : Cond.code y_Mo_fellow b_Mo_fellow 3 (some .int) ∈ zT := zin 809 (by decide +kernel) rfl
abbrev b_Mo_isUnder : ByteArray := prog_6_method_16_code
def y_Mo_isUnder : MethodName := ⟨"SixFellowsModel", "isUnder", "(II)Z"⟩
theorem hk_Mo_isUnder : Cond.code y_Mo_isUnder b_Mo_isUnder 2 (some .boolean) ∈ zT := zin 862 (by decide +kernel) rfl
abbrev b_Mo_paceOf : ByteArray := prog_6_method_17_code
def y_Mo_paceOf : MethodName := ⟨"SixFellowsModel", "paceOf", "(I)I"⟩
theorem hk_Mo_paceOf : Cond.code y_Mo_paceOf b_Mo_paceOf 3 (some .int) ∈ zT := zin 869 (by decide +kernel) rfl
abbrev b_Mo_isUp : ByteArray := prog_6_method_18_code
def y_Mo_isUp : MethodName := ⟨"SixFellowsModel", "isUp", "(I)Z"⟩
theorem hk_Mo_isUp : Cond.code y_Mo_isUp b_Mo_isUp 2 (some .boolean) ∈ zT := zin 856 (by decide +kernel) rfl
abbrev b_Mo_isNear : ByteArray := prog_6_method_19_code
def y_Mo_isNear : MethodName := ⟨"SixFellowsModel", "isNear", "(II)Z"⟩
theorem hk_Mo_isNear : Cond.code y_Mo_isNear b_Mo_isNear 5 (some .boolean) ∈ zT := zin 852 (by decide +kernel) rfl
abbrev b_Mo_isSpoilt : ByteArray := prog_6_method_20_code
def y_Mo_isSpoilt : MethodName := ⟨"SixFellowsModel", "isSpoilt", "(I)Z"⟩
theorem hk_Mo_isSpoilt : Cond.code y_Mo_isSpoilt b_Mo_isSpoilt 3 (some .boolean) ∈ zT := zin 844 (by decide +kernel) rfl
abbrev b_Mo_of : ByteArray := prog_6_method_21_code
def y_Mo_of : MethodName := ⟨"SixFellowsModel", "of", "(II)I"⟩
theorem hk_Mo_of : Cond.code y_Mo_of b_Mo_of 3 (some .int) ∈ zT := zin 836 (by decide +kernel) rfl
abbrev b_Mo_set : ByteArray := prog_6_method_22_code
def y_Mo_set : MethodName := ⟨"SixFellowsModel", "set", "(III)I"⟩
theorem hk_Mo_set : Cond.code y_Mo_set b_Mo_set 6 (some .int) ∈ zT := zin 873 (by decide +kernel) rfl
abbrev b_Mo_turn : ByteArray := prog_6_method_23_code
def y_Mo_turn : MethodName := ⟨"SixFellowsModel", "turn", "(II)I"⟩
theorem hk_Mo_turn : Cond.code y_Mo_turn b_Mo_turn 4 (some .int) ∈ zT := zin 877 (by decide +kernel) rfl
abbrev b_Mo_as : ByteArray := prog_6_method_24_code
def y_Mo_as : MethodName := ⟨"SixFellowsModel", "as", "(II)I"⟩
theorem hk_Mo_as : Cond.code y_Mo_as b_Mo_as 3 (some .int) ∈ zT := zin 881 (by decide +kernel) rfl
abbrev b_Mo_doesIt : ByteArray := prog_6_method_25_code
def y_Mo_doesIt : MethodName := ⟨"SixFellowsModel", "doesIt", "(II)I"⟩
theorem hk_Mo_doesIt : Cond.code y_Mo_doesIt b_Mo_doesIt 5 (some .int) ∈ zT := zin 890 (by decide +kernel) rfl
abbrev b_Mo_does : ByteArray := prog_6_method_26_code
def y_Mo_does : MethodName := ⟨"SixFellowsModel", "does", "(II)I"⟩
theorem hk_Mo_does : Cond.code y_Mo_does b_Mo_does 3 (some .int) ∈ zT := zin 886 (by decide +kernel) rfl
abbrev b_Mo_isWanted : ByteArray := prog_6_method_27_code
def y_Mo_isWanted : MethodName := ⟨"SixFellowsModel", "isWanted", "(IIII)Z"⟩
theorem hk_Mo_isWanted : Cond.code y_Mo_isWanted b_Mo_isWanted 4 (some .boolean) ∈ zT := zin 897 (by decide +kernel) rfl
abbrev b_Mo_addTask : ByteArray := prog_6_method_28_code
def y_Mo_addTask : MethodName := ⟨"SixFellowsModel", "addTask", "(IIII)V"⟩
theorem hk_Mo_addTask : Cond.code y_Mo_addTask b_Mo_addTask 6 none ∈ zT := zin 901 (by decide +kernel) rfl
abbrev b_Mo_task : ByteArray := prog_6_method_29_code
def y_Mo_task : MethodName := ⟨"SixFellowsModel", "task", "(IIII)I"⟩
theorem hk_Mo_task : Cond.code y_Mo_task b_Mo_task 5 (some .int) ∈ zT := zin 894 (by decide +kernel) rfl
abbrev b_Mo_helpsIt : ByteArray := prog_6_method_30_code
def y_Mo_helpsIt : MethodName := ⟨"SixFellowsModel", "helpsIt", "(II)I"⟩
theorem hk_Mo_helpsIt : Cond.code y_Mo_helpsIt b_Mo_helpsIt 5 (some .int) ∈ zT := zin 917 (by decide +kernel) rfl
abbrev b_Mo_helpOf : ByteArray := prog_6_method_31_code
def y_Mo_helpOf : MethodName := ⟨"SixFellowsModel", "helpOf", "(I)I"⟩
theorem hk_Mo_helpOf : Cond.code y_Mo_helpOf b_Mo_helpOf 4 (some .int) ∈ zT := zin 913 (by decide +kernel) rfl
abbrev b_Mo_helpers : ByteArray := prog_6_method_32_code
def y_Mo_helpers : MethodName := ⟨"SixFellowsModel", "helpers", "(I)I"⟩
theorem hk_Mo_helpers : Cond.code y_Mo_helpers b_Mo_helpers 4 (some .int) ∈ zT := zin 929 (by decide +kernel) rfl
abbrev b_Mo_isMet : ByteArray := prog_6_method_33_code
def y_Mo_isMet : MethodName := ⟨"SixFellowsModel", "isMet", "(I)Z"⟩
theorem hk_Mo_isMet : Cond.code y_Mo_isMet b_Mo_isMet 2 (some .boolean) ∈ zT := zin 925 (by decide +kernel) rfl
abbrev b_Mo_taskOf : ByteArray := prog_6_method_34_code
def y_Mo_taskOf : MethodName := ⟨"SixFellowsModel", "taskOf", "(II)I"⟩
theorem hk_Mo_taskOf : Cond.code y_Mo_taskOf b_Mo_taskOf 3 (some .int) ∈ zT := zin 905 (by decide +kernel) rfl
abbrev b_Mo_helps : ByteArray := prog_6_method_35_code
def y_Mo_helps : MethodName := ⟨"SixFellowsModel", "helps", "(II)I"⟩
theorem hk_Mo_helps : Cond.code y_Mo_helps b_Mo_helps 3 (some .int) ∈ zT := zin 933 (by decide +kernel) rfl
abbrev b_Mo_done : ByteArray := prog_6_method_36_code
def y_Mo_done : MethodName := ⟨"SixFellowsModel", "done", "(I)I"⟩
theorem hk_Mo_done : Cond.code y_Mo_done b_Mo_done 4 (some .int) ∈ zT := zin 937 (by decide +kernel) rfl
abbrev b_Mo_metNow : ByteArray := prog_6_method_37_code
def y_Mo_metNow : MethodName := ⟨"SixFellowsModel", "metNow", "()I"⟩
theorem hk_Mo_metNow : Cond.code y_Mo_metNow b_Mo_metNow 3 (some .int) ∈ zT := zin 958 (by decide +kernel) rfl
abbrev b_Mo_earned : ByteArray := prog_6_method_38_code
def y_Mo_earned : MethodName := ⟨"SixFellowsModel", "earned", "()I"⟩
theorem hk_Mo_earned : Cond.code y_Mo_earned b_Mo_earned 3 (some .int) ∈ zT := zin 950 (by decide +kernel) rfl
abbrev b_Mo_earnedBy : ByteArray := prog_6_method_39_code
def y_Mo_earnedBy : MethodName := ⟨"SixFellowsModel", "earnedBy", "(I)I"⟩
theorem hk_Mo_earnedBy : Cond.code y_Mo_earnedBy b_Mo_earnedBy 3 (some .int) ∈ zT := zin 1011 (by decide +kernel) rfl
abbrev b_Mo_oneHour : ByteArray := prog_6_method_40_code
def y_Mo_oneHour : MethodName := ⟨"SixFellowsModel", "oneHour", "()V"⟩
theorem hk_Mo_oneHour : Cond.code y_Mo_oneHour b_Mo_oneHour 4 none ∈ zT := zin 946 (by decide +kernel) rfl
abbrev b_Mo_hours : ByteArray := prog_6_method_41_code
def y_Mo_hours : MethodName := ⟨"SixFellowsModel", "hours", "(I)I"⟩
theorem hk_Mo_hours : Cond.code y_Mo_hours b_Mo_hours 3 (some .int) ∈ zT := zin 941 (by decide +kernel) rfl
abbrev b_Mo_sleepers : ByteArray := prog_6_method_42_code
def y_Mo_sleepers : MethodName := ⟨"SixFellowsModel", "sleepers", "()I"⟩
theorem hk_Mo_sleepers : Cond.code y_Mo_sleepers b_Mo_sleepers 3 (some .int) ∈ zT := zin 962 (by decide +kernel) rfl
abbrev b_Mo_spoiltOnes : ByteArray := prog_6_method_43_code
def y_Mo_spoiltOnes : MethodName := ⟨"SixFellowsModel", "spoiltOnes", "()I"⟩
theorem hk_Mo_spoiltOnes : Cond.code y_Mo_spoiltOnes b_Mo_spoiltOnes 3 (some .int) ∈ zT := zin 966 (by decide +kernel) rfl
abbrev b_Mo_span : ByteArray := prog_6_method_44_code
def y_Mo_span : MethodName := ⟨"SixFellowsModel", "span", "()I"⟩
theorem hk_Mo_span : Cond.code y_Mo_span b_Mo_span 4 (some .int) ∈ zT := zin 970 (by decide +kernel) rfl
abbrev b_Mo_now : ByteArray := prog_6_method_45_code
def y_Mo_now : MethodName := ⟨"SixFellowsModel", "now", "(I)I"⟩
theorem hk_Mo_now : Cond.code y_Mo_now b_Mo_now 2 (some .int) ∈ zT := zin 954 (by decide +kernel) rfl
abbrev b_Mo_on : ByteArray := prog_6_method_46_code
def y_Mo_on : MethodName := ⟨"SixFellowsModel", "on", "(I)I"⟩
theorem hk_Mo_on : Cond.code y_Mo_on b_Mo_on 3 (some .int) ∈ zT := zin 974 (by decide +kernel) rfl
abbrev b_Mo_when : ByteArray := prog_6_method_47_code
def y_Mo_when : MethodName := ⟨"SixFellowsModel", "when", "(I)I"⟩
theorem hk_Mo_when : Cond.code y_Mo_when b_Mo_when 3 (some .int) ∈ zT := zin 982 (by decide +kernel) rfl
abbrev b_Mo_best : ByteArray := prog_6_method_48_code
def y_Mo_best : MethodName := ⟨"SixFellowsModel", "best", "()I"⟩
theorem hk_Mo_best : Cond.code y_Mo_best b_Mo_best 5 (some .int) ∈ zT := zin 987 (by decide +kernel) rfl
abbrev b_Mo_stand : ByteArray := prog_6_method_49_code
def y_Mo_stand : MethodName := ⟨"SixFellowsModel", "stand", "(I)I"⟩
theorem hk_Mo_stand : Cond.code y_Mo_stand b_Mo_stand 7 (some .int) ∈ zT := zin 991 (by decide +kernel) rfl
abbrev b_Mo_kind : ByteArray := prog_6_method_50_code
def y_Mo_kind : MethodName := ⟨"SixFellowsModel", "kind", "(I)I"⟩
theorem hk_Mo_kind : Cond.code y_Mo_kind b_Mo_kind 7 (some .int) ∈ zT := zin 995 (by decide +kernel) rfl
abbrev b_Mo_awakeOnes : ByteArray := prog_6_method_51_code
def y_Mo_awakeOnes : MethodName := ⟨"SixFellowsModel", "awakeOnes", "()I"⟩
theorem hk_Mo_awakeOnes : Cond.code y_Mo_awakeOnes b_Mo_awakeOnes 1 (some .int) ∈ zT := zin 1007 (by decide +kernel) rfl
abbrev b_Mo_bestSet : ByteArray := prog_6_method_52_code
def y_Mo_bestSet : MethodName := ⟨"SixFellowsModel", "bestSet", "()I"⟩
theorem hk_Mo_bestSet : Cond.code y_Mo_bestSet b_Mo_bestSet 6 (some .int) ∈ zT := zin 1003 (by decide +kernel) rfl
abbrev b_Mo_awake : ByteArray := prog_6_method_53_code
def y_Mo_awake : MethodName := ⟨"SixFellowsModel", "awake", "()I"⟩
theorem hk_Mo_awake : Cond.code y_Mo_awake b_Mo_awake 1 (some .int) ∈ zT := zin 999 (by decide +kernel) rfl
abbrev b_Mo_most : ByteArray := prog_6_method_54_code
def y_Mo_most : MethodName := ⟨"SixFellowsModel", "most", "()I"⟩
theorem hk_Mo_most : Cond.code y_Mo_most b_Mo_most 1 (some .int) ∈ zT := zin 1018 (by decide +kernel) rfl
abbrev b_Mo_isMetBy : ByteArray := prog_6_method_55_code
def y_Mo_isMetBy : MethodName := ⟨"SixFellowsModel", "isMetBy", "(II)Z"⟩
theorem hk_Mo_isMetBy : Cond.code y_Mo_isMetBy b_Mo_isMetBy 4 (some .boolean) ∈ zT := zin 1030 (by decide +kernel) rfl
abbrev b_Mo_leastSet : ByteArray := prog_6_method_56_code
def y_Mo_leastSet : MethodName := ⟨"SixFellowsModel", "leastSet", "(I)I"⟩
theorem hk_Mo_leastSet : Cond.code y_Mo_leastSet b_Mo_leastSet 6 (some .int) ∈ zT := zin 1026 (by decide +kernel) rfl
abbrev b_Mo_fewest : ByteArray := prog_6_method_57_code
def y_Mo_fewest : MethodName := ⟨"SixFellowsModel", "fewest", "(I)I"⟩
theorem hk_Mo_fewest : Cond.code y_Mo_fewest b_Mo_fewest 3 (some .int) ∈ zT := zin 1022 (by decide +kernel) rfl
abbrev b_Mo_who : ByteArray := prog_6_method_58_code
def y_Mo_who : MethodName := ⟨"SixFellowsModel", "who", "(I)I"⟩
theorem hk_Mo_who : Cond.code y_Mo_who b_Mo_who 3 (some .int) ∈ zT := zin 1034 (by decide +kernel) rfl
abbrev b_Mo_spoils : ByteArray := prog_6_method_59_code
def y_Mo_spoils : MethodName := ⟨"SixFellowsModel", "spoils", "()I"⟩
theorem hk_Mo_spoils : Cond.code y_Mo_spoils b_Mo_spoils 4 (some .int) ∈ zT := zin 1038 (by decide +kernel) rfl
abbrev b_Mo_learn : ByteArray := prog_6_method_60_code
def y_Mo_learn : MethodName := ⟨"SixFellowsModel", "learn", "()I"⟩
theorem hk_Mo_learn : Cond.code y_Mo_learn b_Mo_learn 6 (some .int) ∈ zT := zin 1042 (by decide +kernel) rfl
abbrev b_Mo_skill : ByteArray := prog_6_method_61_code
def y_Mo_skill : MethodName := ⟨"SixFellowsModel", "skill", "(II)I"⟩
theorem hk_Mo_skill : Cond.code y_Mo_skill b_Mo_skill 6 (some .int) ∈ zT := zin 1046 (by decide +kernel) rfl
abbrev b_Mo_missed : ByteArray := prog_6_method_62_code
def y_Mo_missed : MethodName := ⟨"SixFellowsModel", "missed", "(I)I"⟩
theorem hk_Mo_missed : Cond.code y_Mo_missed b_Mo_missed 2 (some .int) ∈ zT := zin 1050 (by decide +kernel) rfl
abbrev b_Mo_ordersOf : ByteArray := prog_6_method_63_code
def y_Mo_ordersOf : MethodName := ⟨"SixFellowsModel", "ordersOf", "(II)J"⟩
theorem hk_Mo_ordersOf : Cond.code y_Mo_ordersOf b_Mo_ordersOf 5 (some .long) ∈ zT := zin 1061 (by decide +kernel) rfl
abbrev b_Mo_findShares : ByteArray := prog_6_method_64_code
def y_Mo_findShares : MethodName := ⟨"SixFellowsModel", "findShares", "()V"⟩
theorem hk_Mo_findShares : Cond.code y_Mo_findShares b_Mo_findShares 8 none ∈ zT := zin 1058 (by decide +kernel) rfl
abbrev b_Mo_share : ByteArray := prog_6_method_65_code
def y_Mo_share : MethodName := ⟨"SixFellowsModel", "share", "(I)J"⟩
theorem hk_Mo_share : Cond.code y_Mo_share b_Mo_share 2 (some .long) ∈ zT := zin 1054 (by decide +kernel) rfl
abbrev b_Mo_first : ByteArray := prog_6_method_66_code
def y_Mo_first : MethodName := ⟨"SixFellowsModel", "first", "()I"⟩
theorem hk_Mo_first : Cond.code y_Mo_first b_Mo_first 3 (some .int) ∈ zT := zin 1066 (by decide +kernel) rfl
abbrev b_Mo_sets : ByteArray := prog_6_method_67_code
def y_Mo_sets : MethodName := ⟨"SixFellowsModel", "sets", "(I)I"⟩
theorem hk_Mo_sets : Cond.code y_Mo_sets b_Mo_sets 4 (some .int) ∈ zT := zin 1070 (by decide +kernel) rfl
abbrev b_Mo_feed : ByteArray := prog_6_method_68_code
def y_Mo_feed : MethodName := ⟨"SixFellowsModel", "feed", "(II)I"⟩
theorem hk_Mo_feed : Cond.code y_Mo_feed b_Mo_feed 4 (some .int) ∈ zT := zin 1074 (by decide +kernel) rfl
abbrev b_Mo_wipe : ByteArray := prog_6_method_69_code
def y_Mo_wipe : MethodName := ⟨"SixFellowsModel", "wipe", "()I"⟩
theorem hk_Mo_wipe : Cond.code y_Mo_wipe b_Mo_wipe 2 (some .int) ∈ zT := zin 1078 (by decide +kernel) rfl
abbrev b_Mo_byteAt : ByteArray := prog_6_method_70_code
def y_Mo_byteAt : MethodName := ⟨"SixFellowsModel", "byteAt", "(I)I"⟩
theorem hk_Mo_byteAt : Cond.code y_Mo_byteAt b_Mo_byteAt 2 (some .int) ∈ zT := zin 1090 (by decide +kernel) rfl
abbrev b_Mo_isLetter : ByteArray := prog_6_method_71_code
def y_Mo_isLetter : MethodName := ⟨"SixFellowsModel", "isLetter", "(I)Z"⟩
theorem hk_Mo_isLetter : Cond.code y_Mo_isLetter b_Mo_isLetter 1 (some .boolean) ∈ zT := zin 1093 (by decide +kernel) rfl
abbrev b_Mo_isDigit : ByteArray := prog_6_method_72_code
def y_Mo_isDigit : MethodName := ⟨"SixFellowsModel", "isDigit", "(I)Z"⟩
theorem hk_Mo_isDigit : Cond.code y_Mo_isDigit b_Mo_isDigit 1 (some .boolean) ∈ zT := zin 1096 (by decide +kernel) rfl
abbrev b_Mo_advance : ByteArray := prog_6_method_73_code
def y_Mo_advance : MethodName := ⟨"SixFellowsModel", "advance", "()V"⟩
theorem hk_Mo_advance : Cond.code y_Mo_advance b_Mo_advance 2 none ∈ zT := zin 1086 (by decide +kernel) rfl
abbrev b_Mo_isWord : ByteArray := prog_6_method_74_code
def y_Mo_isWord : MethodName := ⟨"SixFellowsModel", "isWord", "(J)Z"⟩
theorem hk_Mo_isWord : Cond.code y_Mo_isWord b_Mo_isWord 3 (some .boolean) ∈ zT := zin 1112 (by decide +kernel) rfl
abbrev b_Mo_kindHere : ByteArray := prog_6_method_75_code
def y_Mo_kindHere : MethodName := ⟨"SixFellowsModel", "kindHere", "()I"⟩
theorem hk_Mo_kindHere : Cond.code y_Mo_kindHere b_Mo_kindHere 1 (some .int) ∈ zT := zin 1107 (by decide +kernel) rfl
abbrev b_Mo_sortHere : ByteArray := prog_6_method_76_code
def y_Mo_sortHere : MethodName := ⟨"SixFellowsModel", "sortHere", "()I"⟩
theorem hk_Mo_sortHere : Cond.code y_Mo_sortHere b_Mo_sortHere 1 (some .int) ∈ zT := zin 1146 (by decide +kernel) rfl
abbrev b_Mo_wantNumber : ByteArray := prog_6_method_77_code
def y_Mo_wantNumber : MethodName := ⟨"SixFellowsModel", "wantNumber", "(II)I"⟩
theorem hk_Mo_wantNumber : Cond.code y_Mo_wantNumber b_Mo_wantNumber 4 (some .int) ∈ zT := zin 1130 (by decide +kernel) rfl
abbrev b_Mo_mayWant : ByteArray := prog_6_method_78_code
def y_Mo_mayWant : MethodName := ⟨"SixFellowsModel", "mayWant", "(JIII)I"⟩
theorem hk_Mo_mayWant : Cond.code y_Mo_mayWant b_Mo_mayWant 6 (some .int) ∈ zT := zin 1135 (by decide +kernel) rfl
abbrev b_Mo_wantAfter : ByteArray := prog_6_method_79_code
def y_Mo_wantAfter : MethodName := ⟨"SixFellowsModel", "wantAfter", "(JII)I"⟩
theorem hk_Mo_wantAfter : Cond.code y_Mo_wantAfter b_Mo_wantAfter 5 (some .int) ∈ zT := zin 1126 (by decide +kernel) rfl
abbrev b_Mo_wantFellow : ByteArray := prog_6_method_80_code
def y_Mo_wantFellow : MethodName := ⟨"SixFellowsModel", "wantFellow", "(I)V"⟩
theorem hk_Mo_wantFellow : Cond.code y_Mo_wantFellow b_Mo_wantFellow 6 none ∈ zT := zin 1121 (by decide +kernel) rfl
abbrev b_Mo_wantTask : ByteArray := prog_6_method_81_code
def y_Mo_wantTask : MethodName := ⟨"SixFellowsModel", "wantTask", "()V"⟩
theorem hk_Mo_wantTask : Cond.code y_Mo_wantTask b_Mo_wantTask 5 none ∈ zT := zin 1142 (by decide +kernel) rfl
abbrev b_Mo_wantSleep : ByteArray := prog_6_method_82_code
def y_Mo_wantSleep : MethodName := ⟨"SixFellowsModel", "wantSleep", "(I)V"⟩
theorem hk_Mo_wantSleep : Cond.code y_Mo_wantSleep b_Mo_wantSleep 3 none ∈ zT := zin 1158 (by decide +kernel) rfl
abbrev b_Mo_wantItem : ByteArray := prog_6_method_83_code
def y_Mo_wantItem : MethodName := ⟨"SixFellowsModel", "wantItem", "()V"⟩
theorem hk_Mo_wantItem : Cond.code y_Mo_wantItem b_Mo_wantItem 1 none ∈ zT := zin 1103 (by decide +kernel) rfl
abbrev b_Mo_road : ByteArray := prog_6_method_84_code
def y_Mo_road : MethodName := ⟨"SixFellowsModel", "road", "()I"⟩
theorem hk_Mo_road : Cond.code y_Mo_road b_Mo_road 3 (some .int) ∈ zT := zin 1082 (by decide +kernel) rfl
abbrev b_Mo_isSheet : ByteArray := prog_6_method_85_code
def y_Mo_isSheet : MethodName := ⟨"SixFellowsModel", "isSheet", "(I)Z"⟩
theorem hk_Mo_isSheet : Cond.code y_Mo_isSheet b_Mo_isSheet 1 (some .boolean) ∈ zT := zin 1166 (by decide +kernel) rfl
abbrev b_Mo_narrow : ByteArray := prog_6_method_86_code
def y_Mo_narrow : MethodName := ⟨"SixFellowsModel", "narrow", "(IJ)J"⟩
theorem hk_Mo_narrow : Cond.code y_Mo_narrow b_Mo_narrow 3 (some .long) ∈ zT := zin 1175 (by decide +kernel) rfl
abbrev b_Mo_sheet : ByteArray := prog_6_method_87_code
def y_Mo_sheet : MethodName := ⟨"SixFellowsModel", "sheet", "(III)I"⟩
theorem hk_Mo_sheet : Cond.code y_Mo_sheet b_Mo_sheet 5 (some .int) ∈ zT := zin 1163 (by decide +kernel) rfl
abbrev b_Mo_write : ByteArray := prog_6_method_88_code
def y_Mo_write : MethodName := ⟨"SixFellowsModel", "write", "(IIJ)J"⟩
theorem hk_Mo_write : Cond.code y_Mo_write b_Mo_write 7 (some .long) ∈ zT := zin 1171 (by decide +kernel) rfl
abbrev b_Mo_isPart : ByteArray := prog_6_method_89_code
def y_Mo_isPart : MethodName := ⟨"SixFellowsModel", "isPart", "(III)Z"⟩
theorem hk_Mo_isPart : Cond.code y_Mo_isPart b_Mo_isPart 4 (some .boolean) ∈ zT := zin 1183 (by decide +kernel) rfl
abbrev b_Mo_copy : ByteArray := prog_6_method_90_code
def y_Mo_copy : MethodName := ⟨"SixFellowsModel", "copy", "(IIIII)I"⟩
theorem hk_Mo_copy : Cond.code y_Mo_copy b_Mo_copy 7 (some .int) ∈ zT := zin 1179 (by decide +kernel) rfl
abbrev b_Mo_badSheet : ByteArray := prog_6_method_91_code
def y_Mo_badSheet : MethodName := ⟨"SixFellowsModel", "badSheet", "(I)I"⟩
theorem hk_Mo_badSheet : Cond.code y_Mo_badSheet b_Mo_badSheet 2 (some .int) ∈ zT := zin 1191 (by decide +kernel) rfl
abbrev b_Mo_lays : ByteArray := prog_6_method_92_code
def y_Mo_lays : MethodName := ⟨"SixFellowsModel", "lays", "(I)I"⟩
theorem hk_Mo_lays : Cond.code y_Mo_lays b_Mo_lays 7 (some .int) ∈ zT := zin 1187 (by decide +kernel) rfl
abbrev b_Mo_book : ByteArray := prog_6_method_93_code
def y_Mo_book : MethodName := ⟨"SixFellowsModel", "book", "(I)I"⟩
theorem hk_Mo_book : Cond.code y_Mo_book b_Mo_book 4 (some .int) ∈ zT := zin 1196 (by decide +kernel) rfl
abbrev b_Mo_isSo : ByteArray := prog_6_method_94_code
def y_Mo_isSo : MethodName := ⟨"SixFellowsModel", "isSo", "(I)Z"⟩
theorem hk_Mo_isSo : Cond.code y_Mo_isSo b_Mo_isSo 4 (some .boolean) ∈ zT := zin 1204 (by decide +kernel) rfl
abbrev b_Mo_read : ByteArray := prog_6_method_95_code
def y_Mo_read : MethodName := ⟨"SixFellowsModel", "read", "(I)I"⟩
theorem hk_Mo_read : Cond.code y_Mo_read b_Mo_read 6 (some .int) ∈ zT := zin 1200 (by decide +kernel) rfl
abbrev b_Mo_moveAll : ByteArray := prog_6_method_96_code
def y_Mo_moveAll : MethodName := ⟨"SixFellowsModel", "moveAll", "(Z[I)V"⟩
theorem hk_Mo_moveAll : Cond.code y_Mo_moveAll b_Mo_moveAll 4 none ∈ zT := zin 978 (by decide +kernel) rfl
abbrev b_Mo_image : ByteArray := prog_6_method_97_code
def y_Mo_image : MethodName := ⟨"SixFellowsModel", "image", "()I"⟩
theorem hk_Mo_image : Cond.code y_Mo_image b_Mo_image 1 (some .int) ∈ zT := zin 1208 (by decide +kernel) rfl
abbrev b_Mo_undo : ByteArray := prog_6_method_98_code
def y_Mo_undo : MethodName := ⟨"SixFellowsModel", "undo", "()I"⟩
theorem hk_Mo_undo : Cond.code y_Mo_undo b_Mo_undo 1 (some .int) ∈ zT := zin 1212 (by decide +kernel) rfl
abbrev b_Mo_tear : ByteArray := prog_6_method_99_code
def y_Mo_tear : MethodName := ⟨"SixFellowsModel", "tear", "()I"⟩
theorem hk_Mo_tear : Cond.code y_Mo_tear b_Mo_tear 2 (some .int) ∈ zT := zin 1216 (by decide +kernel) rfl
abbrev b_Mo_count : ByteArray := prog_6_method_100_code
def y_Mo_count : MethodName := ⟨"SixFellowsModel", "count", "(I)I"⟩
theorem hk_Mo_count : Cond.code y_Mo_count b_Mo_count 5 (some .int) ∈ zT := zin 1220 (by decide +kernel) rfl
abbrev b_Mo_status : ByteArray := prog_6_method_101_code
def y_Mo_status : MethodName := ⟨"SixFellowsModel", "status", "(I)I"⟩
theorem hk_Mo_status : Cond.code y_Mo_status b_Mo_status 4 (some .int) ∈ zT := zin 1224 (by decide +kernel) rfl
abbrev b_In_bitCount : ByteArray := prog_7_method_49_code
def y_In_bitCount : MethodName := ⟨"java/lang/Integer", "bitCount", "(I)I"⟩
theorem hk_In_bitCount : Cond.code y_In_bitCount b_In_bitCount 1 (some .int) ∈ zT := zin 442 (by decide +kernel) rfl
abbrev b_St_length : ByteArray := prog_9_method_54_code
def y_St_length : MethodName := ⟨"java/lang/String", "length", "()I"⟩
theorem hk_St_length : Cond.code y_St_length b_St_length 1 (some .int) ∈ zT := zin 551 (by decide +kernel) rfl
abbrev b_St_charAt : ByteArray := prog_9_method_56_code
def y_St_charAt : MethodName := ⟨"java/lang/String", "charAt", "(I)C"⟩
theorem hk_St_charAt : Cond.code y_St_charAt b_St_charAt 2 (some .char) ∈ zT := zin 561 (by decide +kernel) rfl
abbrev b_St_coder : ByteArray := prog_9_method_152_code
def y_St_coder : MethodName := ⟨"java/lang/String", "coder", "()B"⟩
theorem hk_St_coder : Cond.code y_St_coder b_St_coder 1 (some .byte) ∈ zT := zin 555 (by decide +kernel) rfl
abbrev b_St_isLatin1 : ByteArray := prog_9_method_154_code
def y_St_isLatin1 : MethodName := ⟨"java/lang/String", "isLatin1", "()Z"⟩
theorem hk_St_isLatin1 : Cond.code y_St_isLatin1 b_St_isLatin1 1 (some .boolean) ∈ zT := zin 565 (by decide +kernel) rfl
abbrev b_St_checkIndex : ByteArray := prog_9_method_155_code
def y_St_checkIndex : MethodName := ⟨"java/lang/String", "checkIndex", "(II)V"⟩
theorem hk_St_checkIndex : Cond.code y_St_checkIndex b_St_checkIndex 2 none ∈ zT := zin 571 (by decide +kernel) rfl
abbrev b_Sl_charAt : ByteArray := prog_10_method_2_code
def y_Sl_charAt : MethodName := ⟨"java/lang/StringLatin1", "charAt", "([BI)C"⟩
theorem hk_Sl_charAt : Cond.code y_Sl_charAt b_Sl_charAt 2 (some .char) ∈ zT := zin 568 (by decide +kernel) rfl
abbrev b_Ar_fill : ByteArray := prog_13_method_101_code
def y_Ar_fill : MethodName := ⟨"java/util/Arrays", "fill", "([JJ)V"⟩
theorem hk_Ar_fill : Cond.code y_Ar_fill b_Ar_fill 5 none ∈ zT := zin 672 (by decide +kernel) rfl
abbrev b_Lw_law : ByteArray := code
theorem k_Sx_47 : zCS "SixFellows" 47 y_Sx_isKind b_Sx_isKind 1 (some .boolean) 1 := ⟨zin 222 (by decide +kernel) rfl, zin 223 (by decide +kernel) rfl, zin 65 (by decide +kernel) rfl, hk_Sx_isKind, ⟨by decide, by decide, by decide +kernel⟩, by decide⟩
theorem k_Sx_51 : zCS "SixFellows" 51 y_Sx_isMile b_Sx_isMile 1 (some .boolean) 1 := ⟨zin 228 (by decide +kernel) rfl, zin 229 (by decide +kernel) rfl, zin 65 (by decide +kernel) rfl, hk_Sx_isMile, ⟨by decide, by decide, by decide +kernel⟩, by decide⟩
theorem k_Sx_55 : zCV "SixFellows" 55 y_Sx_tell b_Sx_tell 3 (some .int) 1 := ⟨zin 232 (by decide +kernel) rfl, zin 234 (by decide +kernel) rfl, zin 0 (by decide +kernel) rfl, zin 65 (by decide +kernel) rfl, hk_Sx_tell, ⟨by decide, by decide, by decide +kernel⟩, by decide⟩
theorem k_Sx_64 : zCV "SixFellows" 64 y_Rd_addFellow b_Rd_addFellow 4 (some .int) 2 := ⟨zin 237 (by decide +kernel) rfl, zin 238 (by decide +kernel) rfl, zin 239 (by decide +kernel) rfl, zin 66 (by decide +kernel) rfl, hk_Rd_addFellow, ⟨by decide, by decide, by decide +kernel⟩, by decide⟩
theorem k_Sx_68 : zCV "SixFellows" 68 y_Sx_isFellow b_Sx_isFellow 2 (some .boolean) 1 := ⟨zin 245 (by decide +kernel) rfl, zin 247 (by decide +kernel) rfl, zin 1 (by decide +kernel) rfl, zin 65 (by decide +kernel) rfl, hk_Sx_isFellow, ⟨by decide, by decide, by decide +kernel⟩, by decide⟩
theorem k_Sx_86 : zCS "SixFellows" 86 y_Sx_has b_Sx_has 2 (some .boolean) 2 := ⟨zin 249 (by decide +kernel) rfl, zin 250 (by decide +kernel) rfl, zin 65 (by decide +kernel) rfl, hk_Sx_has, ⟨by decide, by decide, by decide +kernel⟩, by decide⟩
theorem k_Sx_90 : zCV "SixFellows" 90 y_Rd_awakeSet b_Rd_awakeSet 1 (some .int) 0 := ⟨zin 252 (by decide +kernel) rfl, zin 253 (by decide +kernel) rfl, zin 254 (by decide +kernel) rfl, zin 66 (by decide +kernel) rfl, hk_Rd_awakeSet, ⟨by decide, by decide, by decide +kernel⟩, by decide⟩
theorem k_Sx_94 : zCV "SixFellows" 94 y_Rd_isSpoilt b_Rd_isSpoilt 5 (some .boolean) 2 := ⟨zin 260 (by decide +kernel) rfl, zin 261 (by decide +kernel) rfl, zin 262 (by decide +kernel) rfl, zin 66 (by decide +kernel) rfl, hk_Rd_isSpoilt, ⟨by decide, by decide, by decide +kernel⟩, by decide⟩
theorem k_Sx_97 : zCS "SixFellows" 97 y_Sx_paceOf b_Sx_paceOf 1 (some .int) 1 := ⟨zin 276 (by decide +kernel) rfl, zin 277 (by decide +kernel) rfl, zin 65 (by decide +kernel) rfl, hk_Sx_paceOf, ⟨by decide, by decide, by decide +kernel⟩, by decide⟩
theorem k_Sx_100 : zCV "SixFellows" 100 y_Rd_hoursToGoal b_Rd_hoursToGoal 3 (some .int) 1 := ⟨zin 279 (by decide +kernel) rfl, zin 280 (by decide +kernel) rfl, zin 281 (by decide +kernel) rfl, zin 66 (by decide +kernel) rfl, hk_Rd_hoursToGoal, ⟨by decide, by decide, by decide +kernel⟩, by decide⟩
theorem k_Sx_103 : zCS "SixFellows" 103 y_Sx_maySet b_Sx_maySet 2 (some .boolean) 2 := ⟨zin 291 (by decide +kernel) rfl, zin 292 (by decide +kernel) rfl, zin 65 (by decide +kernel) rfl, hk_Sx_maySet, ⟨by decide, by decide, by decide +kernel⟩, by decide⟩
theorem k_Sx_106 : zCV "SixFellows" 106 y_Rd_putAsleep b_Rd_putAsleep 4 (some .int) 2 := ⟨zin 294 (by decide +kernel) rfl, zin 295 (by decide +kernel) rfl, zin 296 (by decide +kernel) rfl, zin 66 (by decide +kernel) rfl, hk_Rd_putAsleep, ⟨by decide, by decide, by decide +kernel⟩, by decide⟩
theorem k_Sx_110 : zCS "SixFellows" 110 y_Sx_isWithin b_Sx_isWithin 3 (some .boolean) 3 := ⟨zin 225 (by decide +kernel) rfl, zin 226 (by decide +kernel) rfl, zin 65 (by decide +kernel) rfl, hk_Sx_isWithin, ⟨by decide, by decide, by decide +kernel⟩, by decide⟩
theorem k_Sx_114 : zCS "SixFellows" 114 y_Sx_isOfKind b_Sx_isOfKind 4 (some .boolean) 2 := ⟨zin 306 (by decide +kernel) rfl, zin 269 (by decide +kernel) rfl, zin 65 (by decide +kernel) rfl, hk_Sx_isOfKind, ⟨by decide, by decide, by decide +kernel⟩, by decide⟩
theorem k_Sx_118 : zCS "SixFellows" 118 y_Sx_isSort b_Sx_isSort 1 (some .boolean) 1 := ⟨zin 312 (by decide +kernel) rfl, zin 313 (by decide +kernel) rfl, zin 65 (by decide +kernel) rfl, hk_Sx_isSort, ⟨by decide, by decide, by decide +kernel⟩, by decide⟩
theorem k_Sx_121 : zCS "SixFellows" 121 y_Sx_workOf b_Sx_workOf 3 (some .int) 3 := ⟨zin 315 (by decide +kernel) rfl, zin 316 (by decide +kernel) rfl, zin 65 (by decide +kernel) rfl, hk_Sx_workOf, ⟨by decide, by decide, by decide +kernel⟩, by decide⟩
theorem k_Sx_128 : zCV "SixFellows" 128 y_Rd_addTask b_Rd_addTask 6 (some .int) 4 := ⟨zin 322 (by decide +kernel) rfl, zin 323 (by decide +kernel) rfl, zin 324 (by decide +kernel) rfl, zin 66 (by decide +kernel) rfl, hk_Rd_addTask, ⟨by decide, by decide, by decide +kernel⟩, by decide⟩
theorem k_Sx_132 : zCV "SixFellows" 132 y_Sx_isTask b_Sx_isTask 2 (some .boolean) 1 := ⟨zin 330 (by decide +kernel) rfl, zin 332 (by decide +kernel) rfl, zin 2 (by decide +kernel) rfl, zin 65 (by decide +kernel) rfl, hk_Sx_isTask, ⟨by decide, by decide, by decide +kernel⟩, by decide⟩
theorem k_Sx_135 : zCV "SixFellows" 135 y_Rd_spoiltSet b_Rd_spoiltSet 4 (some .int) 1 := ⟨zin 334 (by decide +kernel) rfl, zin 335 (by decide +kernel) rfl, zin 336 (by decide +kernel) rfl, zin 66 (by decide +kernel) rfl, hk_Rd_spoiltSet, ⟨by decide, by decide, by decide +kernel⟩, by decide⟩
theorem k_Sx_150 : zCV "SixFellows" 150 y_Rd_helpOfAll b_Rd_helpOfAll 6 (some .int) 3 := ⟨zin 339 (by decide +kernel) rfl, zin 340 (by decide +kernel) rfl, zin 341 (by decide +kernel) rfl, zin 66 (by decide +kernel) rfl, hk_Rd_helpOfAll, ⟨by decide, by decide, by decide +kernel⟩, by decide⟩
theorem k_Sx_153 : zCV "SixFellows" 153 y_Rd_isMet b_Rd_isMet 3 (some .boolean) 2 := ⟨zin 348 (by decide +kernel) rfl, zin 349 (by decide +kernel) rfl, zin 350 (by decide +kernel) rfl, zin 66 (by decide +kernel) rfl, hk_Rd_isMet, ⟨by decide, by decide, by decide +kernel⟩, by decide⟩
theorem k_Sx_156 : zCV "SixFellows" 156 y_Rd_helperSet b_Rd_helperSet 6 (some .int) 3 := ⟨zin 354 (by decide +kernel) rfl, zin 355 (by decide +kernel) rfl, zin 356 (by decide +kernel) rfl, zin 66 (by decide +kernel) rfl, hk_Rd_helperSet, ⟨by decide, by decide, by decide +kernel⟩, by decide⟩
theorem k_Sx_159 : zCV "SixFellows" 159 y_Rd_helpOf b_Rd_helpOf 7 (some .int) 4 := ⟨zin 362 (by decide +kernel) rfl, zin 344 (by decide +kernel) rfl, zin 345 (by decide +kernel) rfl, zin 66 (by decide +kernel) rfl, hk_Rd_helpOf, ⟨by decide, by decide, by decide +kernel⟩, by decide⟩
theorem k_Sx_162 : zCV "SixFellows" 162 y_Rd_dropTask b_Rd_dropTask 3 none 1 := ⟨zin 367 (by decide +kernel) rfl, zin 368 (by decide +kernel) rfl, zin 369 (by decide +kernel) rfl, zin 66 (by decide +kernel) rfl, hk_Rd_dropTask, ⟨by decide, by decide, by decide +kernel⟩, by decide⟩
theorem k_Sx_170 : zCV "SixFellows" 170 y_Rd_letHoursGo b_Rd_letHoursGo 5 none 1 := ⟨zin 376 (by decide +kernel) rfl, zin 377 (by decide +kernel) rfl, zin 378 (by decide +kernel) rfl, zin 66 (by decide +kernel) rfl, hk_Rd_letHoursGo, ⟨by decide, by decide, by decide +kernel⟩, by decide⟩
theorem k_Sx_173 : zCV "SixFellows" 173 y_Rd_earned b_Rd_earned 5 (some .int) 1 := ⟨zin 383 (by decide +kernel) rfl, zin 384 (by decide +kernel) rfl, zin 385 (by decide +kernel) rfl, zin 66 (by decide +kernel) rfl, hk_Rd_earned, ⟨by decide, by decide, by decide +kernel⟩, by decide⟩
theorem k_Sx_176 : zCV "SixFellows" 176 y_Rd_metSet b_Rd_metSet 5 (some .int) 1 := ⟨zin 395 (by decide +kernel) rfl, zin 388 (by decide +kernel) rfl, zin 389 (by decide +kernel) rfl, zin 66 (by decide +kernel) rfl, hk_Rd_metSet, ⟨by decide, by decide, by decide +kernel⟩, by decide⟩
theorem k_Sx_179 : zCV "SixFellows" 179 y_Rd_spread b_Rd_spread 4 (some .int) 0 := ⟨zin 396 (by decide +kernel) rfl, zin 397 (by decide +kernel) rfl, zin 398 (by decide +kernel) rfl, zin 66 (by decide +kernel) rfl, hk_Rd_spread, ⟨by decide, by decide, by decide +kernel⟩, by decide⟩
theorem k_Sx_182 : zCV "SixFellows" 182 y_Rd_become b_Rd_become 2 none 1 := ⟨zin 404 (by decide +kernel) rfl, zin 405 (by decide +kernel) rfl, zin 406 (by decide +kernel) rfl, zin 66 (by decide +kernel) rfl, hk_Rd_become, ⟨by decide, by decide, by decide +kernel⟩, by decide⟩
theorem k_Sx_187 : zCV "SixFellows" 187 y_Sx_bestValue b_Sx_bestValue 8 (some .int) 3 := ⟨zin 424 (by decide +kernel) rfl, zin 426 (by decide +kernel) rfl, zin 3 (by decide +kernel) rfl, zin 65 (by decide +kernel) rfl, hk_Sx_bestValue, ⟨by decide, by decide, by decide +kernel⟩, by decide⟩
theorem k_Sx_191 : zCV "SixFellows" 191 y_Sx_bestSet b_Sx_bestSet 7 (some .int) 0 := ⟨zin 436 (by decide +kernel) rfl, zin 438 (by decide +kernel) rfl, zin 4 (by decide +kernel) rfl, zin 65 (by decide +kernel) rfl, hk_Sx_bestSet, ⟨by decide, by decide, by decide +kernel⟩, by decide⟩
theorem k_Sx_194 : zCS "SixFellows" 194 y_In_bitCount b_In_bitCount 1 (some .int) 1 := ⟨zin 440 (by decide +kernel) rfl, zin 441 (by decide +kernel) rfl, zin 72 (by decide +kernel) rfl, hk_In_bitCount, ⟨by decide, by decide, by decide +kernel⟩, by decide⟩
theorem k_Sx_199 : zCV "SixFellows" 199 y_Sx_smallestSetFor b_Sx_smallestSetFor 5 (some .int) 1 := ⟨zin 454 (by decide +kernel) rfl, zin 456 (by decide +kernel) rfl, zin 5 (by decide +kernel) rfl, zin 65 (by decide +kernel) rfl, hk_Sx_smallestSetFor, ⟨by decide, by decide, by decide +kernel⟩, by decide⟩
theorem k_Sx_207 : zCV "SixFellows" 207 y_Sx_weighSets b_Sx_weighSets 4 none 0 := ⟨zin 483 (by decide +kernel) rfl, zin 485 (by decide +kernel) rfl, zin 6 (by decide +kernel) rfl, zin 65 (by decide +kernel) rfl, hk_Sx_weighSets, ⟨by decide, by decide, by decide +kernel⟩, by decide⟩
theorem k_Sx_210 : zCV "SixFellows" 210 y_Sx_shareOf b_Sx_shareOf 10 (some .long) 1 := ⟨zin 488 (by decide +kernel) rfl, zin 490 (by decide +kernel) rfl, zin 7 (by decide +kernel) rfl, zin 65 (by decide +kernel) rfl, hk_Sx_shareOf, ⟨by decide, by decide, by decide +kernel⟩, by decide⟩
theorem k_Sx_214 : zCV "SixFellows" 214 y_Rd_allSet b_Rd_allSet 1 (some .int) 0 := ⟨zin 487 (by decide +kernel) rfl, zin 257 (by decide +kernel) rfl, zin 258 (by decide +kernel) rfl, zin 66 (by decide +kernel) rfl, hk_Rd_allSet, ⟨by decide, by decide, by decide +kernel⟩, by decide⟩
theorem k_Sx_226 : zCV "SixFellows" 226 y_Tp_append b_Tp_append 4 none 2 := ⟨zin 508 (by decide +kernel) rfl, zin 509 (by decide +kernel) rfl, zin 510 (by decide +kernel) rfl, zin 67 (by decide +kernel) rfl, hk_Tp_append, ⟨by decide, by decide, by decide +kernel⟩, by decide⟩
theorem k_Sx_230 : zCV "SixFellows" 230 y_Tp_empty b_Tp_empty 2 (some .int) 0 := ⟨zin 516 (by decide +kernel) rfl, zin 517 (by decide +kernel) rfl, zin 518 (by decide +kernel) rfl, zin 67 (by decide +kernel) rfl, hk_Tp_empty, ⟨by decide, by decide, by decide +kernel⟩, by decide⟩
theorem k_Sx_233 : zCV "SixFellows" 233 y_Tp_tellTo b_Tp_tellTo 3 (some .int) 1 := ⟨zin 524 (by decide +kernel) rfl, zin 525 (by decide +kernel) rfl, zin 526 (by decide +kernel) rfl, zin 67 (by decide +kernel) rfl, hk_Tp_tellTo, ⟨by decide, by decide, by decide +kernel⟩, by decide⟩
theorem k_Sx_237 : zCS "SixFellows" 237 y_Sx_isSheet b_Sx_isSheet 1 (some .boolean) 1 := ⟨zin 662 (by decide +kernel) rfl, zin 663 (by decide +kernel) rfl, zin 65 (by decide +kernel) rfl, hk_Sx_isSheet, ⟨by decide, by decide, by decide +kernel⟩, by decide⟩
theorem k_Sx_241 : zCV "SixFellows" 241 y_Sh_begin b_Sh_begin 3 none 2 := ⟨zin 666 (by decide +kernel) rfl, zin 667 (by decide +kernel) rfl, zin 668 (by decide +kernel) rfl, zin 68 (by decide +kernel) rfl, hk_Sh_begin, ⟨by decide, by decide, by decide +kernel⟩, by decide⟩
theorem k_Sx_245 : zCV "SixFellows" 245 y_Sh_isMissing b_Sh_isMissing 1 (some .boolean) 0 := ⟨zin 677 (by decide +kernel) rfl, zin 678 (by decide +kernel) rfl, zin 679 (by decide +kernel) rfl, zin 68 (by decide +kernel) rfl, hk_Sh_isMissing, ⟨by decide, by decide, by decide +kernel⟩, by decide⟩
theorem k_Sx_254 : zCV "SixFellows" 254 y_Sh_put b_Sh_put 4 none 2 := ⟨zin 682 (by decide +kernel) rfl, zin 683 (by decide +kernel) rfl, zin 684 (by decide +kernel) rfl, zin 68 (by decide +kernel) rfl, hk_Sh_put, ⟨by decide, by decide, by decide +kernel⟩, by decide⟩
theorem k_Sx_261 : zCV "SixFellows" 261 y_Sh_holds b_Sh_holds 3 (some .boolean) 2 := ⟨zin 690 (by decide +kernel) rfl, zin 691 (by decide +kernel) rfl, zin 692 (by decide +kernel) rfl, zin 68 (by decide +kernel) rfl, hk_Sh_holds, ⟨by decide, by decide, by decide +kernel⟩, by decide⟩
theorem k_Sx_272 : zCV "SixFellows" 272 y_Sh_otherThanZero b_Sh_otherThanZero 3 (some .int) 0 := ⟨zin 708 (by decide +kernel) rfl, zin 709 (by decide +kernel) rfl, zin 710 (by decide +kernel) rfl, zin 68 (by decide +kernel) rfl, hk_Sh_otherThanZero, ⟨by decide, by decide, by decide +kernel⟩, by decide⟩
theorem k_Sx_275 : zCS "SixFellows" 275 y_Sx_sumOf b_Sx_sumOf 4 (some .int) 2 := ⟨zin 729 (by decide +kernel) rfl, zin 730 (by decide +kernel) rfl, zin 65 (by decide +kernel) rfl, hk_Sx_sumOf, ⟨by decide, by decide, by decide +kernel⟩, by decide⟩
theorem k_Rd_55 : zCN "SixFellows$Road" 55 y_Sx_has b_Sx_has 2 (some .boolean) 2 := ⟨⟨"SixFellows", by decide +kernel⟩, zin 250 (by decide +kernel) rfl, zin 65 (by decide +kernel) rfl, hk_Sx_has, ⟨by decide, by decide, by decide +kernel⟩, by decide⟩
theorem k_Rd_59 : zCV "SixFellows$Road" 59 y_Rd_allSet b_Rd_allSet 1 (some .int) 0 := ⟨zin 256 (by decide +kernel) rfl, zin 257 (by decide +kernel) rfl, zin 258 (by decide +kernel) rfl, zin 66 (by decide +kernel) rfl, hk_Rd_allSet, ⟨by decide, by decide, by decide +kernel⟩, by decide⟩
theorem k_Rd_63 : zCN "SixFellows$Road" 63 y_Sx_spoilerOf b_Sx_spoilerOf 1 (some .int) 1 := ⟨⟨"SixFellows", by decide +kernel⟩, zin 265 (by decide +kernel) rfl, zin 65 (by decide +kernel) rfl, hk_Sx_spoilerOf, ⟨by decide, by decide, by decide +kernel⟩, by decide⟩
theorem k_Rd_67 : zCN "SixFellows$Road" 67 y_Sx_isOfKind b_Sx_isOfKind 4 (some .boolean) 2 := ⟨⟨"SixFellows", by decide +kernel⟩, zin 269 (by decide +kernel) rfl, zin 65 (by decide +kernel) rfl, hk_Sx_isOfKind, ⟨by decide, by decide, by decide +kernel⟩, by decide⟩
theorem k_Rd_75 : zCV "SixFellows$Road" 75 y_Rd_isSpoilt b_Rd_isSpoilt 5 (some .boolean) 2 := ⟨zin 338 (by decide +kernel) rfl, zin 261 (by decide +kernel) rfl, zin 262 (by decide +kernel) rfl, zin 66 (by decide +kernel) rfl, hk_Rd_isSpoilt, ⟨by decide, by decide, by decide +kernel⟩, by decide⟩
theorem k_Rd_78 : zCN "SixFellows$Road" 78 y_Sx_workOf b_Sx_workOf 3 (some .int) 3 := ⟨⟨"SixFellows", by decide +kernel⟩, zin 316 (by decide +kernel) rfl, zin 65 (by decide +kernel) rfl, hk_Sx_workOf, ⟨by decide, by decide, by decide +kernel⟩, by decide⟩
theorem k_Rd_86 : zCV "SixFellows$Road" 86 y_Rd_helpOf b_Rd_helpOf 7 (some .int) 4 := ⟨zin 343 (by decide +kernel) rfl, zin 344 (by decide +kernel) rfl, zin 345 (by decide +kernel) rfl, zin 66 (by decide +kernel) rfl, hk_Rd_helpOf, ⟨by decide, by decide, by decide +kernel⟩, by decide⟩
theorem k_Rd_90 : zCV "SixFellows$Road" 90 y_Rd_spoiltSet b_Rd_spoiltSet 4 (some .int) 1 := ⟨zin 352 (by decide +kernel) rfl, zin 335 (by decide +kernel) rfl, zin 336 (by decide +kernel) rfl, zin 66 (by decide +kernel) rfl, hk_Rd_spoiltSet, ⟨by decide, by decide, by decide +kernel⟩, by decide⟩
theorem k_Rd_93 : zCV "SixFellows$Road" 93 y_Rd_helpOfAll b_Rd_helpOfAll 6 (some .int) 3 := ⟨zin 353 (by decide +kernel) rfl, zin 340 (by decide +kernel) rfl, zin 341 (by decide +kernel) rfl, zin 66 (by decide +kernel) rfl, hk_Rd_helpOfAll, ⟨by decide, by decide, by decide +kernel⟩, by decide⟩
theorem k_Rd_96 : zCV "SixFellows$Road" 96 y_Rd_metSet b_Rd_metSet 5 (some .int) 1 := ⟨zin 387 (by decide +kernel) rfl, zin 388 (by decide +kernel) rfl, zin 389 (by decide +kernel) rfl, zin 66 (by decide +kernel) rfl, hk_Rd_metSet, ⟨by decide, by decide, by decide +kernel⟩, by decide⟩
theorem k_Rd_99 : zCN "SixFellows$Road" 99 y_Sx_paceOf b_Sx_paceOf 1 (some .int) 1 := ⟨⟨"SixFellows", by decide +kernel⟩, zin 277 (by decide +kernel) rfl, zin 65 (by decide +kernel) rfl, hk_Sx_paceOf, ⟨by decide, by decide, by decide +kernel⟩, by decide⟩
theorem k_Sh_22 : zCS "SixFellows$Sheet" 22 y_Ar_fill b_Ar_fill 5 none 2 := ⟨zin 670 (by decide +kernel) rfl, zin 671 (by decide +kernel) rfl, zin 77 (by decide +kernel) rfl, hk_Ar_fill, ⟨by decide, by decide, by decide +kernel⟩, by decide⟩
theorem k_Tp_31 : zCV "SixFellows$Tape" 31 y_Tp_advance b_Tp_advance 1 none 0 := ⟨zin 528 (by decide +kernel) rfl, zin 530 (by decide +kernel) rfl, zin 8 (by decide +kernel) rfl, zin 67 (by decide +kernel) rfl, hk_Tp_advance, ⟨by decide, by decide, by decide +kernel⟩, by decide⟩
theorem k_Tp_34 : zCV "SixFellows$Tape" 34 y_Tp_takeItem b_Tp_takeItem 2 (some .boolean) 1 := ⟨zin 539 (by decide +kernel) rfl, zin 541 (by decide +kernel) rfl, zin 9 (by decide +kernel) rfl, zin 67 (by decide +kernel) rfl, hk_Tp_takeItem, ⟨by decide, by decide, by decide +kernel⟩, by decide⟩
theorem k_Tp_40 : zCV "SixFellows$Tape" 40 y_Tp_isWord b_Tp_isWord 3 (some .boolean) 1 := ⟨zin 544 (by decide +kernel) rfl, zin 546 (by decide +kernel) rfl, zin 10 (by decide +kernel) rfl, zin 67 (by decide +kernel) rfl, hk_Tp_isWord, ⟨by decide, by decide, by decide +kernel⟩, by decide⟩
theorem k_Tp_44 : zCV "SixFellows$Tape" 44 y_Tp_takeTask b_Tp_takeTask 5 (some .boolean) 1 := ⟨zin 596 (by decide +kernel) rfl, zin 598 (by decide +kernel) rfl, zin 11 (by decide +kernel) rfl, zin 67 (by decide +kernel) rfl, hk_Tp_takeTask, ⟨by decide, by decide, by decide +kernel⟩, by decide⟩
theorem k_Tp_49 : zCV "SixFellows$Tape" 49 y_Tp_takeSleep b_Tp_takeSleep 3 (some .boolean) 2 := ⟨zin 630 (by decide +kernel) rfl, zin 632 (by decide +kernel) rfl, zin 16 (by decide +kernel) rfl, zin 67 (by decide +kernel) rfl, hk_Tp_takeSleep, ⟨by decide, by decide, by decide +kernel⟩, by decide⟩
theorem k_Tp_55 : zCV "SixFellows$Tape" 55 y_Tp_takeFellow b_Tp_takeFellow 4 (some .boolean) 1 := ⟨zin 636 (by decide +kernel) rfl, zin 638 (by decide +kernel) rfl, zin 17 (by decide +kernel) rfl, zin 67 (by decide +kernel) rfl, hk_Tp_takeFellow, ⟨by decide, by decide, by decide +kernel⟩, by decide⟩
theorem k_Tp_58 : zCV "SixFellows$Tape" 58 y_Tp_kindInHand b_Tp_kindInHand 2 (some .int) 0 := ⟨zin 640 (by decide +kernel) rfl, zin 642 (by decide +kernel) rfl, zin 18 (by decide +kernel) rfl, zin 67 (by decide +kernel) rfl, hk_Tp_kindInHand, ⟨by decide, by decide, by decide +kernel⟩, by decide⟩
theorem k_Tp_69 : zCV "SixFellows$Tape" 69 y_Tp_takeWord b_Tp_takeWord 2 (some .boolean) 1 := ⟨zin 613 (by decide +kernel) rfl, zin 615 (by decide +kernel) rfl, zin 13 (by decide +kernel) rfl, zin 67 (by decide +kernel) rfl, hk_Tp_takeWord, ⟨by decide, by decide, by decide +kernel⟩, by decide⟩
theorem k_Tp_72 : zCV "SixFellows$Tape" 72 y_Tp_isNumber b_Tp_isNumber 3 (some .boolean) 2 := ⟨zin 617 (by decide +kernel) rfl, zin 619 (by decide +kernel) rfl, zin 14 (by decide +kernel) rfl, zin 67 (by decide +kernel) rfl, hk_Tp_isNumber, ⟨by decide, by decide, by decide +kernel⟩, by decide⟩
theorem k_Tp_76 : zCV "SixFellows$Tape" 76 y_Tp_takeNumber b_Tp_takeNumber 2 (some .int) 0 := ⟨zin 622 (by decide +kernel) rfl, zin 624 (by decide +kernel) rfl, zin 15 (by decide +kernel) rfl, zin 67 (by decide +kernel) rfl, hk_Tp_takeNumber, ⟨by decide, by decide, by decide +kernel⟩, by decide⟩
theorem k_Tp_79 : zCV "SixFellows$Tape" 79 y_Rd_addFellow b_Rd_addFellow 4 (some .int) 2 := ⟨zin 653 (by decide +kernel) rfl, zin 238 (by decide +kernel) rfl, zin 239 (by decide +kernel) rfl, zin 66 (by decide +kernel) rfl, hk_Rd_addFellow, ⟨by decide, by decide, by decide +kernel⟩, by decide⟩
theorem k_Tp_95 : zCV "SixFellows$Tape" 95 y_Rd_putAsleep b_Rd_putAsleep 4 (some .int) 2 := ⟨zin 634 (by decide +kernel) rfl, zin 295 (by decide +kernel) rfl, zin 296 (by decide +kernel) rfl, zin 66 (by decide +kernel) rfl, hk_Rd_putAsleep, ⟨by decide, by decide, by decide +kernel⟩, by decide⟩
theorem k_Tp_102 : zCV "SixFellows$Tape" 102 y_Tp_sortInHand b_Tp_sortInHand 2 (some .int) 0 := ⟨zin 600 (by decide +kernel) rfl, zin 602 (by decide +kernel) rfl, zin 12 (by decide +kernel) rfl, zin 67 (by decide +kernel) rfl, hk_Tp_sortInHand, ⟨by decide, by decide, by decide +kernel⟩, by decide⟩
theorem k_Tp_109 : zCV "SixFellows$Tape" 109 y_Rd_addTask b_Rd_addTask 6 (some .int) 4 := ⟨zin 628 (by decide +kernel) rfl, zin 323 (by decide +kernel) rfl, zin 324 (by decide +kernel) rfl, zin 66 (by decide +kernel) rfl, hk_Rd_addTask, ⟨by decide, by decide, by decide +kernel⟩, by decide⟩
theorem k_Tp_113 : zCS "SixFellows$Tape" 113 y_Tp_nameOfKind b_Tp_nameOfKind 1 (some (.object "java/lang/String")) 1 := ⟨zin 644 (by decide +kernel) rfl, zin 645 (by decide +kernel) rfl, zin 67 (by decide +kernel) rfl, hk_Tp_nameOfKind, ⟨by decide, by decide, by decide +kernel⟩, by decide⟩
theorem k_Tp_129 : zCS "SixFellows$Tape" 129 y_Tp_nameOfSort b_Tp_nameOfSort 1 (some (.object "java/lang/String")) 1 := ⟨zin 604 (by decide +kernel) rfl, zin 605 (by decide +kernel) rfl, zin 67 (by decide +kernel) rfl, hk_Tp_nameOfSort, ⟨by decide, by decide, by decide +kernel⟩, by decide⟩
theorem k_Tp_142 : zCN "SixFellows$Tape" 142 y_Sx_isWithin b_Sx_isWithin 3 (some .boolean) 3 := ⟨⟨"SixFellows", by decide +kernel⟩, zin 226 (by decide +kernel) rfl, zin 65 (by decide +kernel) rfl, hk_Sx_isWithin, ⟨by decide, by decide, by decide +kernel⟩, by decide⟩
theorem k_Tp_146 : zCV "SixFellows$Tape" 146 y_St_length b_St_length 1 (some .int) 0 := ⟨zin 548 (by decide +kernel) rfl, zin 549 (by decide +kernel) rfl, zin 550 (by decide +kernel) rfl, zin 73 (by decide +kernel) rfl, hk_St_length, ⟨by decide, by decide, by decide +kernel⟩, by decide⟩
theorem k_Tp_151 : zCV "SixFellows$Tape" 151 y_St_charAt b_St_charAt 2 (some .char) 1 := ⟨zin 558 (by decide +kernel) rfl, zin 559 (by decide +kernel) rfl, zin 560 (by decide +kernel) rfl, zin 73 (by decide +kernel) rfl, hk_St_charAt, ⟨by decide, by decide, by decide +kernel⟩, by decide⟩
theorem k_Tp_155 : zCS "SixFellows$Tape" 155 y_Tp_isLetter b_Tp_isLetter 1 (some .boolean) 1 := ⟨zin 532 (by decide +kernel) rfl, zin 533 (by decide +kernel) rfl, zin 67 (by decide +kernel) rfl, hk_Tp_isLetter, ⟨by decide, by decide, by decide +kernel⟩, by decide⟩
theorem k_Tp_159 : zCS "SixFellows$Tape" 159 y_Tp_isDigit b_Tp_isDigit 1 (some .boolean) 1 := ⟨zin 535 (by decide +kernel) rfl, zin 536 (by decide +kernel) rfl, zin 67 (by decide +kernel) rfl, hk_Tp_isDigit, ⟨by decide, by decide, by decide +kernel⟩, by decide⟩
theorem k_Lw_13 : zCV "SixFellowsLaw" 13 y_Sx_fellow b_Sx_fellow 3 (some .int) 2 := ⟨zin 218 (by decide +kernel) rfl, zin 219 (by decide +kernel) rfl, zin 220 (by decide +kernel) rfl, zin 65 (by decide +kernel) rfl, hk_Sx_fellow, ⟨by decide, by decide, by decide +kernel⟩, by decide⟩
theorem k_Lw_17 : zCV "SixFellowsLaw" 17 y_Mo_fellow b_Mo_fellow 3 (some .int) 2 := ⟨zin 806 (by decide +kernel) rfl, zin 807 (by decide +kernel) rfl, zin 808 (by decide +kernel) rfl, zin 69 (by decide +kernel) rfl, hk_Mo_fellow, ⟨by decide, by decide, by decide +kernel⟩, by decide⟩
theorem k_Lw_18 : zCV "SixFellowsLaw" 18 y_Sx_of b_Sx_of 3 (some .int) 2 := ⟨zin 241 (by decide +kernel) rfl, zin 242 (by decide +kernel) rfl, zin 243 (by decide +kernel) rfl, zin 65 (by decide +kernel) rfl, hk_Sx_of, ⟨by decide, by decide, by decide +kernel⟩, by decide⟩
theorem k_Lw_21 : zCV "SixFellowsLaw" 21 y_Mo_of b_Mo_of 3 (some .int) 2 := ⟨zin 833 (by decide +kernel) rfl, zin 834 (by decide +kernel) rfl, zin 835 (by decide +kernel) rfl, zin 69 (by decide +kernel) rfl, hk_Mo_of, ⟨by decide, by decide, by decide +kernel⟩, by decide⟩
theorem k_Lw_22 : zCV "SixFellowsLaw" 22 y_Sx_set b_Sx_set 6 (some .int) 3 := ⟨zin 287 (by decide +kernel) rfl, zin 288 (by decide +kernel) rfl, zin 289 (by decide +kernel) rfl, zin 65 (by decide +kernel) rfl, hk_Sx_set, ⟨by decide, by decide, by decide +kernel⟩, by decide⟩
theorem k_Lw_26 : zCV "SixFellowsLaw" 26 y_Mo_set b_Mo_set 6 (some .int) 3 := ⟨zin 870 (by decide +kernel) rfl, zin 871 (by decide +kernel) rfl, zin 872 (by decide +kernel) rfl, zin 69 (by decide +kernel) rfl, hk_Mo_set, ⟨by decide, by decide, by decide +kernel⟩, by decide⟩
theorem k_Lw_27 : zCV "SixFellowsLaw" 27 y_Sx_turn b_Sx_turn 4 (some .int) 2 := ⟨zin 298 (by decide +kernel) rfl, zin 299 (by decide +kernel) rfl, zin 300 (by decide +kernel) rfl, zin 65 (by decide +kernel) rfl, hk_Sx_turn, ⟨by decide, by decide, by decide +kernel⟩, by decide⟩
theorem k_Lw_30 : zCV "SixFellowsLaw" 30 y_Mo_turn b_Mo_turn 4 (some .int) 2 := ⟨zin 874 (by decide +kernel) rfl, zin 875 (by decide +kernel) rfl, zin 876 (by decide +kernel) rfl, zin 69 (by decide +kernel) rfl, hk_Mo_turn, ⟨by decide, by decide, by decide +kernel⟩, by decide⟩
theorem k_Lw_31 : zCV "SixFellowsLaw" 31 y_Sx_as b_Sx_as 3 (some .int) 2 := ⟨zin 302 (by decide +kernel) rfl, zin 303 (by decide +kernel) rfl, zin 304 (by decide +kernel) rfl, zin 65 (by decide +kernel) rfl, hk_Sx_as, ⟨by decide, by decide, by decide +kernel⟩, by decide⟩
theorem k_Lw_34 : zCV "SixFellowsLaw" 34 y_Mo_as b_Mo_as 3 (some .int) 2 := ⟨zin 878 (by decide +kernel) rfl, zin 879 (by decide +kernel) rfl, zin 880 (by decide +kernel) rfl, zin 69 (by decide +kernel) rfl, hk_Mo_as, ⟨by decide, by decide, by decide +kernel⟩, by decide⟩
theorem k_Lw_35 : zCV "SixFellowsLaw" 35 y_Sx_does b_Sx_does 3 (some .int) 2 := ⟨zin 308 (by decide +kernel) rfl, zin 309 (by decide +kernel) rfl, zin 310 (by decide +kernel) rfl, zin 65 (by decide +kernel) rfl, hk_Sx_does, ⟨by decide, by decide, by decide +kernel⟩, by decide⟩
theorem k_Lw_38 : zCV "SixFellowsLaw" 38 y_Mo_does b_Mo_does 3 (some .int) 2 := ⟨zin 883 (by decide +kernel) rfl, zin 884 (by decide +kernel) rfl, zin 885 (by decide +kernel) rfl, zin 69 (by decide +kernel) rfl, hk_Mo_does, ⟨by decide, by decide, by decide +kernel⟩, by decide⟩
theorem k_Lw_39 : zCV "SixFellowsLaw" 39 y_Sx_task b_Sx_task 5 (some .int) 4 := ⟨zin 318 (by decide +kernel) rfl, zin 319 (by decide +kernel) rfl, zin 320 (by decide +kernel) rfl, zin 65 (by decide +kernel) rfl, hk_Sx_task, ⟨by decide, by decide, by decide +kernel⟩, by decide⟩
theorem k_Lw_43 : zCV "SixFellowsLaw" 43 y_Mo_task b_Mo_task 5 (some .int) 4 := ⟨zin 891 (by decide +kernel) rfl, zin 892 (by decide +kernel) rfl, zin 893 (by decide +kernel) rfl, zin 69 (by decide +kernel) rfl, hk_Mo_task, ⟨by decide, by decide, by decide +kernel⟩, by decide⟩
theorem k_Lw_44 : zCV "SixFellowsLaw" 44 y_Sx_taskOf b_Sx_taskOf 5 (some .int) 2 := ⟨zin 326 (by decide +kernel) rfl, zin 327 (by decide +kernel) rfl, zin 328 (by decide +kernel) rfl, zin 65 (by decide +kernel) rfl, hk_Sx_taskOf, ⟨by decide, by decide, by decide +kernel⟩, by decide⟩
theorem k_Lw_47 : zCV "SixFellowsLaw" 47 y_Mo_taskOf b_Mo_taskOf 3 (some .int) 2 := ⟨zin 902 (by decide +kernel) rfl, zin 903 (by decide +kernel) rfl, zin 904 (by decide +kernel) rfl, zin 69 (by decide +kernel) rfl, hk_Mo_taskOf, ⟨by decide, by decide, by decide +kernel⟩, by decide⟩
theorem k_Lw_48 : zCV "SixFellowsLaw" 48 y_Sx_helps b_Sx_helps 4 (some .int) 2 := ⟨zin 358 (by decide +kernel) rfl, zin 359 (by decide +kernel) rfl, zin 360 (by decide +kernel) rfl, zin 65 (by decide +kernel) rfl, hk_Sx_helps, ⟨by decide, by decide, by decide +kernel⟩, by decide⟩
theorem k_Lw_51 : zCV "SixFellowsLaw" 51 y_Mo_helps b_Mo_helps 3 (some .int) 2 := ⟨zin 930 (by decide +kernel) rfl, zin 931 (by decide +kernel) rfl, zin 932 (by decide +kernel) rfl, zin 69 (by decide +kernel) rfl, hk_Mo_helps, ⟨by decide, by decide, by decide +kernel⟩, by decide⟩
theorem k_Lw_52 : zCV "SixFellowsLaw" 52 y_Sx_done b_Sx_done 3 (some .int) 1 := ⟨zin 363 (by decide +kernel) rfl, zin 364 (by decide +kernel) rfl, zin 365 (by decide +kernel) rfl, zin 65 (by decide +kernel) rfl, hk_Sx_done, ⟨by decide, by decide, by decide +kernel⟩, by decide⟩
theorem k_Lw_56 : zCV "SixFellowsLaw" 56 y_Mo_done b_Mo_done 4 (some .int) 1 := ⟨zin 934 (by decide +kernel) rfl, zin 935 (by decide +kernel) rfl, zin 936 (by decide +kernel) rfl, zin 69 (by decide +kernel) rfl, hk_Mo_done, ⟨by decide, by decide, by decide +kernel⟩, by decide⟩
theorem k_Lw_57 : zCV "SixFellowsLaw" 57 y_Sx_hours b_Sx_hours 2 (some .int) 1 := ⟨zin 371 (by decide +kernel) rfl, zin 372 (by decide +kernel) rfl, zin 373 (by decide +kernel) rfl, zin 65 (by decide +kernel) rfl, hk_Sx_hours, ⟨by decide, by decide, by decide +kernel⟩, by decide⟩
theorem k_Lw_60 : zCV "SixFellowsLaw" 60 y_Mo_hours b_Mo_hours 3 (some .int) 1 := ⟨zin 938 (by decide +kernel) rfl, zin 939 (by decide +kernel) rfl, zin 940 (by decide +kernel) rfl, zin 69 (by decide +kernel) rfl, hk_Mo_hours, ⟨by decide, by decide, by decide +kernel⟩, by decide⟩
theorem k_Lw_61 : zCV "SixFellowsLaw" 61 y_Sx_now b_Sx_now 3 (some .int) 1 := ⟨zin 391 (by decide +kernel) rfl, zin 392 (by decide +kernel) rfl, zin 393 (by decide +kernel) rfl, zin 65 (by decide +kernel) rfl, hk_Sx_now, ⟨by decide, by decide, by decide +kernel⟩, by decide⟩
theorem k_Lw_64 : zCV "SixFellowsLaw" 64 y_Mo_now b_Mo_now 2 (some .int) 1 := ⟨zin 951 (by decide +kernel) rfl, zin 952 (by decide +kernel) rfl, zin 953 (by decide +kernel) rfl, zin 69 (by decide +kernel) rfl, hk_Mo_now, ⟨by decide, by decide, by decide +kernel⟩, by decide⟩
theorem k_Lw_65 : zCV "SixFellowsLaw" 65 y_Sx_on b_Sx_on 2 (some .int) 1 := ⟨zin 400 (by decide +kernel) rfl, zin 401 (by decide +kernel) rfl, zin 402 (by decide +kernel) rfl, zin 65 (by decide +kernel) rfl, hk_Sx_on, ⟨by decide, by decide, by decide +kernel⟩, by decide⟩
theorem k_Lw_68 : zCV "SixFellowsLaw" 68 y_Mo_on b_Mo_on 3 (some .int) 1 := ⟨zin 971 (by decide +kernel) rfl, zin 972 (by decide +kernel) rfl, zin 973 (by decide +kernel) rfl, zin 69 (by decide +kernel) rfl, hk_Mo_on, ⟨by decide, by decide, by decide +kernel⟩, by decide⟩
theorem k_Lw_69 : zCV "SixFellowsLaw" 69 y_Sx_when b_Sx_when 3 (some .int) 1 := ⟨zin 411 (by decide +kernel) rfl, zin 412 (by decide +kernel) rfl, zin 413 (by decide +kernel) rfl, zin 65 (by decide +kernel) rfl, hk_Sx_when, ⟨by decide, by decide, by decide +kernel⟩, by decide⟩
theorem k_Lw_72 : zCV "SixFellowsLaw" 72 y_Mo_when b_Mo_when 3 (some .int) 1 := ⟨zin 979 (by decide +kernel) rfl, zin 980 (by decide +kernel) rfl, zin 981 (by decide +kernel) rfl, zin 69 (by decide +kernel) rfl, hk_Mo_when, ⟨by decide, by decide, by decide +kernel⟩, by decide⟩
theorem k_Lw_73 : zCV "SixFellowsLaw" 73 y_Sx_best b_Sx_best 5 (some .int) 0 := ⟨zin 416 (by decide +kernel) rfl, zin 417 (by decide +kernel) rfl, zin 418 (by decide +kernel) rfl, zin 65 (by decide +kernel) rfl, hk_Sx_best, ⟨by decide, by decide, by decide +kernel⟩, by decide⟩
theorem k_Lw_77 : zCV "SixFellowsLaw" 77 y_Mo_best b_Mo_best 5 (some .int) 0 := ⟨zin 984 (by decide +kernel) rfl, zin 985 (by decide +kernel) rfl, zin 986 (by decide +kernel) rfl, zin 69 (by decide +kernel) rfl, hk_Mo_best, ⟨by decide, by decide, by decide +kernel⟩, by decide⟩
theorem k_Lw_78 : zCV "SixFellowsLaw" 78 y_Sx_stand b_Sx_stand 2 (some .int) 1 := ⟨zin 420 (by decide +kernel) rfl, zin 421 (by decide +kernel) rfl, zin 422 (by decide +kernel) rfl, zin 65 (by decide +kernel) rfl, hk_Sx_stand, ⟨by decide, by decide, by decide +kernel⟩, by decide⟩
theorem k_Lw_81 : zCV "SixFellowsLaw" 81 y_Mo_stand b_Mo_stand 7 (some .int) 1 := ⟨zin 988 (by decide +kernel) rfl, zin 989 (by decide +kernel) rfl, zin 990 (by decide +kernel) rfl, zin 69 (by decide +kernel) rfl, hk_Mo_stand, ⟨by decide, by decide, by decide +kernel⟩, by decide⟩
theorem k_Lw_82 : zCV "SixFellowsLaw" 82 y_Sx_kind b_Sx_kind 2 (some .int) 1 := ⟨zin 428 (by decide +kernel) rfl, zin 429 (by decide +kernel) rfl, zin 430 (by decide +kernel) rfl, zin 65 (by decide +kernel) rfl, hk_Sx_kind, ⟨by decide, by decide, by decide +kernel⟩, by decide⟩
theorem k_Lw_85 : zCV "SixFellowsLaw" 85 y_Mo_kind b_Mo_kind 7 (some .int) 1 := ⟨zin 992 (by decide +kernel) rfl, zin 993 (by decide +kernel) rfl, zin 994 (by decide +kernel) rfl, zin 69 (by decide +kernel) rfl, hk_Mo_kind, ⟨by decide, by decide, by decide +kernel⟩, by decide⟩
theorem k_Lw_86 : zCV "SixFellowsLaw" 86 y_Sx_awake b_Sx_awake 1 (some .int) 0 := ⟨zin 432 (by decide +kernel) rfl, zin 433 (by decide +kernel) rfl, zin 434 (by decide +kernel) rfl, zin 65 (by decide +kernel) rfl, hk_Sx_awake, ⟨by decide, by decide, by decide +kernel⟩, by decide⟩
theorem k_Lw_89 : zCV "SixFellowsLaw" 89 y_Mo_awake b_Mo_awake 1 (some .int) 0 := ⟨zin 996 (by decide +kernel) rfl, zin 997 (by decide +kernel) rfl, zin 998 (by decide +kernel) rfl, zin 69 (by decide +kernel) rfl, hk_Mo_awake, ⟨by decide, by decide, by decide +kernel⟩, by decide⟩
theorem k_Lw_90 : zCV "SixFellowsLaw" 90 y_Sx_most b_Sx_most 1 (some .int) 0 := ⟨zin 446 (by decide +kernel) rfl, zin 447 (by decide +kernel) rfl, zin 448 (by decide +kernel) rfl, zin 65 (by decide +kernel) rfl, hk_Sx_most, ⟨by decide, by decide, by decide +kernel⟩, by decide⟩
theorem k_Lw_93 : zCV "SixFellowsLaw" 93 y_Mo_most b_Mo_most 1 (some .int) 0 := ⟨zin 1015 (by decide +kernel) rfl, zin 1016 (by decide +kernel) rfl, zin 1017 (by decide +kernel) rfl, zin 69 (by decide +kernel) rfl, hk_Mo_most, ⟨by decide, by decide, by decide +kernel⟩, by decide⟩
theorem k_Lw_94 : zCV "SixFellowsLaw" 94 y_Sx_fewest b_Sx_fewest 3 (some .int) 1 := ⟨zin 450 (by decide +kernel) rfl, zin 451 (by decide +kernel) rfl, zin 452 (by decide +kernel) rfl, zin 65 (by decide +kernel) rfl, hk_Sx_fewest, ⟨by decide, by decide, by decide +kernel⟩, by decide⟩
theorem k_Lw_97 : zCV "SixFellowsLaw" 97 y_Mo_fewest b_Mo_fewest 3 (some .int) 1 := ⟨zin 1019 (by decide +kernel) rfl, zin 1020 (by decide +kernel) rfl, zin 1021 (by decide +kernel) rfl, zin 69 (by decide +kernel) rfl, hk_Mo_fewest, ⟨by decide, by decide, by decide +kernel⟩, by decide⟩
theorem k_Lw_98 : zCV "SixFellowsLaw" 98 y_Sx_who b_Sx_who 3 (some .int) 1 := ⟨zin 458 (by decide +kernel) rfl, zin 459 (by decide +kernel) rfl, zin 460 (by decide +kernel) rfl, zin 65 (by decide +kernel) rfl, hk_Sx_who, ⟨by decide, by decide, by decide +kernel⟩, by decide⟩
theorem k_Lw_101 : zCV "SixFellowsLaw" 101 y_Mo_who b_Mo_who 3 (some .int) 1 := ⟨zin 1031 (by decide +kernel) rfl, zin 1032 (by decide +kernel) rfl, zin 1033 (by decide +kernel) rfl, zin 69 (by decide +kernel) rfl, hk_Mo_who, ⟨by decide, by decide, by decide +kernel⟩, by decide⟩
theorem k_Lw_102 : zCV "SixFellowsLaw" 102 y_Sx_spoils b_Sx_spoils 5 (some .int) 0 := ⟨zin 462 (by decide +kernel) rfl, zin 463 (by decide +kernel) rfl, zin 464 (by decide +kernel) rfl, zin 65 (by decide +kernel) rfl, hk_Sx_spoils, ⟨by decide, by decide, by decide +kernel⟩, by decide⟩
theorem k_Lw_105 : zCV "SixFellowsLaw" 105 y_Mo_spoils b_Mo_spoils 4 (some .int) 0 := ⟨zin 1035 (by decide +kernel) rfl, zin 1036 (by decide +kernel) rfl, zin 1037 (by decide +kernel) rfl, zin 69 (by decide +kernel) rfl, hk_Mo_spoils, ⟨by decide, by decide, by decide +kernel⟩, by decide⟩
theorem k_Lw_106 : zCV "SixFellowsLaw" 106 y_Sx_learn b_Sx_learn 7 (some .int) 0 := ⟨zin 466 (by decide +kernel) rfl, zin 467 (by decide +kernel) rfl, zin 468 (by decide +kernel) rfl, zin 65 (by decide +kernel) rfl, hk_Sx_learn, ⟨by decide, by decide, by decide +kernel⟩, by decide⟩
theorem k_Lw_109 : zCV "SixFellowsLaw" 109 y_Mo_learn b_Mo_learn 6 (some .int) 0 := ⟨zin 1039 (by decide +kernel) rfl, zin 1040 (by decide +kernel) rfl, zin 1041 (by decide +kernel) rfl, zin 69 (by decide +kernel) rfl, hk_Mo_learn, ⟨by decide, by decide, by decide +kernel⟩, by decide⟩
theorem k_Lw_110 : zCV "SixFellowsLaw" 110 y_Sx_skill b_Sx_skill 4 (some .int) 2 := ⟨zin 471 (by decide +kernel) rfl, zin 472 (by decide +kernel) rfl, zin 473 (by decide +kernel) rfl, zin 65 (by decide +kernel) rfl, hk_Sx_skill, ⟨by decide, by decide, by decide +kernel⟩, by decide⟩
theorem k_Lw_113 : zCV "SixFellowsLaw" 113 y_Mo_skill b_Mo_skill 6 (some .int) 2 := ⟨zin 1043 (by decide +kernel) rfl, zin 1044 (by decide +kernel) rfl, zin 1045 (by decide +kernel) rfl, zin 69 (by decide +kernel) rfl, hk_Mo_skill, ⟨by decide, by decide, by decide +kernel⟩, by decide⟩
theorem k_Lw_114 : zCV "SixFellowsLaw" 114 y_Sx_missed b_Sx_missed 3 (some .int) 1 := ⟨zin 475 (by decide +kernel) rfl, zin 476 (by decide +kernel) rfl, zin 477 (by decide +kernel) rfl, zin 65 (by decide +kernel) rfl, hk_Sx_missed, ⟨by decide, by decide, by decide +kernel⟩, by decide⟩
theorem k_Lw_117 : zCV "SixFellowsLaw" 117 y_Mo_missed b_Mo_missed 2 (some .int) 1 := ⟨zin 1047 (by decide +kernel) rfl, zin 1048 (by decide +kernel) rfl, zin 1049 (by decide +kernel) rfl, zin 69 (by decide +kernel) rfl, hk_Mo_missed, ⟨by decide, by decide, by decide +kernel⟩, by decide⟩
theorem k_Lw_118 : zCV "SixFellowsLaw" 118 y_Sx_share b_Sx_share 2 (some .long) 1 := ⟨zin 479 (by decide +kernel) rfl, zin 480 (by decide +kernel) rfl, zin 481 (by decide +kernel) rfl, zin 65 (by decide +kernel) rfl, hk_Sx_share, ⟨by decide, by decide, by decide +kernel⟩, by decide⟩
theorem k_Lw_122 : zCV "SixFellowsLaw" 122 y_Mo_share b_Mo_share 2 (some .long) 1 := ⟨zin 1051 (by decide +kernel) rfl, zin 1052 (by decide +kernel) rfl, zin 1053 (by decide +kernel) rfl, zin 69 (by decide +kernel) rfl, hk_Mo_share, ⟨by decide, by decide, by decide +kernel⟩, by decide⟩
theorem k_Lw_123 : zCV "SixFellowsLaw" 123 y_Sx_first b_Sx_first 3 (some .int) 0 := ⟨zin 496 (by decide +kernel) rfl, zin 497 (by decide +kernel) rfl, zin 498 (by decide +kernel) rfl, zin 65 (by decide +kernel) rfl, hk_Sx_first, ⟨by decide, by decide, by decide +kernel⟩, by decide⟩
theorem k_Lw_126 : zCV "SixFellowsLaw" 126 y_Mo_first b_Mo_first 3 (some .int) 0 := ⟨zin 1063 (by decide +kernel) rfl, zin 1064 (by decide +kernel) rfl, zin 1065 (by decide +kernel) rfl, zin 69 (by decide +kernel) rfl, hk_Mo_first, ⟨by decide, by decide, by decide +kernel⟩, by decide⟩
theorem k_Lw_127 : zCV "SixFellowsLaw" 127 y_Sx_sets b_Sx_sets 6 (some .int) 1 := ⟨zin 500 (by decide +kernel) rfl, zin 501 (by decide +kernel) rfl, zin 502 (by decide +kernel) rfl, zin 65 (by decide +kernel) rfl, hk_Sx_sets, ⟨by decide, by decide, by decide +kernel⟩, by decide⟩
theorem k_Lw_130 : zCV "SixFellowsLaw" 130 y_Mo_sets b_Mo_sets 4 (some .int) 1 := ⟨zin 1067 (by decide +kernel) rfl, zin 1068 (by decide +kernel) rfl, zin 1069 (by decide +kernel) rfl, zin 69 (by decide +kernel) rfl, hk_Mo_sets, ⟨by decide, by decide, by decide +kernel⟩, by decide⟩
theorem k_Lw_131 : zCV "SixFellowsLaw" 131 y_Sx_feed b_Sx_feed 3 (some .int) 2 := ⟨zin 504 (by decide +kernel) rfl, zin 505 (by decide +kernel) rfl, zin 506 (by decide +kernel) rfl, zin 65 (by decide +kernel) rfl, hk_Sx_feed, ⟨by decide, by decide, by decide +kernel⟩, by decide⟩
theorem k_Lw_134 : zCV "SixFellowsLaw" 134 y_Mo_feed b_Mo_feed 4 (some .int) 2 := ⟨zin 1071 (by decide +kernel) rfl, zin 1072 (by decide +kernel) rfl, zin 1073 (by decide +kernel) rfl, zin 69 (by decide +kernel) rfl, hk_Mo_feed, ⟨by decide, by decide, by decide +kernel⟩, by decide⟩
theorem k_Lw_135 : zCV "SixFellowsLaw" 135 y_Sx_wipe b_Sx_wipe 1 (some .int) 0 := ⟨zin 512 (by decide +kernel) rfl, zin 513 (by decide +kernel) rfl, zin 514 (by decide +kernel) rfl, zin 65 (by decide +kernel) rfl, hk_Sx_wipe, ⟨by decide, by decide, by decide +kernel⟩, by decide⟩
theorem k_Lw_138 : zCV "SixFellowsLaw" 138 y_Mo_wipe b_Mo_wipe 2 (some .int) 0 := ⟨zin 1075 (by decide +kernel) rfl, zin 1076 (by decide +kernel) rfl, zin 1077 (by decide +kernel) rfl, zin 69 (by decide +kernel) rfl, hk_Mo_wipe, ⟨by decide, by decide, by decide +kernel⟩, by decide⟩
theorem k_Lw_139 : zCV "SixFellowsLaw" 139 y_Sx_road b_Sx_road 2 (some .int) 0 := ⟨zin 520 (by decide +kernel) rfl, zin 521 (by decide +kernel) rfl, zin 522 (by decide +kernel) rfl, zin 65 (by decide +kernel) rfl, hk_Sx_road, ⟨by decide, by decide, by decide +kernel⟩, by decide⟩
theorem k_Lw_142 : zCV "SixFellowsLaw" 142 y_Mo_road b_Mo_road 3 (some .int) 0 := ⟨zin 1079 (by decide +kernel) rfl, zin 1080 (by decide +kernel) rfl, zin 1081 (by decide +kernel) rfl, zin 69 (by decide +kernel) rfl, hk_Mo_road, ⟨by decide, by decide, by decide +kernel⟩, by decide⟩
theorem k_Lw_143 : zCV "SixFellowsLaw" 143 y_Sx_sheet b_Sx_sheet 4 (some .int) 3 := ⟨zin 658 (by decide +kernel) rfl, zin 659 (by decide +kernel) rfl, zin 660 (by decide +kernel) rfl, zin 65 (by decide +kernel) rfl, hk_Sx_sheet, ⟨by decide, by decide, by decide +kernel⟩, by decide⟩
theorem k_Lw_146 : zCV "SixFellowsLaw" 146 y_Mo_sheet b_Mo_sheet 5 (some .int) 3 := ⟨zin 1160 (by decide +kernel) rfl, zin 1161 (by decide +kernel) rfl, zin 1162 (by decide +kernel) rfl, zin 69 (by decide +kernel) rfl, hk_Mo_sheet, ⟨by decide, by decide, by decide +kernel⟩, by decide⟩
theorem k_Lw_149 : zCV "SixFellowsLaw" 149 y_Sx_write b_Sx_write 8 (some .long) 3 := ⟨zin 673 (by decide +kernel) rfl, zin 674 (by decide +kernel) rfl, zin 675 (by decide +kernel) rfl, zin 65 (by decide +kernel) rfl, hk_Sx_write, ⟨by decide, by decide, by decide +kernel⟩, by decide⟩
theorem k_Lw_153 : zCV "SixFellowsLaw" 153 y_Mo_write b_Mo_write 7 (some .long) 3 := ⟨zin 1168 (by decide +kernel) rfl, zin 1169 (by decide +kernel) rfl, zin 1170 (by decide +kernel) rfl, zin 69 (by decide +kernel) rfl, hk_Mo_write, ⟨by decide, by decide, by decide +kernel⟩, by decide⟩
theorem k_Lw_154 : zCV "SixFellowsLaw" 154 y_Sx_copy b_Sx_copy 8 (some .int) 5 := ⟨zin 686 (by decide +kernel) rfl, zin 687 (by decide +kernel) rfl, zin 688 (by decide +kernel) rfl, zin 65 (by decide +kernel) rfl, hk_Sx_copy, ⟨by decide, by decide, by decide +kernel⟩, by decide⟩
theorem k_Lw_158 : zCV "SixFellowsLaw" 158 y_Mo_copy b_Mo_copy 7 (some .int) 5 := ⟨zin 1176 (by decide +kernel) rfl, zin 1177 (by decide +kernel) rfl, zin 1178 (by decide +kernel) rfl, zin 69 (by decide +kernel) rfl, hk_Mo_copy, ⟨by decide, by decide, by decide +kernel⟩, by decide⟩
theorem k_Lw_159 : zCV "SixFellowsLaw" 159 y_Sx_lays b_Sx_lays 7 (some .int) 1 := ⟨zin 695 (by decide +kernel) rfl, zin 696 (by decide +kernel) rfl, zin 697 (by decide +kernel) rfl, zin 65 (by decide +kernel) rfl, hk_Sx_lays, ⟨by decide, by decide, by decide +kernel⟩, by decide⟩
theorem k_Lw_162 : zCV "SixFellowsLaw" 162 y_Mo_lays b_Mo_lays 7 (some .int) 1 := ⟨zin 1184 (by decide +kernel) rfl, zin 1185 (by decide +kernel) rfl, zin 1186 (by decide +kernel) rfl, zin 69 (by decide +kernel) rfl, hk_Mo_lays, ⟨by decide, by decide, by decide +kernel⟩, by decide⟩
theorem k_Lw_163 : zCV "SixFellowsLaw" 163 y_Sx_book b_Sx_book 4 (some .int) 1 := ⟨zin 700 (by decide +kernel) rfl, zin 701 (by decide +kernel) rfl, zin 702 (by decide +kernel) rfl, zin 65 (by decide +kernel) rfl, hk_Sx_book, ⟨by decide, by decide, by decide +kernel⟩, by decide⟩
theorem k_Lw_166 : zCV "SixFellowsLaw" 166 y_Mo_book b_Mo_book 4 (some .int) 1 := ⟨zin 1193 (by decide +kernel) rfl, zin 1194 (by decide +kernel) rfl, zin 1195 (by decide +kernel) rfl, zin 69 (by decide +kernel) rfl, hk_Mo_book, ⟨by decide, by decide, by decide +kernel⟩, by decide⟩
theorem k_Lw_167 : zCV "SixFellowsLaw" 167 y_Sx_read b_Sx_read 8 (some .int) 1 := ⟨zin 704 (by decide +kernel) rfl, zin 705 (by decide +kernel) rfl, zin 706 (by decide +kernel) rfl, zin 65 (by decide +kernel) rfl, hk_Sx_read, ⟨by decide, by decide, by decide +kernel⟩, by decide⟩
theorem k_Lw_170 : zCV "SixFellowsLaw" 170 y_Mo_read b_Mo_read 6 (some .int) 1 := ⟨zin 1197 (by decide +kernel) rfl, zin 1198 (by decide +kernel) rfl, zin 1199 (by decide +kernel) rfl, zin 69 (by decide +kernel) rfl, hk_Mo_read, ⟨by decide, by decide, by decide +kernel⟩, by decide⟩
theorem k_Lw_171 : zCV "SixFellowsLaw" 171 y_Sx_image b_Sx_image 1 (some .int) 0 := ⟨zin 713 (by decide +kernel) rfl, zin 714 (by decide +kernel) rfl, zin 715 (by decide +kernel) rfl, zin 65 (by decide +kernel) rfl, hk_Sx_image, ⟨by decide, by decide, by decide +kernel⟩, by decide⟩
theorem k_Lw_174 : zCV "SixFellowsLaw" 174 y_Mo_image b_Mo_image 1 (some .int) 0 := ⟨zin 1205 (by decide +kernel) rfl, zin 1206 (by decide +kernel) rfl, zin 1207 (by decide +kernel) rfl, zin 69 (by decide +kernel) rfl, hk_Mo_image, ⟨by decide, by decide, by decide +kernel⟩, by decide⟩
theorem k_Lw_175 : zCV "SixFellowsLaw" 175 y_Sx_undo b_Sx_undo 1 (some .int) 0 := ⟨zin 717 (by decide +kernel) rfl, zin 718 (by decide +kernel) rfl, zin 719 (by decide +kernel) rfl, zin 65 (by decide +kernel) rfl, hk_Sx_undo, ⟨by decide, by decide, by decide +kernel⟩, by decide⟩
theorem k_Lw_178 : zCV "SixFellowsLaw" 178 y_Mo_undo b_Mo_undo 1 (some .int) 0 := ⟨zin 1209 (by decide +kernel) rfl, zin 1210 (by decide +kernel) rfl, zin 1211 (by decide +kernel) rfl, zin 69 (by decide +kernel) rfl, hk_Mo_undo, ⟨by decide, by decide, by decide +kernel⟩, by decide⟩
theorem k_Lw_179 : zCV "SixFellowsLaw" 179 y_Sx_tear b_Sx_tear 2 (some .int) 0 := ⟨zin 721 (by decide +kernel) rfl, zin 722 (by decide +kernel) rfl, zin 723 (by decide +kernel) rfl, zin 65 (by decide +kernel) rfl, hk_Sx_tear, ⟨by decide, by decide, by decide +kernel⟩, by decide⟩
theorem k_Lw_182 : zCV "SixFellowsLaw" 182 y_Mo_tear b_Mo_tear 2 (some .int) 0 := ⟨zin 1213 (by decide +kernel) rfl, zin 1214 (by decide +kernel) rfl, zin 1215 (by decide +kernel) rfl, zin 69 (by decide +kernel) rfl, hk_Mo_tear, ⟨by decide, by decide, by decide +kernel⟩, by decide⟩
theorem k_Lw_183 : zCV "SixFellowsLaw" 183 y_Sx_count b_Sx_count 2 (some .int) 1 := ⟨zin 725 (by decide +kernel) rfl, zin 726 (by decide +kernel) rfl, zin 727 (by decide +kernel) rfl, zin 65 (by decide +kernel) rfl, hk_Sx_count, ⟨by decide, by decide, by decide +kernel⟩, by decide⟩
theorem k_Lw_186 : zCV "SixFellowsLaw" 186 y_Mo_count b_Mo_count 5 (some .int) 1 := ⟨zin 1217 (by decide +kernel) rfl, zin 1218 (by decide +kernel) rfl, zin 1219 (by decide +kernel) rfl, zin 69 (by decide +kernel) rfl, hk_Mo_count, ⟨by decide, by decide, by decide +kernel⟩, by decide⟩
theorem k_Lw_187 : zCV "SixFellowsLaw" 187 y_Sx_status b_Sx_status 2 (some .int) 1 := ⟨zin 732 (by decide +kernel) rfl, zin 733 (by decide +kernel) rfl, zin 734 (by decide +kernel) rfl, zin 65 (by decide +kernel) rfl, hk_Sx_status, ⟨by decide, by decide, by decide +kernel⟩, by decide⟩
theorem k_Lw_190 : zCV "SixFellowsLaw" 190 y_Mo_status b_Mo_status 4 (some .int) 1 := ⟨zin 1221 (by decide +kernel) rfl, zin 1222 (by decide +kernel) rfl, zin 1223 (by decide +kernel) rfl, zin 69 (by decide +kernel) rfl, hk_Mo_status, ⟨by decide, by decide, by decide +kernel⟩, by decide⟩
theorem k_Mo_52 : zCS "SixFellowsModel" 52 y_Mo_in b_Mo_in 3 (some .boolean) 3 := ⟨zin 813 (by decide +kernel) rfl, zin 814 (by decide +kernel) rfl, zin 69 (by decide +kernel) rfl, hk_Mo_in, ⟨by decide, by decide, by decide +kernel⟩, by decide⟩
theorem k_Mo_56 : zCV "SixFellowsModel" 56 y_Mo_puts b_Mo_puts 4 none 3 := ⟨zin 829 (by decide +kernel) rfl, zin 831 (by decide +kernel) rfl, zin 21 (by decide +kernel) rfl, zin 69 (by decide +kernel) rfl, hk_Mo_puts, ⟨by decide, by decide, by decide +kernel⟩, by decide⟩
theorem k_Mo_60 : zCS "SixFellowsModel" 60 y_Mo_isKind b_Mo_isKind 1 (some .boolean) 1 := ⟨zin 810 (by decide +kernel) rfl, zin 811 (by decide +kernel) rfl, zin 69 (by decide +kernel) rfl, hk_Mo_isKind, ⟨by decide, by decide, by decide +kernel⟩, by decide⟩
theorem k_Mo_64 : zCS "SixFellowsModel" 64 y_Mo_isMile b_Mo_isMile 1 (some .boolean) 1 := ⟨zin 816 (by decide +kernel) rfl, zin 817 (by decide +kernel) rfl, zin 69 (by decide +kernel) rfl, hk_Mo_isMile, ⟨by decide, by decide, by decide +kernel⟩, by decide⟩
theorem k_Mo_67 : zCV "SixFellowsModel" 67 y_Mo_finds b_Mo_finds 2 (some .int) 1 := ⟨zin 820 (by decide +kernel) rfl, zin 822 (by decide +kernel) rfl, zin 19 (by decide +kernel) rfl, zin 69 (by decide +kernel) rfl, hk_Mo_finds, ⟨by decide, by decide, by decide +kernel⟩, by decide⟩
theorem k_Mo_72 : zCV "SixFellowsModel" 72 y_Mo_addOne b_Mo_addOne 7 none 5 := ⟨zin 825 (by decide +kernel) rfl, zin 827 (by decide +kernel) rfl, zin 20 (by decide +kernel) rfl, zin 69 (by decide +kernel) rfl, hk_Mo_addOne, ⟨by decide, by decide, by decide +kernel⟩, by decide⟩
theorem k_Mo_76 : zCV "SixFellowsModel" 76 y_Mo_its b_Mo_its 3 (some .int) 2 := ⟨zin 845 (by decide +kernel) rfl, zin 847 (by decide +kernel) rfl, zin 24 (by decide +kernel) rfl, zin 69 (by decide +kernel) rfl, hk_Mo_its, ⟨by decide, by decide, by decide +kernel⟩, by decide⟩
theorem k_Mo_80 : zCS "SixFellowsModel" 80 y_Mo_has b_Mo_has 2 (some .boolean) 2 := ⟨zin 857 (by decide +kernel) rfl, zin 858 (by decide +kernel) rfl, zin 69 (by decide +kernel) rfl, hk_Mo_has, ⟨by decide, by decide, by decide +kernel⟩, by decide⟩
theorem k_Mo_84 : zCV "SixFellowsModel" 84 y_Mo_isUp b_Mo_isUp 2 (some .boolean) 1 := ⟨zin 853 (by decide +kernel) rfl, zin 855 (by decide +kernel) rfl, zin 26 (by decide +kernel) rfl, zin 69 (by decide +kernel) rfl, hk_Mo_isUp, ⟨by decide, by decide, by decide +kernel⟩, by decide⟩
theorem k_Mo_87 : zCS "SixFellowsModel" 87 y_Mo_isUnder b_Mo_isUnder 2 (some .boolean) 2 := ⟨zin 860 (by decide +kernel) rfl, zin 861 (by decide +kernel) rfl, zin 69 (by decide +kernel) rfl, hk_Mo_isUnder, ⟨by decide, by decide, by decide +kernel⟩, by decide⟩
theorem k_Mo_90 : zCS "SixFellowsModel" 90 y_Mo_size b_Mo_size 1 (some .int) 1 := ⟨zin 863 (by decide +kernel) rfl, zin 864 (by decide +kernel) rfl, zin 69 (by decide +kernel) rfl, hk_Mo_size, ⟨by decide, by decide, by decide +kernel⟩, by decide⟩
theorem k_Mo_93 : zCV "SixFellowsModel" 93 y_Mo_isNear b_Mo_isNear 5 (some .boolean) 2 := ⟨zin 849 (by decide +kernel) rfl, zin 851 (by decide +kernel) rfl, zin 25 (by decide +kernel) rfl, zin 69 (by decide +kernel) rfl, hk_Mo_isNear, ⟨by decide, by decide, by decide +kernel⟩, by decide⟩
theorem k_Mo_96 : zCV "SixFellowsModel" 96 y_Mo_isOne b_Mo_isOne 2 (some .boolean) 1 := ⟨zin 837 (by decide +kernel) rfl, zin 839 (by decide +kernel) rfl, zin 22 (by decide +kernel) rfl, zin 69 (by decide +kernel) rfl, hk_Mo_isOne, ⟨by decide, by decide, by decide +kernel⟩, by decide⟩
theorem k_Mo_99 : zCV "SixFellowsModel" 99 y_Mo_isSpoilt b_Mo_isSpoilt 3 (some .boolean) 1 := ⟨zin 841 (by decide +kernel) rfl, zin 843 (by decide +kernel) rfl, zin 23 (by decide +kernel) rfl, zin 69 (by decide +kernel) rfl, hk_Mo_isSpoilt, ⟨by decide, by decide, by decide +kernel⟩, by decide⟩
theorem k_Mo_102 : zCV "SixFellowsModel" 102 y_Mo_paceOf b_Mo_paceOf 3 (some .int) 1 := ⟨zin 866 (by decide +kernel) rfl, zin 868 (by decide +kernel) rfl, zin 27 (by decide +kernel) rfl, zin 69 (by decide +kernel) rfl, hk_Mo_paceOf, ⟨by decide, by decide, by decide +kernel⟩, by decide⟩
theorem k_Mo_106 : zCV "SixFellowsModel" 106 y_Mo_doesIt b_Mo_doesIt 5 (some .int) 2 := ⟨zin 887 (by decide +kernel) rfl, zin 889 (by decide +kernel) rfl, zin 28 (by decide +kernel) rfl, zin 69 (by decide +kernel) rfl, hk_Mo_doesIt, ⟨by decide, by decide, by decide +kernel⟩, by decide⟩
theorem k_Mo_109 : zCS "SixFellowsModel" 109 y_Mo_isWanted b_Mo_isWanted 4 (some .boolean) 4 := ⟨zin 895 (by decide +kernel) rfl, zin 896 (by decide +kernel) rfl, zin 69 (by decide +kernel) rfl, hk_Mo_isWanted, ⟨by decide, by decide, by decide +kernel⟩, by decide⟩
theorem k_Mo_113 : zCV "SixFellowsModel" 113 y_Mo_addTask b_Mo_addTask 6 none 4 := ⟨zin 898 (by decide +kernel) rfl, zin 900 (by decide +kernel) rfl, zin 29 (by decide +kernel) rfl, zin 69 (by decide +kernel) rfl, hk_Mo_addTask, ⟨by decide, by decide, by decide +kernel⟩, by decide⟩
theorem k_Mo_117 : zCV "SixFellowsModel" 117 y_Mo_asks b_Mo_asks 3 (some .int) 2 := ⟨zin 918 (by decide +kernel) rfl, zin 920 (by decide +kernel) rfl, zin 33 (by decide +kernel) rfl, zin 69 (by decide +kernel) rfl, hk_Mo_asks, ⟨by decide, by decide, by decide +kernel⟩, by decide⟩
theorem k_Mo_120 : zCV "SixFellowsModel" 120 y_Mo_helpsIt b_Mo_helpsIt 5 (some .int) 2 := ⟨zin 914 (by decide +kernel) rfl, zin 916 (by decide +kernel) rfl, zin 32 (by decide +kernel) rfl, zin 69 (by decide +kernel) rfl, hk_Mo_helpsIt, ⟨by decide, by decide, by decide +kernel⟩, by decide⟩
theorem k_Mo_123 : zCV "SixFellowsModel" 123 y_Mo_helpOf b_Mo_helpOf 4 (some .int) 1 := ⟨zin 910 (by decide +kernel) rfl, zin 912 (by decide +kernel) rfl, zin 31 (by decide +kernel) rfl, zin 69 (by decide +kernel) rfl, hk_Mo_helpOf, ⟨by decide, by decide, by decide +kernel⟩, by decide⟩
theorem k_Mo_126 : zCV "SixFellowsModel" 126 y_Mo_isTask b_Mo_isTask 2 (some .boolean) 1 := ⟨zin 906 (by decide +kernel) rfl, zin 908 (by decide +kernel) rfl, zin 30 (by decide +kernel) rfl, zin 69 (by decide +kernel) rfl, hk_Mo_isTask, ⟨by decide, by decide, by decide +kernel⟩, by decide⟩
theorem k_Mo_129 : zCV "SixFellowsModel" 129 y_Mo_isMet b_Mo_isMet 2 (some .boolean) 1 := ⟨zin 922 (by decide +kernel) rfl, zin 924 (by decide +kernel) rfl, zin 34 (by decide +kernel) rfl, zin 69 (by decide +kernel) rfl, hk_Mo_isMet, ⟨by decide, by decide, by decide +kernel⟩, by decide⟩
theorem k_Mo_132 : zCV "SixFellowsModel" 132 y_Mo_helpers b_Mo_helpers 4 (some .int) 1 := ⟨zin 926 (by decide +kernel) rfl, zin 928 (by decide +kernel) rfl, zin 35 (by decide +kernel) rfl, zin 69 (by decide +kernel) rfl, hk_Mo_helpers, ⟨by decide, by decide, by decide +kernel⟩, by decide⟩
theorem k_Mo_135 : zCV "SixFellowsModel" 135 y_Mo_earned b_Mo_earned 3 (some .int) 0 := ⟨zin 947 (by decide +kernel) rfl, zin 949 (by decide +kernel) rfl, zin 37 (by decide +kernel) rfl, zin 69 (by decide +kernel) rfl, hk_Mo_earned, ⟨by decide, by decide, by decide +kernel⟩, by decide⟩
theorem k_Mo_140 : zCV "SixFellowsModel" 140 y_Mo_oneHour b_Mo_oneHour 4 none 0 := ⟨zin 943 (by decide +kernel) rfl, zin 945 (by decide +kernel) rfl, zin 36 (by decide +kernel) rfl, zin 69 (by decide +kernel) rfl, hk_Mo_oneHour, ⟨by decide, by decide, by decide +kernel⟩, by decide⟩
theorem k_Mo_143 : zCV "SixFellowsModel" 143 y_Mo_metNow b_Mo_metNow 3 (some .int) 0 := ⟨zin 955 (by decide +kernel) rfl, zin 957 (by decide +kernel) rfl, zin 38 (by decide +kernel) rfl, zin 69 (by decide +kernel) rfl, hk_Mo_metNow, ⟨by decide, by decide, by decide +kernel⟩, by decide⟩
theorem k_Mo_146 : zCV "SixFellowsModel" 146 y_Mo_sleepers b_Mo_sleepers 3 (some .int) 0 := ⟨zin 959 (by decide +kernel) rfl, zin 961 (by decide +kernel) rfl, zin 39 (by decide +kernel) rfl, zin 69 (by decide +kernel) rfl, hk_Mo_sleepers, ⟨by decide, by decide, by decide +kernel⟩, by decide⟩
theorem k_Mo_149 : zCV "SixFellowsModel" 149 y_Mo_spoiltOnes b_Mo_spoiltOnes 3 (some .int) 0 := ⟨zin 963 (by decide +kernel) rfl, zin 965 (by decide +kernel) rfl, zin 40 (by decide +kernel) rfl, zin 69 (by decide +kernel) rfl, hk_Mo_spoiltOnes, ⟨by decide, by decide, by decide +kernel⟩, by decide⟩
theorem k_Mo_152 : zCV "SixFellowsModel" 152 y_Mo_span b_Mo_span 4 (some .int) 0 := ⟨zin 967 (by decide +kernel) rfl, zin 969 (by decide +kernel) rfl, zin 41 (by decide +kernel) rfl, zin 69 (by decide +kernel) rfl, hk_Mo_span, ⟨by decide, by decide, by decide +kernel⟩, by decide⟩
theorem k_Mo_155 : zCV "SixFellowsModel" 155 y_Mo_moveAll b_Mo_moveAll 4 none 2 := ⟨zin 975 (by decide +kernel) rfl, zin 977 (by decide +kernel) rfl, zin 42 (by decide +kernel) rfl, zin 69 (by decide +kernel) rfl, hk_Mo_moveAll, ⟨by decide, by decide, by decide +kernel⟩, by decide⟩
theorem k_Mo_160 : zCV "SixFellowsModel" 160 y_Mo_awakeOnes b_Mo_awakeOnes 1 (some .int) 0 := ⟨zin 1004 (by decide +kernel) rfl, zin 1006 (by decide +kernel) rfl, zin 44 (by decide +kernel) rfl, zin 69 (by decide +kernel) rfl, hk_Mo_awakeOnes, ⟨by decide, by decide, by decide +kernel⟩, by decide⟩
theorem k_Mo_163 : zCV "SixFellowsModel" 163 y_Mo_earnedBy b_Mo_earnedBy 3 (some .int) 1 := ⟨zin 1008 (by decide +kernel) rfl, zin 1010 (by decide +kernel) rfl, zin 45 (by decide +kernel) rfl, zin 69 (by decide +kernel) rfl, hk_Mo_earnedBy, ⟨by decide, by decide, by decide +kernel⟩, by decide⟩
theorem k_Mo_166 : zCS "SixFellowsModel" 166 y_Mo_bits b_Mo_bits 3 (some .int) 1 := ⟨zin 1012 (by decide +kernel) rfl, zin 1013 (by decide +kernel) rfl, zin 69 (by decide +kernel) rfl, hk_Mo_bits, ⟨by decide, by decide, by decide +kernel⟩, by decide⟩
theorem k_Mo_169 : zCV "SixFellowsModel" 169 y_Mo_bestSet b_Mo_bestSet 6 (some .int) 0 := ⟨zin 1000 (by decide +kernel) rfl, zin 1002 (by decide +kernel) rfl, zin 43 (by decide +kernel) rfl, zin 69 (by decide +kernel) rfl, hk_Mo_bestSet, ⟨by decide, by decide, by decide +kernel⟩, by decide⟩
theorem k_Mo_172 : zCV "SixFellowsModel" 172 y_Mo_isMetBy b_Mo_isMetBy 4 (some .boolean) 2 := ⟨zin 1027 (by decide +kernel) rfl, zin 1029 (by decide +kernel) rfl, zin 47 (by decide +kernel) rfl, zin 69 (by decide +kernel) rfl, hk_Mo_isMetBy, ⟨by decide, by decide, by decide +kernel⟩, by decide⟩
theorem k_Mo_175 : zCV "SixFellowsModel" 175 y_Mo_leastSet b_Mo_leastSet 6 (some .int) 1 := ⟨zin 1023 (by decide +kernel) rfl, zin 1025 (by decide +kernel) rfl, zin 46 (by decide +kernel) rfl, zin 69 (by decide +kernel) rfl, hk_Mo_leastSet, ⟨by decide, by decide, by decide +kernel⟩, by decide⟩
theorem k_Mo_178 : zCS "SixFellowsModel" 178 y_Mo_ordersOf b_Mo_ordersOf 5 (some .long) 2 := ⟨zin 1059 (by decide +kernel) rfl, zin 1060 (by decide +kernel) rfl, zin 69 (by decide +kernel) rfl, hk_Mo_ordersOf, ⟨by decide, by decide, by decide +kernel⟩, by decide⟩
theorem k_Mo_184 : zCV "SixFellowsModel" 184 y_Mo_findShares b_Mo_findShares 8 none 0 := ⟨zin 1055 (by decide +kernel) rfl, zin 1057 (by decide +kernel) rfl, zin 48 (by decide +kernel) rfl, zin 69 (by decide +kernel) rfl, hk_Mo_findShares, ⟨by decide, by decide, by decide +kernel⟩, by decide⟩
theorem k_Mo_196 : zCV "SixFellowsModel" 196 y_Mo_byteAt b_Mo_byteAt 2 (some .int) 1 := ⟨zin 1087 (by decide +kernel) rfl, zin 1089 (by decide +kernel) rfl, zin 50 (by decide +kernel) rfl, zin 69 (by decide +kernel) rfl, hk_Mo_byteAt, ⟨by decide, by decide, by decide +kernel⟩, by decide⟩
theorem k_Mo_199 : zCS "SixFellowsModel" 199 y_Mo_isLetter b_Mo_isLetter 1 (some .boolean) 1 := ⟨zin 1091 (by decide +kernel) rfl, zin 1092 (by decide +kernel) rfl, zin 69 (by decide +kernel) rfl, hk_Mo_isLetter, ⟨by decide, by decide, by decide +kernel⟩, by decide⟩
theorem k_Mo_202 : zCS "SixFellowsModel" 202 y_Mo_isDigit b_Mo_isDigit 1 (some .boolean) 1 := ⟨zin 1094 (by decide +kernel) rfl, zin 1095 (by decide +kernel) rfl, zin 69 (by decide +kernel) rfl, hk_Mo_isDigit, ⟨by decide, by decide, by decide +kernel⟩, by decide⟩
theorem k_Mo_223 : zCV "SixFellowsModel" 223 y_Mo_isWord b_Mo_isWord 3 (some .boolean) 1 := ⟨zin 1109 (by decide +kernel) rfl, zin 1111 (by decide +kernel) rfl, zin 53 (by decide +kernel) rfl, zin 69 (by decide +kernel) rfl, hk_Mo_isWord, ⟨by decide, by decide, by decide +kernel⟩, by decide⟩
theorem k_Mo_251 : zCV "SixFellowsModel" 251 y_Mo_advance b_Mo_advance 2 none 0 := ⟨zin 1083 (by decide +kernel) rfl, zin 1085 (by decide +kernel) rfl, zin 49 (by decide +kernel) rfl, zin 69 (by decide +kernel) rfl, hk_Mo_advance, ⟨by decide, by decide, by decide +kernel⟩, by decide⟩
theorem k_Mo_254 : zCV "SixFellowsModel" 254 y_Mo_wantNumber b_Mo_wantNumber 4 (some .int) 2 := ⟨zin 1127 (by decide +kernel) rfl, zin 1129 (by decide +kernel) rfl, zin 56 (by decide +kernel) rfl, zin 69 (by decide +kernel) rfl, hk_Mo_wantNumber, ⟨by decide, by decide, by decide +kernel⟩, by decide⟩
theorem k_Mo_259 : zCV "SixFellowsModel" 259 y_Mo_wantAfter b_Mo_wantAfter 5 (some .int) 3 := ⟨zin 1123 (by decide +kernel) rfl, zin 1125 (by decide +kernel) rfl, zin 55 (by decide +kernel) rfl, zin 69 (by decide +kernel) rfl, hk_Mo_wantAfter, ⟨by decide, by decide, by decide +kernel⟩, by decide⟩
theorem k_Mo_265 : zCV "SixFellowsModel" 265 y_Mo_mayWant b_Mo_mayWant 6 (some .int) 4 := ⟨zin 1132 (by decide +kernel) rfl, zin 1134 (by decide +kernel) rfl, zin 57 (by decide +kernel) rfl, zin 69 (by decide +kernel) rfl, hk_Mo_mayWant, ⟨by decide, by decide, by decide +kernel⟩, by decide⟩
theorem k_Mo_273 : zCV "SixFellowsModel" 273 y_Mo_sortHere b_Mo_sortHere 1 (some .int) 0 := ⟨zin 1143 (by decide +kernel) rfl, zin 1145 (by decide +kernel) rfl, zin 59 (by decide +kernel) rfl, zin 69 (by decide +kernel) rfl, hk_Mo_sortHere, ⟨by decide, by decide, by decide +kernel⟩, by decide⟩
theorem k_Mo_280 : zCV "SixFellowsModel" 280 y_Mo_kindHere b_Mo_kindHere 1 (some .int) 0 := ⟨zin 1104 (by decide +kernel) rfl, zin 1106 (by decide +kernel) rfl, zin 52 (by decide +kernel) rfl, zin 69 (by decide +kernel) rfl, hk_Mo_kindHere, ⟨by decide, by decide, by decide +kernel⟩, by decide⟩
theorem k_Mo_283 : zCV "SixFellowsModel" 283 y_Mo_wantFellow b_Mo_wantFellow 6 none 1 := ⟨zin 1118 (by decide +kernel) rfl, zin 1120 (by decide +kernel) rfl, zin 54 (by decide +kernel) rfl, zin 69 (by decide +kernel) rfl, hk_Mo_wantFellow, ⟨by decide, by decide, by decide +kernel⟩, by decide⟩
theorem k_Mo_289 : zCV "SixFellowsModel" 289 y_Mo_wantTask b_Mo_wantTask 5 none 0 := ⟨zin 1139 (by decide +kernel) rfl, zin 1141 (by decide +kernel) rfl, zin 58 (by decide +kernel) rfl, zin 69 (by decide +kernel) rfl, hk_Mo_wantTask, ⟨by decide, by decide, by decide +kernel⟩, by decide⟩
theorem k_Mo_294 : zCV "SixFellowsModel" 294 y_Mo_wantSleep b_Mo_wantSleep 3 none 1 := ⟨zin 1155 (by decide +kernel) rfl, zin 1157 (by decide +kernel) rfl, zin 60 (by decide +kernel) rfl, zin 69 (by decide +kernel) rfl, hk_Mo_wantSleep, ⟨by decide, by decide, by decide +kernel⟩, by decide⟩
theorem k_Mo_299 : zCV "SixFellowsModel" 299 y_Mo_wantItem b_Mo_wantItem 1 none 0 := ⟨zin 1100 (by decide +kernel) rfl, zin 1102 (by decide +kernel) rfl, zin 51 (by decide +kernel) rfl, zin 69 (by decide +kernel) rfl, hk_Mo_wantItem, ⟨by decide, by decide, by decide +kernel⟩, by decide⟩
theorem k_Mo_302 : zCS "SixFellowsModel" 302 y_Mo_isSheet b_Mo_isSheet 1 (some .boolean) 1 := ⟨zin 1164 (by decide +kernel) rfl, zin 1165 (by decide +kernel) rfl, zin 69 (by decide +kernel) rfl, hk_Mo_isSheet, ⟨by decide, by decide, by decide +kernel⟩, by decide⟩
theorem k_Mo_307 : zCS "SixFellowsModel" 307 y_Mo_narrow b_Mo_narrow 3 (some .long) 2 := ⟨zin 1173 (by decide +kernel) rfl, zin 1174 (by decide +kernel) rfl, zin 69 (by decide +kernel) rfl, hk_Mo_narrow, ⟨by decide, by decide, by decide +kernel⟩, by decide⟩
theorem k_Mo_311 : zCV "SixFellowsModel" 311 y_Mo_isPart b_Mo_isPart 4 (some .boolean) 3 := ⟨zin 1180 (by decide +kernel) rfl, zin 1182 (by decide +kernel) rfl, zin 61 (by decide +kernel) rfl, zin 69 (by decide +kernel) rfl, hk_Mo_isPart, ⟨by decide, by decide, by decide +kernel⟩, by decide⟩
theorem k_Mo_314 : zCV "SixFellowsModel" 314 y_Mo_badSheet b_Mo_badSheet 2 (some .int) 1 := ⟨zin 1188 (by decide +kernel) rfl, zin 1190 (by decide +kernel) rfl, zin 62 (by decide +kernel) rfl, zin 69 (by decide +kernel) rfl, hk_Mo_badSheet, ⟨by decide, by decide, by decide +kernel⟩, by decide⟩
theorem k_Mo_319 : zCV "SixFellowsModel" 319 y_Mo_isSo b_Mo_isSo 4 (some .boolean) 1 := ⟨zin 1201 (by decide +kernel) rfl, zin 1203 (by decide +kernel) rfl, zin 63 (by decide +kernel) rfl, zin 69 (by decide +kernel) rfl, hk_Mo_isSo, ⟨by decide, by decide, by decide +kernel⟩, by decide⟩
theorem k_St_335 : zCV "java/lang/String" 335 y_St_coder b_St_coder 1 (some .byte) 0 := ⟨zin 552 (by decide +kernel) rfl, zin 553 (by decide +kernel) rfl, zin 554 (by decide +kernel) rfl, zin 73 (by decide +kernel) rfl, hk_St_coder, ⟨by decide, by decide, by decide +kernel⟩, by decide⟩
theorem k_St_492 : zCV "java/lang/String" 492 y_St_isLatin1 b_St_isLatin1 1 (some .boolean) 0 := ⟨zin 562 (by decide +kernel) rfl, zin 563 (by decide +kernel) rfl, zin 564 (by decide +kernel) rfl, zin 73 (by decide +kernel) rfl, hk_St_isLatin1, ⟨by decide, by decide, by decide +kernel⟩, by decide⟩
theorem k_St_495 : zCS "java/lang/String" 495 y_Sl_charAt b_Sl_charAt 2 (some .char) 2 := ⟨zin 566 (by decide +kernel) rfl, zin 567 (by decide +kernel) rfl, zin 74 (by decide +kernel) rfl, hk_Sl_charAt, ⟨by decide, by decide, by decide +kernel⟩, by decide⟩
theorem k_Sl_9 : zCS "java/lang/StringLatin1" 9 y_St_checkIndex b_St_checkIndex 2 none 2 := ⟨zin 569 (by decide +kernel) rfl, zin 570 (by decide +kernel) rfl, zin 73 (by decide +kernel) rfl, hk_St_checkIndex, ⟨by decide, by decide, by decide +kernel⟩, by decide⟩
theorem k_Su_414 : zCS "java/lang/StringUTF16" 414 y_St_checkIndex b_St_checkIndex 2 none 2 := ⟨zin 586 (by decide +kernel) rfl, zin 570 (by decide +kernel) rfl, zin 73 (by decide +kernel) rfl, hk_St_checkIndex, ⟨by decide, by decide, by decide +kernel⟩, by decide⟩
theorem k_Sx_202 : Cond.methodLink "SixFellows" 202 Lib.Math.min.name ∈ zT ∧ Cond.static Lib.Math.min.name ∈ zT ∧ Cond.initialized "java/lang/Math" ∈ zT ∧ Cond.code Lib.Math.min.name Lib.Math.min.code 2 (some .int) ∈ zT := ⟨zin 470 (by decide +kernel) rfl, zin 381 (by decide +kernel) rfl, zin 70 (by decide +kernel) rfl, zin 382 (by decide +kernel) rfl⟩
theorem k_Sx_264 : Cond.methodLink "SixFellows" 264 arraycopyName ∈ zT ∧ Cond.native arraycopyName ∈ zT ∧ Cond.static arraycopyName ∈ zT ∧ Cond.initialized "java/lang/System" ∈ zT := ⟨zin 694 (by decide +kernel) rfl, zin 410 (by decide +kernel) rfl, zin 409 (by decide +kernel) rfl, zin 71 (by decide +kernel) rfl⟩
theorem k_Rd_49 : Cond.methodLink "SixFellows$Road" 49 arraycopyName ∈ zT ∧ Cond.native arraycopyName ∈ zT ∧ Cond.static arraycopyName ∈ zT ∧ Cond.initialized "java/lang/System" ∈ zT := ⟨zin 408 (by decide +kernel) rfl, zin 410 (by decide +kernel) rfl, zin 409 (by decide +kernel) rfl, zin 71 (by decide +kernel) rfl⟩
theorem k_Rd_70 : Cond.methodLink "SixFellows$Road" 70 Lib.Math.abs.name ∈ zT ∧ Cond.static Lib.Math.abs.name ∈ zT ∧ Cond.initialized "java/lang/Math" ∈ zT ∧ Cond.code Lib.Math.abs.name Lib.Math.abs.code 1 (some .int) ∈ zT := ⟨zin 273 (by decide +kernel) rfl, zin 274 (by decide +kernel) rfl, zin 70 (by decide +kernel) rfl, zin 275 (by decide +kernel) rfl⟩
theorem k_Rd_82 : Cond.methodLink "SixFellows$Road" 82 Lib.Math.max.name ∈ zT ∧ Cond.static Lib.Math.max.name ∈ zT ∧ Cond.initialized "java/lang/Math" ∈ zT ∧ Cond.code Lib.Math.max.name Lib.Math.max.code 2 (some .int) ∈ zT := ⟨zin 284 (by decide +kernel) rfl, zin 285 (by decide +kernel) rfl, zin 70 (by decide +kernel) rfl, zin 286 (by decide +kernel) rfl⟩
theorem k_Rd_102 : Cond.methodLink "SixFellows$Road" 102 Lib.Math.min.name ∈ zT ∧ Cond.static Lib.Math.min.name ∈ zT ∧ Cond.initialized "java/lang/Math" ∈ zT ∧ Cond.code Lib.Math.min.name Lib.Math.min.code 2 (some .int) ∈ zT := ⟨zin 380 (by decide +kernel) rfl, zin 381 (by decide +kernel) rfl, zin 70 (by decide +kernel) rfl, zin 382 (by decide +kernel) rfl⟩
theorem k_Sh_28 : Cond.methodLink "SixFellows$Sheet" 28 Lib.Math.min.name ∈ zT ∧ Cond.static Lib.Math.min.name ∈ zT ∧ Cond.initialized "java/lang/Math" ∈ zT ∧ Cond.code Lib.Math.min.name Lib.Math.min.code 2 (some .int) ∈ zT := ⟨zin 712 (by decide +kernel) rfl, zin 381 (by decide +kernel) rfl, zin 70 (by decide +kernel) rfl, zin 382 (by decide +kernel) rfl⟩
theorem k_Tp_162 : Cond.methodLink "SixFellows$Tape" 162 Lib.Math.min.name ∈ zT ∧ Cond.static Lib.Math.min.name ∈ zT ∧ Cond.initialized "java/lang/Math" ∈ zT ∧ Cond.code Lib.Math.min.name Lib.Math.min.code 2 (some .int) ∈ zT := ⟨zin 538 (by decide +kernel) rfl, zin 381 (by decide +kernel) rfl, zin 70 (by decide +kernel) rfl, zin 382 (by decide +kernel) rfl⟩
theorem f_Sx_9 : zFl "SixFellows" 9 T_Sx 0 := zin 193 (by decide +kernel) rfl
theorem f_Sx_16 : zFl "SixFellows" 16 T_Sx 1 := zin 194 (by decide +kernel) rfl
theorem f_Sx_20 : zFl "SixFellows" 20 T_Sx 2 := zin 195 (by decide +kernel) rfl
theorem f_Sx_23 : zFl "SixFellows" 23 T_Sx 3 := zin 196 (by decide +kernel) rfl
theorem f_Sx_29 : zFl "SixFellows" 29 T_Sx 4 := zin 197 (by decide +kernel) rfl
theorem f_Sx_36 : zFl "SixFellows" 36 T_Sx 5 := zin 198 (by decide +kernel) rfl
theorem f_Sx_40 : zFl "SixFellows" 40 T_Sx 6 := zin 199 (by decide +kernel) rfl
theorem f_Sx_43 : zFl "SixFellows" 43 T_Sx 7 := zin 200 (by decide +kernel) rfl
theorem f_Sx_59 : zFl "SixFellows" 59 T_Rd 1 := zin 95 (by decide +kernel) rfl
theorem f_Sx_71 : zFl "SixFellows" 71 T_Rd 4 := zin 103 (by decide +kernel) rfl
theorem f_Sx_74 : zFl "SixFellows" 74 T_Rd 5 := zin 105 (by decide +kernel) rfl
theorem f_Sx_77 : zFl "SixFellows" 77 T_Rd 6 := zin 107 (by decide +kernel) rfl
theorem f_Sx_80 : zFl "SixFellows" 80 T_Rd 7 := zin 110 (by decide +kernel) rfl
theorem f_Sx_83 : zFl "SixFellows" 83 T_Rd 3 := zin 101 (by decide +kernel) rfl
theorem f_Sx_125 : zFl "SixFellows" 125 T_Rd 2 := zin 99 (by decide +kernel) rfl
theorem f_Sx_138 : zFl "SixFellows" 138 T_Rd 8 := zin 113 (by decide +kernel) rfl
theorem f_Sx_141 : zFl "SixFellows" 141 T_Rd 9 := zin 115 (by decide +kernel) rfl
theorem f_Sx_144 : zFl "SixFellows" 144 T_Rd 10 := zin 117 (by decide +kernel) rfl
theorem f_Sx_147 : zFl "SixFellows" 147 T_Rd 11 := zin 119 (by decide +kernel) rfl
theorem f_Sx_166 : zFl "SixFellows" 166 T_Rd 0 := zin 93 (by decide +kernel) rfl
theorem f_Sx_217 : Cond.fieldLink "SixFellows" 217 "SixFellows" "FACTORIALS" "[I" ∈ zT := zin 492 (by decide +kernel) rfl
theorem f_Sx_220 : Cond.fieldLink "SixFellows" 220 "SixFellows" "WEIGHT_OF_ORDER" "[I" ∈ zT := zin 494 (by decide +kernel) rfl
theorem f_Sx_223 : zFl "SixFellows" 223 T_Tp 1 := zin 154 (by decide +kernel) rfl
theorem f_Sx_244 : zFl "SixFellows" 244 T_Sh 1 := zin 182 (by decide +kernel) rfl
theorem f_Sx_250 : zFl "SixFellows" 250 T_Sh 2 := zin 184 (by decide +kernel) rfl
theorem f_Sx_258 : zFl "SixFellows" 258 T_Sh 0 := zin 180 (by decide +kernel) rfl
theorem f_Sx_279 : Cond.fieldLink "SixFellows" 279 "SixFellows" "KIND_ABOVE" "[I" ∈ zT := zin 271 (by decide +kernel) rfl
theorem f_Rd_9 : zFl "SixFellows$Road" 9 T_Rd 0 := zin 92 (by decide +kernel) rfl
theorem f_Rd_15 : zFl "SixFellows$Road" 15 T_Rd 1 := zin 94 (by decide +kernel) rfl
theorem f_Rd_18 : zFl "SixFellows$Road" 18 T_Rd 2 := zin 97 (by decide +kernel) rfl
theorem f_Rd_21 : zFl "SixFellows$Road" 21 T_Rd 3 := zin 100 (by decide +kernel) rfl
theorem f_Rd_24 : zFl "SixFellows$Road" 24 T_Rd 4 := zin 102 (by decide +kernel) rfl
theorem f_Rd_28 : zFl "SixFellows$Road" 28 T_Rd 5 := zin 104 (by decide +kernel) rfl
theorem f_Rd_31 : zFl "SixFellows$Road" 31 T_Rd 6 := zin 106 (by decide +kernel) rfl
theorem f_Rd_34 : zFl "SixFellows$Road" 34 T_Rd 7 := zin 109 (by decide +kernel) rfl
theorem f_Rd_37 : zFl "SixFellows$Road" 37 T_Rd 8 := zin 112 (by decide +kernel) rfl
theorem f_Rd_40 : zFl "SixFellows$Road" 40 T_Rd 9 := zin 114 (by decide +kernel) rfl
theorem f_Rd_43 : zFl "SixFellows$Road" 43 T_Rd 10 := zin 116 (by decide +kernel) rfl
theorem f_Rd_46 : zFl "SixFellows$Road" 46 T_Rd 11 := zin 118 (by decide +kernel) rfl
theorem f_Sh_9 : zFl "SixFellows$Sheet" 9 T_Sh 0 := zin 179 (by decide +kernel) rfl
theorem f_Sh_15 : zFl "SixFellows$Sheet" 15 T_Sh 1 := zin 181 (by decide +kernel) rfl
theorem f_Sh_18 : zFl "SixFellows$Sheet" 18 T_Sh 2 := zin 183 (by decide +kernel) rfl
theorem f_Tp_9 : zFl "SixFellows$Tape" 9 T_Tp 0 := zin 152 (by decide +kernel) rfl
theorem f_Tp_15 : zFl "SixFellows$Tape" 15 T_Tp 1 := zin 153 (by decide +kernel) rfl
theorem f_Tp_19 : zFl "SixFellows$Tape" 19 T_Tp 2 := zin 155 (by decide +kernel) rfl
theorem f_Tp_22 : zFl "SixFellows$Tape" 22 T_Tp 3 := zin 156 (by decide +kernel) rfl
theorem f_Tp_25 : zFl "SixFellows$Tape" 25 T_Tp 4 := zin 157 (by decide +kernel) rfl
theorem f_Tp_28 : zFl "SixFellows$Tape" 28 T_Tp 5 := zin 158 (by decide +kernel) rfl
theorem f_Tp_62 : zFl "SixFellows$Tape" 62 T_Rd 1 := zin 96 (by decide +kernel) rfl
theorem f_Tp_85 : zFl "SixFellows$Tape" 85 T_Rd 6 := zin 108 (by decide +kernel) rfl
theorem f_Tp_90 : zFl "SixFellows$Tape" 90 T_Rd 7 := zin 111 (by decide +kernel) rfl
theorem f_Tp_99 : zFl "SixFellows$Tape" 99 T_Rd 2 := zin 98 (by decide +kernel) rfl
theorem f_Mo_7 : zFl "SixFellowsModel" 7 T_Mo 0 := zin 742 (by decide +kernel) rfl
theorem f_Mo_13 : zFl "SixFellowsModel" 13 T_Mo 1 := zin 743 (by decide +kernel) rfl
theorem f_Mo_16 : zFl "SixFellowsModel" 16 T_Mo 2 := zin 744 (by decide +kernel) rfl
theorem f_Mo_20 : zFl "SixFellowsModel" 20 T_Mo 3 := zin 745 (by decide +kernel) rfl
theorem f_Mo_23 : zFl "SixFellowsModel" 23 T_Mo 4 := zin 746 (by decide +kernel) rfl
theorem f_Mo_26 : zFl "SixFellowsModel" 26 T_Mo 5 := zin 747 (by decide +kernel) rfl
theorem f_Mo_30 : zFl "SixFellowsModel" 30 T_Mo 6 := zin 748 (by decide +kernel) rfl
theorem f_Mo_33 : zFl "SixFellowsModel" 33 T_Mo 14 := zin 756 (by decide +kernel) rfl
theorem f_Mo_36 : zFl "SixFellowsModel" 36 T_Mo 15 := zin 757 (by decide +kernel) rfl
theorem f_Mo_39 : zFl "SixFellowsModel" 39 T_Mo 16 := zin 758 (by decide +kernel) rfl
theorem f_Mo_42 : zFl "SixFellowsModel" 42 T_Mo 17 := zin 759 (by decide +kernel) rfl
theorem f_Mo_45 : zFl "SixFellowsModel" 45 T_Mo 18 := zin 760 (by decide +kernel) rfl
theorem f_Mo_48 : zFl "SixFellowsModel" 48 T_Mo 19 := zin 761 (by decide +kernel) rfl
theorem f_Mo_187 : zFl "SixFellowsModel" 187 T_Mo 7 := zin 749 (by decide +kernel) rfl
theorem f_Mo_190 : zFl "SixFellowsModel" 190 T_Mo 10 := zin 752 (by decide +kernel) rfl
theorem f_Mo_193 : zFl "SixFellowsModel" 193 T_Mo 9 := zin 751 (by decide +kernel) rfl
theorem f_Mo_205 : zFl "SixFellowsModel" 205 T_Mo 8 := zin 750 (by decide +kernel) rfl
theorem f_Mo_208 : zFl "SixFellowsModel" 208 T_Mo 11 := zin 753 (by decide +kernel) rfl
theorem f_Mo_212 : zFl "SixFellowsModel" 212 T_Mo 12 := zin 754 (by decide +kernel) rfl
theorem f_Mo_247 : zFl "SixFellowsModel" 247 T_Mo 13 := zin 755 (by decide +kernel) rfl
theorem f_Mo_322 : zFl "SixFellowsModel" 322 T_Mo 20 := zin 762 (by decide +kernel) rfl
theorem f_St_9 : Cond.fieldLink "java/lang/String" 9 "java/lang/String" "value" "[B" ∈ zT := zin 1226 (by decide +kernel) rfl
theorem f_St_15 : Cond.fieldLink "java/lang/String" 15 "java/lang/String" "coder" "B" ∈ zT := zin 1227 (by decide +kernel) rfl
theorem f_St_38 : Cond.fieldLink "java/lang/String" 38 "java/lang/String" "COMPACT_STRINGS" "Z" ∈ zT := zin 556 (by decide +kernel) rfl
theorem f_St_1053 : Cond.fieldLink "java/lang/String" 1053 "jdk/internal/util/Preconditions" "SIOOBE_FORMATTER" "Ljava/util/function/BiFunction;" ∈ zT := zin 572 (by decide +kernel) rfl
theorem c_Sx_54 : Cond.constant "SixFellows" 54 (-1000000001) ∈ zT := zin 231 (by decide +kernel) rfl
theorem c_Sx_63 : Cond.constant "SixFellows" 63 (-1000000002) ∈ zT := zin 236 (by decide +kernel) rfl
theorem c_Sx_117 : Cond.constant "SixFellows" 117 (-1000000003) ∈ zT := zin 307 (by decide +kernel) rfl
theorem c_Sx_169 : Cond.constant "SixFellows" 169 (-1000000005) ∈ zT := zin 375 (by decide +kernel) rfl
theorem c_Sx_186 : Cond.constant "SixFellows" 186 (-1000000004) ∈ zT := zin 415 (by decide +kernel) rfl
theorem c_Sx_240 : Cond.constant "SixFellows" 240 (-1000000007) ∈ zT := zin 665 (by decide +kernel) rfl
theorem c_Sx_249 : Cond.constant "SixFellows" 249 (-1000000006) ∈ zT := zin 681 (by decide +kernel) rfl
theorem c_Sx_270 : Cond.constantLong "SixFellows" 270 (30) ∈ zT := zin 699 (by decide +kernel) rfl
theorem c_Lw_147 : Cond.constantLong "SixFellowsLaw" 147 (4294967295) ∈ zT := zin 1225 (by decide +kernel) rfl
theorem c_Mo_51 : Cond.constant "SixFellowsModel" 51 (-1000000001) ∈ zT := zin 819 (by decide +kernel) rfl
theorem c_Mo_71 : Cond.constant "SixFellowsModel" 71 (-1000000002) ∈ zT := zin 824 (by decide +kernel) rfl
theorem c_Mo_105 : Cond.constant "SixFellowsModel" 105 (-1000000003) ∈ zT := zin 882 (by decide +kernel) rfl
theorem c_Mo_139 : Cond.constant "SixFellowsModel" 139 (-1000000005) ∈ zT := zin 942 (by decide +kernel) rfl
theorem c_Mo_159 : Cond.constant "SixFellowsModel" 159 (-1000000004) ∈ zT := zin 983 (by decide +kernel) rfl
theorem c_Mo_182 : Cond.constantLong "SixFellowsModel" 182 (5040) ∈ zT := zin 1062 (by decide +kernel) rfl
theorem c_Mo_215 : Cond.constantLong "SixFellowsModel" 215 (27) ∈ zT := zin 1097 (by decide +kernel) rfl
theorem c_Mo_217 : Cond.constantLong "SixFellowsModel" 217 (96) ∈ zT := zin 1098 (by decide +kernel) rfl
theorem c_Mo_219 : Cond.constantLong "SixFellowsModel" 219 (-1) ∈ zT := zin 1099 (by decide +kernel) rfl
theorem c_Mo_221 : Cond.constantLong "SixFellowsModel" 221 (88996019) ∈ zT := zin 1108 (by decide +kernel) rfl
theorem c_Mo_227 : Cond.constantLong "SixFellowsModel" 227 (269726508) ∈ zT := zin 1113 (by decide +kernel) rfl
theorem c_Mo_229 : Cond.constantLong "SixFellowsModel" 229 (126241812) ∈ zT := zin 1114 (by decide +kernel) rfl
theorem c_Mo_231 : Cond.constantLong "SixFellowsModel" 231 (35387271) ∈ zT := zin 1115 (by decide +kernel) rfl
theorem c_Mo_233 : Cond.constantLong "SixFellowsModel" 233 (174987112) ∈ zT := zin 1116 (by decide +kernel) rfl
theorem c_Mo_235 : Cond.constantLong "SixFellowsModel" 235 (115731076) ∈ zT := zin 1117 (by decide +kernel) rfl
theorem c_Mo_237 : Cond.constantLong "SixFellowsModel" 237 (13703) ∈ zT := zin 1147 (by decide +kernel) rfl
theorem c_Mo_239 : Cond.constantLong "SixFellowsModel" 239 (10266203) ∈ zT := zin 1148 (by decide +kernel) rfl
theorem c_Mo_241 : Cond.constantLong "SixFellowsModel" 241 (48542) ∈ zT := zin 1149 (by decide +kernel) rfl
theorem c_Mo_243 : Cond.constantLong "SixFellowsModel" 243 (95762147) ∈ zT := zin 1150 (by decide +kernel) rfl
theorem c_Mo_245 : Cond.constantLong "SixFellowsModel" 245 (1627639) ∈ zT := zin 1151 (by decide +kernel) rfl
theorem c_Mo_257 : Cond.constantLong "SixFellowsModel" 257 (47) ∈ zT := zin 1122 (by decide +kernel) rfl
theorem c_Mo_263 : Cond.constantLong "SixFellowsModel" 263 (148870) ∈ zT := zin 1131 (by decide +kernel) rfl
theorem c_Mo_269 : Cond.constantLong "SixFellowsModel" 269 (10320789) ∈ zT := zin 1136 (by decide +kernel) rfl
theorem c_Mo_271 : Cond.constantLong "SixFellowsModel" 271 (24686278) ∈ zT := zin 1137 (by decide +kernel) rfl
theorem c_Mo_276 : Cond.constantLong "SixFellowsModel" 276 (279346) ∈ zT := zin 1152 (by decide +kernel) rfl
theorem c_Mo_278 : Cond.constantLong "SixFellowsModel" 278 (11716) ∈ zT := zin 1153 (by decide +kernel) rfl
theorem c_Mo_287 : Cond.constantLong "SixFellowsModel" 287 (394913) ∈ zT := zin 1138 (by decide +kernel) rfl
theorem c_Mo_292 : Cond.constantLong "SixFellowsModel" 292 (453740) ∈ zT := zin 1154 (by decide +kernel) rfl
theorem c_Mo_297 : Cond.constantLong "SixFellowsModel" 297 (10337371) ∈ zT := zin 1159 (by decide +kernel) rfl
theorem c_Mo_305 : Cond.constant "SixFellowsModel" 305 (-1000000007) ∈ zT := zin 1167 (by decide +kernel) rfl
theorem c_Mo_306 : Cond.constant "SixFellowsModel" 306 (-1000000006) ∈ zT := zin 1172 (by decide +kernel) rfl
theorem c_Mo_317 : Cond.constantLong "SixFellowsModel" 317 (30) ∈ zT := zin 1192 (by decide +kernel) rfl
theorem c_In_265 : Cond.constant "java/lang/Integer" 265 (1431655765) ∈ zT := zin 443 (by decide +kernel) rfl
theorem c_In_266 : Cond.constant "java/lang/Integer" 266 (858993459) ∈ zT := zin 444 (by decide +kernel) rfl
theorem c_In_267 : Cond.constant "java/lang/Integer" 267 (252645135) ∈ zT := zin 445 (by decide +kernel) rfl
end
