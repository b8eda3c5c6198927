-- ===== PART A: goes FIRST, ahead of the names: the tables' words, and 'selects' of the private methods out of them =====
/-- a private method of a class that the tables say can be made, by its rows of tables_1 -/
def lw_okq (q : MethodName × Nat) : Prop := (q.1.cls ≠ "java/lang/invoke/MethodHandle" ∧ q.1.cls ≠ "java/lang/invoke/VarHandle") ∧ Cond.instantiable q.1.cls q.2 ∈ tables_1 ∧ Cond.privateMethod q.1 ∈ tables_1 ∧ Cond.instanceMethod q.1 ∈ tables_1
theorem lw_p0 : lw_okq (⟨"StrawMap$Text", "readItem", "(LStrawMap$Plan;)Z"⟩, 4) := ⟨⟨by decide +kernel, by decide +kernel⟩, List.mem_of_getElem? (i := 26) (by decide +kernel), List.mem_of_getElem? (i := 291) (by decide +kernel), List.mem_of_getElem? (i := 292) (by decide +kernel)⟩
theorem lw_p1 : lw_okq (⟨"StrawMap$Text", "readNumbers", "(I)Z"⟩, 4) := ⟨⟨by decide +kernel, by decide +kernel⟩, List.mem_of_getElem? (i := 26) (by decide +kernel), List.mem_of_getElem? (i := 298) (by decide +kernel), List.mem_of_getElem? (i := 299) (by decide +kernel)⟩
theorem lw_p2 : lw_okq (⟨"StrawMap$Text", "accept", "(C)Z"⟩, 4) := ⟨⟨by decide +kernel, by decide +kernel⟩, List.mem_of_getElem? (i := 26) (by decide +kernel), List.mem_of_getElem? (i := 302) (by decide +kernel), List.mem_of_getElem? (i := 303) (by decide +kernel)⟩
theorem lw_p3 : lw_okq (⟨"StrawMap$Text", "isDigitNext", "()Z"⟩, 4) := ⟨⟨by decide +kernel, by decide +kernel⟩, List.mem_of_getElem? (i := 26) (by decide +kernel), List.mem_of_getElem? (i := 306) (by decide +kernel), List.mem_of_getElem? (i := 307) (by decide +kernel)⟩
theorem lw_p4 : lw_okq (⟨"StrawMap$Text", "readDigit", "()I"⟩, 4) := ⟨⟨by decide +kernel, by decide +kernel⟩, List.mem_of_getElem? (i := 26) (by decide +kernel), List.mem_of_getElem? (i := 310) (by decide +kernel), List.mem_of_getElem? (i := 311) (by decide +kernel)⟩
theorem lw_p5 : lw_okq (⟨"StrawMap$Text", "apply", "(CLStrawMap$Plan;)Z"⟩, 4) := ⟨⟨by decide +kernel, by decide +kernel⟩, List.mem_of_getElem? (i := 26) (by decide +kernel), List.mem_of_getElem? (i := 314) (by decide +kernel), List.mem_of_getElem? (i := 315) (by decide +kernel)⟩
theorem lw_p6 : lw_okq (⟨"StrawMap$Tree", "endBelow", "(I)I"⟩, 5) := ⟨⟨by decide +kernel, by decide +kernel⟩, List.mem_of_getElem? (i := 65) (by decide +kernel), List.mem_of_getElem? (i := 374) (by decide +kernel), List.mem_of_getElem? (i := 375) (by decide +kernel)⟩
theorem lw_p7 : lw_okq (⟨"StrawMap$Tree", "firstBelow", "(I)I"⟩, 5) := ⟨⟨by decide +kernel, by decide +kernel⟩, List.mem_of_getElem? (i := 65) (by decide +kernel), List.mem_of_getElem? (i := 378) (by decide +kernel), List.mem_of_getElem? (i := 379) (by decide +kernel)⟩
theorem lw_p8 : lw_okq (⟨"StrawMap$Plan", "isAcceptable", "(II)Z"⟩, 12) := ⟨⟨by decide +kernel, by decide +kernel⟩, List.mem_of_getElem? (i := 59) (by decide +kernel), List.mem_of_getElem? (i := 398) (by decide +kernel), List.mem_of_getElem? (i := 399) (by decide +kernel)⟩
theorem lw_p9 : lw_okq (⟨"StrawMap$Plan", "isApart", "(III)Z"⟩, 12) := ⟨⟨by decide +kernel, by decide +kernel⟩, List.mem_of_getElem? (i := 59) (by decide +kernel), List.mem_of_getElem? (i := 410) (by decide +kernel), List.mem_of_getElem? (i := 411) (by decide +kernel)⟩
theorem lw_p10 : lw_okq (⟨"StrawMap$Plan", "partOf", "(I)I"⟩, 12) := ⟨⟨by decide +kernel, by decide +kernel⟩, List.mem_of_getElem? (i := 59) (by decide +kernel), List.mem_of_getElem? (i := 414) (by decide +kernel), List.mem_of_getElem? (i := 415) (by decide +kernel)⟩
theorem lw_p11 : lw_okq (⟨"StrawMap$Plan", "applyDiversions", "(I)V"⟩, 12) := ⟨⟨by decide +kernel, by decide +kernel⟩, List.mem_of_getElem? (i := 59) (by decide +kernel), List.mem_of_getElem? (i := 418) (by decide +kernel), List.mem_of_getElem? (i := 419) (by decide +kernel)⟩
theorem lw_p12 : lw_okq (⟨"StrawMap$Plan", "replaceCopy", "(III)Z"⟩, 12) := ⟨⟨by decide +kernel, by decide +kernel⟩, List.mem_of_getElem? (i := 59) (by decide +kernel), List.mem_of_getElem? (i := 422) (by decide +kernel), List.mem_of_getElem? (i := 423) (by decide +kernel)⟩
theorem lw_p13 : lw_okq (⟨"StrawMap", "beginWithTrial", "()V"⟩, 9) := ⟨⟨by decide +kernel, by decide +kernel⟩, List.mem_of_getElem? (i := 18) (by decide +kernel), List.mem_of_getElem? (i := 426) (by decide +kernel), List.mem_of_getElem? (i := 427) (by decide +kernel)⟩
theorem lw_p14 : lw_okq (⟨"StrawMap", "beginEpoch", "(LStrawMap$Plan;)V"⟩, 9) := ⟨⟨by decide +kernel, by decide +kernel⟩, List.mem_of_getElem? (i := 18) (by decide +kernel), List.mem_of_getElem? (i := 537) (by decide +kernel), List.mem_of_getElem? (i := 538) (by decide +kernel)⟩
theorem lw_p15 : lw_okq (⟨"StrawMap", "planOf", "(I)LStrawMap$Plan;"⟩, 9) := ⟨⟨by decide +kernel, by decide +kernel⟩, List.mem_of_getElem? (i := 18) (by decide +kernel), List.mem_of_getElem? (i := 614) (by decide +kernel), List.mem_of_getElem? (i := 615) (by decide +kernel)⟩
def lw_privs_1 : List (MethodName × Nat) := [(⟨"StrawMap$Text", "readItem", "(LStrawMap$Plan;)Z"⟩, 4), (⟨"StrawMap$Text", "readNumbers", "(I)Z"⟩, 4), (⟨"StrawMap$Text", "accept", "(C)Z"⟩, 4), (⟨"StrawMap$Text", "isDigitNext", "()Z"⟩, 4), (⟨"StrawMap$Text", "readDigit", "()I"⟩, 4), (⟨"StrawMap$Text", "apply", "(CLStrawMap$Plan;)Z"⟩, 4), (⟨"StrawMap$Tree", "endBelow", "(I)I"⟩, 5), (⟨"StrawMap$Tree", "firstBelow", "(I)I"⟩, 5), (⟨"StrawMap$Plan", "isAcceptable", "(II)Z"⟩, 12), (⟨"StrawMap$Plan", "isApart", "(III)Z"⟩, 12), (⟨"StrawMap$Plan", "partOf", "(I)I"⟩, 12), (⟨"StrawMap$Plan", "applyDiversions", "(I)V"⟩, 12), (⟨"StrawMap$Plan", "replaceCopy", "(III)Z"⟩, 12), (⟨"StrawMap", "beginWithTrial", "()V"⟩, 9), (⟨"StrawMap", "beginEpoch", "(LStrawMap$Plan;)V"⟩, 9), (⟨"StrawMap", "planOf", "(I)LStrawMap$Plan;"⟩, 9)]
theorem lw_r1 : ∀ q ∈ lw_privs_1, lw_okq q := List.forall_mem_cons.mpr ⟨lw_p0, List.forall_mem_cons.mpr ⟨lw_p1, List.forall_mem_cons.mpr ⟨lw_p2, List.forall_mem_cons.mpr ⟨lw_p3, List.forall_mem_cons.mpr ⟨lw_p4, List.forall_mem_cons.mpr ⟨lw_p5, List.forall_mem_cons.mpr ⟨lw_p6, List.forall_mem_cons.mpr ⟨lw_p7, List.forall_mem_cons.mpr ⟨lw_p8, List.forall_mem_cons.mpr ⟨lw_p9, List.forall_mem_cons.mpr ⟨lw_p10, List.forall_mem_cons.mpr ⟨lw_p11, List.forall_mem_cons.mpr ⟨lw_p12, List.forall_mem_cons.mpr ⟨lw_p13, List.forall_mem_cons.mpr ⟨lw_p14, List.forall_mem_cons.mpr ⟨lw_p15, fun _ h => absurd h List.not_mem_nil⟩⟩⟩⟩⟩⟩⟩⟩⟩⟩⟩⟩⟩⟩⟩⟩
theorem lw_p16 : lw_okq (⟨"StrawMap$Data", "copyOnce", "(LStrawMap$Plan;)Z"⟩, 3) := ⟨⟨by decide +kernel, by decide +kernel⟩, List.mem_of_getElem? (i := 182) (by decide +kernel), List.mem_of_getElem? (i := 733) (by decide +kernel), List.mem_of_getElem? (i := 734) (by decide +kernel)⟩
theorem lw_p17 : lw_okq (⟨"StrawMap$Data", "mostUrgent", "(LStrawMap$Plan;)I"⟩, 3) := ⟨⟨by decide +kernel, by decide +kernel⟩, List.mem_of_getElem? (i := 182) (by decide +kernel), List.mem_of_getElem? (i := 737) (by decide +kernel), List.mem_of_getElem? (i := 738) (by decide +kernel)⟩
theorem lw_p18 : lw_okq (⟨"StrawMap$Data", "isIncomplete", "(LStrawMap$Plan;I)Z"⟩, 3) := ⟨⟨by decide +kernel, by decide +kernel⟩, List.mem_of_getElem? (i := 182) (by decide +kernel), List.mem_of_getElem? (i := 741) (by decide +kernel), List.mem_of_getElem? (i := 742) (by decide +kernel)⟩
theorem lw_p19 : lw_okq (⟨"StrawMap$Data", "isWaiting", "(I)Z"⟩, 3) := ⟨⟨by decide +kernel, by decide +kernel⟩, List.mem_of_getElem? (i := 182) (by decide +kernel), List.mem_of_getElem? (i := 745) (by decide +kernel), List.mem_of_getElem? (i := 746) (by decide +kernel)⟩
theorem lw_p20 : lw_okq (⟨"StrawMap$Data", "dropSpare", "(LStrawMap$Plan;)V"⟩, 3) := ⟨⟨by decide +kernel, by decide +kernel⟩, List.mem_of_getElem? (i := 182) (by decide +kernel), List.mem_of_getElem? (i := 754) (by decide +kernel), List.mem_of_getElem? (i := 755) (by decide +kernel)⟩
theorem lw_p21 : lw_okq (⟨"StrawMapModel", "begins", "([I)V"⟩, 25) := ⟨⟨by decide +kernel, by decide +kernel⟩, List.mem_of_getElem? (i := 844) (by decide +kernel), List.mem_of_getElem? (i := 864) (by decide +kernel), List.mem_of_getElem? (i := 865) (by decide +kernel)⟩
theorem lw_p22 : lw_okq (⟨"StrawMapModel", "lays", "()V"⟩, 25) := ⟨⟨by decide +kernel, by decide +kernel⟩, List.mem_of_getElem? (i := 844) (by decide +kernel), List.mem_of_getElem? (i := 868) (by decide +kernel), List.mem_of_getElem? (i := 869) (by decide +kernel)⟩
theorem lw_p23 : lw_okq (⟨"StrawMapModel", "keeps", "()V"⟩, 25) := ⟨⟨by decide +kernel, by decide +kernel⟩, List.mem_of_getElem? (i := 844) (by decide +kernel), List.mem_of_getElem? (i := 872) (by decide +kernel), List.mem_of_getElem? (i := 873) (by decide +kernel)⟩
theorem lw_p24 : lw_okq (⟨"StrawMapModel", "placesAll", "([I)V"⟩, 25) := ⟨⟨by decide +kernel, by decide +kernel⟩, List.mem_of_getElem? (i := 844) (by decide +kernel), List.mem_of_getElem? (i := 876) (by decide +kernel), List.mem_of_getElem? (i := 877) (by decide +kernel)⟩
theorem lw_p25 : lw_okq (⟨"StrawMapModel", "weighsAll", "()V"⟩, 25) := ⟨⟨by decide +kernel, by decide +kernel⟩, List.mem_of_getElem? (i := 844) (by decide +kernel), List.mem_of_getElem? (i := 880) (by decide +kernel), List.mem_of_getElem? (i := 881) (by decide +kernel)⟩
theorem lw_p26 : lw_okq (⟨"StrawMapModel", "isNode", "(I)Z"⟩, 25) := ⟨⟨by decide +kernel, by decide +kernel⟩, List.mem_of_getElem? (i := 844) (by decide +kernel), List.mem_of_getElem? (i := 884) (by decide +kernel), List.mem_of_getElem? (i := 885) (by decide +kernel)⟩
theorem lw_p27 : lw_okq (⟨"StrawMapModel", "isHall", "(I)Z"⟩, 25) := ⟨⟨by decide +kernel, by decide +kernel⟩, List.mem_of_getElem? (i := 844) (by decide +kernel), List.mem_of_getElem? (i := 888) (by decide +kernel), List.mem_of_getElem? (i := 889) (by decide +kernel)⟩
theorem lw_p28 : lw_okq (⟨"StrawMapModel", "isIn", "(III)Z"⟩, 25) := ⟨⟨by decide +kernel, by decide +kernel⟩, List.mem_of_getElem? (i := 844) (by decide +kernel), List.mem_of_getElem? (i := 892) (by decide +kernel), List.mem_of_getElem? (i := 893) (by decide +kernel)⟩
theorem lw_p29 : lw_okq (⟨"StrawMapModel", "isRack", "(I)Z"⟩, 25) := ⟨⟨by decide +kernel, by decide +kernel⟩, List.mem_of_getElem? (i := 844) (by decide +kernel), List.mem_of_getElem? (i := 896) (by decide +kernel), List.mem_of_getElem? (i := 897) (by decide +kernel)⟩
theorem lw_p30 : lw_okq (⟨"StrawMapModel", "isDisk", "(I)Z"⟩, 25) := ⟨⟨by decide +kernel, by decide +kernel⟩, List.mem_of_getElem? (i := 844) (by decide +kernel), List.mem_of_getElem? (i := 900) (by decide +kernel), List.mem_of_getElem? (i := 901) (by decide +kernel)⟩
theorem lw_p31 : lw_okq (⟨"StrawMapModel", "weightOf", "(I)I"⟩, 25) := ⟨⟨by decide +kernel, by decide +kernel⟩, List.mem_of_getElem? (i := 844) (by decide +kernel), List.mem_of_getElem? (i := 904) (by decide +kernel), List.mem_of_getElem? (i := 905) (by decide +kernel)⟩
def lw_privs_2 : List (MethodName × Nat) := [(⟨"StrawMap$Data", "copyOnce", "(LStrawMap$Plan;)Z"⟩, 3), (⟨"StrawMap$Data", "mostUrgent", "(LStrawMap$Plan;)I"⟩, 3), (⟨"StrawMap$Data", "isIncomplete", "(LStrawMap$Plan;I)Z"⟩, 3), (⟨"StrawMap$Data", "isWaiting", "(I)Z"⟩, 3), (⟨"StrawMap$Data", "dropSpare", "(LStrawMap$Plan;)V"⟩, 3), (⟨"StrawMapModel", "begins", "([I)V"⟩, 25), (⟨"StrawMapModel", "lays", "()V"⟩, 25), (⟨"StrawMapModel", "keeps", "()V"⟩, 25), (⟨"StrawMapModel", "placesAll", "([I)V"⟩, 25), (⟨"StrawMapModel", "weighsAll", "()V"⟩, 25), (⟨"StrawMapModel", "isNode", "(I)Z"⟩, 25), (⟨"StrawMapModel", "isHall", "(I)Z"⟩, 25), (⟨"StrawMapModel", "isIn", "(III)Z"⟩, 25), (⟨"StrawMapModel", "isRack", "(I)Z"⟩, 25), (⟨"StrawMapModel", "isDisk", "(I)Z"⟩, 25), (⟨"StrawMapModel", "weightOf", "(I)I"⟩, 25)]
theorem lw_r2 : ∀ q ∈ lw_privs_2, lw_okq q := List.forall_mem_cons.mpr ⟨lw_p16, List.forall_mem_cons.mpr ⟨lw_p17, List.forall_mem_cons.mpr ⟨lw_p18, List.forall_mem_cons.mpr ⟨lw_p19, List.forall_mem_cons.mpr ⟨lw_p20, List.forall_mem_cons.mpr ⟨lw_p21, List.forall_mem_cons.mpr ⟨lw_p22, List.forall_mem_cons.mpr ⟨lw_p23, List.forall_mem_cons.mpr ⟨lw_p24, List.forall_mem_cons.mpr ⟨lw_p25, List.forall_mem_cons.mpr ⟨lw_p26, List.forall_mem_cons.mpr ⟨lw_p27, List.forall_mem_cons.mpr ⟨lw_p28, List.forall_mem_cons.mpr ⟨lw_p29, List.forall_mem_cons.mpr ⟨lw_p30, List.forall_mem_cons.mpr ⟨lw_p31, fun _ h => absurd h List.not_mem_nil⟩⟩⟩⟩⟩⟩⟩⟩⟩⟩⟩⟩⟩⟩⟩⟩
theorem lw_p32 : lw_okq (⟨"StrawMapModel", "isBelow", "(II)Z"⟩, 25) := ⟨⟨by decide +kernel, by decide +kernel⟩, List.mem_of_getElem? (i := 844) (by decide +kernel), List.mem_of_getElem? (i := 908) (by decide +kernel), List.mem_of_getElem? (i := 909) (by decide +kernel)⟩
theorem lw_p33 : lw_okq (⟨"StrawMapModel", "places", "(I)V"⟩, 25) := ⟨⟨by decide +kernel, by decide +kernel⟩, List.mem_of_getElem? (i := 844) (by decide +kernel), List.mem_of_getElem? (i := 912) (by decide +kernel), List.mem_of_getElem? (i := 913) (by decide +kernel)⟩
theorem lw_p34 : lw_okq (⟨"StrawMapModel", "takes", "(III)V"⟩, 25) := ⟨⟨by decide +kernel, by decide +kernel⟩, List.mem_of_getElem? (i := 844) (by decide +kernel), List.mem_of_getElem? (i := 916) (by decide +kernel), List.mem_of_getElem? (i := 917) (by decide +kernel)⟩
theorem lw_p35 : lw_okq (⟨"StrawMapModel", "tryOf", "(II)I"⟩, 25) := ⟨⟨by decide +kernel, by decide +kernel⟩, List.mem_of_getElem? (i := 844) (by decide +kernel), List.mem_of_getElem? (i := 920) (by decide +kernel), List.mem_of_getElem? (i := 921) (by decide +kernel)⟩
theorem lw_p36 : lw_okq (⟨"StrawMapModel", "chooses", "(III)I"⟩, 25) := ⟨⟨by decide +kernel, by decide +kernel⟩, List.mem_of_getElem? (i := 844) (by decide +kernel), List.mem_of_getElem? (i := 924) (by decide +kernel), List.mem_of_getElem? (i := 925) (by decide +kernel)⟩
theorem lw_p37 : lw_okq (⟨"StrawMapModel", "mayBe", "(II)Z"⟩, 25) := ⟨⟨by decide +kernel, by decide +kernel⟩, List.mem_of_getElem? (i := 844) (by decide +kernel), List.mem_of_getElem? (i := 928) (by decide +kernel), List.mem_of_getElem? (i := 929) (by decide +kernel)⟩
theorem lw_p38 : lw_okq (⟨"StrawMapModel", "isApart", "(II)Z"⟩, 25) := ⟨⟨by decide +kernel, by decide +kernel⟩, List.mem_of_getElem? (i := 844) (by decide +kernel), List.mem_of_getElem? (i := 932) (by decide +kernel), List.mem_of_getElem? (i := 933) (by decide +kernel)⟩
theorem lw_p39 : lw_okq (⟨"StrawMapModel", "partOf", "(I)I"⟩, 25) := ⟨⟨by decide +kernel, by decide +kernel⟩, List.mem_of_getElem? (i := 844) (by decide +kernel), List.mem_of_getElem? (i := 936) (by decide +kernel), List.mem_of_getElem? (i := 937) (by decide +kernel)⟩
theorem lw_p40 : lw_okq (⟨"StrawMapModel", "diverts", "(I)V"⟩, 25) := ⟨⟨by decide +kernel, by decide +kernel⟩, List.mem_of_getElem? (i := 844) (by decide +kernel), List.mem_of_getElem? (i := 940) (by decide +kernel), List.mem_of_getElem? (i := 941) (by decide +kernel)⟩
theorem lw_p41 : lw_okq (⟨"StrawMapModel", "placeBits", "(I)I"⟩, 25) := ⟨⟨by decide +kernel, by decide +kernel⟩, List.mem_of_getElem? (i := 844) (by decide +kernel), List.mem_of_getElem? (i := 944) (by decide +kernel), List.mem_of_getElem? (i := 945) (by decide +kernel)⟩
theorem lw_p42 : lw_okq (⟨"StrawMapModel", "reads", "()I"⟩, 25) := ⟨⟨by decide +kernel, by decide +kernel⟩, List.mem_of_getElem? (i := 844) (by decide +kernel), List.mem_of_getElem? (i := 1036) (by decide +kernel), List.mem_of_getElem? (i := 1037) (by decide +kernel)⟩
theorem lw_p43 : lw_okq (⟨"StrawMapModel", "readsItem", "(II)I"⟩, 25) := ⟨⟨by decide +kernel, by decide +kernel⟩, List.mem_of_getElem? (i := 844) (by decide +kernel), List.mem_of_getElem? (i := 1040) (by decide +kernel), List.mem_of_getElem? (i := 1041) (by decide +kernel)⟩
theorem lw_p44 : lw_okq (⟨"StrawMapModel", "readsDisk", "(I)I"⟩, 25) := ⟨⟨by decide +kernel, by decide +kernel⟩, List.mem_of_getElem? (i := 844) (by decide +kernel), List.mem_of_getElem? (i := 1044) (by decide +kernel), List.mem_of_getElem? (i := 1045) (by decide +kernel)⟩
theorem lw_p45 : lw_okq (⟨"StrawMapModel", "number", "(III)I"⟩, 25) := ⟨⟨by decide +kernel, by decide +kernel⟩, List.mem_of_getElem? (i := 844) (by decide +kernel), List.mem_of_getElem? (i := 1048) (by decide +kernel), List.mem_of_getElem? (i := 1049) (by decide +kernel)⟩
theorem lw_p46 : lw_okq (⟨"StrawMapModel", "isFigure", "(I)Z"⟩, 25) := ⟨⟨by decide +kernel, by decide +kernel⟩, List.mem_of_getElem? (i := 844) (by decide +kernel), List.mem_of_getElem? (i := 1052) (by decide +kernel), List.mem_of_getElem? (i := 1053) (by decide +kernel)⟩
theorem lw_p47 : lw_okq (⟨"StrawMapModel", "letterAt", "(I)I"⟩, 25) := ⟨⟨by decide +kernel, by decide +kernel⟩, List.mem_of_getElem? (i := 844) (by decide +kernel), List.mem_of_getElem? (i := 1056) (by decide +kernel), List.mem_of_getElem? (i := 1057) (by decide +kernel)⟩
def lw_privs_3 : List (MethodName × Nat) := [(⟨"StrawMapModel", "isBelow", "(II)Z"⟩, 25), (⟨"StrawMapModel", "places", "(I)V"⟩, 25), (⟨"StrawMapModel", "takes", "(III)V"⟩, 25), (⟨"StrawMapModel", "tryOf", "(II)I"⟩, 25), (⟨"StrawMapModel", "chooses", "(III)I"⟩, 25), (⟨"StrawMapModel", "mayBe", "(II)Z"⟩, 25), (⟨"StrawMapModel", "isApart", "(II)Z"⟩, 25), (⟨"StrawMapModel", "partOf", "(I)I"⟩, 25), (⟨"StrawMapModel", "diverts", "(I)V"⟩, 25), (⟨"StrawMapModel", "placeBits", "(I)I"⟩, 25), (⟨"StrawMapModel", "reads", "()I"⟩, 25), (⟨"StrawMapModel", "readsItem", "(II)I"⟩, 25), (⟨"StrawMapModel", "readsDisk", "(I)I"⟩, 25), (⟨"StrawMapModel", "number", "(III)I"⟩, 25), (⟨"StrawMapModel", "isFigure", "(I)Z"⟩, 25), (⟨"StrawMapModel", "letterAt", "(I)I"⟩, 25)]
theorem lw_r3 : ∀ q ∈ lw_privs_3, lw_okq q := List.forall_mem_cons.mpr ⟨lw_p32, List.forall_mem_cons.mpr ⟨lw_p33, List.forall_mem_cons.mpr ⟨lw_p34, List.forall_mem_cons.mpr ⟨lw_p35, List.forall_mem_cons.mpr ⟨lw_p36, List.forall_mem_cons.mpr ⟨lw_p37, List.forall_mem_cons.mpr ⟨lw_p38, List.forall_mem_cons.mpr ⟨lw_p39, List.forall_mem_cons.mpr ⟨lw_p40, List.forall_mem_cons.mpr ⟨lw_p41, List.forall_mem_cons.mpr ⟨lw_p42, List.forall_mem_cons.mpr ⟨lw_p43, List.forall_mem_cons.mpr ⟨lw_p44, List.forall_mem_cons.mpr ⟨lw_p45, List.forall_mem_cons.mpr ⟨lw_p46, List.forall_mem_cons.mpr ⟨lw_p47, fun _ h => absurd h List.not_mem_nil⟩⟩⟩⟩⟩⟩⟩⟩⟩⟩⟩⟩⟩⟩⟩⟩
theorem lw_p48 : lw_okq (⟨"StrawMapModel", "readsRule", "(I)I"⟩, 25) := ⟨⟨by decide +kernel, by decide +kernel⟩, List.mem_of_getElem? (i := 844) (by decide +kernel), List.mem_of_getElem? (i := 1060) (by decide +kernel), List.mem_of_getElem? (i := 1061) (by decide +kernel)⟩
theorem lw_p49 : lw_okq (⟨"StrawMapModel", "copies", "([I[I)V"⟩, 25) := ⟨⟨by decide +kernel, by decide +kernel⟩, List.mem_of_getElem? (i := 844) (by decide +kernel), List.mem_of_getElem? (i := 1068) (by decide +kernel), List.mem_of_getElem? (i := 1069) (by decide +kernel)⟩
theorem lw_p50 : lw_okq (⟨"StrawMapModel", "spreadOf", "([I)I"⟩, 25) := ⟨⟨by decide +kernel, by decide +kernel⟩, List.mem_of_getElem? (i := 844) (by decide +kernel), List.mem_of_getElem? (i := 1116) (by decide +kernel), List.mem_of_getElem? (i := 1117) (by decide +kernel)⟩
theorem lw_p51 : lw_okq (⟨"StrawMapModel", "takesPart", "(I)Z"⟩, 25) := ⟨⟨by decide +kernel, by decide +kernel⟩, List.mem_of_getElem? (i := 844) (by decide +kernel), List.mem_of_getElem? (i := 1120) (by decide +kernel), List.mem_of_getElem? (i := 1121) (by decide +kernel)⟩
theorem lw_p52 : lw_okq (⟨"StrawMapModel", "changed", "()V"⟩, 25) := ⟨⟨by decide +kernel, by decide +kernel⟩, List.mem_of_getElem? (i := 844) (by decide +kernel), List.mem_of_getElem? (i := 1138) (by decide +kernel), List.mem_of_getElem? (i := 1139) (by decide +kernel)⟩
theorem lw_p53 : lw_okq (⟨"StrawMapModel", "loadOf", "(I)I"⟩, 25) := ⟨⟨by decide +kernel, by decide +kernel⟩, List.mem_of_getElem? (i := 844) (by decide +kernel), List.mem_of_getElem? (i := 1150) (by decide +kernel), List.mem_of_getElem? (i := 1151) (by decide +kernel)⟩
theorem lw_p54 : lw_okq (⟨"StrawMapModel", "isKept", "(I)Z"⟩, 25) := ⟨⟨by decide +kernel, by decide +kernel⟩, List.mem_of_getElem? (i := 844) (by decide +kernel), List.mem_of_getElem? (i := 1182) (by decide +kernel), List.mem_of_getElem? (i := 1183) (by decide +kernel)⟩
theorem lw_p55 : lw_okq (⟨"StrawMapModel", "placesBy", "(I)V"⟩, 25) := ⟨⟨by decide +kernel, by decide +kernel⟩, List.mem_of_getElem? (i := 844) (by decide +kernel), List.mem_of_getElem? (i := 1190) (by decide +kernel), List.mem_of_getElem? (i := 1191) (by decide +kernel)⟩
theorem lw_p56 : lw_okq (⟨"StrawMapModel", "placesIf", "(II)V"⟩, 25) := ⟨⟨by decide +kernel, by decide +kernel⟩, List.mem_of_getElem? (i := 844) (by decide +kernel), List.mem_of_getElem? (i := 1202) (by decide +kernel), List.mem_of_getElem? (i := 1203) (by decide +kernel)⟩
theorem lw_p57 : lw_okq (⟨"StrawMapModel", "ticks", "(I)I"⟩, 25) := ⟨⟨by decide +kernel, by decide +kernel⟩, List.mem_of_getElem? (i := 844) (by decide +kernel), List.mem_of_getElem? (i := 1222) (by decide +kernel), List.mem_of_getElem? (i := 1223) (by decide +kernel)⟩
theorem lw_p58 : lw_okq (⟨"StrawMapModel", "pressing", "()I"⟩, 25) := ⟨⟨by decide +kernel, by decide +kernel⟩, List.mem_of_getElem? (i := 844) (by decide +kernel), List.mem_of_getElem? (i := 1226) (by decide +kernel), List.mem_of_getElem? (i := 1227) (by decide +kernel)⟩
theorem lw_p59 : lw_okq (⟨"StrawMapModel", "isWanting", "(I)Z"⟩, 25) := ⟨⟨by decide +kernel, by decide +kernel⟩, List.mem_of_getElem? (i := 844) (by decide +kernel), List.mem_of_getElem? (i := 1230) (by decide +kernel), List.mem_of_getElem? (i := 1231) (by decide +kernel)⟩
theorem lw_p60 : lw_okq (⟨"StrawMapModel", "copiesTo", "(I)V"⟩, 25) := ⟨⟨by decide +kernel, by decide +kernel⟩, List.mem_of_getElem? (i := 844) (by decide +kernel), List.mem_of_getElem? (i := 1237) (by decide +kernel), List.mem_of_getElem? (i := 1238) (by decide +kernel)⟩
theorem lw_p61 : lw_okq (⟨"StrawMapModel", "fails", "(I)I"⟩, 25) := ⟨⟨by decide +kernel, by decide +kernel⟩, List.mem_of_getElem? (i := 844) (by decide +kernel), List.mem_of_getElem? (i := 1249) (by decide +kernel), List.mem_of_getElem? (i := 1250) (by decide +kernel)⟩
theorem lw_p62 : lw_okq (⟨"StrawMapModel", "lost", "()I"⟩, 25) := ⟨⟨by decide +kernel, by decide +kernel⟩, List.mem_of_getElem? (i := 844) (by decide +kernel), List.mem_of_getElem? (i := 1270) (by decide +kernel), List.mem_of_getElem? (i := 1271) (by decide +kernel)⟩
theorem lw_p63 : lw_okq (⟨"StrawMapModel", "isAllSo", "()Z"⟩, 25) := ⟨⟨by decide +kernel, by decide +kernel⟩, List.mem_of_getElem? (i := 844) (by decide +kernel), List.mem_of_getElem? (i := 1286) (by decide +kernel), List.mem_of_getElem? (i := 1287) (by decide +kernel)⟩
def lw_privs_4 : List (MethodName × Nat) := [(⟨"StrawMapModel", "readsRule", "(I)I"⟩, 25), (⟨"StrawMapModel", "copies", "([I[I)V"⟩, 25), (⟨"StrawMapModel", "spreadOf", "([I)I"⟩, 25), (⟨"StrawMapModel", "takesPart", "(I)Z"⟩, 25), (⟨"StrawMapModel", "changed", "()V"⟩, 25), (⟨"StrawMapModel", "loadOf", "(I)I"⟩, 25), (⟨"StrawMapModel", "isKept", "(I)Z"⟩, 25), (⟨"StrawMapModel", "placesBy", "(I)V"⟩, 25), (⟨"StrawMapModel", "placesIf", "(II)V"⟩, 25), (⟨"StrawMapModel", "ticks", "(I)I"⟩, 25), (⟨"StrawMapModel", "pressing", "()I"⟩, 25), (⟨"StrawMapModel", "isWanting", "(I)Z"⟩, 25), (⟨"StrawMapModel", "copiesTo", "(I)V"⟩, 25), (⟨"StrawMapModel", "fails", "(I)I"⟩, 25), (⟨"StrawMapModel", "lost", "()I"⟩, 25), (⟨"StrawMapModel", "isAllSo", "()Z"⟩, 25)]
theorem lw_r4 : ∀ q ∈ lw_privs_4, lw_okq q := List.forall_mem_cons.mpr ⟨lw_p48, List.forall_mem_cons.mpr ⟨lw_p49, List.forall_mem_cons.mpr ⟨lw_p50, List.forall_mem_cons.mpr ⟨lw_p51, List.forall_mem_cons.mpr ⟨lw_p52, List.forall_mem_cons.mpr ⟨lw_p53, List.forall_mem_cons.mpr ⟨lw_p54, List.forall_mem_cons.mpr ⟨lw_p55, List.forall_mem_cons.mpr ⟨lw_p56, List.forall_mem_cons.mpr ⟨lw_p57, List.forall_mem_cons.mpr ⟨lw_p58, List.forall_mem_cons.mpr ⟨lw_p59, List.forall_mem_cons.mpr ⟨lw_p60, List.forall_mem_cons.mpr ⟨lw_p61, List.forall_mem_cons.mpr ⟨lw_p62, List.forall_mem_cons.mpr ⟨lw_p63, fun _ h => absurd h List.not_mem_nil⟩⟩⟩⟩⟩⟩⟩⟩⟩⟩⟩⟩⟩⟩⟩⟩
theorem lw_p64 : lw_okq (⟨"StrawMapModel", "known", "()I"⟩, 25) := ⟨⟨by decide +kernel, by decide +kernel⟩, List.mem_of_getElem? (i := 844) (by decide +kernel), List.mem_of_getElem? (i := 1294) (by decide +kernel), List.mem_of_getElem? (i := 1295) (by decide +kernel)⟩
theorem lw_p65 : lw_okq (⟨"StrawMapModel", "full", "()I"⟩, 25) := ⟨⟨by decide +kernel, by decide +kernel⟩, List.mem_of_getElem? (i := 844) (by decide +kernel), List.mem_of_getElem? (i := 1298) (by decide +kernel), List.mem_of_getElem? (i := 1299) (by decide +kernel)⟩
theorem lw_p66 : lw_okq (⟨"StrawMapModel", "groupsThat", "(I)I"⟩, 25) := ⟨⟨by decide +kernel, by decide +kernel⟩, List.mem_of_getElem? (i := 844) (by decide +kernel), List.mem_of_getElem? (i := 1302) (by decide +kernel), List.mem_of_getElem? (i := 1303) (by decide +kernel)⟩
def lw_privs_5 : List (MethodName × Nat) := [(⟨"StrawMapModel", "known", "()I"⟩, 25), (⟨"StrawMapModel", "full", "()I"⟩, 25), (⟨"StrawMapModel", "groupsThat", "(I)I"⟩, 25)]
theorem lw_r5 : ∀ q ∈ lw_privs_5, lw_okq q := List.forall_mem_cons.mpr ⟨lw_p64, List.forall_mem_cons.mpr ⟨lw_p65, List.forall_mem_cons.mpr ⟨lw_p66, fun _ h => absurd h List.not_mem_nil⟩⟩⟩
def lw_privs : List (MethodName × Nat) := lw_privs_1 ++ (lw_privs_2 ++ (lw_privs_3 ++ (lw_privs_4 ++ (lw_privs_5))))
def lw_tbl : List Cond := k2_sels lw_privs ++ tables_1
theorem lw_privs_ok : ∀ q ∈ lw_privs, lw_okq q := by
  show ∀ q ∈ lw_privs_1 ++ (lw_privs_2 ++ (lw_privs_3 ++ (lw_privs_4 ++ (lw_privs_5)))), lw_okq q
  exact List.forall_mem_append.mpr ⟨lw_r1, List.forall_mem_append.mpr ⟨lw_r2, List.forall_mem_append.mpr ⟨lw_r3, List.forall_mem_append.mpr ⟨lw_r4, lw_r5⟩⟩⟩⟩
def RX0 : String := "StrawMap$Data"
def TX0 : u_T := fun k => match k with
  | 0 => ("StrawMap$Data", "upSet", "I", false)
  | 1 => ("StrawMap$Data", "size", "[I", true)
  | _ => ("StrawMap$Data", "holders", "[I", true)
def tyX0 : Nat → FieldType := fun k => match k with
  | 0 => .int
  | 1 => .array .int
  | _ => .array .int
abbrev wsX00 : List Cond := u_ws RX0 TX0 3
theorem nmX0 : ∀ a, a < 3 → ∀ b, b < 3 → a ≠ b → (TX0 a).2.1 ≠ (TX0 b).2.1 := by decide +kernel
theorem tyX0_ok : ∀ k, k < 3 → parseFieldDescriptor (TX0 k).2.2.1 = some (tyX0 k) := by decide +kernel
abbrev cX0_init : ByteArray := prog_2_method_1_code
def yX0_init : MethodName := ⟨RX0, "<init>", "()V"⟩
abbrev cX0_begin : ByteArray := prog_2_method_2_code
def yX0_begin : MethodName := ⟨RX0, "begin", "(LStrawMap$Plan;)V"⟩
abbrev cX0_copyFrom : ByteArray := prog_2_method_3_code
def yX0_copyFrom : MethodName := ⟨RX0, "copyFrom", "(LStrawMap$Data;)V"⟩
abbrev cX0_isUp : ByteArray := prog_2_method_4_code
def yX0_isUp : MethodName := ⟨RX0, "isUp", "(I)Z"⟩
abbrev cX0_setUp : ByteArray := prog_2_method_5_code
def yX0_setUp : MethodName := ⟨RX0, "setUp", "(IZ)V"⟩
abbrev cX0_letFail : ByteArray := prog_2_method_6_code
def yX0_letFail : MethodName := ⟨RX0, "letFail", "(I)I"⟩
abbrev cX0_sizeOn : ByteArray := prog_2_method_7_code
def yX0_sizeOn : MethodName := ⟨RX0, "sizeOn", "(I[I)I"⟩
abbrev cX0_isWaiting : ByteArray := prog_2_method_8_code
def yX0_isWaiting : MethodName := ⟨RX0, "isWaiting", "(I)Z"⟩
abbrev cX0_isIncomplete : ByteArray := prog_2_method_9_code
def yX0_isIncomplete : MethodName := ⟨RX0, "isIncomplete", "(LStrawMap$Plan;I)Z"⟩
abbrev cX0_countLost : ByteArray := prog_2_method_10_code
def yX0_countLost : MethodName := ⟨RX0, "countLost", "()I"⟩
abbrev cX0_countWaiting : ByteArray := prog_2_method_11_code
def yX0_countWaiting : MethodName := ⟨RX0, "countWaiting", "()I"⟩
abbrev cX0_countIncomplete : ByteArray := prog_2_method_12_code
def yX0_countIncomplete : MethodName := ⟨RX0, "countIncomplete", "(LStrawMap$Plan;)I"⟩
abbrev cX0_serverOf : ByteArray := prog_2_method_13_code
def yX0_serverOf : MethodName := ⟨RX0, "serverOf", "(LStrawMap$Plan;I)I"⟩
abbrev cX0_firstCopyIn : ByteArray := prog_2_method_14_code
def yX0_firstCopyIn : MethodName := ⟨RX0, "firstCopyIn", "(LStrawMap$Plan;II)I"⟩
abbrev cX0_makeTick : ByteArray := prog_2_method_15_code
def yX0_makeTick : MethodName := ⟨RX0, "makeTick", "(LStrawMap$Plan;I)I"⟩
abbrev cX0_copyOnce : ByteArray := prog_2_method_16_code
def yX0_copyOnce : MethodName := ⟨RX0, "copyOnce", "(LStrawMap$Plan;)Z"⟩
abbrev cX0_mostUrgent : ByteArray := prog_2_method_17_code
def yX0_mostUrgent : MethodName := ⟨RX0, "mostUrgent", "(LStrawMap$Plan;)I"⟩
abbrev cX0_dropSpare : ByteArray := prog_2_method_18_code
def yX0_dropSpare : MethodName := ⟨RX0, "dropSpare", "(LStrawMap$Plan;)V"⟩
abbrev cX0_strike : ByteArray := prog_2_method_19_code
def yX0_strike : MethodName := ⟨RX0, "strike", "(LStrawMap$Plan;I)V"⟩
def RX1 : String := "StrawMap$Diversions"
def TX1 : u_T := fun k => match k with
  | 0 => ("StrawMap$Diversions", "number", "I", false)
  | 1 => ("StrawMap$Diversions", "ofGroup", "[I", true)
  | 2 => ("StrawMap$Diversions", "from", "[I", true)
  | 3 => ("StrawMap$Diversions", "to", "[I", true)
  | _ => ("StrawMap$Diversions", "works", "[I", true)
def tyX1 : Nat → FieldType := fun k => match k with
  | 0 => .int
  | 1 => .array .int
  | 2 => .array .int
  | 3 => .array .int
  | _ => .array .int
abbrev wsX10 : List Cond := u_ws RX1 TX1 5
theorem nmX1 : ∀ a, a < 5 → ∀ b, b < 5 → a ≠ b → (TX1 a).2.1 ≠ (TX1 b).2.1 := by decide +kernel
theorem tyX1_ok : ∀ k, k < 5 → parseFieldDescriptor (TX1 k).2.2.1 = some (tyX1 k) := by decide +kernel
abbrev cX1_init : ByteArray := prog_3_method_1_code
def yX1_init : MethodName := ⟨RX1, "<init>", "()V"⟩
abbrev cX1_copyFrom : ByteArray := prog_3_method_2_code
def yX1_copyFrom : MethodName := ⟨RX1, "copyFrom", "(LStrawMap$Diversions;)V"⟩
abbrev cX1_has : ByteArray := prog_3_method_3_code
def yX1_has : MethodName := ⟨RX1, "has", "(III)Z"⟩
abbrev cX1_add : ByteArray := prog_3_method_4_code
def yX1_add : MethodName := ⟨RX1, "add", "(III)V"⟩
abbrev cX1_removeAt : ByteArray := prog_3_method_5_code
def yX1_removeAt : MethodName := ⟨RX1, "removeAt", "(I)V"⟩
def RX2 : String := "StrawMap$Observations"
def TX2 : u_T := fun k => match k with
  | 0 => ("StrawMap$Observations", "number", "I", false)
  | 1 => ("StrawMap$Observations", "ofGroup", "[I", true)
  | 2 => ("StrawMap$Observations", "ofDisk", "[I", true)
  | _ => ("StrawMap$Observations", "has", "[Z", true)
def tyX2 : Nat → FieldType := fun k => match k with
  | 0 => .int
  | 1 => .array .int
  | 2 => .array .int
  | _ => .array .boolean
abbrev wsX20 : List Cond := u_ws RX2 TX2 4
theorem nmX2 : ∀ a, a < 4 → ∀ b, b < 4 → a ≠ b → (TX2 a).2.1 ≠ (TX2 b).2.1 := by decide +kernel
theorem tyX2_ok : ∀ k, k < 4 → parseFieldDescriptor (TX2 k).2.2.1 = some (tyX2 k) := by decide +kernel
abbrev cX2_init : ByteArray := prog_4_method_1_code
def yX2_init : MethodName := ⟨RX2, "<init>", "()V"⟩
abbrev cX2_add : ByteArray := prog_4_method_2_code
def yX2_add : MethodName := ⟨RX2, "add", "(IIZ)V"⟩
abbrev cX2_areTrueIn : ByteArray := prog_4_method_3_code
def yX2_areTrueIn : MethodName := ⟨RX2, "areTrueIn", "(LStrawMap$Plan;LStrawMap$Straws;)Z"⟩
def RX3 : String := "StrawMap$Plan"
def TX3 : u_T := fun k => match k with
  | 0 => ("StrawMap$Plan", "tree", "LStrawMap$Tree;", true)
  | 1 => ("StrawMap$Plan", "diversions", "LStrawMap$Diversions;", true)
  | 2 => ("StrawMap$Plan", "capacity", "[I", true)
  | 3 => ("StrawMap$Plan", "reweight", "[I", true)
  | 4 => ("StrawMap$Plan", "fullSet", "I", false)
  | 5 => ("StrawMap$Plan", "copies", "I", false)
  | 6 => ("StrawMap$Plan", "level", "I", false)
  | 7 => ("StrawMap$Plan", "mode", "I", false)
  | 8 => ("StrawMap$Plan", "tries", "I", false)
  | 9 => ("StrawMap$Plan", "diskOf", "[I", true)
  | 10 => ("StrawMap$Plan", "tryOf", "[I", true)
  | _ => ("StrawMap$Plan", "placed", "[I", true)
def tyX3 : Nat → FieldType := fun k => match k with
  | 0 => .object "StrawMap$Tree"
  | 1 => .object "StrawMap$Diversions"
  | 2 => .array .int
  | 3 => .array .int
  | 4 => .int
  | 5 => .int
  | 6 => .int
  | 7 => .int
  | 8 => .int
  | 9 => .array .int
  | 10 => .array .int
  | _ => .array .int
abbrev wsX30 : List Cond := u_ws RX3 TX3 12
theorem nmX3 : ∀ a, a < 12 → ∀ b, b < 12 → a ≠ b → (TX3 a).2.1 ≠ (TX3 b).2.1 := by decide +kernel
theorem tyX3_ok : ∀ k, k < 12 → parseFieldDescriptor (TX3 k).2.2.1 = some (tyX3 k) := by decide +kernel
abbrev cX3_init : ByteArray := prog_5_method_1_code
def yX3_init : MethodName := ⟨RX3, "<init>", "()V"⟩
abbrev cX3_isRule : ByteArray := prog_5_method_2_code
def yX3_isRule : MethodName := ⟨RX3, "isRule", "(III)Z"⟩
abbrev cX3_clear : ByteArray := prog_5_method_3_code
def yX3_clear : MethodName := ⟨RX3, "clear", "()V"⟩
abbrev cX3_copyFrom : ByteArray := prog_5_method_4_code
def yX3_copyFrom : MethodName := ⟨RX3, "copyFrom", "(LStrawMap$Plan;)V"⟩
abbrev cX3_setRule : ByteArray := prog_5_method_5_code
def yX3_setRule : MethodName := ⟨RX3, "setRule", "(III)V"⟩
abbrev cX3_addDisk : ByteArray := prog_5_method_6_code
def yX3_addDisk : MethodName := ⟨RX3, "addDisk", "(III)Z"⟩
abbrev cX3_isFull : ByteArray := prog_5_method_7_code
def yX3_isFull : MethodName := ⟨RX3, "isFull", "(I)Z"⟩
abbrev cX3_copyOf : ByteArray := prog_5_method_8_code
def yX3_copyOf : MethodName := ⟨RX3, "copyOf", "(II)I"⟩
abbrev cX3_settleAll : ByteArray := prog_5_method_9_code
def yX3_settleAll : MethodName := ⟨RX3, "settleAll", "(LStrawMap$Straws;)V"⟩
abbrev cX3_settleGroup : ByteArray := prog_5_method_10_code
def yX3_settleGroup : MethodName := ⟨RX3, "settleGroup", "(LStrawMap$Straws;I)V"⟩
abbrev cX3_isAcceptable : ByteArray := prog_5_method_11_code
def yX3_isAcceptable : MethodName := ⟨RX3, "isAcceptable", "(II)Z"⟩
abbrev cX3_isApart : ByteArray := prog_5_method_12_code
def yX3_isApart : MethodName := ⟨RX3, "isApart", "(III)Z"⟩
abbrev cX3_partOf : ByteArray := prog_5_method_13_code
def yX3_partOf : MethodName := ⟨RX3, "partOf", "(I)I"⟩
abbrev cX3_applyDiversions : ByteArray := prog_5_method_14_code
def yX3_applyDiversions : MethodName := ⟨RX3, "applyDiversions", "(I)V"⟩
abbrev cX3_replaceCopy : ByteArray := prog_5_method_15_code
def yX3_replaceCopy : MethodName := ⟨RX3, "replaceCopy", "(III)Z"⟩
abbrev cX3_takesPart : ByteArray := prog_5_method_16_code
def yX3_takesPart : MethodName := ⟨RX3, "takesPart", "(I)Z"⟩
abbrev cX3_countPairs : ByteArray := prog_5_method_17_code
def yX3_countPairs : MethodName := ⟨RX3, "countPairs", "(I)I"⟩
abbrev cX3_spreadOfPairs : ByteArray := prog_5_method_18_code
def yX3_spreadOfPairs : MethodName := ⟨RX3, "spreadOfPairs", "()I"⟩
abbrev cX3_hasSameCopies : ByteArray := prog_5_method_19_code
def yX3_hasSameCopies : MethodName := ⟨RX3, "hasSameCopies", "(LStrawMap$Plan;I)Z"⟩
def RX4 : String := "StrawMap$Straws"
def TX4 : u_T := fun k => match k with
  | _ => ("StrawMap$Straws", "kept", "[I", true)
def tyX4 : Nat → FieldType := fun k => match k with
  | _ => .array .int
abbrev wsX40 : List Cond := u_ws RX4 TX4 1
theorem nmX4 : ∀ a, a < 1 → ∀ b, b < 1 → a ≠ b → (TX4 a).2.1 ≠ (TX4 b).2.1 := by decide +kernel
theorem tyX4_ok : ∀ k, k < 1 → parseFieldDescriptor (TX4 k).2.2.1 = some (tyX4 k) := by decide +kernel
abbrev cX4_init : ByteArray := prog_6_method_1_code
def yX4_init : MethodName := ⟨RX4, "<init>", "()V"⟩
abbrev cX4_drawOf : ByteArray := prog_6_method_2_code
def yX4_drawOf : MethodName := ⟨RX4, "drawOf", "(III)I"⟩
abbrev cX4_wantOf : ByteArray := prog_6_method_3_code
def yX4_wantOf : MethodName := ⟨RX4, "wantOf", "(I)I"⟩
abbrev cX4_lengthOf : ByteArray := prog_6_method_4_code
def yX4_lengthOf : MethodName := ⟨RX4, "lengthOf", "(III)I"⟩
def RX5 : String := "StrawMap$Text"
def TX5 : u_T := fun k => match k with
  | 0 => ("StrawMap$Text", "length", "I", false)
  | 1 => ("StrawMap$Text", "letters", "[C", true)
  | 2 => ("StrawMap$Text", "at", "I", false)
  | _ => ("StrawMap$Text", "numbers", "[I", true)
def tyX5 : Nat → FieldType := fun k => match k with
  | 0 => .int
  | 1 => .array .char
  | 2 => .int
  | _ => .array .int
abbrev wsX50 : List Cond := u_ws RX5 TX5 4
theorem nmX5 : ∀ a, a < 4 → ∀ b, b < 4 → a ≠ b → (TX5 a).2.1 ≠ (TX5 b).2.1 := by decide +kernel
theorem tyX5_ok : ∀ k, k < 4 → parseFieldDescriptor (TX5 k).2.2.1 = some (tyX5 k) := by decide +kernel
abbrev cX5_init : ByteArray := prog_7_method_1_code
def yX5_init : MethodName := ⟨RX5, "<init>", "()V"⟩
abbrev cX5_append : ByteArray := prog_7_method_2_code
def yX5_append : MethodName := ⟨RX5, "append", "(C)V"⟩
abbrev cX5_readInto : ByteArray := prog_7_method_3_code
def yX5_readInto : MethodName := ⟨RX5, "readInto", "(LStrawMap$Plan;)I"⟩
abbrev cX5_readItem : ByteArray := prog_7_method_4_code
def yX5_readItem : MethodName := ⟨RX5, "readItem", "(LStrawMap$Plan;)Z"⟩
abbrev cX5_numbersOf : ByteArray := prog_7_method_5_code
def yX5_numbersOf : MethodName := ⟨RX5, "numbersOf", "(C)I"⟩
abbrev cX5_accept : ByteArray := prog_7_method_6_code
def yX5_accept : MethodName := ⟨RX5, "accept", "(C)Z"⟩
abbrev cX5_readNumbers : ByteArray := prog_7_method_7_code
def yX5_readNumbers : MethodName := ⟨RX5, "readNumbers", "(I)Z"⟩
abbrev cX5_isDigitNext : ByteArray := prog_7_method_8_code
def yX5_isDigitNext : MethodName := ⟨RX5, "isDigitNext", "()Z"⟩
abbrev cX5_readDigit : ByteArray := prog_7_method_9_code
def yX5_readDigit : MethodName := ⟨RX5, "readDigit", "()I"⟩
abbrev cX5_apply : ByteArray := prog_7_method_10_code
def yX5_apply : MethodName := ⟨RX5, "apply", "(CLStrawMap$Plan;)Z"⟩
def RX6 : String := "StrawMap$Tree"
def TX6 : u_T := fun k => match k with
  | 0 => ("StrawMap$Tree", "halls", "I", false)
  | 1 => ("StrawMap$Tree", "racks", "I", false)
  | 2 => ("StrawMap$Tree", "disks", "I", false)
  | 3 => ("StrawMap$Tree", "above", "[I", true)
  | _ => ("StrawMap$Tree", "weight", "[I", true)
def tyX6 : Nat → FieldType := fun k => match k with
  | 0 => .int
  | 1 => .int
  | 2 => .int
  | 3 => .array .int
  | _ => .array .int
abbrev wsX60 : List Cond := u_ws RX6 TX6 5
theorem nmX6 : ∀ a, a < 5 → ∀ b, b < 5 → a ≠ b → (TX6 a).2.1 ≠ (TX6 b).2.1 := by decide +kernel
theorem tyX6_ok : ∀ k, k < 5 → parseFieldDescriptor (TX6 k).2.2.1 = some (tyX6 k) := by decide +kernel
abbrev cX6_init : ByteArray := prog_8_method_1_code
def yX6_init : MethodName := ⟨RX6, "<init>", "()V"⟩
abbrev cX6_clear : ByteArray := prog_8_method_2_code
def yX6_clear : MethodName := ⟨RX6, "clear", "()V"⟩
abbrev cX6_copyFrom : ByteArray := prog_8_method_3_code
def yX6_copyFrom : MethodName := ⟨RX6, "copyFrom", "(LStrawMap$Tree;)V"⟩
abbrev cX6_endOfDisks : ByteArray := prog_8_method_4_code
def yX6_endOfDisks : MethodName := ⟨RX6, "endOfDisks", "()I"⟩
abbrev cX6_isHall : ByteArray := prog_8_method_5_code
def yX6_isHall : MethodName := ⟨RX6, "isHall", "(I)Z"⟩
abbrev cX6_isRack : ByteArray := prog_8_method_6_code
def yX6_isRack : MethodName := ⟨RX6, "isRack", "(I)Z"⟩
abbrev cX6_isDisk : ByteArray := prog_8_method_7_code
def yX6_isDisk : MethodName := ⟨RX6, "isDisk", "(I)Z"⟩
abbrev cX6_isNode : ByteArray := prog_8_method_8_code
def yX6_isNode : MethodName := ⟨RX6, "isNode", "(I)Z"⟩
abbrev cX6_addHall : ByteArray := prog_8_method_9_code
def yX6_addHall : MethodName := ⟨RX6, "addHall", "()Z"⟩
abbrev cX6_addRack : ByteArray := prog_8_method_10_code
def yX6_addRack : MethodName := ⟨RX6, "addRack", "(I)Z"⟩
abbrev cX6_addDisk : ByteArray := prog_8_method_11_code
def yX6_addDisk : MethodName := ⟨RX6, "addDisk", "(II)Z"⟩
abbrev cX6_sumWeights : ByteArray := prog_8_method_12_code
def yX6_sumWeights : MethodName := ⟨RX6, "sumWeights", "()V"⟩
abbrev cX6_hallOf : ByteArray := prog_8_method_13_code
def yX6_hallOf : MethodName := ⟨RX6, "hallOf", "(I)I"⟩
abbrev cX6_disksWithin : ByteArray := prog_8_method_14_code
def yX6_disksWithin : MethodName := ⟨RX6, "disksWithin", "(I)I"⟩
abbrev cX6_firstBelow : ByteArray := prog_8_method_15_code
def yX6_firstBelow : MethodName := ⟨RX6, "firstBelow", "(I)I"⟩
abbrev cX6_endBelow : ByteArray := prog_8_method_16_code
def yX6_endBelow : MethodName := ⟨RX6, "endBelow", "(I)I"⟩
abbrev cX6_countBelow : ByteArray := prog_8_method_17_code
def yX6_countBelow : MethodName := ⟨RX6, "countBelow", "(I)I"⟩
abbrev cX6_choiceAt : ByteArray := prog_8_method_18_code
def yX6_choiceAt : MethodName := ⟨RX6, "choiceAt", "(LStrawMap$Straws;III)I"⟩
abbrev cX6_diskOfTry : ByteArray := prog_8_method_19_code
def yX6_diskOfTry : MethodName := ⟨RX6, "diskOfTry", "(LStrawMap$Straws;II)I"⟩
def RX7 : String := "StrawMap"
def TX7 : u_T := fun k => match k with
  | 0 => ("StrawMap", "text", "LStrawMap$Text;", true)
  | 1 => ("StrawMap", "straws", "LStrawMap$Straws;", true)
  | 2 => ("StrawMap", "latest", "[LStrawMap$Plan;", true)
  | 3 => ("StrawMap", "trial", "LStrawMap$Plan;", true)
  | 4 => ("StrawMap", "data", "LStrawMap$Data;", true)
  | 5 => ("StrawMap", "rehearsal", "LStrawMap$Data;", true)
  | 6 => ("StrawMap", "observations", "LStrawMap$Observations;", true)
  | 7 => ("StrawMap", "present", "LStrawMap$Plan;", false)
  | _ => ("StrawMap", "epoch", "I", false)
def tyX7 : Nat → FieldType := fun k => match k with
  | 0 => .object "StrawMap$Text"
  | 1 => .object "StrawMap$Straws"
  | 2 => .array (.object "StrawMap$Plan")
  | 3 => .object "StrawMap$Plan"
  | 4 => .object "StrawMap$Data"
  | 5 => .object "StrawMap$Data"
  | 6 => .object "StrawMap$Observations"
  | 7 => .object "StrawMap$Plan"
  | _ => .int
abbrev wsX70 : List Cond := u_ws RX7 TX7 9
theorem nmX7 : ∀ a, a < 9 → ∀ b, b < 9 → a ≠ b → (TX7 a).2.1 ≠ (TX7 b).2.1 := by decide +kernel
theorem tyX7_ok : ∀ k, k < 9 → parseFieldDescriptor (TX7 k).2.2.1 = some (tyX7 k) := by decide +kernel
abbrev cX7_init : ByteArray := prog_1_method_1_code
def yX7_init : MethodName := ⟨RX7, "<init>", "()V"⟩
abbrev cX7_write : ByteArray := prog_1_method_2_code
def yX7_write : MethodName := ⟨RX7, "write", "(I)I"⟩
abbrev cX7_wipe : ByteArray := prog_1_method_3_code
def yX7_wipe : MethodName := ⟨RX7, "wipe", "()I"⟩
abbrev cX7_fault : ByteArray := prog_1_method_4_code
def yX7_fault : MethodName := ⟨RX7, "fault", "()I"⟩
abbrev cX7_lay : ByteArray := prog_1_method_5_code
def yX7_lay : MethodName := ⟨RX7, "lay", "()I"⟩
abbrev cX7_node : ByteArray := prog_1_method_6_code
def yX7_node : MethodName := ⟨RX7, "node", "(II)I"⟩
abbrev cX7_override : ByteArray := prog_1_method_7_code
def yX7_override : MethodName := ⟨RX7, "override", "(II)I"⟩
abbrev cX7_weigh : ByteArray := prog_1_method_8_code
def yX7_weigh : MethodName := ⟨RX7, "weigh", "(II)I"⟩
abbrev cX7_reweigh : ByteArray := prog_1_method_9_code
def yX7_reweigh : MethodName := ⟨RX7, "reweigh", "(II)I"⟩
abbrev cX7_refill : ByteArray := prog_1_method_10_code
def yX7_refill : MethodName := ⟨RX7, "refill", "()I"⟩
abbrev cX7_divert : ByteArray := prog_1_method_11_code
def yX7_divert : MethodName := ⟨RX7, "divert", "(III)I"⟩
abbrev cX7_lift : ByteArray := prog_1_method_12_code
def yX7_lift : MethodName := ⟨RX7, "lift", "(I)I"⟩
abbrev cX7_rule : ByteArray := prog_1_method_13_code
def yX7_rule : MethodName := ⟨RX7, "rule", "(III)I"⟩
abbrev cX7_rack : ByteArray := prog_1_method_14_code
def yX7_rack : MethodName := ⟨RX7, "rack", "(I)I"⟩
abbrev cX7_disk : ByteArray := prog_1_method_15_code
def yX7_disk : MethodName := ⟨RX7, "disk", "(III)I"⟩
abbrev cX7_move : ByteArray := prog_1_method_16_code
def yX7_move : MethodName := ⟨RX7, "move", "(II)I"⟩
abbrev cX7_back : ByteArray := prog_1_method_17_code
def yX7_back : MethodName := ⟨RX7, "back", "(I)I"⟩
abbrev cX7_group : ByteArray := prog_1_method_18_code
def yX7_group : MethodName := ⟨RX7, "group", "(I)I"⟩
abbrev cX7_draw : ByteArray := prog_1_method_19_code
def yX7_draw : MethodName := ⟨RX7, "draw", "(III)I"⟩
abbrev cX7_want : ByteArray := prog_1_method_20_code
def yX7_want : MethodName := ⟨RX7, "want", "(I)I"⟩
abbrev cX7_chosen : ByteArray := prog_1_method_21_code
def yX7_chosen : MethodName := ⟨RX7, "chosen", "(III)I"⟩
abbrev cX7_place : ByteArray := prog_1_method_22_code
def yX7_place : MethodName := ⟨RX7, "place", "(II)I"⟩
abbrev cX7_taken : ByteArray := prog_1_method_23_code
def yX7_taken : MethodName := ⟨RX7, "taken", "(II)I"⟩
abbrev cX7_groups : ByteArray := prog_1_method_24_code
def yX7_groups : MethodName := ⟨RX7, "groups", "(I)I"⟩
abbrev cX7_spread : ByteArray := prog_1_method_25_code
def yX7_spread : MethodName := ⟨RX7, "spread", "()I"⟩
abbrev cX7_share : ByteArray := prog_1_method_26_code
def yX7_share : MethodName := ⟨RX7, "share", "(II)I"⟩
abbrev cX7_old : ByteArray := prog_1_method_27_code
def yX7_old : MethodName := ⟨RX7, "old", "(III)I"⟩
abbrev cX7_since : ByteArray := prog_1_method_28_code
def yX7_since : MethodName := ⟨RX7, "since", "(II)I"⟩
abbrev cX7_would : ByteArray := prog_1_method_29_code
def yX7_would : MethodName := ⟨RX7, "would", "(III)I"⟩
abbrev cX7_least : ByteArray := prog_1_method_30_code
def yX7_least : MethodName := ⟨RX7, "least", "(II)I"⟩
abbrev cX7_even : ByteArray := prog_1_method_31_code
def yX7_even : MethodName := ⟨RX7, "even", "(I)I"⟩
abbrev cX7_put : ByteArray := prog_1_method_32_code
def yX7_put : MethodName := ⟨RX7, "put", "(II)I"⟩
abbrev cX7_tick : ByteArray := prog_1_method_33_code
def yX7_tick : MethodName := ⟨RX7, "tick", "(I)I"⟩
abbrev cX7_up : ByteArray := prog_1_method_34_code
def yX7_up : MethodName := ⟨RX7, "up", "(II)I"⟩
abbrev cX7_fail : ByteArray := prog_1_method_35_code
def yX7_fail : MethodName := ⟨RX7, "fail", "(I)I"⟩
abbrev cX7_held : ByteArray := prog_1_method_36_code
def yX7_held : MethodName := ⟨RX7, "held", "(II)I"⟩
abbrev cX7_load : ByteArray := prog_1_method_37_code
def yX7_load : MethodName := ⟨RX7, "load", "(II)I"⟩
abbrev cX7_loses : ByteArray := prog_1_method_38_code
def yX7_loses : MethodName := ⟨RX7, "loses", "(II)I"⟩
abbrev cX7_storm : ByteArray := prog_1_method_39_code
def yX7_storm : MethodName := ⟨RX7, "storm", "(III)I"⟩
abbrev cX7_seen : ByteArray := prog_1_method_40_code
def yX7_seen : MethodName := ⟨RX7, "seen", "(III)I"⟩
abbrev cX7_forget : ByteArray := prog_1_method_41_code
def yX7_forget : MethodName := ⟨RX7, "forget", "()I"⟩
abbrev cX7_weights : ByteArray := prog_1_method_42_code
def yX7_weights : MethodName := ⟨RX7, "weights", "(II)I"⟩
abbrev cX7_count : ByteArray := prog_1_method_43_code
def yX7_count : MethodName := ⟨RX7, "count", "(I)I"⟩
abbrev cX7_isGroup : ByteArray := prog_1_method_44_code
def yX7_isGroup : MethodName := ⟨RX7, "isGroup", "(I)Z"⟩
abbrev cX7_isCopy : ByteArray := prog_1_method_45_code
def yX7_isCopy : MethodName := ⟨RX7, "isCopy", "(I)Z"⟩
abbrev cX7_isWeight : ByteArray := prog_1_method_46_code
def yX7_isWeight : MethodName := ⟨RX7, "isWeight", "(I)Z"⟩
abbrev cX7_isKey : ByteArray := prog_1_method_47_code
def yX7_isKey : MethodName := ⟨RX7, "isKey", "(I)Z"⟩
abbrev cX7_groupOf : ByteArray := prog_1_method_48_code
def yX7_groupOf : MethodName := ⟨RX7, "groupOf", "(I)I"⟩
abbrev cX7_bitOf : ByteArray := prog_1_method_49_code
def yX7_bitOf : MethodName := ⟨RX7, "bitOf", "(I)I"⟩
abbrev cX7_commonDivisor : ByteArray := prog_1_method_50_code
def yX7_commonDivisor : MethodName := ⟨RX7, "commonDivisor", "(II)I"⟩
abbrev cX7_planOf : ByteArray := prog_1_method_51_code
def yX7_planOf : MethodName := ⟨RX7, "planOf", "(I)LStrawMap$Plan;"⟩
abbrev cX7_beginEpoch : ByteArray := prog_1_method_52_code
def yX7_beginEpoch : MethodName := ⟨RX7, "beginEpoch", "(LStrawMap$Plan;)V"⟩
abbrev cX7_beginWithTrial : ByteArray := prog_1_method_53_code
def yX7_beginWithTrial : MethodName := ⟨RX7, "beginWithTrial", "()V"⟩
def RX8 : String := "StrawMapModel"
def TX8 : u_T := fun k => match k with
  | 0 => ("StrawMapModel", "length", "I", false)
  | 1 => ("StrawMapModel", "text", "[I", true)
  | 2 => ("StrawMapModel", "map", "[I", true)
  | 3 => ("StrawMapModel", "kept", "[I", true)
  | 4 => ("StrawMapModel", "keptEpochs", "[I", true)
  | 5 => ("StrawMapModel", "epoch", "I", false)
  | 6 => ("StrawMapModel", "aside", "[I", true)
  | 7 => ("StrawMapModel", "told", "[I", true)
  | 8 => ("StrawMapModel", "wants", "[I", true)
  | 9 => ("StrawMapModel", "weighs", "[I", true)
  | 10 => ("StrawMapModel", "copies", "[I", true)
  | 11 => ("StrawMapModel", "triesOf", "[I", true)
  | 12 => ("StrawMapModel", "stands", "[I", true)
  | 13 => ("StrawMapModel", "now", "[I", true)
  | 14 => ("StrawMapModel", "then", "[I", true)
  | 15 => ("StrawMapModel", "holders", "[I", true)
  | 16 => ("StrawMapModel", "sizes", "[I", true)
  | 17 => ("StrawMapModel", "ups", "I", false)
  | 18 => ("StrawMapModel", "holdersAside", "[I", true)
  | 19 => ("StrawMapModel", "seenMany", "I", false)
  | 20 => ("StrawMapModel", "seenRow", "[I", true)
  | 21 => ("StrawMapModel", "firstRacks", "[I", true)
  | 22 => ("StrawMapModel", "firstDisks", "[I", true)
  | 23 => ("StrawMapModel", "firstWeights", "[I", true)
  | _ => ("StrawMapModel", "ends", "I", false)
def tyX8 : Nat → FieldType := fun k => match k with
  | 0 => .int
  | 1 => .array .int
  | 2 => .array .int
  | 3 => .array .int
  | 4 => .array .int
  | 5 => .int
  | 6 => .array .int
  | 7 => .array .int
  | 8 => .array .int
  | 9 => .array .int
  | 10 => .array .int
  | 11 => .array .int
  | 12 => .array .int
  | 13 => .array .int
  | 14 => .array .int
  | 15 => .array .int
  | 16 => .array .int
  | 17 => .int
  | 18 => .array .int
  | 19 => .int
  | 20 => .array .int
  | 21 => .array .int
  | 22 => .array .int
  | 23 => .array .int
  | _ => .int
abbrev wsX80 : List Cond := u_ws RX8 TX8 25
theorem nmX8 : ∀ a, a < 25 → ∀ b, b < 25 → a ≠ b → (TX8 a).2.1 ≠ (TX8 b).2.1 := by decide +kernel
theorem tyX8_ok : ∀ k, k < 25 → parseFieldDescriptor (TX8 k).2.2.1 = some (tyX8 k) := by decide +kernel
abbrev cX8_init : ByteArray := prog_10_method_1_code
def yX8_init : MethodName := ⟨RX8, "<init>", "()V"⟩
abbrev cX8_begins : ByteArray := prog_10_method_2_code
def yX8_begins : MethodName := ⟨RX8, "begins", "([I)V"⟩
abbrev cX8_letterAt : ByteArray := prog_10_method_3_code
def yX8_letterAt : MethodName := ⟨RX8, "letterAt", "(I)I"⟩
abbrev cX8_isFigure : ByteArray := prog_10_method_4_code
def yX8_isFigure : MethodName := ⟨RX8, "isFigure", "(I)Z"⟩
abbrev cX8_number : ByteArray := prog_10_method_5_code
def yX8_number : MethodName := ⟨RX8, "number", "(III)I"⟩
abbrev cX8_readsDisk : ByteArray := prog_10_method_6_code
def yX8_readsDisk : MethodName := ⟨RX8, "readsDisk", "(I)I"⟩
abbrev cX8_readsRule : ByteArray := prog_10_method_7_code
def yX8_readsRule : MethodName := ⟨RX8, "readsRule", "(I)I"⟩
abbrev cX8_readsItem : ByteArray := prog_10_method_8_code
def yX8_readsItem : MethodName := ⟨RX8, "readsItem", "(II)I"⟩
abbrev cX8_reads : ByteArray := prog_10_method_9_code
def yX8_reads : MethodName := ⟨RX8, "reads", "()I"⟩
abbrev cX8_write : ByteArray := prog_10_method_10_code
def yX8_write : MethodName := ⟨RX8, "write", "(I)I"⟩
abbrev cX8_wipe : ByteArray := prog_10_method_11_code
def yX8_wipe : MethodName := ⟨RX8, "wipe", "()I"⟩
abbrev cX8_fault : ByteArray := prog_10_method_12_code
def yX8_fault : MethodName := ⟨RX8, "fault", "()I"⟩
abbrev cX8_copies : ByteArray := prog_10_method_13_code
def yX8_copies : MethodName := ⟨RX8, "copies", "([I[I)V"⟩
abbrev cX8_keeps : ByteArray := prog_10_method_14_code
def yX8_keeps : MethodName := ⟨RX8, "keeps", "()V"⟩
abbrev cX8_lays : ByteArray := prog_10_method_15_code
def yX8_lays : MethodName := ⟨RX8, "lays", "()V"⟩
abbrev cX8_lay : ByteArray := prog_10_method_16_code
def yX8_lay : MethodName := ⟨RX8, "lay", "()I"⟩
abbrev cX8_isIn : ByteArray := prog_10_method_17_code
def yX8_isIn : MethodName := ⟨RX8, "isIn", "(III)Z"⟩
abbrev cX8_isHall : ByteArray := prog_10_method_18_code
def yX8_isHall : MethodName := ⟨RX8, "isHall", "(I)Z"⟩
abbrev cX8_isRack : ByteArray := prog_10_method_19_code
def yX8_isRack : MethodName := ⟨RX8, "isRack", "(I)Z"⟩
abbrev cX8_isDisk : ByteArray := prog_10_method_20_code
def yX8_isDisk : MethodName := ⟨RX8, "isDisk", "(I)Z"⟩
abbrev cX8_isNode : ByteArray := prog_10_method_21_code
def yX8_isNode : MethodName := ⟨RX8, "isNode", "(I)Z"⟩
abbrev cX8_isGroup : ByteArray := prog_10_method_22_code
def yX8_isGroup : MethodName := ⟨RX8, "isGroup", "(I)Z"⟩
abbrev cX8_isBelow : ByteArray := prog_10_method_23_code
def yX8_isBelow : MethodName := ⟨RX8, "isBelow", "(II)Z"⟩
abbrev cX8_weightOf : ByteArray := prog_10_method_24_code
def yX8_weightOf : MethodName := ⟨RX8, "weightOf", "(I)I"⟩
abbrev cX8_node : ByteArray := prog_10_method_25_code
def yX8_node : MethodName := ⟨RX8, "node", "(II)I"⟩
abbrev cX8_override : ByteArray := prog_10_method_26_code
def yX8_override : MethodName := ⟨RX8, "override", "(II)I"⟩
abbrev cX8_drawn : ByteArray := prog_10_method_27_code
def yX8_drawn : MethodName := ⟨RX8, "drawn", "(III)I"⟩
abbrev cX8_wanted : ByteArray := prog_10_method_28_code
def yX8_wanted : MethodName := ⟨RX8, "wanted", "(I)I"⟩
abbrev cX8_group : ByteArray := prog_10_method_29_code
def yX8_group : MethodName := ⟨RX8, "group", "(I)I"⟩
abbrev cX8_draw : ByteArray := prog_10_method_30_code
def yX8_draw : MethodName := ⟨RX8, "draw", "(III)I"⟩
abbrev cX8_want : ByteArray := prog_10_method_31_code
def yX8_want : MethodName := ⟨RX8, "want", "(I)I"⟩
abbrev cX8_weighsAll : ByteArray := prog_10_method_32_code
def yX8_weighsAll : MethodName := ⟨RX8, "weighsAll", "()V"⟩
abbrev cX8_chooses : ByteArray := prog_10_method_33_code
def yX8_chooses : MethodName := ⟨RX8, "chooses", "(III)I"⟩
abbrev cX8_chosen : ByteArray := prog_10_method_34_code
def yX8_chosen : MethodName := ⟨RX8, "chosen", "(III)I"⟩
abbrev cX8_tryOf : ByteArray := prog_10_method_35_code
def yX8_tryOf : MethodName := ⟨RX8, "tryOf", "(II)I"⟩
abbrev cX8_partOf : ByteArray := prog_10_method_36_code
def yX8_partOf : MethodName := ⟨RX8, "partOf", "(I)I"⟩
abbrev cX8_isApart : ByteArray := prog_10_method_37_code
def yX8_isApart : MethodName := ⟨RX8, "isApart", "(II)Z"⟩
abbrev cX8_mayBe : ByteArray := prog_10_method_38_code
def yX8_mayBe : MethodName := ⟨RX8, "mayBe", "(II)Z"⟩
abbrev cX8_takes : ByteArray := prog_10_method_39_code
def yX8_takes : MethodName := ⟨RX8, "takes", "(III)V"⟩
abbrev cX8_diverts : ByteArray := prog_10_method_40_code
def yX8_diverts : MethodName := ⟨RX8, "diverts", "(I)V"⟩
abbrev cX8_places : ByteArray := prog_10_method_41_code
def yX8_places : MethodName := ⟨RX8, "places", "(I)V"⟩
abbrev cX8_placesAll : ByteArray := prog_10_method_42_code
def yX8_placesAll : MethodName := ⟨RX8, "placesAll", "([I)V"⟩
abbrev cX8_has : ByteArray := prog_10_method_43_code
def yX8_has : MethodName := ⟨RX8, "has", "([III)Z"⟩
abbrev cX8_placeBits : ByteArray := prog_10_method_44_code
def yX8_placeBits : MethodName := ⟨RX8, "placeBits", "(I)I"⟩
abbrev cX8_place : ByteArray := prog_10_method_45_code
def yX8_place : MethodName := ⟨RX8, "place", "(II)I"⟩
abbrev cX8_taken : ByteArray := prog_10_method_46_code
def yX8_taken : MethodName := ⟨RX8, "taken", "(II)I"⟩
abbrev cX8_groups : ByteArray := prog_10_method_47_code
def yX8_groups : MethodName := ⟨RX8, "groups", "(I)I"⟩
abbrev cX8_groupsOf : ByteArray := prog_10_method_48_code
def yX8_groupsOf : MethodName := ⟨RX8, "groupsOf", "([II)I"⟩
abbrev cX8_takesPart : ByteArray := prog_10_method_49_code
def yX8_takesPart : MethodName := ⟨RX8, "takesPart", "(I)Z"⟩
abbrev cX8_spreadOf : ByteArray := prog_10_method_50_code
def yX8_spreadOf : MethodName := ⟨RX8, "spreadOf", "([I)I"⟩
abbrev cX8_spread : ByteArray := prog_10_method_51_code
def yX8_spread : MethodName := ⟨RX8, "spread", "()I"⟩
abbrev cX8_share : ByteArray := prog_10_method_52_code
def yX8_share : MethodName := ⟨RX8, "share", "(II)I"⟩
abbrev cX8_changed : ByteArray := prog_10_method_53_code
def yX8_changed : MethodName := ⟨RX8, "changed", "()V"⟩
abbrev cX8_weigh : ByteArray := prog_10_method_54_code
def yX8_weigh : MethodName := ⟨RX8, "weigh", "(II)I"⟩
abbrev cX8_reweigh : ByteArray := prog_10_method_55_code
def yX8_reweigh : MethodName := ⟨RX8, "reweigh", "(II)I"⟩
abbrev cX8_loadOf : ByteArray := prog_10_method_56_code
def yX8_loadOf : MethodName := ⟨RX8, "loadOf", "(I)I"⟩
abbrev cX8_refill : ByteArray := prog_10_method_57_code
def yX8_refill : MethodName := ⟨RX8, "refill", "()I"⟩
abbrev cX8_divert : ByteArray := prog_10_method_58_code
def yX8_divert : MethodName := ⟨RX8, "divert", "(III)I"⟩
abbrev cX8_lift : ByteArray := prog_10_method_59_code
def yX8_lift : MethodName := ⟨RX8, "lift", "(I)I"⟩
abbrev cX8_rule : ByteArray := prog_10_method_60_code
def yX8_rule : MethodName := ⟨RX8, "rule", "(III)I"⟩
abbrev cX8_rack : ByteArray := prog_10_method_61_code
def yX8_rack : MethodName := ⟨RX8, "rack", "(I)I"⟩
abbrev cX8_disk : ByteArray := prog_10_method_62_code
def yX8_disk : MethodName := ⟨RX8, "disk", "(III)I"⟩
abbrev cX8_move : ByteArray := prog_10_method_63_code
def yX8_move : MethodName := ⟨RX8, "move", "(II)I"⟩
abbrev cX8_isKept : ByteArray := prog_10_method_64_code
def yX8_isKept : MethodName := ⟨RX8, "isKept", "(I)Z"⟩
abbrev cX8_back : ByteArray := prog_10_method_65_code
def yX8_back : MethodName := ⟨RX8, "back", "(I)I"⟩
abbrev cX8_placesBy : ByteArray := prog_10_method_66_code
def yX8_placesBy : MethodName := ⟨RX8, "placesBy", "(I)V"⟩
abbrev cX8_old : ByteArray := prog_10_method_67_code
def yX8_old : MethodName := ⟨RX8, "old", "(III)I"⟩
abbrev cX8_since : ByteArray := prog_10_method_68_code
def yX8_since : MethodName := ⟨RX8, "since", "(II)I"⟩
abbrev cX8_placesIf : ByteArray := prog_10_method_69_code
def yX8_placesIf : MethodName := ⟨RX8, "placesIf", "(II)V"⟩
abbrev cX8_would : ByteArray := prog_10_method_70_code
def yX8_would : MethodName := ⟨RX8, "would", "(III)I"⟩
abbrev cX8_least : ByteArray := prog_10_method_71_code
def yX8_least : MethodName := ⟨RX8, "least", "(II)I"⟩
abbrev cX8_even : ByteArray := prog_10_method_72_code
def yX8_even : MethodName := ⟨RX8, "even", "(I)I"⟩
abbrev cX8_bitsIn : ByteArray := prog_10_method_73_code
def yX8_bitsIn : MethodName := ⟨RX8, "bitsIn", "(I)I"⟩
abbrev cX8_isWanting : ByteArray := prog_10_method_74_code
def yX8_isWanting : MethodName := ⟨RX8, "isWanting", "(I)Z"⟩
abbrev cX8_put : ByteArray := prog_10_method_75_code
def yX8_put : MethodName := ⟨RX8, "put", "(II)I"⟩
abbrev cX8_pressing : ByteArray := prog_10_method_76_code
def yX8_pressing : MethodName := ⟨RX8, "pressing", "()I"⟩
abbrev cX8_copiesTo : ByteArray := prog_10_method_77_code
def yX8_copiesTo : MethodName := ⟨RX8, "copiesTo", "(I)V"⟩
abbrev cX8_ticks : ByteArray := prog_10_method_78_code
def yX8_ticks : MethodName := ⟨RX8, "ticks", "(I)I"⟩
abbrev cX8_tick : ByteArray := prog_10_method_79_code
def yX8_tick : MethodName := ⟨RX8, "tick", "(I)I"⟩
abbrev cX8_up : ByteArray := prog_10_method_80_code
def yX8_up : MethodName := ⟨RX8, "up", "(II)I"⟩
abbrev cX8_fails : ByteArray := prog_10_method_81_code
def yX8_fails : MethodName := ⟨RX8, "fails", "(I)I"⟩
abbrev cX8_fail : ByteArray := prog_10_method_82_code
def yX8_fail : MethodName := ⟨RX8, "fail", "(I)I"⟩
abbrev cX8_held : ByteArray := prog_10_method_83_code
def yX8_held : MethodName := ⟨RX8, "held", "(II)I"⟩
abbrev cX8_load : ByteArray := prog_10_method_84_code
def yX8_load : MethodName := ⟨RX8, "load", "(II)I"⟩
abbrev cX8_loses : ByteArray := prog_10_method_85_code
def yX8_loses : MethodName := ⟨RX8, "loses", "(II)I"⟩
abbrev cX8_lost : ByteArray := prog_10_method_86_code
def yX8_lost : MethodName := ⟨RX8, "lost", "()I"⟩
abbrev cX8_storm : ByteArray := prog_10_method_87_code
def yX8_storm : MethodName := ⟨RX8, "storm", "(III)I"⟩
abbrev cX8_seen : ByteArray := prog_10_method_88_code
def yX8_seen : MethodName := ⟨RX8, "seen", "(III)I"⟩
abbrev cX8_forget : ByteArray := prog_10_method_89_code
def yX8_forget : MethodName := ⟨RX8, "forget", "()I"⟩
abbrev cX8_isAllSo : ByteArray := prog_10_method_90_code
def yX8_isAllSo : MethodName := ⟨RX8, "isAllSo", "()Z"⟩
abbrev cX8_weights : ByteArray := prog_10_method_91_code
def yX8_weights : MethodName := ⟨RX8, "weights", "(II)I"⟩
abbrev cX8_known : ByteArray := prog_10_method_92_code
def yX8_known : MethodName := ⟨RX8, "known", "()I"⟩
abbrev cX8_groupsThat : ByteArray := prog_10_method_93_code
def yX8_groupsThat : MethodName := ⟨RX8, "groupsThat", "(I)I"⟩
abbrev cX8_full : ByteArray := prog_10_method_94_code
def yX8_full : MethodName := ⟨RX8, "full", "()I"⟩
abbrev cX8_count : ByteArray := prog_10_method_95_code
def yX8_count : MethodName := ⟨RX8, "count", "(I)I"⟩
def RJ6 : String := "java/lang/Integer"
abbrev cJ6_bitCount_0f7a4 : ByteArray := prog_11_method_49_code
def yJ6_bitCount_0f7a4 : MethodName := ⟨RJ6, "bitCount", "(I)I"⟩
def RJ9 : String := "java/lang/Math"
abbrev cJ9_max_7cf53 : ByteArray := prog_12_method_65_code
def yJ9_max_7cf53 : MethodName := ⟨RJ9, "max", "(II)I"⟩
abbrev cJ9_min_7cf53 : ByteArray := prog_12_method_69_code
def yJ9_min_7cf53 : MethodName := ⟨RJ9, "min", "(II)I"⟩
def RL : String := "StrawMapLaw"
abbrev cL_law : ByteArray := code
def yL_law : MethodName := ⟨RL, "law", "([I)Z"⟩
/-- the words of the tables that every method is given -/
def lwT : List Cond := lw_tbl.filter goodWord
theorem inT (i : Nat) {w : Cond} (h : lw_tbl[i]? = some w) (hg : goodWord w = true) : w ∈ lwT := List.mem_filter.mpr ⟨List.mem_of_getElem? h, hg⟩
theorem goodT {c w : Cond} (hw : w ∈ lwT) : w ∈ c :: lwT ∧ ((w.onTables && w.keeps) = true ∨ ∃ ty, w = .arrayClass ty) := ⟨List.mem_cons_of_mem _ hw, good_of_word (List.mem_filter.mp hw).2⟩
theorem goodL {c : Cond} : GoodIn (c :: lwT) lwT := fun _ h => goodT h
theorem goodC {c : Cond} {ws : List Cond} (h : ∀ w ∈ ws, w ∈ lwT) : GoodIn (c :: lwT) ws := fun w hw => goodT (h w hw)
