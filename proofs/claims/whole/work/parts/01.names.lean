-- ===== PART A: goes FIRST, ahead of the names: the tables' words, and 'selects' of the private methods out of them =====
/-- a private method of a class that the tables say can be made, by its rows of tables_1 -/
def lw_okq (q : MethodName × Nat) : Prop := (q.1.cls ≠ "java/lang/invoke/MethodHandle" ∧ q.1.cls ≠ "java/lang/invoke/VarHandle") ∧ Cond.instantiable q.1.cls q.2 ∈ tables_1 ∧ Cond.privateMethod q.1 ∈ tables_1 ∧ Cond.instanceMethod q.1 ∈ tables_1
theorem lw_p0 : lw_okq (⟨"PadPolish", "found", "(I)I"⟩, 16) := ⟨⟨by decide +kernel, by decide +kernel⟩, List.mem_of_getElem? (i := 25) (by decide +kernel), List.mem_of_getElem? (i := 245) (by decide +kernel), List.mem_of_getElem? (i := 246) (by decide +kernel)⟩
theorem lw_p1 : lw_okq (⟨"PadPolish", "unfound", "(I)I"⟩, 16) := ⟨⟨by decide +kernel, by decide +kernel⟩, List.mem_of_getElem? (i := 25) (by decide +kernel), List.mem_of_getElem? (i := 257) (by decide +kernel), List.mem_of_getElem? (i := 258) (by decide +kernel)⟩
theorem lw_p2 : lw_okq (⟨"PadPolish$Tape", "readLaw", "(LPadPolish$Table;)Z"⟩, 5) := ⟨⟨by decide +kernel, by decide +kernel⟩, List.mem_of_getElem? (i := 35) (by decide +kernel), List.mem_of_getElem? (i := 314) (by decide +kernel), List.mem_of_getElem? (i := 315) (by decide +kernel)⟩
theorem lw_p3 : lw_okq (⟨"PadPolish$Tape", "readSign", "(C)Z"⟩, 5) := ⟨⟨by decide +kernel, by decide +kernel⟩, List.mem_of_getElem? (i := 35) (by decide +kernel), List.mem_of_getElem? (i := 318) (by decide +kernel), List.mem_of_getElem? (i := 319) (by decide +kernel)⟩
theorem lw_p4 : lw_okq (⟨"PadPolish$Tape", "next", "()I"⟩, 5) := ⟨⟨by decide +kernel, by decide +kernel⟩, List.mem_of_getElem? (i := 35) (by decide +kernel), List.mem_of_getElem? (i := 322) (by decide +kernel), List.mem_of_getElem? (i := 323) (by decide +kernel)⟩
theorem lw_p5 : lw_okq (⟨"PadPolish$Tape", "refuse", "(I)Z"⟩, 5) := ⟨⟨by decide +kernel, by decide +kernel⟩, List.mem_of_getElem? (i := 35) (by decide +kernel), List.mem_of_getElem? (i := 326) (by decide +kernel), List.mem_of_getElem? (i := 327) (by decide +kernel)⟩
theorem lw_p6 : lw_okq (⟨"PadPolish$Tape", "readNumber", "(I)I"⟩, 5) := ⟨⟨by decide +kernel, by decide +kernel⟩, List.mem_of_getElem? (i := 35) (by decide +kernel), List.mem_of_getElem? (i := 330) (by decide +kernel), List.mem_of_getElem? (i := 331) (by decide +kernel)⟩
theorem lw_p7 : lw_okq (⟨"PadPolish$Tape", "isFigure", "(I)Z"⟩, 5) := ⟨⟨by decide +kernel, by decide +kernel⟩, List.mem_of_getElem? (i := 35) (by decide +kernel), List.mem_of_getElem? (i := 334) (by decide +kernel), List.mem_of_getElem? (i := 335) (by decide +kernel)⟩
theorem lw_p8 : lw_okq (⟨"PadPolish$Tape", "readCells", "(LPadPolish$Table;)Z"⟩, 5) := ⟨⟨by decide +kernel, by decide +kernel⟩, List.mem_of_getElem? (i := 35) (by decide +kernel), List.mem_of_getElem? (i := 338) (by decide +kernel), List.mem_of_getElem? (i := 339) (by decide +kernel)⟩
theorem lw_p9 : lw_okq (⟨"PadPolish$Tape", "readPasses", "(LPadPolish$Table;)Z"⟩, 5) := ⟨⟨by decide +kernel, by decide +kernel⟩, List.mem_of_getElem? (i := 35) (by decide +kernel), List.mem_of_getElem? (i := 342) (by decide +kernel), List.mem_of_getElem? (i := 343) (by decide +kernel)⟩
theorem lw_p10 : lw_okq (⟨"PadPolish$Tape", "readWay", "()I"⟩, 5) := ⟨⟨by decide +kernel, by decide +kernel⟩, List.mem_of_getElem? (i := 35) (by decide +kernel), List.mem_of_getElem? (i := 349) (by decide +kernel), List.mem_of_getElem? (i := 350) (by decide +kernel)⟩
theorem lw_p11 : lw_okq (⟨"java/util/ArrayList", "add", "(Ljava/lang/Object;[Ljava/lang/Object;I)V"⟩, 3) := ⟨⟨by decide +kernel, by decide +kernel⟩, List.mem_of_getElem? (i := 125) (by decide +kernel), List.mem_of_getElem? (i := 430) (by decide +kernel), List.mem_of_getElem? (i := 431) (by decide +kernel)⟩
theorem lw_p12 : lw_okq (⟨"java/util/ArrayList", "grow", "()[Ljava/lang/Object;"⟩, 3) := ⟨⟨by decide +kernel, by decide +kernel⟩, List.mem_of_getElem? (i := 125) (by decide +kernel), List.mem_of_getElem? (i := 434) (by decide +kernel), List.mem_of_getElem? (i := 435) (by decide +kernel)⟩
theorem lw_p13 : lw_okq (⟨"java/util/ArrayList", "grow", "(I)[Ljava/lang/Object;"⟩, 3) := ⟨⟨by decide +kernel, by decide +kernel⟩, List.mem_of_getElem? (i := 125) (by decide +kernel), List.mem_of_getElem? (i := 438) (by decide +kernel), List.mem_of_getElem? (i := 439) (by decide +kernel)⟩
theorem lw_p14 : lw_okq (⟨"PadPolish", "forgetActs", "()V"⟩, 16) := ⟨⟨by decide +kernel, by decide +kernel⟩, List.mem_of_getElem? (i := 25) (by decide +kernel), List.mem_of_getElem? (i := 481) (by decide +kernel), List.mem_of_getElem? (i := 482) (by decide +kernel)⟩
theorem lw_p15 : lw_okq (⟨"PadPolish", "keepAct", "()V"⟩, 16) := ⟨⟨by decide +kernel, by decide +kernel⟩, List.mem_of_getElem? (i := 25) (by decide +kernel), List.mem_of_getElem? (i := 507) (by decide +kernel), List.mem_of_getElem? (i := 508) (by decide +kernel)⟩
def lw_privs_1 : List (MethodName × Nat) := [(⟨"PadPolish", "found", "(I)I"⟩, 16), (⟨"PadPolish", "unfound", "(I)I"⟩, 16), (⟨"PadPolish$Tape", "readLaw", "(LPadPolish$Table;)Z"⟩, 5), (⟨"PadPolish$Tape", "readSign", "(C)Z"⟩, 5), (⟨"PadPolish$Tape", "next", "()I"⟩, 5), (⟨"PadPolish$Tape", "refuse", "(I)Z"⟩, 5), (⟨"PadPolish$Tape", "readNumber", "(I)I"⟩, 5), (⟨"PadPolish$Tape", "isFigure", "(I)Z"⟩, 5), (⟨"PadPolish$Tape", "readCells", "(LPadPolish$Table;)Z"⟩, 5), (⟨"PadPolish$Tape", "readPasses", "(LPadPolish$Table;)Z"⟩, 5), (⟨"PadPolish$Tape", "readWay", "()I"⟩, 5), (⟨"java/util/ArrayList", "add", "(Ljava/lang/Object;[Ljava/lang/Object;I)V"⟩, 3), (⟨"java/util/ArrayList", "grow", "()[Ljava/lang/Object;"⟩, 3), (⟨"java/util/ArrayList", "grow", "(I)[Ljava/lang/Object;"⟩, 3), (⟨"PadPolish", "forgetActs", "()V"⟩, 16), (⟨"PadPolish", "keepAct", "()V"⟩, 16)]
theorem lw_r1 : ∀ q ∈ lw_privs_1, lw_okq q := List.forall_mem_cons.mpr ⟨lw_p0, List.forall_mem_cons.mpr ⟨lw_p1, List.forall_mem_cons.mpr ⟨lw_p2, List.forall_mem_cons.mpr ⟨lw_p3, List.forall_mem_cons.mpr ⟨lw_p4, List.forall_mem_cons.mpr ⟨lw_p5, List.forall_mem_cons.mpr ⟨lw_p6, List.forall_mem_cons.mpr ⟨lw_p7, List.forall_mem_cons.mpr ⟨lw_p8, List.forall_mem_cons.mpr ⟨lw_p9, List.forall_mem_cons.mpr ⟨lw_p10, List.forall_mem_cons.mpr ⟨lw_p11, List.forall_mem_cons.mpr ⟨lw_p12, List.forall_mem_cons.mpr ⟨lw_p13, List.forall_mem_cons.mpr ⟨lw_p14, List.forall_mem_cons.mpr ⟨lw_p15, fun _ h => absurd h List.not_mem_nil⟩⟩⟩⟩⟩⟩⟩⟩⟩⟩⟩⟩⟩⟩⟩⟩
theorem lw_p16 : lw_okq (⟨"PadPolish", "passOf", "(I)LPadPolish$Pass;"⟩, 16) := ⟨⟨by decide +kernel, by decide +kernel⟩, List.mem_of_getElem? (i := 25) (by decide +kernel), List.mem_of_getElem? (i := 521) (by decide +kernel), List.mem_of_getElem? (i := 522) (by decide +kernel)⟩
theorem lw_p17 : lw_okq (⟨"PadPolish", "guessRounds", "(I)V"⟩, 16) := ⟨⟨by decide +kernel, by decide +kernel⟩, List.mem_of_getElem? (i := 25) (by decide +kernel), List.mem_of_getElem? (i := 676) (by decide +kernel), List.mem_of_getElem? (i := 677) (by decide +kernel)⟩
theorem lw_p18 : lw_okq (⟨"PadPolish", "findBestOrder", "()I"⟩, 16) := ⟨⟨by decide +kernel, by decide +kernel⟩, List.mem_of_getElem? (i := 25) (by decide +kernel), List.mem_of_getElem? (i := 701) (by decide +kernel), List.mem_of_getElem? (i := 702) (by decide +kernel)⟩
theorem lw_p19 : lw_okq (⟨"PadPolish", "spellOrder", "(II)Z"⟩, 16) := ⟨⟨by decide +kernel, by decide +kernel⟩, List.mem_of_getElem? (i := 25) (by decide +kernel), List.mem_of_getElem? (i := 707) (by decide +kernel), List.mem_of_getElem? (i := 708) (by decide +kernel)⟩
theorem lw_p20 : lw_okq (⟨"PadPolish", "allPasses", "()I"⟩, 16) := ⟨⟨by decide +kernel, by decide +kernel⟩, List.mem_of_getElem? (i := 25) (by decide +kernel), List.mem_of_getElem? (i := 711) (by decide +kernel), List.mem_of_getElem? (i := 712) (by decide +kernel)⟩
theorem lw_p21 : lw_okq (⟨"PadPolish", "gainsAlong", "(LPadPolish$Pass;I)Z"⟩, 16) := ⟨⟨by decide +kernel, by decide +kernel⟩, List.mem_of_getElem? (i := 25) (by decide +kernel), List.mem_of_getElem? (i := 731) (by decide +kernel), List.mem_of_getElem? (i := 732) (by decide +kernel)⟩
theorem lw_p22 : lw_okq (⟨"PadPolish", "rowsThere", "()I"⟩, 16) := ⟨⟨by decide +kernel, by decide +kernel⟩, List.mem_of_getElem? (i := 25) (by decide +kernel), List.mem_of_getElem? (i := 904) (by decide +kernel), List.mem_of_getElem? (i := 905) (by decide +kernel)⟩
theorem lw_p23 : lw_okq (⟨"PadPolishModel", "finding", "(I)I"⟩, 24) := ⟨⟨by decide +kernel, by decide +kernel⟩, List.mem_of_getElem? (i := 915) (by decide +kernel), List.mem_of_getElem? (i := 1007) (by decide +kernel), List.mem_of_getElem? (i := 1008) (by decide +kernel)⟩
theorem lw_p24 : lw_okq (⟨"PadPolishModel", "begin", "()V"⟩, 24) := ⟨⟨by decide +kernel, by decide +kernel⟩, List.mem_of_getElem? (i := 915) (by decide +kernel), List.mem_of_getElem? (i := 1038) (by decide +kernel), List.mem_of_getElem? (i := 1039) (by decide +kernel)⟩
theorem lw_p25 : lw_okq (⟨"PadPolishModel", "nextToken", "()V"⟩, 24) := ⟨⟨by decide +kernel, by decide +kernel⟩, List.mem_of_getElem? (i := 915) (by decide +kernel), List.mem_of_getElem? (i := 1042) (by decide +kernel), List.mem_of_getElem? (i := 1043) (by decide +kernel)⟩
theorem lw_p26 : lw_okq (⟨"PadPolishModel", "isLetter", "(I)Z"⟩, 24) := ⟨⟨by decide +kernel, by decide +kernel⟩, List.mem_of_getElem? (i := 915) (by decide +kernel), List.mem_of_getElem? (i := 1051) (by decide +kernel), List.mem_of_getElem? (i := 1052) (by decide +kernel)⟩
theorem lw_p27 : lw_okq (⟨"PadPolishModel", "must", "(Z)V"⟩, 24) := ⟨⟨by decide +kernel, by decide +kernel⟩, List.mem_of_getElem? (i := 915) (by decide +kernel), List.mem_of_getElem? (i := 1055) (by decide +kernel), List.mem_of_getElem? (i := 1056) (by decide +kernel)⟩
theorem lw_p28 : lw_okq (⟨"PadPolishModel", "bad", "(I)V"⟩, 24) := ⟨⟨by decide +kernel, by decide +kernel⟩, List.mem_of_getElem? (i := 915) (by decide +kernel), List.mem_of_getElem? (i := 1059) (by decide +kernel), List.mem_of_getElem? (i := 1060) (by decide +kernel)⟩
theorem lw_p29 : lw_okq (⟨"PadPolishModel", "number", "(II)I"⟩, 24) := ⟨⟨by decide +kernel, by decide +kernel⟩, List.mem_of_getElem? (i := 915) (by decide +kernel), List.mem_of_getElem? (i := 1063) (by decide +kernel), List.mem_of_getElem? (i := 1064) (by decide +kernel)⟩
theorem lw_p30 : lw_okq (⟨"PadPolishModel", "mustSign", "(I)V"⟩, 24) := ⟨⟨by decide +kernel, by decide +kernel⟩, List.mem_of_getElem? (i := 915) (by decide +kernel), List.mem_of_getElem? (i := 1067) (by decide +kernel), List.mem_of_getElem? (i := 1068) (by decide +kernel)⟩
theorem lw_p31 : lw_okq (⟨"PadPolishModel", "readCell", "(II)V"⟩, 24) := ⟨⟨by decide +kernel, by decide +kernel⟩, List.mem_of_getElem? (i := 915) (by decide +kernel), List.mem_of_getElem? (i := 1071) (by decide +kernel), List.mem_of_getElem? (i := 1072) (by decide +kernel)⟩
def lw_privs_2 : List (MethodName × Nat) := [(⟨"PadPolish", "passOf", "(I)LPadPolish$Pass;"⟩, 16), (⟨"PadPolish", "guessRounds", "(I)V"⟩, 16), (⟨"PadPolish", "findBestOrder", "()I"⟩, 16), (⟨"PadPolish", "spellOrder", "(II)Z"⟩, 16), (⟨"PadPolish", "allPasses", "()I"⟩, 16), (⟨"PadPolish", "gainsAlong", "(LPadPolish$Pass;I)Z"⟩, 16), (⟨"PadPolish", "rowsThere", "()I"⟩, 16), (⟨"PadPolishModel", "finding", "(I)I"⟩, 24), (⟨"PadPolishModel", "begin", "()V"⟩, 24), (⟨"PadPolishModel", "nextToken", "()V"⟩, 24), (⟨"PadPolishModel", "isLetter", "(I)Z"⟩, 24), (⟨"PadPolishModel", "must", "(Z)V"⟩, 24), (⟨"PadPolishModel", "bad", "(I)V"⟩, 24), (⟨"PadPolishModel", "number", "(II)I"⟩, 24), (⟨"PadPolishModel", "mustSign", "(I)V"⟩, 24), (⟨"PadPolishModel", "readCell", "(II)V"⟩, 24)]
theorem lw_r2 : ∀ q ∈ lw_privs_2, lw_okq q := List.forall_mem_cons.mpr ⟨lw_p16, List.forall_mem_cons.mpr ⟨lw_p17, List.forall_mem_cons.mpr ⟨lw_p18, List.forall_mem_cons.mpr ⟨lw_p19, List.forall_mem_cons.mpr ⟨lw_p20, List.forall_mem_cons.mpr ⟨lw_p21, List.forall_mem_cons.mpr ⟨lw_p22, List.forall_mem_cons.mpr ⟨lw_p23, List.forall_mem_cons.mpr ⟨lw_p24, List.forall_mem_cons.mpr ⟨lw_p25, List.forall_mem_cons.mpr ⟨lw_p26, List.forall_mem_cons.mpr ⟨lw_p27, List.forall_mem_cons.mpr ⟨lw_p28, List.forall_mem_cons.mpr ⟨lw_p29, List.forall_mem_cons.mpr ⟨lw_p30, List.forall_mem_cons.mpr ⟨lw_p31, fun _ h => absurd h List.not_mem_nil⟩⟩⟩⟩⟩⟩⟩⟩⟩⟩⟩⟩⟩⟩⟩⟩
theorem lw_p32 : lw_okq (⟨"PadPolishModel", "readPass", "()V"⟩, 24) := ⟨⟨by decide +kernel, by decide +kernel⟩, List.mem_of_getElem? (i := 915) (by decide +kernel), List.mem_of_getElem? (i := 1078) (by decide +kernel), List.mem_of_getElem? (i := 1079) (by decide +kernel)⟩
theorem lw_p33 : lw_okq (⟨"PadPolishModel", "failed", "()Z"⟩, 24) := ⟨⟨by decide +kernel, by decide +kernel⟩, List.mem_of_getElem? (i := 915) (by decide +kernel), List.mem_of_getElem? (i := 1085) (by decide +kernel), List.mem_of_getElem? (i := 1086) (by decide +kernel)⟩
theorem lw_p34 : lw_okq (⟨"PadPolishModel", "isThere", "()Z"⟩, 24) := ⟨⟨by decide +kernel, by decide +kernel⟩, List.mem_of_getElem? (i := 915) (by decide +kernel), List.mem_of_getElem? (i := 1094) (by decide +kernel), List.mem_of_getElem? (i := 1095) (by decide +kernel)⟩
theorem lw_p35 : lw_okq (⟨"PadPolishModel", "keep", "()V"⟩, 24) := ⟨⟨by decide +kernel, by decide +kernel⟩, List.mem_of_getElem? (i := 915) (by decide +kernel), List.mem_of_getElem? (i := 1100) (by decide +kernel), List.mem_of_getElem? (i := 1101) (by decide +kernel)⟩
theorem lw_p36 : lw_okq (⟨"PadPolishModel", "isPass", "(I)Z"⟩, 24) := ⟨⟨by decide +kernel, by decide +kernel⟩, List.mem_of_getElem? (i := 915) (by decide +kernel), List.mem_of_getElem? (i := 1111) (by decide +kernel), List.mem_of_getElem? (i := 1112) (by decide +kernel)⟩
theorem lw_p37 : lw_okq (⟨"PadPolishModel", "pass", "([II)V"⟩, 24) := ⟨⟨by decide +kernel, by decide +kernel⟩, List.mem_of_getElem? (i := 915) (by decide +kernel), List.mem_of_getElem? (i := 1115) (by decide +kernel), List.mem_of_getElem? (i := 1116) (by decide +kernel)⟩
theorem lw_p38 : lw_okq (⟨"PadPolishModel", "cellsOf", "(I)I"⟩, 24) := ⟨⟨by decide +kernel, by decide +kernel⟩, List.mem_of_getElem? (i := 915) (by decide +kernel), List.mem_of_getElem? (i := 1119) (by decide +kernel), List.mem_of_getElem? (i := 1120) (by decide +kernel)⟩
theorem lw_p39 : lw_okq (⟨"PadPolishModel", "kindOf", "(I)I"⟩, 24) := ⟨⟨by decide +kernel, by decide +kernel⟩, List.mem_of_getElem? (i := 915) (by decide +kernel), List.mem_of_getElem? (i := 1123) (by decide +kernel), List.mem_of_getElem? (i := 1124) (by decide +kernel)⟩
theorem lw_p40 : lw_okq (⟨"PadPolishModel", "cellAt", "(II)I"⟩, 24) := ⟨⟨by decide +kernel, by decide +kernel⟩, List.mem_of_getElem? (i := 915) (by decide +kernel), List.mem_of_getElem? (i := 1127) (by decide +kernel), List.mem_of_getElem? (i := 1128) (by decide +kernel)⟩
theorem lw_p41 : lw_okq (⟨"PadPolishModel", "overBy", "(I)I"⟩, 24) := ⟨⟨by decide +kernel, by decide +kernel⟩, List.mem_of_getElem? (i := 915) (by decide +kernel), List.mem_of_getElem? (i := 1167) (by decide +kernel), List.mem_of_getElem? (i := 1168) (by decide +kernel)⟩
theorem lw_p42 : lw_okq (⟨"PadPolishModel", "layAhead", "(I)V"⟩, 24) := ⟨⟨by decide +kernel, by decide +kernel⟩, List.mem_of_getElem? (i := 915) (by decide +kernel), List.mem_of_getElem? (i := 1184) (by decide +kernel), List.mem_of_getElem? (i := 1185) (by decide +kernel)⟩
theorem lw_p43 : lw_okq (⟨"PadPolishModel", "layThen", "()V"⟩, 24) := ⟨⟨by decide +kernel, by decide +kernel⟩, List.mem_of_getElem? (i := 915) (by decide +kernel), List.mem_of_getElem? (i := 1188) (by decide +kernel), List.mem_of_getElem? (i := 1189) (by decide +kernel)⟩
theorem lw_p44 : lw_okq (⟨"PadPolishModel", "allPasses", "([I)V"⟩, 24) := ⟨⟨by decide +kernel, by decide +kernel⟩, List.mem_of_getElem? (i := 915) (by decide +kernel), List.mem_of_getElem? (i := 1192) (by decide +kernel), List.mem_of_getElem? (i := 1193) (by decide +kernel)⟩
theorem lw_p45 : lw_okq (⟨"PadPolishModel", "isOrder", "(I)Z"⟩, 24) := ⟨⟨by decide +kernel, by decide +kernel⟩, List.mem_of_getElem? (i := 915) (by decide +kernel), List.mem_of_getElem? (i := 1208) (by decide +kernel), List.mem_of_getElem? (i := 1209) (by decide +kernel)⟩
theorem lw_p46 : lw_okq (⟨"PadPolishModel", "placed", "(II)I"⟩, 24) := ⟨⟨by decide +kernel, by decide +kernel⟩, List.mem_of_getElem? (i := 915) (by decide +kernel), List.mem_of_getElem? (i := 1212) (by decide +kernel), List.mem_of_getElem? (i := 1213) (by decide +kernel)⟩
theorem lw_p47 : lw_okq (⟨"PadPolishModel", "overAll", "()I"⟩, 24) := ⟨⟨by decide +kernel, by decide +kernel⟩, List.mem_of_getElem? (i := 915) (by decide +kernel), List.mem_of_getElem? (i := 1221) (by decide +kernel), List.mem_of_getElem? (i := 1222) (by decide +kernel)⟩
def lw_privs_3 : List (MethodName × Nat) := [(⟨"PadPolishModel", "readPass", "()V"⟩, 24), (⟨"PadPolishModel", "failed", "()Z"⟩, 24), (⟨"PadPolishModel", "isThere", "()Z"⟩, 24), (⟨"PadPolishModel", "keep", "()V"⟩, 24), (⟨"PadPolishModel", "isPass", "(I)Z"⟩, 24), (⟨"PadPolishModel", "pass", "([II)V"⟩, 24), (⟨"PadPolishModel", "cellsOf", "(I)I"⟩, 24), (⟨"PadPolishModel", "kindOf", "(I)I"⟩, 24), (⟨"PadPolishModel", "cellAt", "(II)I"⟩, 24), (⟨"PadPolishModel", "overBy", "(I)I"⟩, 24), (⟨"PadPolishModel", "layAhead", "(I)V"⟩, 24), (⟨"PadPolishModel", "layThen", "()V"⟩, 24), (⟨"PadPolishModel", "allPasses", "([I)V"⟩, 24), (⟨"PadPolishModel", "isOrder", "(I)Z"⟩, 24), (⟨"PadPolishModel", "placed", "(II)I"⟩, 24), (⟨"PadPolishModel", "overAll", "()I"⟩, 24)]
theorem lw_r3 : ∀ q ∈ lw_privs_3, lw_okq q := List.forall_mem_cons.mpr ⟨lw_p32, List.forall_mem_cons.mpr ⟨lw_p33, List.forall_mem_cons.mpr ⟨lw_p34, List.forall_mem_cons.mpr ⟨lw_p35, List.forall_mem_cons.mpr ⟨lw_p36, List.forall_mem_cons.mpr ⟨lw_p37, List.forall_mem_cons.mpr ⟨lw_p38, List.forall_mem_cons.mpr ⟨lw_p39, List.forall_mem_cons.mpr ⟨lw_p40, List.forall_mem_cons.mpr ⟨lw_p41, List.forall_mem_cons.mpr ⟨lw_p42, List.forall_mem_cons.mpr ⟨lw_p43, List.forall_mem_cons.mpr ⟨lw_p44, List.forall_mem_cons.mpr ⟨lw_p45, List.forall_mem_cons.mpr ⟨lw_p46, List.forall_mem_cons.mpr ⟨lw_p47, fun _ h => absurd h List.not_mem_nil⟩⟩⟩⟩⟩⟩⟩⟩⟩⟩⟩⟩⟩⟩⟩⟩
theorem lw_p48 : lw_okq (⟨"PadPolishModel", "sizeOf", "(I)I"⟩, 24) := ⟨⟨by decide +kernel, by decide +kernel⟩, List.mem_of_getElem? (i := 915) (by decide +kernel), List.mem_of_getElem? (i := 1295) (by decide +kernel), List.mem_of_getElem? (i := 1296) (by decide +kernel)⟩
theorem lw_p49 : lw_okq (⟨"PadPolishModel", "clearSize", "(I)I"⟩, 24) := ⟨⟨by decide +kernel, by decide +kernel⟩, List.mem_of_getElem? (i := 915) (by decide +kernel), List.mem_of_getElem? (i := 1299) (by decide +kernel), List.mem_of_getElem? (i := 1300) (by decide +kernel)⟩
theorem lw_p50 : lw_okq (⟨"PadPolishModel", "began", "(I)V"⟩, 24) := ⟨⟨by decide +kernel, by decide +kernel⟩, List.mem_of_getElem? (i := 915) (by decide +kernel), List.mem_of_getElem? (i := 1303) (by decide +kernel), List.mem_of_getElem? (i := 1304) (by decide +kernel)⟩
theorem lw_p51 : lw_okq (⟨"PadPolishModel", "plainSize", "(I)I"⟩, 24) := ⟨⟨by decide +kernel, by decide +kernel⟩, List.mem_of_getElem? (i := 915) (by decide +kernel), List.mem_of_getElem? (i := 1307) (by decide +kernel), List.mem_of_getElem? (i := 1308) (by decide +kernel)⟩
theorem lw_p52 : lw_okq (⟨"PadPolishModel", "markOf", "(I)I"⟩, 24) := ⟨⟨by decide +kernel, by decide +kernel⟩, List.mem_of_getElem? (i := 915) (by decide +kernel), List.mem_of_getElem? (i := 1311) (by decide +kernel), List.mem_of_getElem? (i := 1312) (by decide +kernel)⟩
def lw_privs_4 : List (MethodName × Nat) := [(⟨"PadPolishModel", "sizeOf", "(I)I"⟩, 24), (⟨"PadPolishModel", "clearSize", "(I)I"⟩, 24), (⟨"PadPolishModel", "began", "(I)V"⟩, 24), (⟨"PadPolishModel", "plainSize", "(I)I"⟩, 24), (⟨"PadPolishModel", "markOf", "(I)I"⟩, 24)]
theorem lw_r4 : ∀ q ∈ lw_privs_4, lw_okq q := List.forall_mem_cons.mpr ⟨lw_p48, List.forall_mem_cons.mpr ⟨lw_p49, List.forall_mem_cons.mpr ⟨lw_p50, List.forall_mem_cons.mpr ⟨lw_p51, List.forall_mem_cons.mpr ⟨lw_p52, fun _ h => absurd h List.not_mem_nil⟩⟩⟩⟩⟩
def lw_privs : List (MethodName × Nat) := lw_privs_1 ++ (lw_privs_2 ++ (lw_privs_3 ++ (lw_privs_4)))
def lw_tbl : List Cond := k2_sels lw_privs ++ tables_1
theorem lw_privs_ok : ∀ q ∈ lw_privs, lw_okq q := by
  show ∀ q ∈ lw_privs_1 ++ (lw_privs_2 ++ (lw_privs_3 ++ (lw_privs_4))), lw_okq q
  exact List.forall_mem_append.mpr ⟨lw_r1, List.forall_mem_append.mpr ⟨lw_r2, List.forall_mem_append.mpr ⟨lw_r3, lw_r4⟩⟩⟩
def RX0 : String := "PadPolish$Clearing"
def TX0 : u_T := fun k => match k with
  | 0 => ("PadPolish$Pass", "number", "I", true)
  | _ => ("PadPolish$Pass", "way", "[I", true)
def tyX0 : Nat → FieldType := fun k => match k with
  | 0 => .int
  | _ => .array .int
theorem nmX0 : ∀ a, a < 2 → ∀ b, b < 2 → a ≠ b → (TX0 a).2.1 ≠ (TX0 b).2.1 := by decide +kernel
theorem tyX0_ok : ∀ k, k < 2 → parseFieldDescriptor (TX0 k).2.2.1 = some (tyX0 k) := by decide +kernel
abbrev cX0_init : ByteArray := prog_2_method_1_code
def yX0_init : MethodName := ⟨RX0, "<init>", "(I[I)V"⟩
abbrev cX0_kindNumber : ByteArray := prog_2_method_2_code
def yX0_kindNumber : MethodName := ⟨RX0, "kindNumber", "()I"⟩
abbrev cX0_clearedHaze : ByteArray := prog_2_method_3_code
def yX0_clearedHaze : MethodName := ⟨RX0, "clearedHaze", "()I"⟩
abbrev cX0_touch : ByteArray := prog_2_method_4_code
def yX0_touch : MethodName := ⟨RX0, "touch", "(LPadPolish$Surface;I)V"⟩
abbrev cX0_size : ByteArray := prog_2_method_5_code
def yX0_size : MethodName := ⟨RX0, "size", "(ILPadPolish$Trace;)I"⟩
abbrev cX0_mark : ByteArray := prog_2_method_6_code
def yX0_mark : MethodName := ⟨RX0, "mark", "(ILPadPolish$Trace;)I"⟩
def RX1 : String := "PadPolish$Dry"
def TX1 : u_T := fun k => match k with
  | 0 => ("PadPolish$Pass", "number", "I", true)
  | _ => ("PadPolish$Pass", "way", "[I", true)
def tyX1 : Nat → FieldType := fun k => match k with
  | 0 => .int
  | _ => .array .int
theorem nmX1 : ∀ a, a < 2 → ∀ b, b < 2 → a ≠ b → (TX1 a).2.1 ≠ (TX1 b).2.1 := by decide +kernel
theorem tyX1_ok : ∀ k, k < 2 → parseFieldDescriptor (TX1 k).2.2.1 = some (tyX1 k) := by decide +kernel
abbrev cX1_init : ByteArray := prog_3_method_1_code
def yX1_init : MethodName := ⟨RX1, "<init>", "(I[I)V"⟩
abbrev cX1_kindNumber : ByteArray := prog_3_method_2_code
def yX1_kindNumber : MethodName := ⟨RX1, "kindNumber", "()I"⟩
abbrev cX1_laid : ByteArray := prog_3_method_3_code
def yX1_laid : MethodName := ⟨RX1, "laid", "(I)I"⟩
abbrev cX1_takeFirst : ByteArray := prog_3_method_4_code
def yX1_takeFirst : MethodName := ⟨RX1, "takeFirst", "(LPadPolish$Surface;I)V"⟩
abbrev cX1_mark : ByteArray := prog_3_method_5_code
def yX1_mark : MethodName := ⟨RX1, "mark", "(ILPadPolish$Trace;)I"⟩
def RX2 : String := "PadPolish$Pass"
def TX2 : u_T := fun k => match k with
  | _ => ("", "", "", false)
def tyX2 : Nat → FieldType := fun k => match k with
  | _ => .int
theorem nmX2 : ∀ a, a < 0 → ∀ b, b < 0 → a ≠ b → (TX2 a).2.1 ≠ (TX2 b).2.1 := by decide +kernel
theorem tyX2_ok : ∀ k, k < 0 → parseFieldDescriptor (TX2 k).2.2.1 = some (tyX2 k) := by decide +kernel
abbrev cX2_init : ByteArray := prog_4_method_1_code
def yX2_init : MethodName := ⟨RX2, "<init>", "(I[I)V"⟩
abbrev cX2_goAlong : ByteArray := prog_4_method_4_code
def yX2_goAlong : MethodName := ⟨RX2, "goAlong", "(LPadPolish$Surface;)V"⟩
abbrev cX2_cells : ByteArray := prog_4_method_5_code
def yX2_cells : MethodName := ⟨RX2, "cells", "()I"⟩
abbrev cX2_size : ByteArray := prog_4_method_6_code
def yX2_size : MethodName := ⟨RX2, "size", "(ILPadPolish$Trace;)I"⟩
abbrev cX2_mark : ByteArray := prog_4_method_7_code
def yX2_mark : MethodName := ⟨RX2, "mark", "(ILPadPolish$Trace;)I"⟩
def RX3 : String := "PadPolish$Row"
def TX3 : u_T := fun k => match k with
  | 0 => ("PadPolish$Row", "items", "[I", true)
  | 1 => ("PadPolish$Row", "lane", "I", false)
  | _ => ("PadPolish$Row", "length", "I", false)
def tyX3 : Nat → FieldType := fun k => match k with
  | 0 => .array .int
  | 1 => .int
  | _ => .int
theorem nmX3 : ∀ a, a < 3 → ∀ b, b < 3 → a ≠ b → (TX3 a).2.1 ≠ (TX3 b).2.1 := by decide +kernel
theorem tyX3_ok : ∀ k, k < 3 → parseFieldDescriptor (TX3 k).2.2.1 = some (tyX3 k) := by decide +kernel
abbrev cX3_init : ByteArray := prog_5_method_1_code
def yX3_init : MethodName := ⟨RX3, "<init>", "()V"⟩
abbrev cX3_isMissing : ByteArray := prog_5_method_2_code
def yX3_isMissing : MethodName := ⟨RX3, "isMissing", "()Z"⟩
abbrev cX3_begin : ByteArray := prog_5_method_3_code
def yX3_begin : MethodName := ⟨RX3, "begin", "(II)V"⟩
abbrev cX3_reaches : ByteArray := prog_5_method_4_code
def yX3_reaches : MethodName := ⟨RX3, "reaches", "(II)Z"⟩
abbrev cX3_put : ByteArray := prog_5_method_5_code
def yX3_put : MethodName := ⟨RX3, "put", "(II)I"⟩
abbrev cX3_tellsFilm : ByteArray := prog_5_method_6_code
def yX3_tellsFilm : MethodName := ⟨RX3, "tellsFilm", "(ILPadPolish$Surface;)Z"⟩
def RX4 : String := "PadPolish$Sliding"
def TX4 : u_T := fun k => match k with
  | 0 => ("PadPolish$Pass", "number", "I", true)
  | _ => ("PadPolish$Pass", "way", "[I", true)
def tyX4 : Nat → FieldType := fun k => match k with
  | 0 => .int
  | _ => .array .int
theorem nmX4 : ∀ a, a < 2 → ∀ b, b < 2 → a ≠ b → (TX4 a).2.1 ≠ (TX4 b).2.1 := by decide +kernel
theorem tyX4_ok : ∀ k, k < 2 → parseFieldDescriptor (TX4 k).2.2.1 = some (tyX4 k) := by decide +kernel
abbrev cX4_init : ByteArray := prog_6_method_1_code
def yX4_init : MethodName := ⟨RX4, "<init>", "(I[I)V"⟩
abbrev cX4_kindNumber : ByteArray := prog_6_method_2_code
def yX4_kindNumber : MethodName := ⟨RX4, "kindNumber", "()I"⟩
abbrev cX4_laid : ByteArray := prog_6_method_3_code
def yX4_laid : MethodName := ⟨RX4, "laid", "(I)I"⟩
abbrev cX4_takeFirst : ByteArray := prog_6_method_4_code
def yX4_takeFirst : MethodName := ⟨RX4, "takeFirst", "(LPadPolish$Surface;I)V"⟩
abbrev cX4_touch : ByteArray := prog_6_method_5_code
def yX4_touch : MethodName := ⟨RX4, "touch", "(LPadPolish$Surface;I)V"⟩
abbrev cX4_size : ByteArray := prog_6_method_6_code
def yX4_size : MethodName := ⟨RX4, "size", "(ILPadPolish$Trace;)I"⟩
abbrev cX4_mark : ByteArray := prog_6_method_7_code
def yX4_mark : MethodName := ⟨RX4, "mark", "(ILPadPolish$Trace;)I"⟩
def RX5 : String := "PadPolish$Soaked"
def TX5 : u_T := fun k => match k with
  | 0 => ("PadPolish$Pass", "number", "I", true)
  | _ => ("PadPolish$Pass", "way", "[I", true)
def tyX5 : Nat → FieldType := fun k => match k with
  | 0 => .int
  | _ => .array .int
theorem nmX5 : ∀ a, a < 2 → ∀ b, b < 2 → a ≠ b → (TX5 a).2.1 ≠ (TX5 b).2.1 := by decide +kernel
theorem tyX5_ok : ∀ k, k < 2 → parseFieldDescriptor (TX5 k).2.2.1 = some (tyX5 k) := by decide +kernel
abbrev cX5_init : ByteArray := prog_7_method_1_code
def yX5_init : MethodName := ⟨RX5, "<init>", "(I[I)V"⟩
abbrev cX5_kindNumber : ByteArray := prog_7_method_2_code
def yX5_kindNumber : MethodName := ⟨RX5, "kindNumber", "()I"⟩
abbrev cX5_laid : ByteArray := prog_7_method_3_code
def yX5_laid : MethodName := ⟨RX5, "laid", "(I)I"⟩
abbrev cX5_takeFirst : ByteArray := prog_7_method_4_code
def yX5_takeFirst : MethodName := ⟨RX5, "takeFirst", "(LPadPolish$Surface;I)V"⟩
abbrev cX5_size : ByteArray := prog_7_method_5_code
def yX5_size : MethodName := ⟨RX5, "size", "(ILPadPolish$Trace;)I"⟩
abbrev cX5_mark : ByteArray := prog_7_method_6_code
def yX5_mark : MethodName := ⟨RX5, "mark", "(ILPadPolish$Trace;)I"⟩
def RX6 : String := "PadPolish$Straight"
def TX6 : u_T := fun k => match k with
  | 0 => ("PadPolish$Pass", "number", "I", true)
  | _ => ("PadPolish$Pass", "way", "[I", true)
def tyX6 : Nat → FieldType := fun k => match k with
  | 0 => .int
  | _ => .array .int
theorem nmX6 : ∀ a, a < 2 → ∀ b, b < 2 → a ≠ b → (TX6 a).2.1 ≠ (TX6 b).2.1 := by decide +kernel
theorem tyX6_ok : ∀ k, k < 2 → parseFieldDescriptor (TX6 k).2.2.1 = some (tyX6 k) := by decide +kernel
abbrev cX6_init : ByteArray := prog_8_method_1_code
def yX6_init : MethodName := ⟨RX6, "<init>", "(I[I)V"⟩
abbrev cX6_kindNumber : ByteArray := prog_8_method_2_code
def yX6_kindNumber : MethodName := ⟨RX6, "kindNumber", "()I"⟩
abbrev cX6_clearedHaze : ByteArray := prog_8_method_3_code
def yX6_clearedHaze : MethodName := ⟨RX6, "clearedHaze", "()I"⟩
abbrev cX6_size : ByteArray := prog_8_method_4_code
def yX6_size : MethodName := ⟨RX6, "size", "(ILPadPolish$Trace;)I"⟩
def RX7 : String := "PadPolish$Surface"
def TX7 : u_T := fun k => match k with
  | 0 => ("PadPolish$Surface", "film", "[I", true)
  | 1 => ("PadPolish$Surface", "soft", "[I", true)
  | 2 => ("PadPolish$Surface", "haze", "[I", true)
  | 3 => ("PadPolish$Surface", "wet", "I", false)
  | 4 => ("PadPolish$Surface", "oil", "I", false)
  | _ => ("PadPolish$Surface", "spent", "I", false)
def tyX7 : Nat → FieldType := fun k => match k with
  | 0 => .array .int
  | 1 => .array .int
  | 2 => .array .int
  | 3 => .int
  | 4 => .int
  | _ => .int
theorem nmX7 : ∀ a, a < 6 → ∀ b, b < 6 → a ≠ b → (TX7 a).2.1 ≠ (TX7 b).2.1 := by decide +kernel
theorem tyX7_ok : ∀ k, k < 6 → parseFieldDescriptor (TX7 k).2.2.1 = some (tyX7 k) := by decide +kernel
abbrev cX7_init : ByteArray := prog_9_method_1_code
def yX7_init : MethodName := ⟨RX7, "<init>", "()V"⟩
abbrev cX7_become : ByteArray := prog_9_method_2_code
def yX7_become : MethodName := ⟨RX7, "become", "(LPadPolish$Surface;)V"⟩
abbrev cX7_wipe : ByteArray := prog_9_method_3_code
def yX7_wipe : MethodName := ⟨RX7, "wipe", "()V"⟩
abbrev cX7_soakPad : ByteArray := prog_9_method_4_code
def yX7_soakPad : MethodName := ⟨RX7, "soakPad", "(II)V"⟩
abbrev cX7_dryPad : ByteArray := prog_9_method_5_code
def yX7_dryPad : MethodName := ⟨RX7, "dryPad", "()V"⟩
abbrev cX7_layFilm : ByteArray := prog_9_method_6_code
def yX7_layFilm : MethodName := ⟨RX7, "layFilm", "(II)V"⟩
abbrev cX7_layHaze : ByteArray := prog_9_method_7_code
def yX7_layHaze : MethodName := ⟨RX7, "layHaze", "(I)V"⟩
abbrev cX7_takeHaze : ByteArray := prog_9_method_8_code
def yX7_takeHaze : MethodName := ⟨RX7, "takeHaze", "(II)V"⟩
abbrev cX7_takeSoft : ByteArray := prog_9_method_9_code
def yX7_takeSoft : MethodName := ⟨RX7, "takeSoft", "(II)V"⟩
abbrev cX7_scratch : ByteArray := prog_9_method_10_code
def yX7_scratch : MethodName := ⟨RX7, "scratch", "(I)V"⟩
abbrev cX7_tearAt : ByteArray := prog_9_method_11_code
def yX7_tearAt : MethodName := ⟨RX7, "tearAt", "(I)V"⟩
abbrev cX7_sinkBy : ByteArray := prog_9_method_12_code
def yX7_sinkBy : MethodName := ⟨RX7, "sinkBy", "(I)V"⟩
abbrev cX7_allFilm : ByteArray := prog_9_method_13_code
def yX7_allFilm : MethodName := ⟨RX7, "allFilm", "()I"⟩
abbrev cX7_thinnest : ByteArray := prog_9_method_14_code
def yX7_thinnest : MethodName := ⟨RX7, "thinnest", "()I"⟩
abbrev cX7_unevenness : ByteArray := prog_9_method_15_code
def yX7_unevenness : MethodName := ⟨RX7, "unevenness", "()I"⟩
abbrev cX7_thinnestCells : ByteArray := prog_9_method_16_code
def yX7_thinnestCells : MethodName := ⟨RX7, "thinnestCells", "()I"⟩
abbrev cX7_lackTo : ByteArray := prog_9_method_17_code
def yX7_lackTo : MethodName := ⟨RX7, "lackTo", "(II)I"⟩
def RX8 : String := "PadPolish$Table"
def TX8 : u_T := fun k => match k with
  | 0 => ("PadPolish$Table", "surface", "LPadPolish$Surface;", true)
  | 1 => ("PadPolish$Table", "passes", "Ljava/util/ArrayList;", false)
  | _ => ("PadPolish$Table", "sink", "I", false)
def tyX8 : Nat → FieldType := fun k => match k with
  | 0 => .object "PadPolish$Surface"
  | 1 => .object "java/util/ArrayList"
  | _ => .int
theorem nmX8 : ∀ a, a < 3 → ∀ b, b < 3 → a ≠ b → (TX8 a).2.1 ≠ (TX8 b).2.1 := by decide +kernel
theorem tyX8_ok : ∀ k, k < 3 → parseFieldDescriptor (TX8 k).2.2.1 = some (tyX8 k) := by decide +kernel
abbrev cX8_init : ByteArray := prog_10_method_1_code
def yX8_init : MethodName := ⟨RX8, "<init>", "()V"⟩
abbrev cX8_begin : ByteArray := prog_10_method_2_code
def yX8_begin : MethodName := ⟨RX8, "begin", "()V"⟩
abbrev cX8_become : ByteArray := prog_10_method_3_code
def yX8_become : MethodName := ⟨RX8, "become", "(LPadPolish$Table;)V"⟩
abbrev cX8_makeAll : ByteArray := prog_10_method_4_code
def yX8_makeAll : MethodName := ⟨RX8, "makeAll", "(LPadPolish$Surface;)V"⟩
abbrev cX8_makeSome : ByteArray := prog_10_method_5_code
def yX8_makeSome : MethodName := ⟨RX8, "makeSome", "(ILPadPolish$Surface;)V"⟩
abbrev cX8_cellsOf : ByteArray := prog_10_method_6_code
def yX8_cellsOf : MethodName := ⟨RX8, "cellsOf", "(I)I"⟩
abbrev cX8_passesAcross : ByteArray := prog_10_method_7_code
def yX8_passesAcross : MethodName := ⟨RX8, "passesAcross", "(I)I"⟩
def RX9 : String := "PadPolish$Tape"
def TX9 : u_T := fun k => match k with
  | 0 => ("PadPolish$Tape", "bytes", "[I", true)
  | 1 => ("PadPolish$Tape", "way", "[I", true)
  | 2 => ("PadPolish$Tape", "length", "I", false)
  | 3 => ("PadPolish$Tape", "at", "I", false)
  | _ => ("PadPolish$Tape", "faultNumber", "I", false)
def tyX9 : Nat → FieldType := fun k => match k with
  | 0 => .array .int
  | 1 => .array .int
  | 2 => .int
  | 3 => .int
  | _ => .int
theorem nmX9 : ∀ a, a < 5 → ∀ b, b < 5 → a ≠ b → (TX9 a).2.1 ≠ (TX9 b).2.1 := by decide +kernel
theorem tyX9_ok : ∀ k, k < 5 → parseFieldDescriptor (TX9 k).2.2.1 = some (tyX9 k) := by decide +kernel
abbrev cX9_init : ByteArray := prog_11_method_1_code
def yX9_init : MethodName := ⟨RX9, "<init>", "()V"⟩
abbrev cX9_append : ByteArray := prog_11_method_2_code
def yX9_append : MethodName := ⟨RX9, "append", "(I)Z"⟩
abbrev cX9_readInto : ByteArray := prog_11_method_3_code
def yX9_readInto : MethodName := ⟨RX9, "readInto", "(LPadPolish$Table;)Z"⟩
abbrev cX9_readLaw : ByteArray := prog_11_method_4_code
def yX9_readLaw : MethodName := ⟨RX9, "readLaw", "(LPadPolish$Table;)Z"⟩
abbrev cX9_readCells : ByteArray := prog_11_method_5_code
def yX9_readCells : MethodName := ⟨RX9, "readCells", "(LPadPolish$Table;)Z"⟩
abbrev cX9_readPasses : ByteArray := prog_11_method_6_code
def yX9_readPasses : MethodName := ⟨RX9, "readPasses", "(LPadPolish$Table;)Z"⟩
abbrev cX9_readWay : ByteArray := prog_11_method_7_code
def yX9_readWay : MethodName := ⟨RX9, "readWay", "()I"⟩
abbrev cX9_beside : ByteArray := prog_11_method_8_code
def yX9_beside : MethodName := ⟨RX9, "beside", "(II)I"⟩
abbrev cX9_isSort : ByteArray := prog_11_method_9_code
def yX9_isSort : MethodName := ⟨RX9, "isSort", "(I)Z"⟩
abbrev cX9_newPass : ByteArray := prog_11_method_10_code
def yX9_newPass : MethodName := ⟨RX9, "newPass", "(II[I)LPadPolish$Pass;"⟩
abbrev cX9_next : ByteArray := prog_11_method_11_code
def yX9_next : MethodName := ⟨RX9, "next", "()I"⟩
abbrev cX9_readSign : ByteArray := prog_11_method_12_code
def yX9_readSign : MethodName := ⟨RX9, "readSign", "(C)Z"⟩
abbrev cX9_readNumber : ByteArray := prog_11_method_13_code
def yX9_readNumber : MethodName := ⟨RX9, "readNumber", "(I)I"⟩
abbrev cX9_isFigure : ByteArray := prog_11_method_14_code
def yX9_isFigure : MethodName := ⟨RX9, "isFigure", "(I)Z"⟩
abbrev cX9_refuse : ByteArray := prog_11_method_15_code
def yX9_refuse : MethodName := ⟨RX9, "refuse", "(I)Z"⟩
def RX10 : String := "PadPolish$Trace"
def TX10 : u_T := fun k => match k with
  | 0 => ("PadPolish$Trace", "numbers", "[I", true)
  | _ => ("PadPolish$Trace", "length", "I", false)
def tyX10 : Nat → FieldType := fun k => match k with
  | 0 => .array .int
  | _ => .int
theorem nmX10 : ∀ a, a < 2 → ∀ b, b < 2 → a ≠ b → (TX10 a).2.1 ≠ (TX10 b).2.1 := by decide +kernel
theorem tyX10_ok : ∀ k, k < 2 → parseFieldDescriptor (TX10 k).2.2.1 = some (tyX10 k) := by decide +kernel
abbrev cX10_init : ByteArray := prog_12_method_1_code
def yX10_init : MethodName := ⟨RX10, "<init>", "()V"⟩
abbrev cX10_leave : ByteArray := prog_12_method_2_code
def yX10_leave : MethodName := ⟨RX10, "leave", "(I)V"⟩
def RX11 : String := "PadPolish"
def TX11 : u_T := fun k => match k with
  | 0 => ("PadPolish", "rows", "[LPadPolish$Row;", true)
  | 1 => ("PadPolish", "tape", "LPadPolish$Tape;", true)
  | 2 => ("PadPolish", "images", "[LPadPolish$Table;", true)
  | 3 => ("PadPolish", "imageKept", "[Z", true)
  | 4 => ("PadPolish", "acts", "[LPadPolish$Surface;", true)
  | 5 => ("PadPolish", "guess", "LPadPolish$Surface;", true)
  | 6 => ("PadPolish", "left", "LPadPolish$Trace;", true)
  | 7 => ("PadPolish", "triedOrder", "[I", true)
  | 8 => ("PadPolish", "bestOrder", "[I", true)
  | 9 => ("PadPolish", "current", "LPadPolish$Table;", false)
  | 10 => ("PadPolish", "draft", "LPadPolish$Table;", false)
  | 11 => ("PadPolish", "told", "Z", false)
  | 12 => ("PadPolish", "latestFault", "I", false)
  | 13 => ("PadPolish", "nextAct", "I", false)
  | 14 => ("PadPolish", "actCount", "I", false)
  | _ => ("PadPolish", "latestFinding", "I", false)
def tyX11 : Nat → FieldType := fun k => match k with
  | 0 => .array (.object "PadPolish$Row")
  | 1 => .object "PadPolish$Tape"
  | 2 => .array (.object "PadPolish$Table")
  | 3 => .array .boolean
  | 4 => .array (.object "PadPolish$Surface")
  | 5 => .object "PadPolish$Surface"
  | 6 => .object "PadPolish$Trace"
  | 7 => .array .int
  | 8 => .array .int
  | 9 => .object "PadPolish$Table"
  | 10 => .object "PadPolish$Table"
  | 11 => .boolean
  | 12 => .int
  | 13 => .int
  | 14 => .int
  | _ => .int
theorem nmX11 : ∀ a, a < 16 → ∀ b, b < 16 → a ≠ b → (TX11 a).2.1 ≠ (TX11 b).2.1 := by decide +kernel
theorem tyX11_ok : ∀ k, k < 16 → parseFieldDescriptor (TX11 k).2.2.1 = some (tyX11 k) := by decide +kernel
abbrev cX11_init : ByteArray := prog_1_method_1_code
def yX11_init : MethodName := ⟨RX11, "<init>", "()V"⟩
abbrev cX11_row : ByteArray := prog_1_method_2_code
def yX11_row : MethodName := ⟨RX11, "row", "(III)I"⟩
abbrev cX11_set : ByteArray := prog_1_method_3_code
def yX11_set : MethodName := ⟨RX11, "set", "(III)I"⟩
abbrev cX11_copy : ByteArray := prog_1_method_4_code
def yX11_copy : MethodName := ⟨RX11, "copy", "(IIIII)I"⟩
abbrev cX11_drop : ByteArray := prog_1_method_5_code
def yX11_drop : MethodName := ⟨RX11, "drop", "(I)I"⟩
abbrev cX11_feed : ByteArray := prog_1_method_6_code
def yX11_feed : MethodName := ⟨RX11, "feed", "(I)I"⟩
abbrev cX11_table : ByteArray := prog_1_method_7_code
def yX11_table : MethodName := ⟨RX11, "table", "()I"⟩
abbrev cX11_fault : ByteArray := prog_1_method_8_code
def yX11_fault : MethodName := ⟨RX11, "fault", "()I"⟩
abbrev cX11_undo : ByteArray := prog_1_method_9_code
def yX11_undo : MethodName := ⟨RX11, "undo", "()I"⟩
abbrev cX11_charge : ByteArray := prog_1_method_10_code
def yX11_charge : MethodName := ⟨RX11, "charge", "(II)I"⟩
abbrev cX11_make : ByteArray := prog_1_method_11_code
def yX11_make : MethodName := ⟨RX11, "make", "(I)I"⟩
abbrev cX11_stand : ByteArray := prog_1_method_12_code
def yX11_stand : MethodName := ⟨RX11, "stand", "(I)I"⟩
abbrev cX11_rest : ByteArray := prog_1_method_13_code
def yX11_rest : MethodName := ⟨RX11, "rest", "()I"⟩
abbrev cX11_cell : ByteArray := prog_1_method_14_code
def yX11_cell : MethodName := ⟨RX11, "cell", "(II)I"⟩
abbrev cX11_path : ByteArray := prog_1_method_15_code
def yX11_path : MethodName := ⟨RX11, "path", "(II)I"⟩
abbrev cX11_pad : ByteArray := prog_1_method_16_code
def yX11_pad : MethodName := ⟨RX11, "pad", "(I)I"⟩
abbrev cX11_ahead : ByteArray := prog_1_method_17_code
def yX11_ahead : MethodName := ⟨RX11, "ahead", "(III)I"⟩
abbrev cX11_uneven : ByteArray := prog_1_method_18_code
def yX11_uneven : MethodName := ⟨RX11, "uneven", "(I)I"⟩
abbrev cX11_order : ByteArray := prog_1_method_19_code
def yX11_order : MethodName := ⟨RX11, "order", "(I)I"⟩
abbrev cX11_enough : ByteArray := prog_1_method_20_code
def yX11_enough : MethodName := ⟨RX11, "enough", "(I)I"⟩
abbrev cX11_wetFor : ByteArray := prog_1_method_21_code
def yX11_wetFor : MethodName := ⟨RX11, "wetFor", "(II)I"⟩
abbrev cX11_over : ByteArray := prog_1_method_22_code
def yX11_over : MethodName := ⟨RX11, "over", "(II)I"⟩
abbrev cX11_goOn : ByteArray := prog_1_method_23_code
def yX11_goOn : MethodName := ⟨RX11, "goOn", "()I"⟩
abbrev cX11_done : ByteArray := prog_1_method_24_code
def yX11_done : MethodName := ⟨RX11, "done", "(III)I"⟩
abbrev cX11_cups : ByteArray := prog_1_method_25_code
def yX11_cups : MethodName := ⟨RX11, "cups", "(II)I"⟩
abbrev cX11_thin : ByteArray := prog_1_method_26_code
def yX11_thin : MethodName := ⟨RX11, "thin", "()I"⟩
abbrev cX11_dust : ByteArray := prog_1_method_27_code
def yX11_dust : MethodName := ⟨RX11, "dust", "(IIII)J"⟩
abbrev cX11_evenings : ByteArray := prog_1_method_28_code
def yX11_evenings : MethodName := ⟨RX11, "evenings", "(III)I"⟩
abbrev cX11_image : ByteArray := prog_1_method_29_code
def yX11_image : MethodName := ⟨RX11, "image", "(I)I"⟩
abbrev cX11_restore : ByteArray := prog_1_method_30_code
def yX11_restore : MethodName := ⟨RX11, "restore", "(I)I"⟩
abbrev cX11_kind : ByteArray := prog_1_method_31_code
def yX11_kind : MethodName := ⟨RX11, "kind", "(I)I"⟩
abbrev cX11_as : ByteArray := prog_1_method_32_code
def yX11_as : MethodName := ⟨RX11, "as", "(II)I"⟩
abbrev cX11_ask : ByteArray := prog_1_method_33_code
def yX11_ask : MethodName := ⟨RX11, "ask", "(II)I"⟩
abbrev cX11_trace : ByteArray := prog_1_method_34_code
def yX11_trace : MethodName := ⟨RX11, "trace", "(I)I"⟩
abbrev cX11_count : ByteArray := prog_1_method_35_code
def yX11_count : MethodName := ⟨RX11, "count", "(I)I"⟩
abbrev cX11_status : ByteArray := prog_1_method_36_code
def yX11_status : MethodName := ⟨RX11, "status", "()I"⟩
abbrev cX11_isWithin : ByteArray := prog_1_method_37_code
def yX11_isWithin : MethodName := ⟨RX11, "isWithin", "(III)Z"⟩
abbrev cX11_isRow : ByteArray := prog_1_method_38_code
def yX11_isRow : MethodName := ⟨RX11, "isRow", "(I)Z"⟩
abbrev cX11_isCell : ByteArray := prog_1_method_39_code
def yX11_isCell : MethodName := ⟨RX11, "isCell", "(I)Z"⟩
abbrev cX11_found : ByteArray := prog_1_method_40_code
def yX11_found : MethodName := ⟨RX11, "found", "(I)I"⟩
abbrev cX11_unfound : ByteArray := prog_1_method_41_code
def yX11_unfound : MethodName := ⟨RX11, "unfound", "(I)I"⟩
abbrev cX11_passOf : ByteArray := prog_1_method_42_code
def yX11_passOf : MethodName := ⟨RX11, "passOf", "(I)LPadPolish$Pass;"⟩
abbrev cX11_allPasses : ByteArray := prog_1_method_43_code
def yX11_allPasses : MethodName := ⟨RX11, "allPasses", "()I"⟩
abbrev cX11_keepAct : ByteArray := prog_1_method_44_code
def yX11_keepAct : MethodName := ⟨RX11, "keepAct", "()V"⟩
abbrev cX11_forgetActs : ByteArray := prog_1_method_45_code
def yX11_forgetActs : MethodName := ⟨RX11, "forgetActs", "()V"⟩
abbrev cX11_guessRounds : ByteArray := prog_1_method_46_code
def yX11_guessRounds : MethodName := ⟨RX11, "guessRounds", "(I)V"⟩
abbrev cX11_gainsAlong : ByteArray := prog_1_method_47_code
def yX11_gainsAlong : MethodName := ⟨RX11, "gainsAlong", "(LPadPolish$Pass;I)Z"⟩
abbrev cX11_findBestOrder : ByteArray := prog_1_method_48_code
def yX11_findBestOrder : MethodName := ⟨RX11, "findBestOrder", "()I"⟩
abbrev cX11_spellOrder : ByteArray := prog_1_method_49_code
def yX11_spellOrder : MethodName := ⟨RX11, "spellOrder", "(II)Z"⟩
abbrev cX11_power : ByteArray := prog_1_method_50_code
def yX11_power : MethodName := ⟨RX11, "power", "(JI)J"⟩
abbrev cX11_commonDivisor : ByteArray := prog_1_method_51_code
def yX11_commonDivisor : MethodName := ⟨RX11, "commonDivisor", "(JJ)J"⟩
abbrev cX11_isOfKind : ByteArray := prog_1_method_52_code
def yX11_isOfKind : MethodName := ⟨RX11, "isOfKind", "(LPadPolish$Pass;I)Z"⟩
abbrev cX11_rowsThere : ByteArray := prog_1_method_53_code
def yX11_rowsThere : MethodName := ⟨RX11, "rowsThere", "()I"⟩
abbrev cX11_cellsAboveNone : ByteArray := prog_1_method_54_code
def yX11_cellsAboveNone : MethodName := ⟨RX11, "cellsAboveNone", "([I)I"⟩
def RX12 : String := "PadPolishModel"
def TX12 : u_T := fun k => match k with
  | 0 => ("PadPolishModel", "thrown", "I", false)
  | 1 => ("PadPolishModel", "status", "I", false)
  | 2 => ("PadPolishModel", "lane", "[I", true)
  | 3 => ("PadPolishModel", "many", "[I", true)
  | 4 => ("PadPolishModel", "item", "[I", true)
  | 5 => ("PadPolishModel", "table", "[I", true)
  | 6 => ("PadPolishModel", "fresh", "[I", true)
  | 7 => ("PadPolishModel", "then", "[I", true)
  | 8 => ("PadPolishModel", "was", "[I", true)
  | 9 => ("PadPolishModel", "acts", "I", false)
  | 10 => ("PadPolishModel", "tape", "[I", true)
  | 11 => ("PadPolishModel", "taped", "I", false)
  | 12 => ("PadPolishModel", "cursor", "I", false)
  | 13 => ("PadPolishModel", "start", "I", false)
  | 14 => ("PadPolishModel", "token", "I", false)
  | 15 => ("PadPolishModel", "value", "I", false)
  | 16 => ("PadPolishModel", "fault", "I", false)
  | 17 => ("PadPolishModel", "faultAt", "I", false)
  | 18 => ("PadPolishModel", "latest", "I", false)
  | 19 => ("PadPolishModel", "last", "I", false)
  | 20 => ("PadPolishModel", "isKept", "[Z", true)
  | 21 => ("PadPolishModel", "kept", "[I", true)
  | 22 => ("PadPolishModel", "trace", "[I", true)
  | _ => ("PadPolishModel", "traced", "I", false)
def tyX12 : Nat → FieldType := fun k => match k with
  | 0 => .int
  | 1 => .int
  | 2 => .array .int
  | 3 => .array .int
  | 4 => .array .int
  | 5 => .array .int
  | 6 => .array .int
  | 7 => .array .int
  | 8 => .array .int
  | 9 => .int
  | 10 => .array .int
  | 11 => .int
  | 12 => .int
  | 13 => .int
  | 14 => .int
  | 15 => .int
  | 16 => .int
  | 17 => .int
  | 18 => .int
  | 19 => .int
  | 20 => .array .boolean
  | 21 => .array .int
  | 22 => .array .int
  | _ => .int
theorem nmX12 : ∀ a, a < 24 → ∀ b, b < 24 → a ≠ b → (TX12 a).2.1 ≠ (TX12 b).2.1 := by decide +kernel
theorem tyX12_ok : ∀ k, k < 24 → parseFieldDescriptor (TX12 k).2.2.1 = some (tyX12 k) := by decide +kernel
abbrev cX12_init : ByteArray := prog_14_method_1_code
def yX12_init : MethodName := ⟨RX12, "<init>", "()V"⟩
abbrev cX12_in : ByteArray := prog_14_method_3_code
def yX12_in : MethodName := ⟨RX12, "in", "(JJJ)Z"⟩
abbrev cX12_finding : ByteArray := prog_14_method_4_code
def yX12_finding : MethodName := ⟨RX12, "finding", "(I)I"⟩
abbrev cX12_isRow : ByteArray := prog_14_method_5_code
def yX12_isRow : MethodName := ⟨RX12, "isRow", "(I)Z"⟩
abbrev cX12_row : ByteArray := prog_14_method_6_code
def yX12_row : MethodName := ⟨RX12, "row", "(III)I"⟩
abbrev cX12_set : ByteArray := prog_14_method_7_code
def yX12_set : MethodName := ⟨RX12, "set", "(III)I"⟩
abbrev cX12_copy : ByteArray := prog_14_method_8_code
def yX12_copy : MethodName := ⟨RX12, "copy", "(IIIII)I"⟩
abbrev cX12_drop : ByteArray := prog_14_method_9_code
def yX12_drop : MethodName := ⟨RX12, "drop", "(I)I"⟩
abbrev cX12_feed : ByteArray := prog_14_method_10_code
def yX12_feed : MethodName := ⟨RX12, "feed", "(I)I"⟩
abbrev cX12_bad : ByteArray := prog_14_method_11_code
def yX12_bad : MethodName := ⟨RX12, "bad", "(I)V"⟩
abbrev cX12_nextToken : ByteArray := prog_14_method_12_code
def yX12_nextToken : MethodName := ⟨RX12, "nextToken", "()V"⟩
abbrev cX12_must : ByteArray := prog_14_method_13_code
def yX12_must : MethodName := ⟨RX12, "must", "(Z)V"⟩
abbrev cX12_isLetter : ByteArray := prog_14_method_14_code
def yX12_isLetter : MethodName := ⟨RX12, "isLetter", "(I)Z"⟩
abbrev cX12_number : ByteArray := prog_14_method_15_code
def yX12_number : MethodName := ⟨RX12, "number", "(II)I"⟩
abbrev cX12_mustSign : ByteArray := prog_14_method_16_code
def yX12_mustSign : MethodName := ⟨RX12, "mustSign", "(I)V"⟩
abbrev cX12_begin : ByteArray := prog_14_method_17_code
def yX12_begin : MethodName := ⟨RX12, "begin", "()V"⟩
abbrev cX12_failed : ByteArray := prog_14_method_18_code
def yX12_failed : MethodName := ⟨RX12, "failed", "()Z"⟩
abbrev cX12_fault : ByteArray := prog_14_method_19_code
def yX12_fault : MethodName := ⟨RX12, "fault", "()I"⟩
abbrev cX12_kindBy : ByteArray := prog_14_method_20_code
def yX12_kindBy : MethodName := ⟨RX12, "kindBy", "(I)I"⟩
abbrev cX12_readCell : ByteArray := prog_14_method_21_code
def yX12_readCell : MethodName := ⟨RX12, "readCell", "(II)V"⟩
abbrev cX12_stepFrom : ByteArray := prog_14_method_22_code
def yX12_stepFrom : MethodName := ⟨RX12, "stepFrom", "(II)I"⟩
abbrev cX12_readPass : ByteArray := prog_14_method_23_code
def yX12_readPass : MethodName := ⟨RX12, "readPass", "()V"⟩
abbrev cX12_table : ByteArray := prog_14_method_24_code
def yX12_table : MethodName := ⟨RX12, "table", "()I"⟩
abbrev cX12_isThere : ByteArray := prog_14_method_25_code
def yX12_isThere : MethodName := ⟨RX12, "isThere", "()Z"⟩
abbrev cX12_isPass : ByteArray := prog_14_method_26_code
def yX12_isPass : MethodName := ⟨RX12, "isPass", "(I)Z"⟩
abbrev cX12_isCell : ByteArray := prog_14_method_27_code
def yX12_isCell : MethodName := ⟨RX12, "isCell", "(I)Z"⟩
abbrev cX12_areCells : ByteArray := prog_14_method_28_code
def yX12_areCells : MethodName := ⟨RX12, "areCells", "(I)Z"⟩
abbrev cX12_kindOf : ByteArray := prog_14_method_29_code
def yX12_kindOf : MethodName := ⟨RX12, "kindOf", "(I)I"⟩
abbrev cX12_cellsOf : ByteArray := prog_14_method_30_code
def yX12_cellsOf : MethodName := ⟨RX12, "cellsOf", "(I)I"⟩
abbrev cX12_cellAt : ByteArray := prog_14_method_31_code
def yX12_cellAt : MethodName := ⟨RX12, "cellAt", "(II)I"⟩
abbrev cX12_overBy : ByteArray := prog_14_method_32_code
def yX12_overBy : MethodName := ⟨RX12, "overBy", "(I)I"⟩
abbrev cX12_lay : ByteArray := prog_14_method_33_code
def yX12_lay : MethodName := ⟨RX12, "lay", "([III)V"⟩
abbrev cX12_goOver : ByteArray := prog_14_method_34_code
def yX12_goOver : MethodName := ⟨RX12, "goOver", "([III)V"⟩
abbrev cX12_pass : ByteArray := prog_14_method_35_code
def yX12_pass : MethodName := ⟨RX12, "pass", "([II)V"⟩
abbrev cX12_allPasses : ByteArray := prog_14_method_36_code
def yX12_allPasses : MethodName := ⟨RX12, "allPasses", "([I)V"⟩
abbrev cX12_stands : ByteArray := prog_14_method_37_code
def yX12_stands : MethodName := ⟨RX12, "stands", "([II)V"⟩
abbrev cX12_rests : ByteArray := prog_14_method_38_code
def yX12_rests : MethodName := ⟨RX12, "rests", "([I)V"⟩
abbrev cX12_filmOf : ByteArray := prog_14_method_39_code
def yX12_filmOf : MethodName := ⟨RX12, "filmOf", "([I)I"⟩
abbrev cX12_unevenOf : ByteArray := prog_14_method_40_code
def yX12_unevenOf : MethodName := ⟨RX12, "unevenOf", "([I)I"⟩
abbrev cX12_layThen : ByteArray := prog_14_method_41_code
def yX12_layThen : MethodName := ⟨RX12, "layThen", "()V"⟩
abbrev cX12_keep : ByteArray := prog_14_method_42_code
def yX12_keep : MethodName := ⟨RX12, "keep", "()V"⟩
abbrev cX12_atMost : ByteArray := prog_14_method_43_code
def yX12_atMost : MethodName := ⟨RX12, "atMost", "(II)I"⟩
abbrev cX12_charge : ByteArray := prog_14_method_44_code
def yX12_charge : MethodName := ⟨RX12, "charge", "(II)I"⟩
abbrev cX12_make : ByteArray := prog_14_method_45_code
def yX12_make : MethodName := ⟨RX12, "make", "(I)I"⟩
abbrev cX12_stand : ByteArray := prog_14_method_46_code
def yX12_stand : MethodName := ⟨RX12, "stand", "(I)I"⟩
abbrev cX12_rest : ByteArray := prog_14_method_47_code
def yX12_rest : MethodName := ⟨RX12, "rest", "()I"⟩
abbrev cX12_undo : ByteArray := prog_14_method_48_code
def yX12_undo : MethodName := ⟨RX12, "undo", "()I"⟩
abbrev cX12_cell : ByteArray := prog_14_method_49_code
def yX12_cell : MethodName := ⟨RX12, "cell", "(II)I"⟩
abbrev cX12_path : ByteArray := prog_14_method_50_code
def yX12_path : MethodName := ⟨RX12, "path", "(II)I"⟩
abbrev cX12_pad : ByteArray := prog_14_method_51_code
def yX12_pad : MethodName := ⟨RX12, "pad", "(I)I"⟩
abbrev cX12_layAhead : ByteArray := prog_14_method_52_code
def yX12_layAhead : MethodName := ⟨RX12, "layAhead", "(I)V"⟩
abbrev cX12_ahead : ByteArray := prog_14_method_53_code
def yX12_ahead : MethodName := ⟨RX12, "ahead", "(III)I"⟩
abbrev cX12_uneven : ByteArray := prog_14_method_54_code
def yX12_uneven : MethodName := ⟨RX12, "uneven", "(I)I"⟩
abbrev cX12_placed : ByteArray := prog_14_method_55_code
def yX12_placed : MethodName := ⟨RX12, "placed", "(II)I"⟩
abbrev cX12_isOrder : ByteArray := prog_14_method_56_code
def yX12_isOrder : MethodName := ⟨RX12, "isOrder", "(I)Z"⟩
abbrev cX12_order : ByteArray := prog_14_method_57_code
def yX12_order : MethodName := ⟨RX12, "order", "(I)I"⟩
abbrev cX12_overAll : ByteArray := prog_14_method_58_code
def yX12_overAll : MethodName := ⟨RX12, "overAll", "()I"⟩
abbrev cX12_enough : ByteArray := prog_14_method_59_code
def yX12_enough : MethodName := ⟨RX12, "enough", "(I)I"⟩
abbrev cX12_wetFor : ByteArray := prog_14_method_60_code
def yX12_wetFor : MethodName := ⟨RX12, "wetFor", "(II)I"⟩
abbrev cX12_bits : ByteArray := prog_14_method_61_code
def yX12_bits : MethodName := ⟨RX12, "bits", "(I)I"⟩
abbrev cX12_over : ByteArray := prog_14_method_62_code
def yX12_over : MethodName := ⟨RX12, "over", "(II)I"⟩
abbrev cX12_goOn : ByteArray := prog_14_method_63_code
def yX12_goOn : MethodName := ⟨RX12, "goOn", "()I"⟩
abbrev cX12_done : ByteArray := prog_14_method_64_code
def yX12_done : MethodName := ⟨RX12, "done", "(III)I"⟩
abbrev cX12_cups : ByteArray := prog_14_method_65_code
def yX12_cups : MethodName := ⟨RX12, "cups", "(II)I"⟩
abbrev cX12_thin : ByteArray := prog_14_method_66_code
def yX12_thin : MethodName := ⟨RX12, "thin", "()I"⟩
abbrev cX12_dust : ByteArray := prog_14_method_67_code
def yX12_dust : MethodName := ⟨RX12, "dust", "(IIII)J"⟩
abbrev cX12_evenings : ByteArray := prog_14_method_68_code
def yX12_evenings : MethodName := ⟨RX12, "evenings", "(III)I"⟩
abbrev cX12_image : ByteArray := prog_14_method_69_code
def yX12_image : MethodName := ⟨RX12, "image", "(I)I"⟩
abbrev cX12_restore : ByteArray := prog_14_method_70_code
def yX12_restore : MethodName := ⟨RX12, "restore", "(I)I"⟩
abbrev cX12_isOf : ByteArray := prog_14_method_71_code
def yX12_isOf : MethodName := ⟨RX12, "isOf", "(II)Z"⟩
abbrev cX12_kind : ByteArray := prog_14_method_72_code
def yX12_kind : MethodName := ⟨RX12, "kind", "(I)I"⟩
abbrev cX12_as : ByteArray := prog_14_method_73_code
def yX12_as : MethodName := ⟨RX12, "as", "(II)I"⟩
abbrev cX12_began : ByteArray := prog_14_method_74_code
def yX12_began : MethodName := ⟨RX12, "began", "(I)V"⟩
abbrev cX12_plainSize : ByteArray := prog_14_method_75_code
def yX12_plainSize : MethodName := ⟨RX12, "plainSize", "(I)I"⟩
abbrev cX12_clearSize : ByteArray := prog_14_method_76_code
def yX12_clearSize : MethodName := ⟨RX12, "clearSize", "(I)I"⟩
abbrev cX12_markOf : ByteArray := prog_14_method_77_code
def yX12_markOf : MethodName := ⟨RX12, "markOf", "(I)I"⟩
abbrev cX12_sizeOf : ByteArray := prog_14_method_78_code
def yX12_sizeOf : MethodName := ⟨RX12, "sizeOf", "(I)I"⟩
abbrev cX12_ask : ByteArray := prog_14_method_79_code
def yX12_ask : MethodName := ⟨RX12, "ask", "(II)I"⟩
abbrev cX12_trace : ByteArray := prog_14_method_80_code
def yX12_trace : MethodName := ⟨RX12, "trace", "(I)I"⟩
abbrev cX12_count : ByteArray := prog_14_method_81_code
def yX12_count : MethodName := ⟨RX12, "count", "(I)I"⟩
abbrev cX12_status : ByteArray := prog_14_method_82_code
def yX12_status : MethodName := ⟨RX12, "status", "()I"⟩
def RJx145de : String := "java/io/Serializable"
def TJx145de : u_T := fun k => match k with
  | _ => ("", "", "", false)
def tyJx145de : Nat → FieldType := fun k => match k with
  | _ => .int
theorem nmJx145de : ∀ a, a < 0 → ∀ b, b < 0 → a ≠ b → (TJx145de a).2.1 ≠ (TJx145de b).2.1 := by decide +kernel
theorem tyJx145de_ok : ∀ k, k < 0 → parseFieldDescriptor (TJx145de k).2.2.1 = some (tyJx145de k) := by decide +kernel
def RJx8e188 : String := "java/lang/Cloneable"
def TJx8e188 : u_T := fun k => match k with
  | _ => ("", "", "", false)
def tyJx8e188 : Nat → FieldType := fun k => match k with
  | _ => .int
theorem nmJx8e188 : ∀ a, a < 0 → ∀ b, b < 0 → a ≠ b → (TJx8e188 a).2.1 ≠ (TJx8e188 b).2.1 := by decide +kernel
theorem tyJx8e188_ok : ∀ k, k < 0 → parseFieldDescriptor (TJx8e188 k).2.2.1 = some (tyJx8e188 k) := by decide +kernel
def RJ6 : String := "java/lang/Integer"
def TJ6 : u_T := fun k => match k with
  | _ => ("", "", "", false)
def tyJ6 : Nat → FieldType := fun k => match k with
  | _ => .int
theorem nmJ6 : ∀ a, a < 0 → ∀ b, b < 0 → a ≠ b → (TJ6 a).2.1 ≠ (TJ6 b).2.1 := by decide +kernel
theorem tyJ6_ok : ∀ k, k < 0 → parseFieldDescriptor (TJ6 k).2.2.1 = some (tyJ6 k) := by decide +kernel
abbrev cJ6_bitCount_0f7a4 : ByteArray := prog_17_method_49_code
def yJ6_bitCount_0f7a4 : MethodName := ⟨RJ6, "bitCount", "(I)I"⟩
def RJxab1ab : String := "java/lang/Iterable"
def TJxab1ab : u_T := fun k => match k with
  | _ => ("", "", "", false)
def tyJxab1ab : Nat → FieldType := fun k => match k with
  | _ => .int
theorem nmJxab1ab : ∀ a, a < 0 → ∀ b, b < 0 → a ≠ b → (TJxab1ab a).2.1 ≠ (TJxab1ab b).2.1 := by decide +kernel
theorem tyJxab1ab_ok : ∀ k, k < 0 → parseFieldDescriptor (TJxab1ab k).2.2.1 = some (tyJxab1ab k) := by decide +kernel
def RJ9 : String := "java/lang/Math"
def TJ9 : u_T := fun k => match k with
  | _ => ("", "", "", false)
def tyJ9 : Nat → FieldType := fun k => match k with
  | _ => .int
theorem nmJ9 : ∀ a, a < 0 → ∀ b, b < 0 → a ≠ b → (TJ9 a).2.1 ≠ (TJ9 b).2.1 := by decide +kernel
theorem tyJ9_ok : ∀ k, k < 0 → parseFieldDescriptor (TJ9 k).2.2.1 = some (tyJ9 k) := by decide +kernel
abbrev cJ9_max_7cf53 : ByteArray := prog_19_method_65_code
def yJ9_max_7cf53 : MethodName := ⟨RJ9, "max", "(II)I"⟩
abbrev cJ9_min_7cf53 : ByteArray := prog_19_method_69_code
def yJ9_min_7cf53 : MethodName := ⟨RJ9, "min", "(II)I"⟩
def RJ10 : String := "java/lang/System"
def TJ10 : u_T := fun k => match k with
  | _ => ("", "", "", false)
def tyJ10 : Nat → FieldType := fun k => match k with
  | _ => .int
theorem nmJ10 : ∀ a, a < 0 → ∀ b, b < 0 → a ≠ b → (TJ10 a).2.1 ≠ (TJ10 b).2.1 := by decide +kernel
theorem tyJ10_ok : ∀ k, k < 0 → parseFieldDescriptor (TJ10 k).2.2.1 = some (tyJ10 k) := by decide +kernel
def RJxa1e45 : String := "java/util/AbstractCollection"
def TJxa1e45 : u_T := fun k => match k with
  | _ => ("", "", "", false)
def tyJxa1e45 : Nat → FieldType := fun k => match k with
  | _ => .int
theorem nmJxa1e45 : ∀ a, a < 0 → ∀ b, b < 0 → a ≠ b → (TJxa1e45 a).2.1 ≠ (TJxa1e45 b).2.1 := by decide +kernel
theorem tyJxa1e45_ok : ∀ k, k < 0 → parseFieldDescriptor (TJxa1e45 k).2.2.1 = some (tyJxa1e45 k) := by decide +kernel
abbrev cJxa1e45_init_da8c8 : ByteArray := prog_21_method_1_code
def yJxa1e45_init_da8c8 : MethodName := ⟨RJxa1e45, "<init>", "()V"⟩
def RJxc12de : String := "java/util/AbstractList"
def TJxc12de : u_T := fun k => match k with
  | _ => ("", "", "", false)
def tyJxc12de : Nat → FieldType := fun k => match k with
  | _ => .int
theorem nmJxc12de : ∀ a, a < 0 → ∀ b, b < 0 → a ≠ b → (TJxc12de a).2.1 ≠ (TJxc12de b).2.1 := by decide +kernel
theorem tyJxc12de_ok : ∀ k, k < 0 → parseFieldDescriptor (TJxc12de k).2.2.1 = some (tyJxc12de k) := by decide +kernel
abbrev cJxc12de_init_da8c8 : ByteArray := prog_22_method_1_code
def yJxc12de_init_da8c8 : MethodName := ⟨RJxc12de, "<init>", "()V"⟩
def RJx4a65c : String := "java/util/ArrayList"
def TJx4a65c : u_T := fun k => match k with
  | 0 => ("java/util/AbstractList", "modCount", "I", false)
  | 1 => ("java/util/ArrayList", "elementData", "[Ljava/lang/Object;", false)
  | _ => ("java/util/ArrayList", "size", "I", false)
def tyJx4a65c : Nat → FieldType := fun k => match k with
  | 0 => .int
  | 1 => .array (.object "java/lang/Object")
  | _ => .int
theorem nmJx4a65c : ∀ a, a < 3 → ∀ b, b < 3 → a ≠ b → (TJx4a65c a).2.1 ≠ (TJx4a65c b).2.1 := by decide +kernel
theorem tyJx4a65c_ok : ∀ k, k < 3 → parseFieldDescriptor (TJx4a65c k).2.2.1 = some (tyJx4a65c k) := by decide +kernel
abbrev cJx4a65c_init_da8c8 : ByteArray := prog_23_method_2_code
def yJx4a65c_init_da8c8 : MethodName := ⟨RJx4a65c, "<init>", "()V"⟩
abbrev cJx4a65c_grow_92f84 : ByteArray := prog_23_method_6_code
def yJx4a65c_grow_92f84 : MethodName := ⟨RJx4a65c, "grow", "(I)[Ljava/lang/Object;"⟩
abbrev cJx4a65c_grow_d5877 : ByteArray := prog_23_method_7_code
def yJx4a65c_grow_d5877 : MethodName := ⟨RJx4a65c, "grow", "()[Ljava/lang/Object;"⟩
abbrev cJx4a65c_size_8abf5 : ByteArray := prog_23_method_8_code
def yJx4a65c_size_8abf5 : MethodName := ⟨RJx4a65c, "size", "()I"⟩
abbrev cJx4a65c_elementData_915e3 : ByteArray := prog_23_method_18_code
def yJx4a65c_elementData_915e3 : MethodName := ⟨RJx4a65c, "elementData", "(I)Ljava/lang/Object;"⟩
abbrev cJx4a65c_get_915e3 : ByteArray := prog_23_method_20_code
def yJx4a65c_get_915e3 : MethodName := ⟨RJx4a65c, "get", "(I)Ljava/lang/Object;"⟩
abbrev cJx4a65c_add_72be8 : ByteArray := prog_23_method_24_code
def yJx4a65c_add_72be8 : MethodName := ⟨RJx4a65c, "add", "(Ljava/lang/Object;[Ljava/lang/Object;I)V"⟩
abbrev cJx4a65c_add_9ea2d : ByteArray := prog_23_method_25_code
def yJx4a65c_add_9ea2d : MethodName := ⟨RJx4a65c, "add", "(Ljava/lang/Object;)Z"⟩
def RJ7 : String := "java/util/Arrays"
def TJ7 : u_T := fun k => match k with
  | _ => ("", "", "", false)
def tyJ7 : Nat → FieldType := fun k => match k with
  | _ => .int
theorem nmJ7 : ∀ a, a < 0 → ∀ b, b < 0 → a ≠ b → (TJ7 a).2.1 ≠ (TJ7 b).2.1 := by decide +kernel
theorem tyJ7_ok : ∀ k, k < 0 → parseFieldDescriptor (TJ7 k).2.2.1 = some (tyJ7 k) := by decide +kernel
abbrev cJ7_fill_53178 : ByteArray := prog_24_method_103_code
def yJ7_fill_53178 : MethodName := ⟨RJ7, "fill", "([II)V"⟩
abbrev cJ7_copyOf_1904c : ByteArray := prog_24_method_119_code
def yJ7_copyOf_1904c : MethodName := ⟨RJ7, "copyOf", "([Ljava/lang/Object;I)[Ljava/lang/Object;"⟩
abbrev cJ7_copyOf_6403c : ByteArray := prog_24_method_120_code
def yJ7_copyOf_6403c : MethodName := ⟨RJ7, "copyOf", "([Ljava/lang/Object;ILjava/lang/Class;)[Ljava/lang/Object;"⟩
abbrev cJ7_copyOf_59c91 : ByteArray := prog_24_method_123_code
def yJ7_copyOf_59c91 : MethodName := ⟨RJ7, "copyOf", "([II)[I"⟩
def RJx5ef63 : String := "java/util/Collection"
def TJx5ef63 : u_T := fun k => match k with
  | _ => ("", "", "", false)
def tyJx5ef63 : Nat → FieldType := fun k => match k with
  | _ => .int
theorem nmJx5ef63 : ∀ a, a < 0 → ∀ b, b < 0 → a ≠ b → (TJx5ef63 a).2.1 ≠ (TJx5ef63 b).2.1 := by decide +kernel
theorem tyJx5ef63_ok : ∀ k, k < 0 → parseFieldDescriptor (TJx5ef63 k).2.2.1 = some (tyJx5ef63 k) := by decide +kernel
def RJxbd725 : String := "java/util/List"
def TJxbd725 : u_T := fun k => match k with
  | _ => ("", "", "", false)
def tyJxbd725 : Nat → FieldType := fun k => match k with
  | _ => .int
theorem nmJxbd725 : ∀ a, a < 0 → ∀ b, b < 0 → a ≠ b → (TJxbd725 a).2.1 ≠ (TJxbd725 b).2.1 := by decide +kernel
theorem tyJxbd725_ok : ∀ k, k < 0 → parseFieldDescriptor (TJxbd725 k).2.2.1 = some (tyJxbd725 k) := by decide +kernel
def RJ15 : String := "java/util/Objects"
def TJ15 : u_T := fun k => match k with
  | _ => ("", "", "", false)
def tyJ15 : Nat → FieldType := fun k => match k with
  | _ => .int
theorem nmJ15 : ∀ a, a < 0 → ∀ b, b < 0 → a ≠ b → (TJ15 a).2.1 ≠ (TJ15 b).2.1 := by decide +kernel
theorem tyJ15_ok : ∀ k, k < 0 → parseFieldDescriptor (TJ15 k).2.2.1 = some (tyJ15 k) := by decide +kernel
abbrev cJ15_checkIndex_7cf53 : ByteArray := prog_27_method_17_code
def yJ15_checkIndex_7cf53 : MethodName := ⟨RJ15, "checkIndex", "(II)I"⟩
def RJxf0a74 : String := "java/util/RandomAccess"
def TJxf0a74 : u_T := fun k => match k with
  | _ => ("", "", "", false)
def tyJxf0a74 : Nat → FieldType := fun k => match k with
  | _ => .int
theorem nmJxf0a74 : ∀ a, a < 0 → ∀ b, b < 0 → a ≠ b → (TJxf0a74 a).2.1 ≠ (TJxf0a74 b).2.1 := by decide +kernel
theorem tyJxf0a74_ok : ∀ k, k < 0 → parseFieldDescriptor (TJxf0a74 k).2.2.1 = some (tyJxf0a74 k) := by decide +kernel
def RJxa66e6 : String := "java/util/SequencedCollection"
def TJxa66e6 : u_T := fun k => match k with
  | _ => ("", "", "", false)
def tyJxa66e6 : Nat → FieldType := fun k => match k with
  | _ => .int
theorem nmJxa66e6 : ∀ a, a < 0 → ∀ b, b < 0 → a ≠ b → (TJxa66e6 a).2.1 ≠ (TJxa66e6 b).2.1 := by decide +kernel
theorem tyJxa66e6_ok : ∀ k, k < 0 → parseFieldDescriptor (TJxa66e6 k).2.2.1 = some (tyJxa66e6 k) := by decide +kernel
def RJ8 : String := "jdk/internal/util/ArraysSupport"
def TJ8 : u_T := fun k => match k with
  | _ => ("", "", "", false)
def tyJ8 : Nat → FieldType := fun k => match k with
  | _ => .int
theorem nmJ8 : ∀ a, a < 0 → ∀ b, b < 0 → a ≠ b → (TJ8 a).2.1 ≠ (TJ8 b).2.1 := by decide +kernel
theorem tyJ8_ok : ∀ k, k < 0 → parseFieldDescriptor (TJ8 k).2.2.1 = some (tyJ8 k) := by decide +kernel
abbrev cJ8_newLength_cabcc : ByteArray := prog_30_method_27_code
def yJ8_newLength_cabcc : MethodName := ⟨RJ8, "newLength", "(III)I"⟩
abbrev cJ8_hugeLength_7cf53 : ByteArray := prog_30_method_28_code
def yJ8_hugeLength_7cf53 : MethodName := ⟨RJ8, "hugeLength", "(II)I"⟩
def RJ3 : String := "jdk/internal/util/Preconditions"
def TJ3 : u_T := fun k => match k with
  | _ => ("", "", "", false)
def tyJ3 : Nat → FieldType := fun k => match k with
  | _ => .int
theorem nmJ3 : ∀ a, a < 0 → ∀ b, b < 0 → a ≠ b → (TJ3 a).2.1 ≠ (TJ3 b).2.1 := by decide +kernel
theorem tyJ3_ok : ∀ k, k < 0 → parseFieldDescriptor (TJ3 k).2.2.1 = some (tyJ3 k) := by decide +kernel
abbrev cJ3_checkIndex_8e157 : ByteArray := prog_31_method_11_code
def yJ3_checkIndex_8e157 : MethodName := ⟨RJ3, "checkIndex", "(IILjava/util/function/BiFunction;)I"⟩
def RL : String := "PadPolishLaw"
abbrev cL_law : ByteArray := code
def yL_law : MethodName := ⟨RL, "law", "([I)Z"⟩
abbrev vwCl : List vw_C := [(RJx4a65c, TJx4a65c, 3), (RX0, TX0, 2), (RX1, TX1, 2), (RX3, TX3, 3), (RX4, TX4, 2), (RX5, TX5, 2), (RX6, TX6, 2), (RX7, TX7, 6), (RX8, TX8, 3), (RX9, TX9, 5), (RX10, TX10, 2), (RX11, TX11, 16), (RX12, TX12, 24)]
