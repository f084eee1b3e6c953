section
-- ===== PART A: goes FIRST, ahead of the names: the tables' words, and 'selects' of the private methods out of them =====
/-- a private method of a class that the tables say can be made, by its rows of tables_1 -/
def lw_okq (q : MethodName × Nat) : Prop := (q.1.cls ≠ "java/lang/invoke/MethodHandle" ∧ q.1.cls ≠ "java/lang/invoke/VarHandle") ∧ Cond.instantiable q.1.cls q.2 ∈ tables_1 ∧ Cond.privateMethod q.1 ∈ tables_1 ∧ Cond.instanceMethod q.1 ∈ tables_1
theorem lw_p0 : lw_okq (⟨"PadPolish", "found", "(I)I"⟩, 16) := ⟨⟨by decide +kernel, by decide +kernel⟩, List.mem_of_getElem? (i := 25) (by decide +kernel), List.mem_of_getElem? (i := 245) (by decide +kernel), List.mem_of_getElem? (i := 246) (by decide +kernel)⟩
theorem lw_p1 : lw_okq (⟨"PadPolish", "unfound", "(I)I"⟩, 16) := ⟨⟨by decide +kernel, by decide +kernel⟩, List.mem_of_getElem? (i := 25) (by decide +kernel), List.mem_of_getElem? (i := 257) (by decide +kernel), List.mem_of_getElem? (i := 258) (by decide +kernel)⟩
theorem lw_p2 : lw_okq (⟨"PadPolish$Tape", "readLaw", "(LPadPolish$Table;)Z"⟩, 5) := ⟨⟨by decide +kernel, by decide +kernel⟩, List.mem_of_getElem? (i := 35) (by decide +kernel), List.mem_of_getElem? (i := 314) (by decide +kernel), List.mem_of_getElem? (i := 315) (by decide +kernel)⟩
theorem lw_p3 : lw_okq (⟨"PadPolish$Tape", "readSign", "(C)Z"⟩, 5) := ⟨⟨by decide +kernel, by decide +kernel⟩, List.mem_of_getElem? (i := 35) (by decide +kernel), List.mem_of_getElem? (i := 318) (by decide +kernel), List.mem_of_getElem? (i := 319) (by decide +kernel)⟩
theorem lw_p4 : lw_okq (⟨"PadPolish$Tape", "next", "()I"⟩, 5) := ⟨⟨by decide +kernel, by decide +kernel⟩, List.mem_of_getElem? (i := 35) (by decide +kernel), List.mem_of_getElem? (i := 322) (by decide +kernel), List.mem_of_getElem? (i := 323) (by decide +kernel)⟩
theorem lw_p5 : lw_okq (⟨"PadPolish$Tape", "refuse", "(I)Z"⟩, 5) := ⟨⟨by decide +kernel, by decide +kernel⟩, List.mem_of_getElem? (i := 35) (by decide +kernel), List.mem_of_getElem? (i := 326) (by decide +kernel), List.mem_of_getElem? (i := 327) (by decide +kernel)⟩
theorem lw_p6 : lw_okq (⟨"PadPolish$Tape", "readNumber", "(I)I"⟩, 5) := ⟨⟨by decide +kernel, by decide +kernel⟩, List.mem_of_getElem? (i := 35) (by decide +kernel), List.mem_of_getElem? (i := 330) (by decide +kernel), List.mem_of_getElem? (i := 331) (by decide +kernel)⟩
theorem lw_p7 : lw_okq (⟨"PadPolish$Tape", "isFigure", "(I)Z"⟩, 5) := ⟨⟨by decide +kernel, by decide +kernel⟩, List.mem_of_getElem? (i := 35) (by decide +kernel), List.mem_of_getElem? (i := 334) (by decide +kernel), List.mem_of_getElem? (i := 335) (by decide +kernel)⟩
theorem lw_p8 : lw_okq (⟨"PadPolish$Tape", "readCells", "(LPadPolish$Table;)Z"⟩, 5) := ⟨⟨by decide +kernel, by decide +kernel⟩, List.mem_of_getElem? (i := 35) (by decide +kernel), List.mem_of_getElem? (i := 338) (by decide +kernel), List.mem_of_getElem? (i := 339) (by decide +kernel)⟩
theorem lw_p9 : lw_okq (⟨"PadPolish$Tape", "readPasses", "(LPadPolish$Table;)Z"⟩, 5) := ⟨⟨by decide +kernel, by decide +kernel⟩, List.mem_of_getElem? (i := 35) (by decide +kernel), List.mem_of_getElem? (i := 342) (by decide +kernel), List.mem_of_getElem? (i := 343) (by decide +kernel)⟩
theorem lw_p10 : lw_okq (⟨"PadPolish$Tape", "readWay", "()I"⟩, 5) := ⟨⟨by decide +kernel, by decide +kernel⟩, List.mem_of_getElem? (i := 35) (by decide +kernel), List.mem_of_getElem? (i := 349) (by decide +kernel), List.mem_of_getElem? (i := 350) (by decide +kernel)⟩
theorem lw_p11 : lw_okq (⟨"java/util/ArrayList", "add", "(Ljava/lang/Object;[Ljava/lang/Object;I)V"⟩, 3) := ⟨⟨by decide +kernel, by decide +kernel⟩, List.mem_of_getElem? (i := 125) (by decide +kernel), List.mem_of_getElem? (i := 430) (by decide +kernel), List.mem_of_getElem? (i := 431) (by decide +kernel)⟩
theorem lw_p12 : lw_okq (⟨"java/util/ArrayList", "grow", "()[Ljava/lang/Object;"⟩, 3) := ⟨⟨by decide +kernel, by decide +kernel⟩, List.mem_of_getElem? (i := 125) (by decide +kernel), List.mem_of_getElem? (i := 434) (by decide +kernel), List.mem_of_getElem? (i := 435) (by decide +kernel)⟩
theorem lw_p13 : lw_okq (⟨"java/util/ArrayList", "grow", "(I)[Ljava/lang/Object;"⟩, 3) := ⟨⟨by decide +kernel, by decide +kernel⟩, List.mem_of_getElem? (i := 125) (by decide +kernel), List.mem_of_getElem? (i := 438) (by decide +kernel), List.mem_of_getElem? (i := 439) (by decide +kernel)⟩
theorem lw_p14 : lw_okq (⟨"PadPolish", "forgetActs", "()V"⟩, 16) := ⟨⟨by decide +kernel, by decide +kernel⟩, List.mem_of_getElem? (i := 25) (by decide +kernel), List.mem_of_getElem? (i := 481) (by decide +kernel), List.mem_of_getElem? (i := 482) (by decide +kernel)⟩
theorem lw_p15 : lw_okq (⟨"PadPolish", "keepAct", "()V"⟩, 16) := ⟨⟨by decide +kernel, by decide +kernel⟩, List.mem_of_getElem? (i := 25) (by decide +kernel), List.mem_of_getElem? (i := 507) (by decide +kernel), List.mem_of_getElem? (i := 508) (by decide +kernel)⟩
def lw_privs_1 : List (MethodName × Nat) := [(⟨"PadPolish", "found", "(I)I"⟩, 16), (⟨"PadPolish", "unfound", "(I)I"⟩, 16), (⟨"PadPolish$Tape", "readLaw", "(LPadPolish$Table;)Z"⟩, 5), (⟨"PadPolish$Tape", "readSign", "(C)Z"⟩, 5), (⟨"PadPolish$Tape", "next", "()I"⟩, 5), (⟨"PadPolish$Tape", "refuse", "(I)Z"⟩, 5), (⟨"PadPolish$Tape", "readNumber", "(I)I"⟩, 5), (⟨"PadPolish$Tape", "isFigure", "(I)Z"⟩, 5), (⟨"PadPolish$Tape", "readCells", "(LPadPolish$Table;)Z"⟩, 5), (⟨"PadPolish$Tape", "readPasses", "(LPadPolish$Table;)Z"⟩, 5), (⟨"PadPolish$Tape", "readWay", "()I"⟩, 5), (⟨"java/util/ArrayList", "add", "(Ljava/lang/Object;[Ljava/lang/Object;I)V"⟩, 3), (⟨"java/util/ArrayList", "grow", "()[Ljava/lang/Object;"⟩, 3), (⟨"java/util/ArrayList", "grow", "(I)[Ljava/lang/Object;"⟩, 3), (⟨"PadPolish", "forgetActs", "()V"⟩, 16), (⟨"PadPolish", "keepAct", "()V"⟩, 16)]
theorem lw_r1 : ∀ q ∈ lw_privs_1, lw_okq q := List.forall_mem_cons.mpr ⟨lw_p0, List.forall_mem_cons.mpr ⟨lw_p1, List.forall_mem_cons.mpr ⟨lw_p2, List.forall_mem_cons.mpr ⟨lw_p3, List.forall_mem_cons.mpr ⟨lw_p4, List.forall_mem_cons.mpr ⟨lw_p5, List.forall_mem_cons.mpr ⟨lw_p6, List.forall_mem_cons.mpr ⟨lw_p7, List.forall_mem_cons.mpr ⟨lw_p8, List.forall_mem_cons.mpr ⟨lw_p9, List.forall_mem_cons.mpr ⟨lw_p10, List.forall_mem_cons.mpr ⟨lw_p11, List.forall_mem_cons.mpr ⟨lw_p12, List.forall_mem_cons.mpr ⟨lw_p13, List.forall_mem_cons.mpr ⟨lw_p14, List.forall_mem_cons.mpr ⟨lw_p15, fun _ h => absurd h List.not_mem_nil⟩⟩⟩⟩⟩⟩⟩⟩⟩⟩⟩⟩⟩⟩⟩⟩
theorem lw_p16 : lw_okq (⟨"PadPolish", "passOf", "(I)LPadPolish$Pass;"⟩, 16) := ⟨⟨by decide +kernel, by decide +kernel⟩, List.mem_of_getElem? (i := 25) (by decide +kernel), List.mem_of_getElem? (i := 521) (by decide +kernel), List.mem_of_getElem? (i := 522) (by decide +kernel)⟩
theorem lw_p17 : lw_okq (⟨"PadPolish", "guessRounds", "(I)V"⟩, 16) := ⟨⟨by decide +kernel, by decide +kernel⟩, List.mem_of_getElem? (i := 25) (by decide +kernel), List.mem_of_getElem? (i := 676) (by decide +kernel), List.mem_of_getElem? (i := 677) (by decide +kernel)⟩
theorem lw_p18 : lw_okq (⟨"PadPolish", "findBestOrder", "()I"⟩, 16) := ⟨⟨by decide +kernel, by decide +kernel⟩, List.mem_of_getElem? (i := 25) (by decide +kernel), List.mem_of_getElem? (i := 701) (by decide +kernel), List.mem_of_getElem? (i := 702) (by decide +kernel)⟩
theorem lw_p19 : lw_okq (⟨"PadPolish", "spellOrder", "(II)Z"⟩, 16) := ⟨⟨by decide +kernel, by decide +kernel⟩, List.mem_of_getElem? (i := 25) (by decide +kernel), List.mem_of_getElem? (i := 707) (by decide +kernel), List.mem_of_getElem? (i := 708) (by decide +kernel)⟩
theorem lw_p20 : lw_okq (⟨"PadPolish", "allPasses", "()I"⟩, 16) := ⟨⟨by decide +kernel, by decide +kernel⟩, List.mem_of_getElem? (i := 25) (by decide +kernel), List.mem_of_getElem? (i := 711) (by decide +kernel), List.mem_of_getElem? (i := 712) (by decide +kernel)⟩
theorem lw_p21 : lw_okq (⟨"PadPolish", "gainsAlong", "(LPadPolish$Pass;I)Z"⟩, 16) := ⟨⟨by decide +kernel, by decide +kernel⟩, List.mem_of_getElem? (i := 25) (by decide +kernel), List.mem_of_getElem? (i := 731) (by decide +kernel), List.mem_of_getElem? (i := 732) (by decide +kernel)⟩
theorem lw_p22 : lw_okq (⟨"PadPolish", "rowsThere", "()I"⟩, 16) := ⟨⟨by decide +kernel, by decide +kernel⟩, List.mem_of_getElem? (i := 25) (by decide +kernel), List.mem_of_getElem? (i := 904) (by decide +kernel), List.mem_of_getElem? (i := 905) (by decide +kernel)⟩
theorem lw_p23 : lw_okq (⟨"PadPolishModel", "finding", "(I)I"⟩, 24) := ⟨⟨by decide +kernel, by decide +kernel⟩, List.mem_of_getElem? (i := 915) (by decide +kernel), List.mem_of_getElem? (i := 1007) (by decide +kernel), List.mem_of_getElem? (i := 1008) (by decide +kernel)⟩
theorem lw_p24 : lw_okq (⟨"PadPolishModel", "begin", "()V"⟩, 24) := ⟨⟨by decide +kernel, by decide +kernel⟩, List.mem_of_getElem? (i := 915) (by decide +kernel), List.mem_of_getElem? (i := 1038) (by decide +kernel), List.mem_of_getElem? (i := 1039) (by decide +kernel)⟩
theorem lw_p25 : lw_okq (⟨"PadPolishModel", "nextToken", "()V"⟩, 24) := ⟨⟨by decide +kernel, by decide +kernel⟩, List.mem_of_getElem? (i := 915) (by decide +kernel), List.mem_of_getElem? (i := 1042) (by decide +kernel), List.mem_of_getElem? (i := 1043) (by decide +kernel)⟩
theorem lw_p26 : lw_okq (⟨"PadPolishModel", "isLetter", "(I)Z"⟩, 24) := ⟨⟨by decide +kernel, by decide +kernel⟩, List.mem_of_getElem? (i := 915) (by decide +kernel), List.mem_of_getElem? (i := 1051) (by decide +kernel), List.mem_of_getElem? (i := 1052) (by decide +kernel)⟩
theorem lw_p27 : lw_okq (⟨"PadPolishModel", "must", "(Z)V"⟩, 24) := ⟨⟨by decide +kernel, by decide +kernel⟩, List.mem_of_getElem? (i := 915) (by decide +kernel), List.mem_of_getElem? (i := 1055) (by decide +kernel), List.mem_of_getElem? (i := 1056) (by decide +kernel)⟩
theorem lw_p28 : lw_okq (⟨"PadPolishModel", "bad", "(I)V"⟩, 24) := ⟨⟨by decide +kernel, by decide +kernel⟩, List.mem_of_getElem? (i := 915) (by decide +kernel), List.mem_of_getElem? (i := 1059) (by decide +kernel), List.mem_of_getElem? (i := 1060) (by decide +kernel)⟩
theorem lw_p29 : lw_okq (⟨"PadPolishModel", "number", "(II)I"⟩, 24) := ⟨⟨by decide +kernel, by decide +kernel⟩, List.mem_of_getElem? (i := 915) (by decide +kernel), List.mem_of_getElem? (i := 1063) (by decide +kernel), List.mem_of_getElem? (i := 1064) (by decide +kernel)⟩
theorem lw_p30 : lw_okq (⟨"PadPolishModel", "mustSign", "(I)V"⟩, 24) := ⟨⟨by decide +kernel, by decide +kernel⟩, List.mem_of_getElem? (i := 915) (by decide +kernel), List.mem_of_getElem? (i := 1067) (by decide +kernel), List.mem_of_getElem? (i := 1068) (by decide +kernel)⟩
theorem lw_p31 : lw_okq (⟨"PadPolishModel", "readCell", "(II)V"⟩, 24) := ⟨⟨by decide +kernel, by decide +kernel⟩, List.mem_of_getElem? (i := 915) (by decide +kernel), List.mem_of_getElem? (i := 1071) (by decide +kernel), List.mem_of_getElem? (i := 1072) (by decide +kernel)⟩
def lw_privs_2 : List (MethodName × Nat) := [(⟨"PadPolish", "passOf", "(I)LPadPolish$Pass;"⟩, 16), (⟨"PadPolish", "guessRounds", "(I)V"⟩, 16), (⟨"PadPolish", "findBestOrder", "()I"⟩, 16), (⟨"PadPolish", "spellOrder", "(II)Z"⟩, 16), (⟨"PadPolish", "allPasses", "()I"⟩, 16), (⟨"PadPolish", "gainsAlong", "(LPadPolish$Pass;I)Z"⟩, 16), (⟨"PadPolish", "rowsThere", "()I"⟩, 16), (⟨"PadPolishModel", "finding", "(I)I"⟩, 24), (⟨"PadPolishModel", "begin", "()V"⟩, 24), (⟨"PadPolishModel", "nextToken", "()V"⟩, 24), (⟨"PadPolishModel", "isLetter", "(I)Z"⟩, 24), (⟨"PadPolishModel", "must", "(Z)V"⟩, 24), (⟨"PadPolishModel", "bad", "(I)V"⟩, 24), (⟨"PadPolishModel", "number", "(II)I"⟩, 24), (⟨"PadPolishModel", "mustSign", "(I)V"⟩, 24), (⟨"PadPolishModel", "readCell", "(II)V"⟩, 24)]
theorem lw_r2 : ∀ q ∈ lw_privs_2, lw_okq q := List.forall_mem_cons.mpr ⟨lw_p16, List.forall_mem_cons.mpr ⟨lw_p17, List.forall_mem_cons.mpr ⟨lw_p18, List.forall_mem_cons.mpr ⟨lw_p19, List.forall_mem_cons.mpr ⟨lw_p20, List.forall_mem_cons.mpr ⟨lw_p21, List.forall_mem_cons.mpr ⟨lw_p22, List.forall_mem_cons.mpr ⟨lw_p23, List.forall_mem_cons.mpr ⟨lw_p24, List.forall_mem_cons.mpr ⟨lw_p25, List.forall_mem_cons.mpr ⟨lw_p26, List.forall_mem_cons.mpr ⟨lw_p27, List.forall_mem_cons.mpr ⟨lw_p28, List.forall_mem_cons.mpr ⟨lw_p29, List.forall_mem_cons.mpr ⟨lw_p30, List.forall_mem_cons.mpr ⟨lw_p31, fun _ h => absurd h List.not_mem_nil⟩⟩⟩⟩⟩⟩⟩⟩⟩⟩⟩⟩⟩⟩⟩⟩
theorem lw_p32 : lw_okq (⟨"PadPolishModel", "readPass", "()V"⟩, 24) := ⟨⟨by decide +kernel, by decide +kernel⟩, List.mem_of_getElem? (i := 915) (by decide +kernel), List.mem_of_getElem? (i := 1078) (by decide +kernel), List.mem_of_getElem? (i := 1079) (by decide +kernel)⟩
theorem lw_p33 : lw_okq (⟨"PadPolishModel", "failed", "()Z"⟩, 24) := ⟨⟨by decide +kernel, by decide +kernel⟩, List.mem_of_getElem? (i := 915) (by decide +kernel), List.mem_of_getElem? (i := 1085) (by decide +kernel), List.mem_of_getElem? (i := 1086) (by decide +kernel)⟩
theorem lw_p34 : lw_okq (⟨"PadPolishModel", "isThere", "()Z"⟩, 24) := ⟨⟨by decide +kernel, by decide +kernel⟩, List.mem_of_getElem? (i := 915) (by decide +kernel), List.mem_of_getElem? (i := 1094) (by decide +kernel), List.mem_of_getElem? (i := 1095) (by decide +kernel)⟩
theorem lw_p35 : lw_okq (⟨"PadPolishModel", "keep", "()V"⟩, 24) := ⟨⟨by decide +kernel, by decide +kernel⟩, List.mem_of_getElem? (i := 915) (by decide +kernel), List.mem_of_getElem? (i := 1100) (by decide +kernel), List.mem_of_getElem? (i := 1101) (by decide +kernel)⟩
theorem lw_p36 : lw_okq (⟨"PadPolishModel", "isPass", "(I)Z"⟩, 24) := ⟨⟨by decide +kernel, by decide +kernel⟩, List.mem_of_getElem? (i := 915) (by decide +kernel), List.mem_of_getElem? (i := 1111) (by decide +kernel), List.mem_of_getElem? (i := 1112) (by decide +kernel)⟩
theorem lw_p37 : lw_okq (⟨"PadPolishModel", "pass", "([II)V"⟩, 24) := ⟨⟨by decide +kernel, by decide +kernel⟩, List.mem_of_getElem? (i := 915) (by decide +kernel), List.mem_of_getElem? (i := 1115) (by decide +kernel), List.mem_of_getElem? (i := 1116) (by decide +kernel)⟩
theorem lw_p38 : lw_okq (⟨"PadPolishModel", "cellsOf", "(I)I"⟩, 24) := ⟨⟨by decide +kernel, by decide +kernel⟩, List.mem_of_getElem? (i := 915) (by decide +kernel), List.mem_of_getElem? (i := 1119) (by decide +kernel), List.mem_of_getElem? (i := 1120) (by decide +kernel)⟩
theorem lw_p39 : lw_okq (⟨"PadPolishModel", "kindOf", "(I)I"⟩, 24) := ⟨⟨by decide +kernel, by decide +kernel⟩, List.mem_of_getElem? (i := 915) (by decide +kernel), List.mem_of_getElem? (i := 1123) (by decide +kernel), List.mem_of_getElem? (i := 1124) (by decide +kernel)⟩
theorem lw_p40 : lw_okq (⟨"PadPolishModel", "cellAt", "(II)I"⟩, 24) := ⟨⟨by decide +kernel, by decide +kernel⟩, List.mem_of_getElem? (i := 915) (by decide +kernel), List.mem_of_getElem? (i := 1127) (by decide +kernel), List.mem_of_getElem? (i := 1128) (by decide +kernel)⟩
theorem lw_p41 : lw_okq (⟨"PadPolishModel", "overBy", "(I)I"⟩, 24) := ⟨⟨by decide +kernel, by decide +kernel⟩, List.mem_of_getElem? (i := 915) (by decide +kernel), List.mem_of_getElem? (i := 1167) (by decide +kernel), List.mem_of_getElem? (i := 1168) (by decide +kernel)⟩
theorem lw_p42 : lw_okq (⟨"PadPolishModel", "layAhead", "(I)V"⟩, 24) := ⟨⟨by decide +kernel, by decide +kernel⟩, List.mem_of_getElem? (i := 915) (by decide +kernel), List.mem_of_getElem? (i := 1184) (by decide +kernel), List.mem_of_getElem? (i := 1185) (by decide +kernel)⟩
theorem lw_p43 : lw_okq (⟨"PadPolishModel", "layThen", "()V"⟩, 24) := ⟨⟨by decide +kernel, by decide +kernel⟩, List.mem_of_getElem? (i := 915) (by decide +kernel), List.mem_of_getElem? (i := 1188) (by decide +kernel), List.mem_of_getElem? (i := 1189) (by decide +kernel)⟩
theorem lw_p44 : lw_okq (⟨"PadPolishModel", "allPasses", "([I)V"⟩, 24) := ⟨⟨by decide +kernel, by decide +kernel⟩, List.mem_of_getElem? (i := 915) (by decide +kernel), List.mem_of_getElem? (i := 1192) (by decide +kernel), List.mem_of_getElem? (i := 1193) (by decide +kernel)⟩
theorem lw_p45 : lw_okq (⟨"PadPolishModel", "isOrder", "(I)Z"⟩, 24) := ⟨⟨by decide +kernel, by decide +kernel⟩, List.mem_of_getElem? (i := 915) (by decide +kernel), List.mem_of_getElem? (i := 1208) (by decide +kernel), List.mem_of_getElem? (i := 1209) (by decide +kernel)⟩
theorem lw_p46 : lw_okq (⟨"PadPolishModel", "placed", "(II)I"⟩, 24) := ⟨⟨by decide +kernel, by decide +kernel⟩, List.mem_of_getElem? (i := 915) (by decide +kernel), List.mem_of_getElem? (i := 1212) (by decide +kernel), List.mem_of_getElem? (i := 1213) (by decide +kernel)⟩
theorem lw_p47 : lw_okq (⟨"PadPolishModel", "overAll", "()I"⟩, 24) := ⟨⟨by decide +kernel, by decide +kernel⟩, List.mem_of_getElem? (i := 915) (by decide +kernel), List.mem_of_getElem? (i := 1221) (by decide +kernel), List.mem_of_getElem? (i := 1222) (by decide +kernel)⟩
def lw_privs_3 : List (MethodName × Nat) := [(⟨"PadPolishModel", "readPass", "()V"⟩, 24), (⟨"PadPolishModel", "failed", "()Z"⟩, 24), (⟨"PadPolishModel", "isThere", "()Z"⟩, 24), (⟨"PadPolishModel", "keep", "()V"⟩, 24), (⟨"PadPolishModel", "isPass", "(I)Z"⟩, 24), (⟨"PadPolishModel", "pass", "([II)V"⟩, 24), (⟨"PadPolishModel", "cellsOf", "(I)I"⟩, 24), (⟨"PadPolishModel", "kindOf", "(I)I"⟩, 24), (⟨"PadPolishModel", "cellAt", "(II)I"⟩, 24), (⟨"PadPolishModel", "overBy", "(I)I"⟩, 24), (⟨"PadPolishModel", "layAhead", "(I)V"⟩, 24), (⟨"PadPolishModel", "layThen", "()V"⟩, 24), (⟨"PadPolishModel", "allPasses", "([I)V"⟩, 24), (⟨"PadPolishModel", "isOrder", "(I)Z"⟩, 24), (⟨"PadPolishModel", "placed", "(II)I"⟩, 24), (⟨"PadPolishModel", "overAll", "()I"⟩, 24)]
theorem lw_r3 : ∀ q ∈ lw_privs_3, lw_okq q := List.forall_mem_cons.mpr ⟨lw_p32, List.forall_mem_cons.mpr ⟨lw_p33, List.forall_mem_cons.mpr ⟨lw_p34, List.forall_mem_cons.mpr ⟨lw_p35, List.forall_mem_cons.mpr ⟨lw_p36, List.forall_mem_cons.mpr ⟨lw_p37, List.forall_mem_cons.mpr ⟨lw_p38, List.forall_mem_cons.mpr ⟨lw_p39, List.forall_mem_cons.mpr ⟨lw_p40, List.forall_mem_cons.mpr ⟨lw_p41, List.forall_mem_cons.mpr ⟨lw_p42, List.forall_mem_cons.mpr ⟨lw_p43, List.forall_mem_cons.mpr ⟨lw_p44, List.forall_mem_cons.mpr ⟨lw_p45, List.forall_mem_cons.mpr ⟨lw_p46, List.forall_mem_cons.mpr ⟨lw_p47, fun _ h => absurd h List.not_mem_nil⟩⟩⟩⟩⟩⟩⟩⟩⟩⟩⟩⟩⟩⟩⟩⟩
theorem lw_p48 : lw_okq (⟨"PadPolishModel", "sizeOf", "(I)I"⟩, 24) := ⟨⟨by decide +kernel, by decide +kernel⟩, List.mem_of_getElem? (i := 915) (by decide +kernel), List.mem_of_getElem? (i := 1295) (by decide +kernel), List.mem_of_getElem? (i := 1296) (by decide +kernel)⟩
theorem lw_p49 : lw_okq (⟨"PadPolishModel", "clearSize", "(I)I"⟩, 24) := ⟨⟨by decide +kernel, by decide +kernel⟩, List.mem_of_getElem? (i := 915) (by decide +kernel), List.mem_of_getElem? (i := 1299) (by decide +kernel), List.mem_of_getElem? (i := 1300) (by decide +kernel)⟩
theorem lw_p50 : lw_okq (⟨"PadPolishModel", "began", "(I)V"⟩, 24) := ⟨⟨by decide +kernel, by decide +kernel⟩, List.mem_of_getElem? (i := 915) (by decide +kernel), List.mem_of_getElem? (i := 1303) (by decide +kernel), List.mem_of_getElem? (i := 1304) (by decide +kernel)⟩
theorem lw_p51 : lw_okq (⟨"PadPolishModel", "plainSize", "(I)I"⟩, 24) := ⟨⟨by decide +kernel, by decide +kernel⟩, List.mem_of_getElem? (i := 915) (by decide +kernel), List.mem_of_getElem? (i := 1307) (by decide +kernel), List.mem_of_getElem? (i := 1308) (by decide +kernel)⟩
theorem lw_p52 : lw_okq (⟨"PadPolishModel", "markOf", "(I)I"⟩, 24) := ⟨⟨by decide +kernel, by decide +kernel⟩, List.mem_of_getElem? (i := 915) (by decide +kernel), List.mem_of_getElem? (i := 1311) (by decide +kernel), List.mem_of_getElem? (i := 1312) (by decide +kernel)⟩
def lw_privs_4 : List (MethodName × Nat) := [(⟨"PadPolishModel", "sizeOf", "(I)I"⟩, 24), (⟨"PadPolishModel", "clearSize", "(I)I"⟩, 24), (⟨"PadPolishModel", "began", "(I)V"⟩, 24), (⟨"PadPolishModel", "plainSize", "(I)I"⟩, 24), (⟨"PadPolishModel", "markOf", "(I)I"⟩, 24)]
theorem lw_r4 : ∀ q ∈ lw_privs_4, lw_okq q := List.forall_mem_cons.mpr ⟨lw_p48, List.forall_mem_cons.mpr ⟨lw_p49, List.forall_mem_cons.mpr ⟨lw_p50, List.forall_mem_cons.mpr ⟨lw_p51, List.forall_mem_cons.mpr ⟨lw_p52, fun _ h => absurd h List.not_mem_nil⟩⟩⟩⟩⟩
def lw_privs : List (MethodName × Nat) := lw_privs_1 ++ (lw_privs_2 ++ (lw_privs_3 ++ (lw_privs_4)))
def lw_tbl : List Cond := k2_sels lw_privs ++ tables_1
theorem lw_privs_ok : ∀ q ∈ lw_privs, lw_okq q := by
  show ∀ q ∈ lw_privs_1 ++ (lw_privs_2 ++ (lw_privs_3 ++ (lw_privs_4))), lw_okq q
  exact List.forall_mem_append.mpr ⟨lw_r1, List.forall_mem_append.mpr ⟨lw_r2, List.forall_mem_append.mpr ⟨lw_r3, lw_r4⟩⟩⟩
def RX0 : String := "PadPolish$Clearing"
def TX0 : u_T := fun k => match k with
  | 0 => ("PadPolish$Pass", "number", "I", true)
  | _ => ("PadPolish$Pass", "way", "[I", true)
def tyX0 : Nat → FieldType := fun k => match k with
  | 0 => .int
  | _ => .array .int
theorem nmX0 : ∀ a, a < 2 → ∀ b, b < 2 → a ≠ b → (TX0 a).2.1 ≠ (TX0 b).2.1 := by decide +kernel
theorem tyX0_ok : ∀ k, k < 2 → parseFieldDescriptor (TX0 k).2.2.1 = some (tyX0 k) := by decide +kernel
abbrev cX0_init : ByteArray := prog_2_method_1_code
def yX0_init : MethodName := ⟨RX0, "<init>", "(I[I)V"⟩
abbrev cX0_kindNumber : ByteArray := prog_2_method_2_code
def yX0_kindNumber : MethodName := ⟨RX0, "kindNumber", "()I"⟩
abbrev cX0_clearedHaze : ByteArray := prog_2_method_3_code
def yX0_clearedHaze : MethodName := ⟨RX0, "clearedHaze", "()I"⟩
abbrev cX0_touch : ByteArray := prog_2_method_4_code
def yX0_touch : MethodName := ⟨RX0, "touch", "(LPadPolish$Surface;I)V"⟩
abbrev cX0_size : ByteArray := prog_2_method_5_code
def yX0_size : MethodName := ⟨RX0, "size", "(ILPadPolish$Trace;)I"⟩
abbrev cX0_mark : ByteArray := prog_2_method_6_code
def yX0_mark : MethodName := ⟨RX0, "mark", "(ILPadPolish$Trace;)I"⟩
def RX1 : String := "PadPolish$Dry"
def TX1 : u_T := fun k => match k with
  | 0 => ("PadPolish$Pass", "number", "I", true)
  | _ => ("PadPolish$Pass", "way", "[I", true)
def tyX1 : Nat → FieldType := fun k => match k with
  | 0 => .int
  | _ => .array .int
theorem nmX1 : ∀ a, a < 2 → ∀ b, b < 2 → a ≠ b → (TX1 a).2.1 ≠ (TX1 b).2.1 := by decide +kernel
theorem tyX1_ok : ∀ k, k < 2 → parseFieldDescriptor (TX1 k).2.2.1 = some (tyX1 k) := by decide +kernel
abbrev cX1_init : ByteArray := prog_3_method_1_code
def yX1_init : MethodName := ⟨RX1, "<init>", "(I[I)V"⟩
abbrev cX1_kindNumber : ByteArray := prog_3_method_2_code
def yX1_kindNumber : MethodName := ⟨RX1, "kindNumber", "()I"⟩
abbrev cX1_laid : ByteArray := prog_3_method_3_code
def yX1_laid : MethodName := ⟨RX1, "laid", "(I)I"⟩
abbrev cX1_takeFirst : ByteArray := prog_3_method_4_code
def yX1_takeFirst : MethodName := ⟨RX1, "takeFirst", "(LPadPolish$Surface;I)V"⟩
abbrev cX1_mark : ByteArray := prog_3_method_5_code
def yX1_mark : MethodName := ⟨RX1, "mark", "(ILPadPolish$Trace;)I"⟩
def RX2 : String := "PadPolish$Pass"
def TX2 : u_T := fun k => match k with
  | _ => ("", "", "", false)
def tyX2 : Nat → FieldType := fun k => match k with
  | _ => .int
theorem nmX2 : ∀ a, a < 0 → ∀ b, b < 0 → a ≠ b → (TX2 a).2.1 ≠ (TX2 b).2.1 := by decide +kernel
theorem tyX2_ok : ∀ k, k < 0 → parseFieldDescriptor (TX2 k).2.2.1 = some (tyX2 k) := by decide +kernel
abbrev cX2_init : ByteArray := prog_4_method_1_code
def yX2_init : MethodName := ⟨RX2, "<init>", "(I[I)V"⟩
abbrev cX2_goAlong : ByteArray := prog_4_method_4_code
def yX2_goAlong : MethodName := ⟨RX2, "goAlong", "(LPadPolish$Surface;)V"⟩
abbrev cX2_cells : ByteArray := prog_4_method_5_code
def yX2_cells : MethodName := ⟨RX2, "cells", "()I"⟩
abbrev cX2_size : ByteArray := prog_4_method_6_code
def yX2_size : MethodName := ⟨RX2, "size", "(ILPadPolish$Trace;)I"⟩
abbrev cX2_mark : ByteArray := prog_4_method_7_code
def yX2_mark : MethodName := ⟨RX2, "mark", "(ILPadPolish$Trace;)I"⟩
def RX3 : String := "PadPolish$Row"
def TX3 : u_T := fun k => match k with
  | 0 => ("PadPolish$Row", "items", "[I", true)
  | 1 => ("PadPolish$Row", "lane", "I", false)
  | _ => ("PadPolish$Row", "length", "I", false)
def tyX3 : Nat → FieldType := fun k => match k with
  | 0 => .array .int
  | 1 => .int
  | _ => .int
theorem nmX3 : ∀ a, a < 3 → ∀ b, b < 3 → a ≠ b → (TX3 a).2.1 ≠ (TX3 b).2.1 := by decide +kernel
theorem tyX3_ok : ∀ k, k < 3 → parseFieldDescriptor (TX3 k).2.2.1 = some (tyX3 k) := by decide +kernel
abbrev cX3_init : ByteArray := prog_5_method_1_code
def yX3_init : MethodName := ⟨RX3, "<init>", "()V"⟩
abbrev cX3_isMissing : ByteArray := prog_5_method_2_code
def yX3_isMissing : MethodName := ⟨RX3, "isMissing", "()Z"⟩
abbrev cX3_begin : ByteArray := prog_5_method_3_code
def yX3_begin : MethodName := ⟨RX3, "begin", "(II)V"⟩
abbrev cX3_reaches : ByteArray := prog_5_method_4_code
def yX3_reaches : MethodName := ⟨RX3, "reaches", "(II)Z"⟩
abbrev cX3_put : ByteArray := prog_5_method_5_code
def yX3_put : MethodName := ⟨RX3, "put", "(II)I"⟩
abbrev cX3_tellsFilm : ByteArray := prog_5_method_6_code
def yX3_tellsFilm : MethodName := ⟨RX3, "tellsFilm", "(ILPadPolish$Surface;)Z"⟩
def RX4 : String := "PadPolish$Sliding"
def TX4 : u_T := fun k => match k with
  | 0 => ("PadPolish$Pass", "number", "I", true)
  | _ => ("PadPolish$Pass", "way", "[I", true)
def tyX4 : Nat → FieldType := fun k => match k with
  | 0 => .int
  | _ => .array .int
theorem nmX4 : ∀ a, a < 2 → ∀ b, b < 2 → a ≠ b → (TX4 a).2.1 ≠ (TX4 b).2.1 := by decide +kernel
theorem tyX4_ok : ∀ k, k < 2 → parseFieldDescriptor (TX4 k).2.2.1 = some (tyX4 k) := by decide +kernel
abbrev cX4_init : ByteArray := prog_6_method_1_code
def yX4_init : MethodName := ⟨RX4, "<init>", "(I[I)V"⟩
abbrev cX4_kindNumber : ByteArray := prog_6_method_2_code
def yX4_kindNumber : MethodName := ⟨RX4, "kindNumber", "()I"⟩
abbrev cX4_laid : ByteArray := prog_6_method_3_code
def yX4_laid : MethodName := ⟨RX4, "laid", "(I)I"⟩
abbrev cX4_takeFirst : ByteArray := prog_6_method_4_code
def yX4_takeFirst : MethodName := ⟨RX4, "takeFirst", "(LPadPolish$Surface;I)V"⟩
abbrev cX4_touch : ByteArray := prog_6_method_5_code
def yX4_touch : MethodName := ⟨RX4, "touch", "(LPadPolish$Surface;I)V"⟩
abbrev cX4_size : ByteArray := prog_6_method_6_code
def yX4_size : MethodName := ⟨RX4, "size", "(ILPadPolish$Trace;)I"⟩
abbrev cX4_mark : ByteArray := prog_6_method_7_code
def yX4_mark : MethodName := ⟨RX4, "mark", "(ILPadPolish$Trace;)I"⟩
def RX5 : String := "PadPolish$Soaked"
def TX5 : u_T := fun k => match k with
  | 0 => ("PadPolish$Pass", "number", "I", true)
  | _ => ("PadPolish$Pass", "way", "[I", true)
def tyX5 : Nat → FieldType := fun k => match k with
  | 0 => .int
  | _ => .array .int
theorem nmX5 : ∀ a, a < 2 → ∀ b, b < 2 → a ≠ b → (TX5 a).2.1 ≠ (TX5 b).2.1 := by decide +kernel
theorem tyX5_ok : ∀ k, k < 2 → parseFieldDescriptor (TX5 k).2.2.1 = some (tyX5 k) := by decide +kernel
abbrev cX5_init : ByteArray := prog_7_method_1_code
def yX5_init : MethodName := ⟨RX5, "<init>", "(I[I)V"⟩
abbrev cX5_kindNumber : ByteArray := prog_7_method_2_code
def yX5_kindNumber : MethodName := ⟨RX5, "kindNumber", "()I"⟩
abbrev cX5_laid : ByteArray := prog_7_method_3_code
def yX5_laid : MethodName := ⟨RX5, "laid", "(I)I"⟩
abbrev cX5_takeFirst : ByteArray := prog_7_method_4_code
def yX5_takeFirst : MethodName := ⟨RX5, "takeFirst", "(LPadPolish$Surface;I)V"⟩
abbrev cX5_size : ByteArray := prog_7_method_5_code
def yX5_size : MethodName := ⟨RX5, "size", "(ILPadPolish$Trace;)I"⟩
abbrev cX5_mark : ByteArray := prog_7_method_6_code
def yX5_mark : MethodName := ⟨RX5, "mark", "(ILPadPolish$Trace;)I"⟩
def RX6 : String := "PadPolish$Straight"
def TX6 : u_T := fun k => match k with
  | 0 => ("PadPolish$Pass", "number", "I", true)
  | _ => ("PadPolish$Pass", "way", "[I", true)
def tyX6 : Nat → FieldType := fun k => match k with
  | 0 => .int
  | _ => .array .int
theorem nmX6 : ∀ a, a < 2 → ∀ b, b < 2 → a ≠ b → (TX6 a).2.1 ≠ (TX6 b).2.1 := by decide +kernel
theorem tyX6_ok : ∀ k, k < 2 → parseFieldDescriptor (TX6 k).2.2.1 = some (tyX6 k) := by decide +kernel
abbrev cX6_init : ByteArray := prog_8_method_1_code
def yX6_init : MethodName := ⟨RX6, "<init>", "(I[I)V"⟩
abbrev cX6_kindNumber : ByteArray := prog_8_method_2_code
def yX6_kindNumber : MethodName := ⟨RX6, "kindNumber", "()I"⟩
abbrev cX6_clearedHaze : ByteArray := prog_8_method_3_code
def yX6_clearedHaze : MethodName := ⟨RX6, "clearedHaze", "()I"⟩
abbrev cX6_size : ByteArray := prog_8_method_4_code
def yX6_size : MethodName := ⟨RX6, "size", "(ILPadPolish$Trace;)I"⟩
def RX7 : String := "PadPolish$Surface"
def TX7 : u_T := fun k => match k with
  | 0 => ("PadPolish$Surface", "film", "[I", true)
  | 1 => ("PadPolish$Surface", "soft", "[I", true)
  | 2 => ("PadPolish$Surface", "haze", "[I", true)
  | 3 => ("PadPolish$Surface", "wet", "I", false)
  | 4 => ("PadPolish$Surface", "oil", "I", false)
  | _ => ("PadPolish$Surface", "spent", "I", false)
def tyX7 : Nat → FieldType := fun k => match k with
  | 0 => .array .int
  | 1 => .array .int
  | 2 => .array .int
  | 3 => .int
  | 4 => .int
  | _ => .int
theorem nmX7 : ∀ a, a < 6 → ∀ b, b < 6 → a ≠ b → (TX7 a).2.1 ≠ (TX7 b).2.1 := by decide +kernel
theorem tyX7_ok : ∀ k, k < 6 → parseFieldDescriptor (TX7 k).2.2.1 = some (tyX7 k) := by decide +kernel
abbrev cX7_init : ByteArray := prog_9_method_1_code
def yX7_init : MethodName := ⟨RX7, "<init>", "()V"⟩
abbrev cX7_become : ByteArray := prog_9_method_2_code
def yX7_become : MethodName := ⟨RX7, "become", "(LPadPolish$Surface;)V"⟩
abbrev cX7_wipe : ByteArray := prog_9_method_3_code
def yX7_wipe : MethodName := ⟨RX7, "wipe", "()V"⟩
abbrev cX7_soakPad : ByteArray := prog_9_method_4_code
def yX7_soakPad : MethodName := ⟨RX7, "soakPad", "(II)V"⟩
abbrev cX7_dryPad : ByteArray := prog_9_method_5_code
def yX7_dryPad : MethodName := ⟨RX7, "dryPad", "()V"⟩
abbrev cX7_layFilm : ByteArray := prog_9_method_6_code
def yX7_layFilm : MethodName := ⟨RX7, "layFilm", "(II)V"⟩
abbrev cX7_layHaze : ByteArray := prog_9_method_7_code
def yX7_layHaze : MethodName := ⟨RX7, "layHaze", "(I)V"⟩
abbrev cX7_takeHaze : ByteArray := prog_9_method_8_code
def yX7_takeHaze : MethodName := ⟨RX7, "takeHaze", "(II)V"⟩
abbrev cX7_takeSoft : ByteArray := prog_9_method_9_code
def yX7_takeSoft : MethodName := ⟨RX7, "takeSoft", "(II)V"⟩
abbrev cX7_scratch : ByteArray := prog_9_method_10_code
def yX7_scratch : MethodName := ⟨RX7, "scratch", "(I)V"⟩
abbrev cX7_tearAt : ByteArray := prog_9_method_11_code
def yX7_tearAt : MethodName := ⟨RX7, "tearAt", "(I)V"⟩
abbrev cX7_sinkBy : ByteArray := prog_9_method_12_code
def yX7_sinkBy : MethodName := ⟨RX7, "sinkBy", "(I)V"⟩
abbrev cX7_allFilm : ByteArray := prog_9_method_13_code
def yX7_allFilm : MethodName := ⟨RX7, "allFilm", "()I"⟩
abbrev cX7_thinnest : ByteArray := prog_9_method_14_code
def yX7_thinnest : MethodName := ⟨RX7, "thinnest", "()I"⟩
abbrev cX7_unevenness : ByteArray := prog_9_method_15_code
def yX7_unevenness : MethodName := ⟨RX7, "unevenness", "()I"⟩
abbrev cX7_thinnestCells : ByteArray := prog_9_method_16_code
def yX7_thinnestCells : MethodName := ⟨RX7, "thinnestCells", "()I"⟩
abbrev cX7_lackTo : ByteArray := prog_9_method_17_code
def yX7_lackTo : MethodName := ⟨RX7, "lackTo", "(II)I"⟩
def RX8 : String := "PadPolish$Table"
def TX8 : u_T := fun k => match k with
  | 0 => ("PadPolish$Table", "surface", "LPadPolish$Surface;", true)
  | 1 => ("PadPolish$Table", "passes", "Ljava/util/ArrayList;", false)
  | _ => ("PadPolish$Table", "sink", "I", false)
def tyX8 : Nat → FieldType := fun k => match k with
  | 0 => .object "PadPolish$Surface"
  | 1 => .object "java/util/ArrayList"
  | _ => .int
theorem nmX8 : ∀ a, a < 3 → ∀ b, b < 3 → a ≠ b → (TX8 a).2.1 ≠ (TX8 b).2.1 := by decide +kernel
theorem tyX8_ok : ∀ k, k < 3 → parseFieldDescriptor (TX8 k).2.2.1 = some (tyX8 k) := by decide +kernel
abbrev cX8_init : ByteArray := prog_10_method_1_code
def yX8_init : MethodName := ⟨RX8, "<init>", "()V"⟩
abbrev cX8_begin : ByteArray := prog_10_method_2_code
def yX8_begin : MethodName := ⟨RX8, "begin", "()V"⟩
abbrev cX8_become : ByteArray := prog_10_method_3_code
def yX8_become : MethodName := ⟨RX8, "become", "(LPadPolish$Table;)V"⟩
abbrev cX8_makeAll : ByteArray := prog_10_method_4_code
def yX8_makeAll : MethodName := ⟨RX8, "makeAll", "(LPadPolish$Surface;)V"⟩
abbrev cX8_makeSome : ByteArray := prog_10_method_5_code
def yX8_makeSome : MethodName := ⟨RX8, "makeSome", "(ILPadPolish$Surface;)V"⟩
abbrev cX8_cellsOf : ByteArray := prog_10_method_6_code
def yX8_cellsOf : MethodName := ⟨RX8, "cellsOf", "(I)I"⟩
abbrev cX8_passesAcross : ByteArray := prog_10_method_7_code
def yX8_passesAcross : MethodName := ⟨RX8, "passesAcross", "(I)I"⟩
def RX9 : String := "PadPolish$Tape"
def TX9 : u_T := fun k => match k with
  | 0 => ("PadPolish$Tape", "bytes", "[I", true)
  | 1 => ("PadPolish$Tape", "way", "[I", true)
  | 2 => ("PadPolish$Tape", "length", "I", false)
  | 3 => ("PadPolish$Tape", "at", "I", false)
  | _ => ("PadPolish$Tape", "faultNumber", "I", false)
def tyX9 : Nat → FieldType := fun k => match k with
  | 0 => .array .int
  | 1 => .array .int
  | 2 => .int
  | 3 => .int
  | _ => .int
theorem nmX9 : ∀ a, a < 5 → ∀ b, b < 5 → a ≠ b → (TX9 a).2.1 ≠ (TX9 b).2.1 := by decide +kernel
theorem tyX9_ok : ∀ k, k < 5 → parseFieldDescriptor (TX9 k).2.2.1 = some (tyX9 k) := by decide +kernel
abbrev cX9_init : ByteArray := prog_11_method_1_code
def yX9_init : MethodName := ⟨RX9, "<init>", "()V"⟩
abbrev cX9_append : ByteArray := prog_11_method_2_code
def yX9_append : MethodName := ⟨RX9, "append", "(I)Z"⟩
abbrev cX9_readInto : ByteArray := prog_11_method_3_code
def yX9_readInto : MethodName := ⟨RX9, "readInto", "(LPadPolish$Table;)Z"⟩
abbrev cX9_readLaw : ByteArray := prog_11_method_4_code
def yX9_readLaw : MethodName := ⟨RX9, "readLaw", "(LPadPolish$Table;)Z"⟩
abbrev cX9_readCells : ByteArray := prog_11_method_5_code
def yX9_readCells : MethodName := ⟨RX9, "readCells", "(LPadPolish$Table;)Z"⟩
abbrev cX9_readPasses : ByteArray := prog_11_method_6_code
def yX9_readPasses : MethodName := ⟨RX9, "readPasses", "(LPadPolish$Table;)Z"⟩
abbrev cX9_readWay : ByteArray := prog_11_method_7_code
def yX9_readWay : MethodName := ⟨RX9, "readWay", "()I"⟩
abbrev cX9_beside : ByteArray := prog_11_method_8_code
def yX9_beside : MethodName := ⟨RX9, "beside", "(II)I"⟩
abbrev cX9_isSort : ByteArray := prog_11_method_9_code
def yX9_isSort : MethodName := ⟨RX9, "isSort", "(I)Z"⟩
abbrev cX9_newPass : ByteArray := prog_11_method_10_code
def yX9_newPass : MethodName := ⟨RX9, "newPass", "(II[I)LPadPolish$Pass;"⟩
abbrev cX9_next : ByteArray := prog_11_method_11_code
def yX9_next : MethodName := ⟨RX9, "next", "()I"⟩
abbrev cX9_readSign : ByteArray := prog_11_method_12_code
def yX9_readSign : MethodName := ⟨RX9, "readSign", "(C)Z"⟩
abbrev cX9_readNumber : ByteArray := prog_11_method_13_code
def yX9_readNumber : MethodName := ⟨RX9, "readNumber", "(I)I"⟩
abbrev cX9_isFigure : ByteArray := prog_11_method_14_code
def yX9_isFigure : MethodName := ⟨RX9, "isFigure", "(I)Z"⟩
abbrev cX9_refuse : ByteArray := prog_11_method_15_code
def yX9_refuse : MethodName := ⟨RX9, "refuse", "(I)Z"⟩
def RX10 : String := "PadPolish$Trace"
def TX10 : u_T := fun k => match k with
  | 0 => ("PadPolish$Trace", "numbers", "[I", true)
  | _ => ("PadPolish$Trace", "length", "I", false)
def tyX10 : Nat → FieldType := fun k => match k with
  | 0 => .array .int
  | _ => .int
theorem nmX10 : ∀ a, a < 2 → ∀ b, b < 2 → a ≠ b → (TX10 a).2.1 ≠ (TX10 b).2.1 := by decide +kernel
theorem tyX10_ok : ∀ k, k < 2 → parseFieldDescriptor (TX10 k).2.2.1 = some (tyX10 k) := by decide +kernel
abbrev cX10_init : ByteArray := prog_12_method_1_code
def yX10_init : MethodName := ⟨RX10, "<init>", "()V"⟩
abbrev cX10_leave : ByteArray := prog_12_method_2_code
def yX10_leave : MethodName := ⟨RX10, "leave", "(I)V"⟩
def RX11 : String := "PadPolish"
def TX11 : u_T := fun k => match k with
  | 0 => ("PadPolish", "rows", "[LPadPolish$Row;", true)
  | 1 => ("PadPolish", "tape", "LPadPolish$Tape;", true)
  | 2 => ("PadPolish", "images", "[LPadPolish$Table;", true)
  | 3 => ("PadPolish", "imageKept", "[Z", true)
  | 4 => ("PadPolish", "acts", "[LPadPolish$Surface;", true)
  | 5 => ("PadPolish", "guess", "LPadPolish$Surface;", true)
  | 6 => ("PadPolish", "left", "LPadPolish$Trace;", true)
  | 7 => ("PadPolish", "triedOrder", "[I", true)
  | 8 => ("PadPolish", "bestOrder", "[I", true)
  | 9 => ("PadPolish", "current", "LPadPolish$Table;", false)
  | 10 => ("PadPolish", "draft", "LPadPolish$Table;", false)
  | 11 => ("PadPolish", "told", "Z", false)
  | 12 => ("PadPolish", "latestFault", "I", false)
  | 13 => ("PadPolish", "nextAct", "I", false)
  | 14 => ("PadPolish", "actCount", "I", false)
  | _ => ("PadPolish", "latestFinding", "I", false)
def tyX11 : Nat → FieldType := fun k => match k with
  | 0 => .array (.object "PadPolish$Row")
  | 1 => .object "PadPolish$Tape"
  | 2 => .array (.object "PadPolish$Table")
  | 3 => .array .boolean
  | 4 => .array (.object "PadPolish$Surface")
  | 5 => .object "PadPolish$Surface"
  | 6 => .object "PadPolish$Trace"
  | 7 => .array .int
  | 8 => .array .int
  | 9 => .object "PadPolish$Table"
  | 10 => .object "PadPolish$Table"
  | 11 => .boolean
  | 12 => .int
  | 13 => .int
  | 14 => .int
  | _ => .int
theorem nmX11 : ∀ a, a < 16 → ∀ b, b < 16 → a ≠ b → (TX11 a).2.1 ≠ (TX11 b).2.1 := by decide +kernel
theorem tyX11_ok : ∀ k, k < 16 → parseFieldDescriptor (TX11 k).2.2.1 = some (tyX11 k) := by decide +kernel
abbrev cX11_init : ByteArray := prog_1_method_1_code
def yX11_init : MethodName := ⟨RX11, "<init>", "()V"⟩
abbrev cX11_row : ByteArray := prog_1_method_2_code
def yX11_row : MethodName := ⟨RX11, "row", "(III)I"⟩
abbrev cX11_set : ByteArray := prog_1_method_3_code
def yX11_set : MethodName := ⟨RX11, "set", "(III)I"⟩
abbrev cX11_copy : ByteArray := prog_1_method_4_code
def yX11_copy : MethodName := ⟨RX11, "copy", "(IIIII)I"⟩
abbrev cX11_drop : ByteArray := prog_1_method_5_code
def yX11_drop : MethodName := ⟨RX11, "drop", "(I)I"⟩
abbrev cX11_feed : ByteArray := prog_1_method_6_code
def yX11_feed : MethodName := ⟨RX11, "feed", "(I)I"⟩
abbrev cX11_table : ByteArray := prog_1_method_7_code
def yX11_table : MethodName := ⟨RX11, "table", "()I"⟩
abbrev cX11_fault : ByteArray := prog_1_method_8_code
def yX11_fault : MethodName := ⟨RX11, "fault", "()I"⟩
abbrev cX11_undo : ByteArray := prog_1_method_9_code
def yX11_undo : MethodName := ⟨RX11, "undo", "()I"⟩
abbrev cX11_charge : ByteArray := prog_1_method_10_code
def yX11_charge : MethodName := ⟨RX11, "charge", "(II)I"⟩
abbrev cX11_make : ByteArray := prog_1_method_11_code
def yX11_make : MethodName := ⟨RX11, "make", "(I)I"⟩
abbrev cX11_stand : ByteArray := prog_1_method_12_code
def yX11_stand : MethodName := ⟨RX11, "stand", "(I)I"⟩
abbrev cX11_rest : ByteArray := prog_1_method_13_code
def yX11_rest : MethodName := ⟨RX11, "rest", "()I"⟩
abbrev cX11_cell : ByteArray := prog_1_method_14_code
def yX11_cell : MethodName := ⟨RX11, "cell", "(II)I"⟩
abbrev cX11_path : ByteArray := prog_1_method_15_code
def yX11_path : MethodName := ⟨RX11, "path", "(II)I"⟩
abbrev cX11_pad : ByteArray := prog_1_method_16_code
def yX11_pad : MethodName := ⟨RX11, "pad", "(I)I"⟩
abbrev cX11_ahead : ByteArray := prog_1_method_17_code
def yX11_ahead : MethodName := ⟨RX11, "ahead", "(III)I"⟩
abbrev cX11_uneven : ByteArray := prog_1_method_18_code
def yX11_uneven : MethodName := ⟨RX11, "uneven", "(I)I"⟩
abbrev cX11_order : ByteArray := prog_1_method_19_code
def yX11_order : MethodName := ⟨RX11, "order", "(I)I"⟩
abbrev cX11_enough : ByteArray := prog_1_method_20_code
def yX11_enough : MethodName := ⟨RX11, "enough", "(I)I"⟩
abbrev cX11_wetFor : ByteArray := prog_1_method_21_code
def yX11_wetFor : MethodName := ⟨RX11, "wetFor", "(II)I"⟩
abbrev cX11_over : ByteArray := prog_1_method_22_code
def yX11_over : MethodName := ⟨RX11, "over", "(II)I"⟩
abbrev cX11_goOn : ByteArray := prog_1_method_23_code
def yX11_goOn : MethodName := ⟨RX11, "goOn", "()I"⟩
abbrev cX11_done : ByteArray := prog_1_method_24_code
def yX11_done : MethodName := ⟨RX11, "done", "(III)I"⟩
abbrev cX11_cups : ByteArray := prog_1_method_25_code
def yX11_cups : MethodName := ⟨RX11, "cups", "(II)I"⟩
abbrev cX11_thin : ByteArray := prog_1_method_26_code
def yX11_thin : MethodName := ⟨RX11, "thin", "()I"⟩
abbrev cX11_dust : ByteArray := prog_1_method_27_code
def yX11_dust : MethodName := ⟨RX11, "dust", "(IIII)J"⟩
abbrev cX11_evenings : ByteArray := prog_1_method_28_code
def yX11_evenings : MethodName := ⟨RX11, "evenings", "(III)I"⟩
abbrev cX11_image : ByteArray := prog_1_method_29_code
def yX11_image : MethodName := ⟨RX11, "image", "(I)I"⟩
abbrev cX11_restore : ByteArray := prog_1_method_30_code
def yX11_restore : MethodName := ⟨RX11, "restore", "(I)I"⟩
abbrev cX11_kind : ByteArray := prog_1_method_31_code
def yX11_kind : MethodName := ⟨RX11, "kind", "(I)I"⟩
abbrev cX11_as : ByteArray := prog_1_method_32_code
def yX11_as : MethodName := ⟨RX11, "as", "(II)I"⟩
abbrev cX11_ask : ByteArray := prog_1_method_33_code
def yX11_ask : MethodName := ⟨RX11, "ask", "(II)I"⟩
abbrev cX11_trace : ByteArray := prog_1_method_34_code
def yX11_trace : MethodName := ⟨RX11, "trace", "(I)I"⟩
abbrev cX11_count : ByteArray := prog_1_method_35_code
def yX11_count : MethodName := ⟨RX11, "count", "(I)I"⟩
abbrev cX11_status : ByteArray := prog_1_method_36_code
def yX11_status : MethodName := ⟨RX11, "status", "()I"⟩
abbrev cX11_isWithin : ByteArray := prog_1_method_37_code
def yX11_isWithin : MethodName := ⟨RX11, "isWithin", "(III)Z"⟩
abbrev cX11_isRow : ByteArray := prog_1_method_38_code
def yX11_isRow : MethodName := ⟨RX11, "isRow", "(I)Z"⟩
abbrev cX11_isCell : ByteArray := prog_1_method_39_code
def yX11_isCell : MethodName := ⟨RX11, "isCell", "(I)Z"⟩
abbrev cX11_found : ByteArray := prog_1_method_40_code
def yX11_found : MethodName := ⟨RX11, "found", "(I)I"⟩
abbrev cX11_unfound : ByteArray := prog_1_method_41_code
def yX11_unfound : MethodName := ⟨RX11, "unfound", "(I)I"⟩
abbrev cX11_passOf : ByteArray := prog_1_method_42_code
def yX11_passOf : MethodName := ⟨RX11, "passOf", "(I)LPadPolish$Pass;"⟩
abbrev cX11_allPasses : ByteArray := prog_1_method_43_code
def yX11_allPasses : MethodName := ⟨RX11, "allPasses", "()I"⟩
abbrev cX11_keepAct : ByteArray := prog_1_method_44_code
def yX11_keepAct : MethodName := ⟨RX11, "keepAct", "()V"⟩
abbrev cX11_forgetActs : ByteArray := prog_1_method_45_code
def yX11_forgetActs : MethodName := ⟨RX11, "forgetActs", "()V"⟩
abbrev cX11_guessRounds : ByteArray := prog_1_method_46_code
def yX11_guessRounds : MethodName := ⟨RX11, "guessRounds", "(I)V"⟩
abbrev cX11_gainsAlong : ByteArray := prog_1_method_47_code
def yX11_gainsAlong : MethodName := ⟨RX11, "gainsAlong", "(LPadPolish$Pass;I)Z"⟩
abbrev cX11_findBestOrder : ByteArray := prog_1_method_48_code
def yX11_findBestOrder : MethodName := ⟨RX11, "findBestOrder", "()I"⟩
abbrev cX11_spellOrder : ByteArray := prog_1_method_49_code
def yX11_spellOrder : MethodName := ⟨RX11, "spellOrder", "(II)Z"⟩
abbrev cX11_power : ByteArray := prog_1_method_50_code
def yX11_power : MethodName := ⟨RX11, "power", "(JI)J"⟩
abbrev cX11_commonDivisor : ByteArray := prog_1_method_51_code
def yX11_commonDivisor : MethodName := ⟨RX11, "commonDivisor", "(JJ)J"⟩
abbrev cX11_isOfKind : ByteArray := prog_1_method_52_code
def yX11_isOfKind : MethodName := ⟨RX11, "isOfKind", "(LPadPolish$Pass;I)Z"⟩
abbrev cX11_rowsThere : ByteArray := prog_1_method_53_code
def yX11_rowsThere : MethodName := ⟨RX11, "rowsThere", "()I"⟩
abbrev cX11_cellsAboveNone : ByteArray := prog_1_method_54_code
def yX11_cellsAboveNone : MethodName := ⟨RX11, "cellsAboveNone", "([I)I"⟩
def RX12 : String := "PadPolishModel"
def TX12 : u_T := fun k => match k with
  | 0 => ("PadPolishModel", "thrown", "I", false)
  | 1 => ("PadPolishModel", "status", "I", false)
  | 2 => ("PadPolishModel", "lane", "[I", true)
  | 3 => ("PadPolishModel", "many", "[I", true)
  | 4 => ("PadPolishModel", "item", "[I", true)
  | 5 => ("PadPolishModel", "table", "[I", true)
  | 6 => ("PadPolishModel", "fresh", "[I", true)
  | 7 => ("PadPolishModel", "then", "[I", true)
  | 8 => ("PadPolishModel", "was", "[I", true)
  | 9 => ("PadPolishModel", "acts", "I", false)
  | 10 => ("PadPolishModel", "tape", "[I", true)
  | 11 => ("PadPolishModel", "taped", "I", false)
  | 12 => ("PadPolishModel", "cursor", "I", false)
  | 13 => ("PadPolishModel", "start", "I", false)
  | 14 => ("PadPolishModel", "token", "I", false)
  | 15 => ("PadPolishModel", "value", "I", false)
  | 16 => ("PadPolishModel", "fault", "I", false)
  | 17 => ("PadPolishModel", "faultAt", "I", false)
  | 18 => ("PadPolishModel", "latest", "I", false)
  | 19 => ("PadPolishModel", "last", "I", false)
  | 20 => ("PadPolishModel", "isKept", "[Z", true)
  | 21 => ("PadPolishModel", "kept", "[I", true)
  | 22 => ("PadPolishModel", "trace", "[I", true)
  | _ => ("PadPolishModel", "traced", "I", false)
def tyX12 : Nat → FieldType := fun k => match k with
  | 0 => .int
  | 1 => .int
  | 2 => .array .int
  | 3 => .array .int
  | 4 => .array .int
  | 5 => .array .int
  | 6 => .array .int
  | 7 => .array .int
  | 8 => .array .int
  | 9 => .int
  | 10 => .array .int
  | 11 => .int
  | 12 => .int
  | 13 => .int
  | 14 => .int
  | 15 => .int
  | 16 => .int
  | 17 => .int
  | 18 => .int
  | 19 => .int
  | 20 => .array .boolean
  | 21 => .array .int
  | 22 => .array .int
  | _ => .int
theorem nmX12 : ∀ a, a < 24 → ∀ b, b < 24 → a ≠ b → (TX12 a).2.1 ≠ (TX12 b).2.1 := by decide +kernel
theorem tyX12_ok : ∀ k, k < 24 → parseFieldDescriptor (TX12 k).2.2.1 = some (tyX12 k) := by decide +kernel
abbrev cX12_init : ByteArray := prog_14_method_1_code
def yX12_init : MethodName := ⟨RX12, "<init>", "()V"⟩
abbrev cX12_in : ByteArray := prog_14_method_3_code
def yX12_in : MethodName := ⟨RX12, "in", "(JJJ)Z"⟩
abbrev cX12_finding : ByteArray := prog_14_method_4_code
def yX12_finding : MethodName := ⟨RX12, "finding", "(I)I"⟩
abbrev cX12_isRow : ByteArray := prog_14_method_5_code
def yX12_isRow : MethodName := ⟨RX12, "isRow", "(I)Z"⟩
abbrev cX12_row : ByteArray := prog_14_method_6_code
def yX12_row : MethodName := ⟨RX12, "row", "(III)I"⟩
abbrev cX12_set : ByteArray := prog_14_method_7_code
def yX12_set : MethodName := ⟨RX12, "set", "(III)I"⟩
abbrev cX12_copy : ByteArray := prog_14_method_8_code
def yX12_copy : MethodName := ⟨RX12, "copy", "(IIIII)I"⟩
abbrev cX12_drop : ByteArray := prog_14_method_9_code
def yX12_drop : MethodName := ⟨RX12, "drop", "(I)I"⟩
abbrev cX12_feed : ByteArray := prog_14_method_10_code
def yX12_feed : MethodName := ⟨RX12, "feed", "(I)I"⟩
abbrev cX12_bad : ByteArray := prog_14_method_11_code
def yX12_bad : MethodName := ⟨RX12, "bad", "(I)V"⟩
abbrev cX12_nextToken : ByteArray := prog_14_method_12_code
def yX12_nextToken : MethodName := ⟨RX12, "nextToken", "()V"⟩
abbrev cX12_must : ByteArray := prog_14_method_13_code
def yX12_must : MethodName := ⟨RX12, "must", "(Z)V"⟩
abbrev cX12_isLetter : ByteArray := prog_14_method_14_code
def yX12_isLetter : MethodName := ⟨RX12, "isLetter", "(I)Z"⟩
abbrev cX12_number : ByteArray := prog_14_method_15_code
def yX12_number : MethodName := ⟨RX12, "number", "(II)I"⟩
abbrev cX12_mustSign : ByteArray := prog_14_method_16_code
def yX12_mustSign : MethodName := ⟨RX12, "mustSign", "(I)V"⟩
abbrev cX12_begin : ByteArray := prog_14_method_17_code
def yX12_begin : MethodName := ⟨RX12, "begin", "()V"⟩
abbrev cX12_failed : ByteArray := prog_14_method_18_code
def yX12_failed : MethodName := ⟨RX12, "failed", "()Z"⟩
abbrev cX12_fault : ByteArray := prog_14_method_19_code
def yX12_fault : MethodName := ⟨RX12, "fault", "()I"⟩
abbrev cX12_kindBy : ByteArray := prog_14_method_20_code
def yX12_kindBy : MethodName := ⟨RX12, "kindBy", "(I)I"⟩
abbrev cX12_readCell : ByteArray := prog_14_method_21_code
def yX12_readCell : MethodName := ⟨RX12, "readCell", "(II)V"⟩
abbrev cX12_stepFrom : ByteArray := prog_14_method_22_code
def yX12_stepFrom : MethodName := ⟨RX12, "stepFrom", "(II)I"⟩
abbrev cX12_readPass : ByteArray := prog_14_method_23_code
def yX12_readPass : MethodName := ⟨RX12, "readPass", "()V"⟩
abbrev cX12_table : ByteArray := prog_14_method_24_code
def yX12_table : MethodName := ⟨RX12, "table", "()I"⟩
abbrev cX12_isThere : ByteArray := prog_14_method_25_code
def yX12_isThere : MethodName := ⟨RX12, "isThere", "()Z"⟩
abbrev cX12_isPass : ByteArray := prog_14_method_26_code
def yX12_isPass : MethodName := ⟨RX12, "isPass", "(I)Z"⟩
abbrev cX12_isCell : ByteArray := prog_14_method_27_code
def yX12_isCell : MethodName := ⟨RX12, "isCell", "(I)Z"⟩
abbrev cX12_areCells : ByteArray := prog_14_method_28_code
def yX12_areCells : MethodName := ⟨RX12, "areCells", "(I)Z"⟩
abbrev cX12_kindOf : ByteArray := prog_14_method_29_code
def yX12_kindOf : MethodName := ⟨RX12, "kindOf", "(I)I"⟩
abbrev cX12_cellsOf : ByteArray := prog_14_method_30_code
def yX12_cellsOf : MethodName := ⟨RX12, "cellsOf", "(I)I"⟩
abbrev cX12_cellAt : ByteArray := prog_14_method_31_code
def yX12_cellAt : MethodName := ⟨RX12, "cellAt", "(II)I"⟩
abbrev cX12_overBy : ByteArray := prog_14_method_32_code
def yX12_overBy : MethodName := ⟨RX12, "overBy", "(I)I"⟩
abbrev cX12_lay : ByteArray := prog_14_method_33_code
def yX12_lay : MethodName := ⟨RX12, "lay", "([III)V"⟩
abbrev cX12_goOver : ByteArray := prog_14_method_34_code
def yX12_goOver : MethodName := ⟨RX12, "goOver", "([III)V"⟩
abbrev cX12_pass : ByteArray := prog_14_method_35_code
def yX12_pass : MethodName := ⟨RX12, "pass", "([II)V"⟩
abbrev cX12_allPasses : ByteArray := prog_14_method_36_code
def yX12_allPasses : MethodName := ⟨RX12, "allPasses", "([I)V"⟩
abbrev cX12_stands : ByteArray := prog_14_method_37_code
def yX12_stands : MethodName := ⟨RX12, "stands", "([II)V"⟩
abbrev cX12_rests : ByteArray := prog_14_method_38_code
def yX12_rests : MethodName := ⟨RX12, "rests", "([I)V"⟩
abbrev cX12_filmOf : ByteArray := prog_14_method_39_code
def yX12_filmOf : MethodName := ⟨RX12, "filmOf", "([I)I"⟩
abbrev cX12_unevenOf : ByteArray := prog_14_method_40_code
def yX12_unevenOf : MethodName := ⟨RX12, "unevenOf", "([I)I"⟩
abbrev cX12_layThen : ByteArray := prog_14_method_41_code
def yX12_layThen : MethodName := ⟨RX12, "layThen", "()V"⟩
abbrev cX12_keep : ByteArray := prog_14_method_42_code
def yX12_keep : MethodName := ⟨RX12, "keep", "()V"⟩
abbrev cX12_atMost : ByteArray := prog_14_method_43_code
def yX12_atMost : MethodName := ⟨RX12, "atMost", "(II)I"⟩
abbrev cX12_charge : ByteArray := prog_14_method_44_code
def yX12_charge : MethodName := ⟨RX12, "charge", "(II)I"⟩
abbrev cX12_make : ByteArray := prog_14_method_45_code
def yX12_make : MethodName := ⟨RX12, "make", "(I)I"⟩
abbrev cX12_stand : ByteArray := prog_14_method_46_code
def yX12_stand : MethodName := ⟨RX12, "stand", "(I)I"⟩
abbrev cX12_rest : ByteArray := prog_14_method_47_code
def yX12_rest : MethodName := ⟨RX12, "rest", "()I"⟩
abbrev cX12_undo : ByteArray := prog_14_method_48_code
def yX12_undo : MethodName := ⟨RX12, "undo", "()I"⟩
abbrev cX12_cell : ByteArray := prog_14_method_49_code
def yX12_cell : MethodName := ⟨RX12, "cell", "(II)I"⟩
abbrev cX12_path : ByteArray := prog_14_method_50_code
def yX12_path : MethodName := ⟨RX12, "path", "(II)I"⟩
abbrev cX12_pad : ByteArray := prog_14_method_51_code
def yX12_pad : MethodName := ⟨RX12, "pad", "(I)I"⟩
abbrev cX12_layAhead : ByteArray := prog_14_method_52_code
def yX12_layAhead : MethodName := ⟨RX12, "layAhead", "(I)V"⟩
abbrev cX12_ahead : ByteArray := prog_14_method_53_code
def yX12_ahead : MethodName := ⟨RX12, "ahead", "(III)I"⟩
abbrev cX12_uneven : ByteArray := prog_14_method_54_code
def yX12_uneven : MethodName := ⟨RX12, "uneven", "(I)I"⟩
abbrev cX12_placed : ByteArray := prog_14_method_55_code
def yX12_placed : MethodName := ⟨RX12, "placed", "(II)I"⟩
abbrev cX12_isOrder : ByteArray := prog_14_method_56_code
def yX12_isOrder : MethodName := ⟨RX12, "isOrder", "(I)Z"⟩
abbrev cX12_order : ByteArray := prog_14_method_57_code
def yX12_order : MethodName := ⟨RX12, "order", "(I)I"⟩
abbrev cX12_overAll : ByteArray := prog_14_method_58_code
def yX12_overAll : MethodName := ⟨RX12, "overAll", "()I"⟩
abbrev cX12_enough : ByteArray := prog_14_method_59_code
def yX12_enough : MethodName := ⟨RX12, "enough", "(I)I"⟩
abbrev cX12_wetFor : ByteArray := prog_14_method_60_code
def yX12_wetFor : MethodName := ⟨RX12, "wetFor", "(II)I"⟩
abbrev cX12_bits : ByteArray := prog_14_method_61_code
def yX12_bits : MethodName := ⟨RX12, "bits", "(I)I"⟩
abbrev cX12_over : ByteArray := prog_14_method_62_code
def yX12_over : MethodName := ⟨RX12, "over", "(II)I"⟩
abbrev cX12_goOn : ByteArray := prog_14_method_63_code
def yX12_goOn : MethodName := ⟨RX12, "goOn", "()I"⟩
abbrev cX12_done : ByteArray := prog_14_method_64_code
def yX12_done : MethodName := ⟨RX12, "done", "(III)I"⟩
abbrev cX12_cups : ByteArray := prog_14_method_65_code
def yX12_cups : MethodName := ⟨RX12, "cups", "(II)I"⟩
abbrev cX12_thin : ByteArray := prog_14_method_66_code
def yX12_thin : MethodName := ⟨RX12, "thin", "()I"⟩
abbrev cX12_dust : ByteArray := prog_14_method_67_code
def yX12_dust : MethodName := ⟨RX12, "dust", "(IIII)J"⟩
abbrev cX12_evenings : ByteArray := prog_14_method_68_code
def yX12_evenings : MethodName := ⟨RX12, "evenings", "(III)I"⟩
abbrev cX12_image : ByteArray := prog_14_method_69_code
def yX12_image : MethodName := ⟨RX12, "image", "(I)I"⟩
abbrev cX12_restore : ByteArray := prog_14_method_70_code
def yX12_restore : MethodName := ⟨RX12, "restore", "(I)I"⟩
abbrev cX12_isOf : ByteArray := prog_14_method_71_code
def yX12_isOf : MethodName := ⟨RX12, "isOf", "(II)Z"⟩
abbrev cX12_kind : ByteArray := prog_14_method_72_code
def yX12_kind : MethodName := ⟨RX12, "kind", "(I)I"⟩
abbrev cX12_as : ByteArray := prog_14_method_73_code
def yX12_as : MethodName := ⟨RX12, "as", "(II)I"⟩
abbrev cX12_began : ByteArray := prog_14_method_74_code
def yX12_began : MethodName := ⟨RX12, "began", "(I)V"⟩
abbrev cX12_plainSize : ByteArray := prog_14_method_75_code
def yX12_plainSize : MethodName := ⟨RX12, "plainSize", "(I)I"⟩
abbrev cX12_clearSize : ByteArray := prog_14_method_76_code
def yX12_clearSize : MethodName := ⟨RX12, "clearSize", "(I)I"⟩
abbrev cX12_markOf : ByteArray := prog_14_method_77_code
def yX12_markOf : MethodName := ⟨RX12, "markOf", "(I)I"⟩
abbrev cX12_sizeOf : ByteArray := prog_14_method_78_code
def yX12_sizeOf : MethodName := ⟨RX12, "sizeOf", "(I)I"⟩
abbrev cX12_ask : ByteArray := prog_14_method_79_code
def yX12_ask : MethodName := ⟨RX12, "ask", "(II)I"⟩
abbrev cX12_trace : ByteArray := prog_14_method_80_code
def yX12_trace : MethodName := ⟨RX12, "trace", "(I)I"⟩
abbrev cX12_count : ByteArray := prog_14_method_81_code
def yX12_count : MethodName := ⟨RX12, "count", "(I)I"⟩
abbrev cX12_status : ByteArray := prog_14_method_82_code
def yX12_status : MethodName := ⟨RX12, "status", "()I"⟩
def RJx145de : String := "java/io/Serializable"
def TJx145de : u_T := fun k => match k with
  | _ => ("", "", "", false)
def tyJx145de : Nat → FieldType := fun k => match k with
  | _ => .int
theorem nmJx145de : ∀ a, a < 0 → ∀ b, b < 0 → a ≠ b → (TJx145de a).2.1 ≠ (TJx145de b).2.1 := by decide +kernel
theorem tyJx145de_ok : ∀ k, k < 0 → parseFieldDescriptor (TJx145de k).2.2.1 = some (tyJx145de k) := by decide +kernel
def RJx8e188 : String := "java/lang/Cloneable"
def TJx8e188 : u_T := fun k => match k with
  | _ => ("", "", "", false)
def tyJx8e188 : Nat → FieldType := fun k => match k with
  | _ => .int
theorem nmJx8e188 : ∀ a, a < 0 → ∀ b, b < 0 → a ≠ b → (TJx8e188 a).2.1 ≠ (TJx8e188 b).2.1 := by decide +kernel
theorem tyJx8e188_ok : ∀ k, k < 0 → parseFieldDescriptor (TJx8e188 k).2.2.1 = some (tyJx8e188 k) := by decide +kernel
def RJ6 : String := "java/lang/Integer"
def TJ6 : u_T := fun k => match k with
  | _ => ("", "", "", false)
def tyJ6 : Nat → FieldType := fun k => match k with
  | _ => .int
theorem nmJ6 : ∀ a, a < 0 → ∀ b, b < 0 → a ≠ b → (TJ6 a).2.1 ≠ (TJ6 b).2.1 := by decide +kernel
theorem tyJ6_ok : ∀ k, k < 0 → parseFieldDescriptor (TJ6 k).2.2.1 = some (tyJ6 k) := by decide +kernel
abbrev cJ6_bitCount_0f7a4 : ByteArray := prog_17_method_49_code
def yJ6_bitCount_0f7a4 : MethodName := ⟨RJ6, "bitCount", "(I)I"⟩
def RJxab1ab : String := "java/lang/Iterable"
def TJxab1ab : u_T := fun k => match k with
  | _ => ("", "", "", false)
def tyJxab1ab : Nat → FieldType := fun k => match k with
  | _ => .int
theorem nmJxab1ab : ∀ a, a < 0 → ∀ b, b < 0 → a ≠ b → (TJxab1ab a).2.1 ≠ (TJxab1ab b).2.1 := by decide +kernel
theorem tyJxab1ab_ok : ∀ k, k < 0 → parseFieldDescriptor (TJxab1ab k).2.2.1 = some (tyJxab1ab k) := by decide +kernel
def RJ9 : String := "java/lang/Math"
def TJ9 : u_T := fun k => match k with
  | _ => ("", "", "", false)
def tyJ9 : Nat → FieldType := fun k => match k with
  | _ => .int
theorem nmJ9 : ∀ a, a < 0 → ∀ b, b < 0 → a ≠ b → (TJ9 a).2.1 ≠ (TJ9 b).2.1 := by decide +kernel
theorem tyJ9_ok : ∀ k, k < 0 → parseFieldDescriptor (TJ9 k).2.2.1 = some (tyJ9 k) := by decide +kernel
abbrev cJ9_max_7cf53 : ByteArray := prog_19_method_65_code
def yJ9_max_7cf53 : MethodName := ⟨RJ9, "max", "(II)I"⟩
abbrev cJ9_min_7cf53 : ByteArray := prog_19_method_69_code
def yJ9_min_7cf53 : MethodName := ⟨RJ9, "min", "(II)I"⟩
def RJ10 : String := "java/lang/System"
def TJ10 : u_T := fun k => match k with
  | _ => ("", "", "", false)
def tyJ10 : Nat → FieldType := fun k => match k with
  | _ => .int
theorem nmJ10 : ∀ a, a < 0 → ∀ b, b < 0 → a ≠ b → (TJ10 a).2.1 ≠ (TJ10 b).2.1 := by decide +kernel
theorem tyJ10_ok : ∀ k, k < 0 → parseFieldDescriptor (TJ10 k).2.2.1 = some (tyJ10 k) := by decide +kernel
def RJxa1e45 : String := "java/util/AbstractCollection"
def TJxa1e45 : u_T := fun k => match k with
  | _ => ("", "", "", false)
def tyJxa1e45 : Nat → FieldType := fun k => match k with
  | _ => .int
theorem nmJxa1e45 : ∀ a, a < 0 → ∀ b, b < 0 → a ≠ b → (TJxa1e45 a).2.1 ≠ (TJxa1e45 b).2.1 := by decide +kernel
theorem tyJxa1e45_ok : ∀ k, k < 0 → parseFieldDescriptor (TJxa1e45 k).2.2.1 = some (tyJxa1e45 k) := by decide +kernel
abbrev cJxa1e45_init_da8c8 : ByteArray := prog_21_method_1_code
def yJxa1e45_init_da8c8 : MethodName := ⟨RJxa1e45, "<init>", "()V"⟩
def RJxc12de : String := "java/util/AbstractList"
def TJxc12de : u_T := fun k => match k with
  | _ => ("", "", "", false)
def tyJxc12de : Nat → FieldType := fun k => match k with
  | _ => .int
theorem nmJxc12de : ∀ a, a < 0 → ∀ b, b < 0 → a ≠ b → (TJxc12de a).2.1 ≠ (TJxc12de b).2.1 := by decide +kernel
theorem tyJxc12de_ok : ∀ k, k < 0 → parseFieldDescriptor (TJxc12de k).2.2.1 = some (tyJxc12de k) := by decide +kernel
abbrev cJxc12de_init_da8c8 : ByteArray := prog_22_method_1_code
def yJxc12de_init_da8c8 : MethodName := ⟨RJxc12de, "<init>", "()V"⟩
def RJx4a65c : String := "java/util/ArrayList"
def TJx4a65c : u_T := fun k => match k with
  | 0 => ("java/util/AbstractList", "modCount", "I", false)
  | 1 => ("java/util/ArrayList", "elementData", "[Ljava/lang/Object;", false)
  | _ => ("java/util/ArrayList", "size", "I", false)
def tyJx4a65c : Nat → FieldType := fun k => match k with
  | 0 => .int
  | 1 => .array (.object "java/lang/Object")
  | _ => .int
theorem nmJx4a65c : ∀ a, a < 3 → ∀ b, b < 3 → a ≠ b → (TJx4a65c a).2.1 ≠ (TJx4a65c b).2.1 := by decide +kernel
theorem tyJx4a65c_ok : ∀ k, k < 3 → parseFieldDescriptor (TJx4a65c k).2.2.1 = some (tyJx4a65c k) := by decide +kernel
abbrev cJx4a65c_init_da8c8 : ByteArray := prog_23_method_2_code
def yJx4a65c_init_da8c8 : MethodName := ⟨RJx4a65c, "<init>", "()V"⟩
abbrev cJx4a65c_grow_92f84 : ByteArray := prog_23_method_6_code
def yJx4a65c_grow_92f84 : MethodName := ⟨RJx4a65c, "grow", "(I)[Ljava/lang/Object;"⟩
abbrev cJx4a65c_grow_d5877 : ByteArray := prog_23_method_7_code
def yJx4a65c_grow_d5877 : MethodName := ⟨RJx4a65c, "grow", "()[Ljava/lang/Object;"⟩
abbrev cJx4a65c_size_8abf5 : ByteArray := prog_23_method_8_code
def yJx4a65c_size_8abf5 : MethodName := ⟨RJx4a65c, "size", "()I"⟩
abbrev cJx4a65c_elementData_915e3 : ByteArray := prog_23_method_18_code
def yJx4a65c_elementData_915e3 : MethodName := ⟨RJx4a65c, "elementData", "(I)Ljava/lang/Object;"⟩
abbrev cJx4a65c_get_915e3 : ByteArray := prog_23_method_20_code
def yJx4a65c_get_915e3 : MethodName := ⟨RJx4a65c, "get", "(I)Ljava/lang/Object;"⟩
abbrev cJx4a65c_add_72be8 : ByteArray := prog_23_method_24_code
def yJx4a65c_add_72be8 : MethodName := ⟨RJx4a65c, "add", "(Ljava/lang/Object;[Ljava/lang/Object;I)V"⟩
abbrev cJx4a65c_add_9ea2d : ByteArray := prog_23_method_25_code
def yJx4a65c_add_9ea2d : MethodName := ⟨RJx4a65c, "add", "(Ljava/lang/Object;)Z"⟩
def RJ7 : String := "java/util/Arrays"
def TJ7 : u_T := fun k => match k with
  | _ => ("", "", "", false)
def tyJ7 : Nat → FieldType := fun k => match k with
  | _ => .int
theorem nmJ7 : ∀ a, a < 0 → ∀ b, b < 0 → a ≠ b → (TJ7 a).2.1 ≠ (TJ7 b).2.1 := by decide +kernel
theorem tyJ7_ok : ∀ k, k < 0 → parseFieldDescriptor (TJ7 k).2.2.1 = some (tyJ7 k) := by decide +kernel
abbrev cJ7_fill_53178 : ByteArray := prog_24_method_103_code
def yJ7_fill_53178 : MethodName := ⟨RJ7, "fill", "([II)V"⟩
abbrev cJ7_copyOf_1904c : ByteArray := prog_24_method_119_code
def yJ7_copyOf_1904c : MethodName := ⟨RJ7, "copyOf", "([Ljava/lang/Object;I)[Ljava/lang/Object;"⟩
abbrev cJ7_copyOf_6403c : ByteArray := prog_24_method_120_code
def yJ7_copyOf_6403c : MethodName := ⟨RJ7, "copyOf", "([Ljava/lang/Object;ILjava/lang/Class;)[Ljava/lang/Object;"⟩
abbrev cJ7_copyOf_59c91 : ByteArray := prog_24_method_123_code
def yJ7_copyOf_59c91 : MethodName := ⟨RJ7, "copyOf", "([II)[I"⟩
def RJx5ef63 : String := "java/util/Collection"
def TJx5ef63 : u_T := fun k => match k with
  | _ => ("", "", "", false)
def tyJx5ef63 : Nat → FieldType := fun k => match k with
  | _ => .int
theorem nmJx5ef63 : ∀ a, a < 0 → ∀ b, b < 0 → a ≠ b → (TJx5ef63 a).2.1 ≠ (TJx5ef63 b).2.1 := by decide +kernel
theorem tyJx5ef63_ok : ∀ k, k < 0 → parseFieldDescriptor (TJx5ef63 k).2.2.1 = some (tyJx5ef63 k) := by decide +kernel
def RJxbd725 : String := "java/util/List"
def TJxbd725 : u_T := fun k => match k with
  | _ => ("", "", "", false)
def tyJxbd725 : Nat → FieldType := fun k => match k with
  | _ => .int
theorem nmJxbd725 : ∀ a, a < 0 → ∀ b, b < 0 → a ≠ b → (TJxbd725 a).2.1 ≠ (TJxbd725 b).2.1 := by decide +kernel
theorem tyJxbd725_ok : ∀ k, k < 0 → parseFieldDescriptor (TJxbd725 k).2.2.1 = some (tyJxbd725 k) := by decide +kernel
def RJ15 : String := "java/util/Objects"
def TJ15 : u_T := fun k => match k with
  | _ => ("", "", "", false)
def tyJ15 : Nat → FieldType := fun k => match k with
  | _ => .int
theorem nmJ15 : ∀ a, a < 0 → ∀ b, b < 0 → a ≠ b → (TJ15 a).2.1 ≠ (TJ15 b).2.1 := by decide +kernel
theorem tyJ15_ok : ∀ k, k < 0 → parseFieldDescriptor (TJ15 k).2.2.1 = some (tyJ15 k) := by decide +kernel
abbrev cJ15_checkIndex_7cf53 : ByteArray := prog_27_method_17_code
def yJ15_checkIndex_7cf53 : MethodName := ⟨RJ15, "checkIndex", "(II)I"⟩
def RJxf0a74 : String := "java/util/RandomAccess"
def TJxf0a74 : u_T := fun k => match k with
  | _ => ("", "", "", false)
def tyJxf0a74 : Nat → FieldType := fun k => match k with
  | _ => .int
theorem nmJxf0a74 : ∀ a, a < 0 → ∀ b, b < 0 → a ≠ b → (TJxf0a74 a).2.1 ≠ (TJxf0a74 b).2.1 := by decide +kernel
theorem tyJxf0a74_ok : ∀ k, k < 0 → parseFieldDescriptor (TJxf0a74 k).2.2.1 = some (tyJxf0a74 k) := by decide +kernel
def RJxa66e6 : String := "java/util/SequencedCollection"
def TJxa66e6 : u_T := fun k => match k with
  | _ => ("", "", "", false)
def tyJxa66e6 : Nat → FieldType := fun k => match k with
  | _ => .int
theorem nmJxa66e6 : ∀ a, a < 0 → ∀ b, b < 0 → a ≠ b → (TJxa66e6 a).2.1 ≠ (TJxa66e6 b).2.1 := by decide +kernel
theorem tyJxa66e6_ok : ∀ k, k < 0 → parseFieldDescriptor (TJxa66e6 k).2.2.1 = some (tyJxa66e6 k) := by decide +kernel
def RJ8 : String := "jdk/internal/util/ArraysSupport"
def TJ8 : u_T := fun k => match k with
  | _ => ("", "", "", false)
def tyJ8 : Nat → FieldType := fun k => match k with
  | _ => .int
theorem nmJ8 : ∀ a, a < 0 → ∀ b, b < 0 → a ≠ b → (TJ8 a).2.1 ≠ (TJ8 b).2.1 := by decide +kernel
theorem tyJ8_ok : ∀ k, k < 0 → parseFieldDescriptor (TJ8 k).2.2.1 = some (tyJ8 k) := by decide +kernel
abbrev cJ8_newLength_cabcc : ByteArray := prog_30_method_27_code
def yJ8_newLength_cabcc : MethodName := ⟨RJ8, "newLength", "(III)I"⟩
abbrev cJ8_hugeLength_7cf53 : ByteArray := prog_30_method_28_code
def yJ8_hugeLength_7cf53 : MethodName := ⟨RJ8, "hugeLength", "(II)I"⟩
def RJ3 : String := "jdk/internal/util/Preconditions"
def TJ3 : u_T := fun k => match k with
  | _ => ("", "", "", false)
def tyJ3 : Nat → FieldType := fun k => match k with
  | _ => .int
theorem nmJ3 : ∀ a, a < 0 → ∀ b, b < 0 → a ≠ b → (TJ3 a).2.1 ≠ (TJ3 b).2.1 := by decide +kernel
theorem tyJ3_ok : ∀ k, k < 0 → parseFieldDescriptor (TJ3 k).2.2.1 = some (tyJ3 k) := by decide +kernel
abbrev cJ3_checkIndex_8e157 : ByteArray := prog_31_method_11_code
def yJ3_checkIndex_8e157 : MethodName := ⟨RJ3, "checkIndex", "(IILjava/util/function/BiFunction;)I"⟩
def RL : String := "PadPolishLaw"
abbrev cL_law : ByteArray := code
def yL_law : MethodName := ⟨RL, "law", "([I)Z"⟩
abbrev vwCl : List vw_C := [(RJx4a65c, TJx4a65c, 3), (RX0, TX0, 2), (RX1, TX1, 2), (RX3, TX3, 3), (RX4, TX4, 2), (RX5, TX5, 2), (RX6, TX6, 2), (RX7, TX7, 6), (RX8, TX8, 3), (RX9, TX9, 5), (RX10, TX10, 2), (RX11, TX11, 16), (RX12, TX12, 24)]
end
section
theorem dX0_init_0 : decode cX0_init 0 = .ok (.aload_n 0, 1) := by decide +kernel
theorem dX0_init_1 : decode cX0_init 1 = .ok (.iload_n 1, 1) := by decide +kernel
theorem dX0_init_2 : decode cX0_init 2 = .ok (.aload_n 2, 1) := by decide +kernel
theorem dX0_init_3 : decode cX0_init 3 = .ok (.invokespecial 1, 3) := by decide +kernel
theorem dX0_init_6 : decode cX0_init 6 = .ok (.return_, 1) := by decide +kernel
theorem dX0_kindNumber_0 : decode cX0_kindNumber 0 = .ok (.iconst 4, 1) := by decide +kernel
theorem dX0_kindNumber_1 : decode cX0_kindNumber 1 = .ok (.ireturn, 1) := by decide +kernel
theorem dX0_clearedHaze_0 : decode cX0_clearedHaze 0 = .ok (.iconst 4, 1) := by decide +kernel
theorem dX0_clearedHaze_1 : decode cX0_clearedHaze 1 = .ok (.ireturn, 1) := by decide +kernel
theorem dX0_touch_0 : decode cX0_touch 0 = .ok (.aload_n 1, 1) := by decide +kernel
theorem dX0_touch_1 : decode cX0_touch 1 = .ok (.iload_n 2, 1) := by decide +kernel
theorem dX0_touch_2 : decode cX0_touch 2 = .ok (.aload_n 0, 1) := by decide +kernel
theorem dX0_touch_3 : decode cX0_touch 3 = .ok (.invokevirtual 7, 3) := by decide +kernel
theorem dX0_touch_6 : decode cX0_touch 6 = .ok (.invokevirtual 13, 3) := by decide +kernel
theorem dX0_touch_9 : decode cX0_touch 9 = .ok (.aload_n 1, 1) := by decide +kernel
theorem dX0_touch_10 : decode cX0_touch 10 = .ok (.iload_n 2, 1) := by decide +kernel
theorem dX0_touch_11 : decode cX0_touch 11 = .ok (.aload_n 1, 1) := by decide +kernel
theorem dX0_touch_12 : decode cX0_touch 12 = .ok (.getfield 19, 3) := by decide +kernel
theorem dX0_touch_15 : decode cX0_touch 15 = .ok (.iload_n 2, 1) := by decide +kernel
theorem dX0_touch_16 : decode cX0_touch 16 = .ok (.iaload, 1) := by decide +kernel
theorem dX0_touch_17 : decode cX0_touch 17 = .ok (.iconst 1, 1) := by decide +kernel
theorem dX0_touch_18 : decode cX0_touch 18 = .ok (.invokestatic 23, 3) := by decide +kernel
theorem dX0_touch_21 : decode cX0_touch 21 = .ok (.invokevirtual 29, 3) := by decide +kernel
theorem dX0_touch_24 : decode cX0_touch 24 = .ok (.aload_n 1, 1) := by decide +kernel
theorem dX0_touch_25 : decode cX0_touch 25 = .ok (.invokevirtual 32, 3) := by decide +kernel
theorem dX0_touch_28 : decode cX0_touch 28 = .ok (.return_, 1) := by decide +kernel
theorem dX0_size_0 : decode cX0_size 0 = .ok (.aload_n 2, 1) := by decide +kernel
theorem dX0_size_1 : decode cX0_size 1 = .ok (.bipush 13, 2) := by decide +kernel
theorem dX0_size_3 : decode cX0_size 3 = .ok (.invokevirtual 36, 3) := by decide +kernel
theorem dX0_size_6 : decode cX0_size 6 = .ok (.aload_n 0, 1) := by decide +kernel
theorem dX0_size_7 : decode cX0_size 7 = .ok (.iload_n 1, 1) := by decide +kernel
theorem dX0_size_8 : decode cX0_size 8 = .ok (.aload_n 2, 1) := by decide +kernel
theorem dX0_size_9 : decode cX0_size 9 = .ok (.invokespecial 42, 3) := by decide +kernel
theorem dX0_size_12 : decode cX0_size 12 = .ok (.bipush 100, 2) := by decide +kernel
theorem dX0_size_14 : decode cX0_size 14 = .ok (.isub, 1) := by decide +kernel
theorem dX0_size_15 : decode cX0_size 15 = .ok (.ireturn, 1) := by decide +kernel
theorem dX0_mark_0 : decode cX0_mark 0 = .ok (.aload_n 2, 1) := by decide +kernel
theorem dX0_mark_1 : decode cX0_mark 1 = .ok (.bipush 23, 2) := by decide +kernel
theorem dX0_mark_3 : decode cX0_mark 3 = .ok (.invokevirtual 36, 3) := by decide +kernel
theorem dX0_mark_6 : decode cX0_mark 6 = .ok (.aload_n 0, 1) := by decide +kernel
theorem dX0_mark_7 : decode cX0_mark 7 = .ok (.iload_n 1, 1) := by decide +kernel
theorem dX0_mark_8 : decode cX0_mark 8 = .ok (.aload_n 2, 1) := by decide +kernel
theorem dX0_mark_9 : decode cX0_mark 9 = .ok (.invokespecial 46, 3) := by decide +kernel
theorem dX0_mark_12 : decode cX0_mark 12 = .ok (.istore_n 3, 1) := by decide +kernel
theorem dX0_mark_13 : decode cX0_mark 13 = .ok (.iload_n 3, 1) := by decide +kernel
theorem dX0_mark_14 : decode cX0_mark 14 = .ok (.aload_n 0, 1) := by decide +kernel
theorem dX0_mark_15 : decode cX0_mark 15 = .ok (.iload_n 1, 1) := by decide +kernel
theorem dX0_mark_16 : decode cX0_mark 16 = .ok (.aload_n 2, 1) := by decide +kernel
theorem dX0_mark_17 : decode cX0_mark 17 = .ok (.invokevirtual 49, 3) := by decide +kernel
theorem dX0_mark_20 : decode cX0_mark 20 = .ok (.isub, 1) := by decide +kernel
theorem dX0_mark_21 : decode cX0_mark 21 = .ok (.ireturn, 1) := by decide +kernel
theorem dX1_init_0 : decode cX1_init 0 = .ok (.aload_n 0, 1) := by decide +kernel
theorem dX1_init_1 : decode cX1_init 1 = .ok (.iload_n 1, 1) := by decide +kernel
theorem dX1_init_2 : decode cX1_init 2 = .ok (.aload_n 2, 1) := by decide +kernel
theorem dX1_init_3 : decode cX1_init 3 = .ok (.invokespecial 1, 3) := by decide +kernel
theorem dX1_init_6 : decode cX1_init 6 = .ok (.return_, 1) := by decide +kernel
theorem dX1_kindNumber_0 : decode cX1_kindNumber 0 = .ok (.iconst 3, 1) := by decide +kernel
theorem dX1_kindNumber_1 : decode cX1_kindNumber 1 = .ok (.ireturn, 1) := by decide +kernel
theorem dX1_laid_0 : decode cX1_laid 0 = .ok (.iload_n 1, 1) := by decide +kernel
theorem dX1_laid_1 : decode cX1_laid 1 = .ok (.iconst 2, 1) := by decide +kernel
theorem dX1_laid_2 : decode cX1_laid 2 = .ok (.idiv, 1) := by decide +kernel
theorem dX1_laid_3 : decode cX1_laid 3 = .ok (.ireturn, 1) := by decide +kernel
theorem dX1_takeFirst_0 : decode cX1_takeFirst 0 = .ok (.aload_n 1, 1) := by decide +kernel
theorem dX1_takeFirst_1 : decode cX1_takeFirst 1 = .ok (.getfield 7, 3) := by decide +kernel
theorem dX1_takeFirst_4 : decode cX1_takeFirst 4 = .ok (.ifCond .ne 8, 3) := by decide +kernel
theorem dX1_takeFirst_7 : decode cX1_takeFirst 7 = .ok (.aload_n 1, 1) := by decide +kernel
theorem dX1_takeFirst_8 : decode cX1_takeFirst 8 = .ok (.iload_n 2, 1) := by decide +kernel
theorem dX1_takeFirst_9 : decode cX1_takeFirst 9 = .ok (.invokevirtual 13, 3) := by decide +kernel
theorem dX1_takeFirst_12 : decode cX1_takeFirst 12 = .ok (.return_, 1) := by decide +kernel
theorem dX1_mark_0 : decode cX1_mark 0 = .ok (.aload_n 2, 1) := by decide +kernel
theorem dX1_mark_1 : decode cX1_mark 1 = .ok (.bipush 22, 2) := by decide +kernel
theorem dX1_mark_3 : decode cX1_mark 3 = .ok (.invokevirtual 17, 3) := by decide +kernel
theorem dX1_mark_6 : decode cX1_mark 6 = .ok (.aload_n 0, 1) := by decide +kernel
theorem dX1_mark_7 : decode cX1_mark 7 = .ok (.iload_n 1, 1) := by decide +kernel
theorem dX1_mark_8 : decode cX1_mark 8 = .ok (.aload_n 2, 1) := by decide +kernel
theorem dX1_mark_9 : decode cX1_mark 9 = .ok (.invokespecial 22, 3) := by decide +kernel
theorem dX1_mark_12 : decode cX1_mark 12 = .ok (.sipush 1000, 3) := by decide +kernel
theorem dX1_mark_15 : decode cX1_mark 15 = .ok (.isub, 1) := by decide +kernel
theorem dX1_mark_16 : decode cX1_mark 16 = .ok (.ireturn, 1) := by decide +kernel
theorem dX2_init_0 : decode cX2_init 0 = .ok (.aload_n 0, 1) := by decide +kernel
theorem dX2_init_1 : decode cX2_init 1 = .ok (.invokespecial 1, 3) := by decide +kernel
theorem dX2_init_4 : decode cX2_init 4 = .ok (.aload_n 0, 1) := by decide +kernel
theorem dX2_init_5 : decode cX2_init 5 = .ok (.iload_n 1, 1) := by decide +kernel
theorem dX2_init_6 : decode cX2_init 6 = .ok (.putfield 7, 3) := by decide +kernel
theorem dX2_init_9 : decode cX2_init 9 = .ok (.aload_n 0, 1) := by decide +kernel
theorem dX2_init_10 : decode cX2_init 10 = .ok (.aload_n 2, 1) := by decide +kernel
theorem dX2_init_11 : decode cX2_init 11 = .ok (.putfield 13, 3) := by decide +kernel
theorem dX2_init_14 : decode cX2_init 14 = .ok (.return_, 1) := by decide +kernel
theorem dX2_goAlong_0 : decode cX2_goAlong 0 = .ok (.aload_n 0, 1) := by decide +kernel
theorem dX2_goAlong_1 : decode cX2_goAlong 1 = .ok (.getfield 13, 3) := by decide +kernel
theorem dX2_goAlong_4 : decode cX2_goAlong 4 = .ok (.astore_n 2, 1) := by decide +kernel
theorem dX2_goAlong_5 : decode cX2_goAlong 5 = .ok (.aload_n 2, 1) := by decide +kernel
theorem dX2_goAlong_6 : decode cX2_goAlong 6 = .ok (.arraylength, 1) := by decide +kernel
theorem dX2_goAlong_7 : decode cX2_goAlong 7 = .ok (.istore_n 3, 1) := by decide +kernel
theorem dX2_goAlong_8 : decode cX2_goAlong 8 = .ok (.iconst 0, 1) := by decide +kernel
theorem dX2_goAlong_9 : decode cX2_goAlong 9 = .ok (.istore 4, 2) := by decide +kernel
theorem dX2_goAlong_11 : decode cX2_goAlong 11 = .ok (.iload 4, 2) := by decide +kernel
theorem dX2_goAlong_13 : decode cX2_goAlong 13 = .ok (.iload_n 3, 1) := by decide +kernel
theorem dX2_goAlong_14 : decode cX2_goAlong 14 = .ok (.if_icmp .ge 22, 3) := by decide +kernel
theorem dX2_goAlong_17 : decode cX2_goAlong 17 = .ok (.aload_n 2, 1) := by decide +kernel
theorem dX2_goAlong_18 : decode cX2_goAlong 18 = .ok (.iload 4, 2) := by decide +kernel
theorem dX2_goAlong_20 : decode cX2_goAlong 20 = .ok (.iaload, 1) := by decide +kernel
theorem dX2_goAlong_21 : decode cX2_goAlong 21 = .ok (.istore 5, 2) := by decide +kernel
theorem dX2_goAlong_23 : decode cX2_goAlong 23 = .ok (.aload_n 0, 1) := by decide +kernel
theorem dX2_goAlong_24 : decode cX2_goAlong 24 = .ok (.aload_n 1, 1) := by decide +kernel
theorem dX2_goAlong_25 : decode cX2_goAlong 25 = .ok (.iload 5, 2) := by decide +kernel
theorem dX2_goAlong_27 : decode cX2_goAlong 27 = .ok (.invokevirtual 17, 3) := by decide +kernel
theorem dX2_goAlong_30 : decode cX2_goAlong 30 = .ok (.iinc 4 1, 3) := by decide +kernel
theorem dX2_goAlong_33 : decode cX2_goAlong 33 = .ok (.goto (-22), 3) := by decide +kernel
theorem dX2_goAlong_36 : decode cX2_goAlong 36 = .ok (.return_, 1) := by decide +kernel
theorem dX2_cells_0 : decode cX2_cells 0 = .ok (.iconst 0, 1) := by decide +kernel
theorem dX2_cells_1 : decode cX2_cells 1 = .ok (.istore_n 1, 1) := by decide +kernel
theorem dX2_cells_2 : decode cX2_cells 2 = .ok (.aload_n 0, 1) := by decide +kernel
theorem dX2_cells_3 : decode cX2_cells 3 = .ok (.getfield 13, 3) := by decide +kernel
theorem dX2_cells_6 : decode cX2_cells 6 = .ok (.astore_n 2, 1) := by decide +kernel
theorem dX2_cells_7 : decode cX2_cells 7 = .ok (.aload_n 2, 1) := by decide +kernel
theorem dX2_cells_8 : decode cX2_cells 8 = .ok (.arraylength, 1) := by decide +kernel
theorem dX2_cells_9 : decode cX2_cells 9 = .ok (.istore_n 3, 1) := by decide +kernel
theorem dX2_cells_10 : decode cX2_cells 10 = .ok (.iconst 0, 1) := by decide +kernel
theorem dX2_cells_11 : decode cX2_cells 11 = .ok (.istore 4, 2) := by decide +kernel
theorem dX2_cells_13 : decode cX2_cells 13 = .ok (.iload 4, 2) := by decide +kernel
theorem dX2_cells_15 : decode cX2_cells 15 = .ok (.iload_n 3, 1) := by decide +kernel
theorem dX2_cells_16 : decode cX2_cells 16 = .ok (.if_icmp .ge 22, 3) := by decide +kernel
theorem dX2_cells_19 : decode cX2_cells 19 = .ok (.aload_n 2, 1) := by decide +kernel
theorem dX2_cells_20 : decode cX2_cells 20 = .ok (.iload 4, 2) := by decide +kernel
theorem dX2_cells_22 : decode cX2_cells 22 = .ok (.iaload, 1) := by decide +kernel
theorem dX2_cells_23 : decode cX2_cells 23 = .ok (.istore 5, 2) := by decide +kernel
theorem dX2_cells_25 : decode cX2_cells 25 = .ok (.iload_n 1, 1) := by decide +kernel
theorem dX2_cells_26 : decode cX2_cells 26 = .ok (.iconst 1, 1) := by decide +kernel
theorem dX2_cells_27 : decode cX2_cells 27 = .ok (.iload 5, 2) := by decide +kernel
theorem dX2_cells_29 : decode cX2_cells 29 = .ok (.ishl, 1) := by decide +kernel
theorem dX2_cells_30 : decode cX2_cells 30 = .ok (.ior, 1) := by decide +kernel
theorem dX2_cells_31 : decode cX2_cells 31 = .ok (.istore_n 1, 1) := by decide +kernel
theorem dX2_cells_32 : decode cX2_cells 32 = .ok (.iinc 4 1, 3) := by decide +kernel
theorem dX2_cells_35 : decode cX2_cells 35 = .ok (.goto (-22), 3) := by decide +kernel
theorem dX2_cells_38 : decode cX2_cells 38 = .ok (.iload_n 1, 1) := by decide +kernel
theorem dX2_cells_39 : decode cX2_cells 39 = .ok (.ireturn, 1) := by decide +kernel
theorem dX2_size_0 : decode cX2_size 0 = .ok (.aload_n 2, 1) := by decide +kernel
theorem dX2_size_1 : decode cX2_size 1 = .ok (.bipush 10, 2) := by decide +kernel
theorem dX2_size_3 : decode cX2_size 3 = .ok (.invokevirtual 21, 3) := by decide +kernel
theorem dX2_size_6 : decode cX2_size 6 = .ok (.aload_n 0, 1) := by decide +kernel
theorem dX2_size_7 : decode cX2_size 7 = .ok (.getfield 13, 3) := by decide +kernel
theorem dX2_size_10 : decode cX2_size 10 = .ok (.arraylength, 1) := by decide +kernel
theorem dX2_size_11 : decode cX2_size 11 = .ok (.ireturn, 1) := by decide +kernel
theorem dX2_mark_0 : decode cX2_mark 0 = .ok (.aload_n 2, 1) := by decide +kernel
theorem dX2_mark_1 : decode cX2_mark 1 = .ok (.bipush 20, 2) := by decide +kernel
theorem dX2_mark_3 : decode cX2_mark 3 = .ok (.invokevirtual 21, 3) := by decide +kernel
theorem dX2_mark_6 : decode cX2_mark 6 = .ok (.aload_n 0, 1) := by decide +kernel
theorem dX2_mark_7 : decode cX2_mark 7 = .ok (.getfield 7, 3) := by decide +kernel
theorem dX2_mark_10 : decode cX2_mark 10 = .ok (.ireturn, 1) := by decide +kernel
theorem dX3_init_0 : decode cX3_init 0 = .ok (.aload_n 0, 1) := by decide +kernel
theorem dX3_init_1 : decode cX3_init 1 = .ok (.invokespecial 3, 3) := by decide +kernel
theorem dX3_init_4 : decode cX3_init 4 = .ok (.aload_n 0, 1) := by decide +kernel
theorem dX3_init_5 : decode cX3_init 5 = .ok (.bipush 40, 2) := by decide +kernel
theorem dX3_init_7 : decode cX3_init 7 = .ok (.newarray .int, 2) := by decide +kernel
theorem dX3_init_9 : decode cX3_init 9 = .ok (.putfield 9, 3) := by decide +kernel
theorem dX3_init_12 : decode cX3_init 12 = .ok (.aload_n 0, 1) := by decide +kernel
theorem dX3_init_13 : decode cX3_init 13 = .ok (.iconst (-1), 1) := by decide +kernel
theorem dX3_init_14 : decode cX3_init 14 = .ok (.putfield 15, 3) := by decide +kernel
theorem dX3_init_17 : decode cX3_init 17 = .ok (.return_, 1) := by decide +kernel
theorem dX3_isMissing_0 : decode cX3_isMissing 0 = .ok (.aload_n 0, 1) := by decide +kernel
theorem dX3_isMissing_1 : decode cX3_isMissing 1 = .ok (.getfield 15, 3) := by decide +kernel
theorem dX3_isMissing_4 : decode cX3_isMissing 4 = .ok (.iconst (-1), 1) := by decide +kernel
theorem dX3_isMissing_5 : decode cX3_isMissing 5 = .ok (.if_icmp .ne 7, 3) := by decide +kernel
theorem dX3_isMissing_8 : decode cX3_isMissing 8 = .ok (.iconst 1, 1) := by decide +kernel
theorem dX3_isMissing_9 : decode cX3_isMissing 9 = .ok (.goto 4, 3) := by decide +kernel
theorem dX3_isMissing_12 : decode cX3_isMissing 12 = .ok (.iconst 0, 1) := by decide +kernel
theorem dX3_isMissing_13 : decode cX3_isMissing 13 = .ok (.ireturn, 1) := by decide +kernel
theorem dX3_begin_0 : decode cX3_begin 0 = .ok (.aload_n 0, 1) := by decide +kernel
theorem dX3_begin_1 : decode cX3_begin 1 = .ok (.iload_n 1, 1) := by decide +kernel
theorem dX3_begin_2 : decode cX3_begin 2 = .ok (.putfield 19, 3) := by decide +kernel
theorem dX3_begin_5 : decode cX3_begin 5 = .ok (.aload_n 0, 1) := by decide +kernel
theorem dX3_begin_6 : decode cX3_begin 6 = .ok (.iload_n 2, 1) := by decide +kernel
theorem dX3_begin_7 : decode cX3_begin 7 = .ok (.putfield 15, 3) := by decide +kernel
theorem dX3_begin_10 : decode cX3_begin 10 = .ok (.aload_n 0, 1) := by decide +kernel
theorem dX3_begin_11 : decode cX3_begin 11 = .ok (.getfield 9, 3) := by decide +kernel
theorem dX3_begin_14 : decode cX3_begin 14 = .ok (.iconst 0, 1) := by decide +kernel
theorem dX3_begin_15 : decode cX3_begin 15 = .ok (.invokestatic 22, 3) := by decide +kernel
theorem dX3_begin_18 : decode cX3_begin 18 = .ok (.return_, 1) := by decide +kernel
theorem dX3_reaches_0 : decode cX3_reaches 0 = .ok (.iload_n 1, 1) := by decide +kernel
theorem dX3_reaches_1 : decode cX3_reaches 1 = .ok (.ifCond .lt 21, 3) := by decide +kernel
theorem dX3_reaches_4 : decode cX3_reaches 4 = .ok (.iload_n 2, 1) := by decide +kernel
theorem dX3_reaches_5 : decode cX3_reaches 5 = .ok (.ifCond .lt 17, 3) := by decide +kernel
theorem dX3_reaches_8 : decode cX3_reaches 8 = .ok (.iload_n 2, 1) := by decide +kernel
theorem dX3_reaches_9 : decode cX3_reaches 9 = .ok (.aload_n 0, 1) := by decide +kernel
theorem dX3_reaches_10 : decode cX3_reaches 10 = .ok (.getfield 15, 3) := by decide +kernel
theorem dX3_reaches_13 : decode cX3_reaches 13 = .ok (.iload_n 1, 1) := by decide +kernel
theorem dX3_reaches_14 : decode cX3_reaches 14 = .ok (.isub, 1) := by decide +kernel
theorem dX3_reaches_15 : decode cX3_reaches 15 = .ok (.if_icmp .gt 7, 3) := by decide +kernel
theorem dX3_reaches_18 : decode cX3_reaches 18 = .ok (.iconst 1, 1) := by decide +kernel
theorem dX3_reaches_19 : decode cX3_reaches 19 = .ok (.goto 4, 3) := by decide +kernel
theorem dX3_reaches_22 : decode cX3_reaches 22 = .ok (.iconst 0, 1) := by decide +kernel
theorem dX3_reaches_23 : decode cX3_reaches 23 = .ok (.ireturn, 1) := by decide +kernel
theorem dX3_put_0 : decode cX3_put 0 = .ok (.aload_n 0, 1) := by decide +kernel
theorem dX3_put_1 : decode cX3_put 1 = .ok (.getfield 19, 3) := by decide +kernel
theorem dX3_put_4 : decode cX3_put 4 = .ok (.ifCond .ne 14, 3) := by decide +kernel
theorem dX3_put_7 : decode cX3_put 7 = .ok (.aload_n 0, 1) := by decide +kernel
theorem dX3_put_8 : decode cX3_put 8 = .ok (.getfield 9, 3) := by decide +kernel
theorem dX3_put_11 : decode cX3_put 11 = .ok (.iload_n 1, 1) := by decide +kernel
theorem dX3_put_12 : decode cX3_put 12 = .ok (.iload_n 2, 1) := by decide +kernel
theorem dX3_put_13 : decode cX3_put 13 = .ok (.i2b, 1) := by decide +kernel
theorem dX3_put_14 : decode cX3_put 14 = .ok (.iastore, 1) := by decide +kernel
theorem dX3_put_15 : decode cX3_put 15 = .ok (.goto 29, 3) := by decide +kernel
theorem dX3_put_18 : decode cX3_put 18 = .ok (.aload_n 0, 1) := by decide +kernel
theorem dX3_put_19 : decode cX3_put 19 = .ok (.getfield 19, 3) := by decide +kernel
theorem dX3_put_22 : decode cX3_put 22 = .ok (.iconst 1, 1) := by decide +kernel
theorem dX3_put_23 : decode cX3_put 23 = .ok (.if_icmp .ne 14, 3) := by decide +kernel
theorem dX3_put_26 : decode cX3_put 26 = .ok (.aload_n 0, 1) := by decide +kernel
theorem dX3_put_27 : decode cX3_put 27 = .ok (.getfield 9, 3) := by decide +kernel
theorem dX3_put_30 : decode cX3_put 30 = .ok (.iload_n 1, 1) := by decide +kernel
theorem dX3_put_31 : decode cX3_put 31 = .ok (.iload_n 2, 1) := by decide +kernel
theorem dX3_put_32 : decode cX3_put 32 = .ok (.i2s, 1) := by decide +kernel
theorem dX3_put_33 : decode cX3_put 33 = .ok (.iastore, 1) := by decide +kernel
theorem dX3_put_34 : decode cX3_put 34 = .ok (.goto 10, 3) := by decide +kernel
theorem dX3_put_37 : decode cX3_put 37 = .ok (.aload_n 0, 1) := by decide +kernel
theorem dX3_put_38 : decode cX3_put 38 = .ok (.getfield 9, 3) := by decide +kernel
theorem dX3_put_41 : decode cX3_put 41 = .ok (.iload_n 1, 1) := by decide +kernel
theorem dX3_put_42 : decode cX3_put 42 = .ok (.iload_n 2, 1) := by decide +kernel
theorem dX3_put_43 : decode cX3_put 43 = .ok (.iastore, 1) := by decide +kernel
theorem dX3_put_44 : decode cX3_put 44 = .ok (.aload_n 0, 1) := by decide +kernel
theorem dX3_put_45 : decode cX3_put 45 = .ok (.getfield 9, 3) := by decide +kernel
theorem dX3_put_48 : decode cX3_put 48 = .ok (.iload_n 1, 1) := by decide +kernel
theorem dX3_put_49 : decode cX3_put 49 = .ok (.iaload, 1) := by decide +kernel
theorem dX3_put_50 : decode cX3_put 50 = .ok (.ireturn, 1) := by decide +kernel
theorem dX3_tellsFilm_0 : decode cX3_tellsFilm 0 = .ok (.iconst 0, 1) := by decide +kernel
theorem dX3_tellsFilm_1 : decode cX3_tellsFilm 1 = .ok (.istore_n 3, 1) := by decide +kernel
theorem dX3_tellsFilm_2 : decode cX3_tellsFilm 2 = .ok (.iload_n 3, 1) := by decide +kernel
theorem dX3_tellsFilm_3 : decode cX3_tellsFilm 3 = .ok (.bipush 15, 2) := by decide +kernel
theorem dX3_tellsFilm_5 : decode cX3_tellsFilm 5 = .ok (.if_icmp .ge 28, 3) := by decide +kernel
theorem dX3_tellsFilm_8 : decode cX3_tellsFilm 8 = .ok (.aload_n 0, 1) := by decide +kernel
theorem dX3_tellsFilm_9 : decode cX3_tellsFilm 9 = .ok (.getfield 9, 3) := by decide +kernel
theorem dX3_tellsFilm_12 : decode cX3_tellsFilm 12 = .ok (.iload_n 1, 1) := by decide +kernel
theorem dX3_tellsFilm_13 : decode cX3_tellsFilm 13 = .ok (.iload_n 3, 1) := by decide +kernel
theorem dX3_tellsFilm_14 : decode cX3_tellsFilm 14 = .ok (.iadd, 1) := by decide +kernel
theorem dX3_tellsFilm_15 : decode cX3_tellsFilm 15 = .ok (.iaload, 1) := by decide +kernel
theorem dX3_tellsFilm_16 : decode cX3_tellsFilm 16 = .ok (.aload_n 2, 1) := by decide +kernel
theorem dX3_tellsFilm_17 : decode cX3_tellsFilm 17 = .ok (.getfield 28, 3) := by decide +kernel
theorem dX3_tellsFilm_20 : decode cX3_tellsFilm 20 = .ok (.iload_n 3, 1) := by decide +kernel
theorem dX3_tellsFilm_21 : decode cX3_tellsFilm 21 = .ok (.iaload, 1) := by decide +kernel
theorem dX3_tellsFilm_22 : decode cX3_tellsFilm 22 = .ok (.if_icmp .eq 5, 3) := by decide +kernel
theorem dX3_tellsFilm_25 : decode cX3_tellsFilm 25 = .ok (.iconst 0, 1) := by decide +kernel
theorem dX3_tellsFilm_26 : decode cX3_tellsFilm 26 = .ok (.ireturn, 1) := by decide +kernel
theorem dX3_tellsFilm_27 : decode cX3_tellsFilm 27 = .ok (.iinc 3 1, 3) := by decide +kernel
theorem dX3_tellsFilm_30 : decode cX3_tellsFilm 30 = .ok (.goto (-28), 3) := by decide +kernel
theorem dX3_tellsFilm_33 : decode cX3_tellsFilm 33 = .ok (.iconst 1, 1) := by decide +kernel
theorem dX3_tellsFilm_34 : decode cX3_tellsFilm 34 = .ok (.ireturn, 1) := by decide +kernel
theorem dX4_init_0 : decode cX4_init 0 = .ok (.aload_n 0, 1) := by decide +kernel
theorem dX4_init_1 : decode cX4_init 1 = .ok (.iload_n 1, 1) := by decide +kernel
theorem dX4_init_2 : decode cX4_init 2 = .ok (.aload_n 2, 1) := by decide +kernel
theorem dX4_init_3 : decode cX4_init 3 = .ok (.invokespecial 1, 3) := by decide +kernel
theorem dX4_init_6 : decode cX4_init 6 = .ok (.return_, 1) := by decide +kernel
theorem dX4_kindNumber_0 : decode cX4_kindNumber 0 = .ok (.iconst 1, 1) := by decide +kernel
theorem dX4_kindNumber_1 : decode cX4_kindNumber 1 = .ok (.ireturn, 1) := by decide +kernel
theorem dX4_laid_0 : decode cX4_laid 0 = .ok (.iload_n 1, 1) := by decide +kernel
theorem dX4_laid_1 : decode cX4_laid 1 = .ok (.ireturn, 1) := by decide +kernel
theorem dX4_takeFirst_0 : decode cX4_takeFirst 0 = .ok (.return_, 1) := by decide +kernel
theorem dX4_touch_0 : decode cX4_touch 0 = .ok (.aload_n 0, 1) := by decide +kernel
theorem dX4_touch_1 : decode cX4_touch 1 = .ok (.aload_n 1, 1) := by decide +kernel
theorem dX4_touch_2 : decode cX4_touch 2 = .ok (.iload_n 2, 1) := by decide +kernel
theorem dX4_touch_3 : decode cX4_touch 3 = .ok (.invokevirtual 7, 3) := by decide +kernel
theorem dX4_touch_6 : decode cX4_touch 6 = .ok (.aload_n 1, 1) := by decide +kernel
theorem dX4_touch_7 : decode cX4_touch 7 = .ok (.iload_n 2, 1) := by decide +kernel
theorem dX4_touch_8 : decode cX4_touch 8 = .ok (.aload_n 0, 1) := by decide +kernel
theorem dX4_touch_9 : decode cX4_touch 9 = .ok (.aload_n 1, 1) := by decide +kernel
theorem dX4_touch_10 : decode cX4_touch 10 = .ok (.getfield 13, 3) := by decide +kernel
theorem dX4_touch_13 : decode cX4_touch 13 = .ok (.iconst 4, 1) := by decide +kernel
theorem dX4_touch_14 : decode cX4_touch 14 = .ok (.idiv, 1) := by decide +kernel
theorem dX4_touch_15 : decode cX4_touch 15 = .ok (.invokevirtual 19, 3) := by decide +kernel
theorem dX4_touch_18 : decode cX4_touch 18 = .ok (.invokevirtual 23, 3) := by decide +kernel
theorem dX4_touch_21 : decode cX4_touch 21 = .ok (.aload_n 1, 1) := by decide +kernel
theorem dX4_touch_22 : decode cX4_touch 22 = .ok (.iload_n 2, 1) := by decide +kernel
theorem dX4_touch_23 : decode cX4_touch 23 = .ok (.invokevirtual 27, 3) := by decide +kernel
theorem dX4_touch_26 : decode cX4_touch 26 = .ok (.aload_n 1, 1) := by decide +kernel
theorem dX4_touch_27 : decode cX4_touch 27 = .ok (.invokevirtual 31, 3) := by decide +kernel
theorem dX4_touch_30 : decode cX4_touch 30 = .ok (.return_, 1) := by decide +kernel
theorem dX4_size_0 : decode cX4_size 0 = .ok (.aload_n 2, 1) := by decide +kernel
theorem dX4_size_1 : decode cX4_size 1 = .ok (.bipush 11, 2) := by decide +kernel
theorem dX4_size_3 : decode cX4_size 3 = .ok (.invokevirtual 35, 3) := by decide +kernel
theorem dX4_size_6 : decode cX4_size 6 = .ok (.aload_n 0, 1) := by decide +kernel
theorem dX4_size_7 : decode cX4_size 7 = .ok (.iload_n 1, 1) := by decide +kernel
theorem dX4_size_8 : decode cX4_size 8 = .ok (.aload_n 2, 1) := by decide +kernel
theorem dX4_size_9 : decode cX4_size 9 = .ok (.invokespecial 40, 3) := by decide +kernel
theorem dX4_size_12 : decode cX4_size 12 = .ok (.istore_n 3, 1) := by decide +kernel
theorem dX4_size_13 : decode cX4_size 13 = .ok (.iload_n 3, 1) := by decide +kernel
theorem dX4_size_14 : decode cX4_size 14 = .ok (.aload_n 0, 1) := by decide +kernel
theorem dX4_size_15 : decode cX4_size 15 = .ok (.iload_n 1, 1) := by decide +kernel
theorem dX4_size_16 : decode cX4_size 16 = .ok (.aload_n 2, 1) := by decide +kernel
theorem dX4_size_17 : decode cX4_size 17 = .ok (.invokevirtual 44, 3) := by decide +kernel
theorem dX4_size_20 : decode cX4_size 20 = .ok (.iadd, 1) := by decide +kernel
theorem dX4_size_21 : decode cX4_size 21 = .ok (.ireturn, 1) := by decide +kernel
theorem dX4_mark_0 : decode cX4_mark 0 = .ok (.aload_n 2, 1) := by decide +kernel
theorem dX4_mark_1 : decode cX4_mark 1 = .ok (.bipush 21, 2) := by decide +kernel
theorem dX4_mark_3 : decode cX4_mark 3 = .ok (.invokevirtual 35, 3) := by decide +kernel
theorem dX4_mark_6 : decode cX4_mark 6 = .ok (.aload_n 0, 1) := by decide +kernel
theorem dX4_mark_7 : decode cX4_mark 7 = .ok (.iload_n 1, 1) := by decide +kernel
theorem dX4_mark_8 : decode cX4_mark 8 = .ok (.aload_n 2, 1) := by decide +kernel
theorem dX4_mark_9 : decode cX4_mark 9 = .ok (.invokespecial 47, 3) := by decide +kernel
theorem dX4_mark_12 : decode cX4_mark 12 = .ok (.iload_n 1, 1) := by decide +kernel
theorem dX4_mark_13 : decode cX4_mark 13 = .ok (.iadd, 1) := by decide +kernel
theorem dX4_mark_14 : decode cX4_mark 14 = .ok (.ireturn, 1) := by decide +kernel
theorem dX5_init_0 : decode cX5_init 0 = .ok (.aload_n 0, 1) := by decide +kernel
theorem dX5_init_1 : decode cX5_init 1 = .ok (.iload_n 1, 1) := by decide +kernel
theorem dX5_init_2 : decode cX5_init 2 = .ok (.aload_n 2, 1) := by decide +kernel
theorem dX5_init_3 : decode cX5_init 3 = .ok (.invokespecial 1, 3) := by decide +kernel
theorem dX5_init_6 : decode cX5_init 6 = .ok (.return_, 1) := by decide +kernel
theorem dX5_kindNumber_0 : decode cX5_kindNumber 0 = .ok (.iconst 2, 1) := by decide +kernel
theorem dX5_kindNumber_1 : decode cX5_kindNumber 1 = .ok (.ireturn, 1) := by decide +kernel
theorem dX5_laid_0 : decode cX5_laid 0 = .ok (.iload_n 1, 1) := by decide +kernel
theorem dX5_laid_1 : decode cX5_laid 1 = .ok (.iconst 2, 1) := by decide +kernel
theorem dX5_laid_2 : decode cX5_laid 2 = .ok (.imul, 1) := by decide +kernel
theorem dX5_laid_3 : decode cX5_laid 3 = .ok (.ireturn, 1) := by decide +kernel
theorem dX5_takeFirst_0 : decode cX5_takeFirst 0 = .ok (.aload_n 1, 1) := by decide +kernel
theorem dX5_takeFirst_1 : decode cX5_takeFirst 1 = .ok (.iload_n 2, 1) := by decide +kernel
theorem dX5_takeFirst_2 : decode cX5_takeFirst 2 = .ok (.aload_n 1, 1) := by decide +kernel
theorem dX5_takeFirst_3 : decode cX5_takeFirst 3 = .ok (.getfield 7, 3) := by decide +kernel
theorem dX5_takeFirst_6 : decode cX5_takeFirst 6 = .ok (.iload_n 2, 1) := by decide +kernel
theorem dX5_takeFirst_7 : decode cX5_takeFirst 7 = .ok (.iaload, 1) := by decide +kernel
theorem dX5_takeFirst_8 : decode cX5_takeFirst 8 = .ok (.iconst 2, 1) := by decide +kernel
theorem dX5_takeFirst_9 : decode cX5_takeFirst 9 = .ok (.idiv, 1) := by decide +kernel
theorem dX5_takeFirst_10 : decode cX5_takeFirst 10 = .ok (.invokevirtual 13, 3) := by decide +kernel
theorem dX5_takeFirst_13 : decode cX5_takeFirst 13 = .ok (.return_, 1) := by decide +kernel
theorem dX5_size_0 : decode cX5_size 0 = .ok (.aload_n 2, 1) := by decide +kernel
theorem dX5_size_1 : decode cX5_size 1 = .ok (.bipush 12, 2) := by decide +kernel
theorem dX5_size_3 : decode cX5_size 3 = .ok (.invokevirtual 17, 3) := by decide +kernel
theorem dX5_size_6 : decode cX5_size 6 = .ok (.aload_n 0, 1) := by decide +kernel
theorem dX5_size_7 : decode cX5_size 7 = .ok (.iload_n 1, 1) := by decide +kernel
theorem dX5_size_8 : decode cX5_size 8 = .ok (.aload_n 2, 1) := by decide +kernel
theorem dX5_size_9 : decode cX5_size 9 = .ok (.invokespecial 23, 3) := by decide +kernel
theorem dX5_size_12 : decode cX5_size 12 = .ok (.ineg, 1) := by decide +kernel
theorem dX5_size_13 : decode cX5_size 13 = .ok (.ireturn, 1) := by decide +kernel
theorem dX5_mark_0 : decode cX5_mark 0 = .ok (.aload_n 2, 1) := by decide +kernel
theorem dX5_mark_1 : decode cX5_mark 1 = .ok (.bipush 24, 2) := by decide +kernel
theorem dX5_mark_3 : decode cX5_mark 3 = .ok (.invokevirtual 17, 3) := by decide +kernel
theorem dX5_mark_6 : decode cX5_mark 6 = .ok (.aload_n 0, 1) := by decide +kernel
theorem dX5_mark_7 : decode cX5_mark 7 = .ok (.iload_n 1, 1) := by decide +kernel
theorem dX5_mark_8 : decode cX5_mark 8 = .ok (.aload_n 2, 1) := by decide +kernel
theorem dX5_mark_9 : decode cX5_mark 9 = .ok (.invokespecial 27, 3) := by decide +kernel
theorem dX5_mark_12 : decode cX5_mark 12 = .ok (.iconst 2, 1) := by decide +kernel
theorem dX5_mark_13 : decode cX5_mark 13 = .ok (.imul, 1) := by decide +kernel
theorem dX5_mark_14 : decode cX5_mark 14 = .ok (.ireturn, 1) := by decide +kernel
theorem dX6_init_0 : decode cX6_init 0 = .ok (.aload_n 0, 1) := by decide +kernel
theorem dX6_init_1 : decode cX6_init 1 = .ok (.iload_n 1, 1) := by decide +kernel
theorem dX6_init_2 : decode cX6_init 2 = .ok (.aload_n 2, 1) := by decide +kernel
theorem dX6_init_3 : decode cX6_init 3 = .ok (.invokespecial 1, 3) := by decide +kernel
theorem dX6_init_6 : decode cX6_init 6 = .ok (.return_, 1) := by decide +kernel
theorem dX6_kindNumber_0 : decode cX6_kindNumber 0 = .ok (.iconst 5, 1) := by decide +kernel
theorem dX6_kindNumber_1 : decode cX6_kindNumber 1 = .ok (.ireturn, 1) := by decide +kernel
theorem dX6_clearedHaze_0 : decode cX6_clearedHaze 0 = .ok (.bipush 8, 2) := by decide +kernel
theorem dX6_clearedHaze_2 : decode cX6_clearedHaze 2 = .ok (.ireturn, 1) := by decide +kernel
theorem dX6_size_0 : decode cX6_size 0 = .ok (.aload_n 2, 1) := by decide +kernel
theorem dX6_size_1 : decode cX6_size 1 = .ok (.bipush 14, 2) := by decide +kernel
theorem dX6_size_3 : decode cX6_size 3 = .ok (.invokevirtual 7, 3) := by decide +kernel
theorem dX6_size_6 : decode cX6_size 6 = .ok (.aload_n 0, 1) := by decide +kernel
theorem dX6_size_7 : decode cX6_size 7 = .ok (.iload_n 1, 1) := by decide +kernel
theorem dX6_size_8 : decode cX6_size 8 = .ok (.aload_n 2, 1) := by decide +kernel
theorem dX6_size_9 : decode cX6_size 9 = .ok (.invokespecial 13, 3) := by decide +kernel
theorem dX6_size_12 : decode cX6_size 12 = .ok (.iconst 2, 1) := by decide +kernel
theorem dX6_size_13 : decode cX6_size 13 = .ok (.imul, 1) := by decide +kernel
theorem dX6_size_14 : decode cX6_size 14 = .ok (.ireturn, 1) := by decide +kernel
theorem dX7_init_0 : decode cX7_init 0 = .ok (.aload_n 0, 1) := by decide +kernel
theorem dX7_init_1 : decode cX7_init 1 = .ok (.invokespecial 3, 3) := by decide +kernel
theorem dX7_init_4 : decode cX7_init 4 = .ok (.aload_n 0, 1) := by decide +kernel
theorem dX7_init_5 : decode cX7_init 5 = .ok (.bipush 15, 2) := by decide +kernel
theorem dX7_init_7 : decode cX7_init 7 = .ok (.newarray .int, 2) := by decide +kernel
theorem dX7_init_9 : decode cX7_init 9 = .ok (.putfield 9, 3) := by decide +kernel
theorem dX7_init_12 : decode cX7_init 12 = .ok (.aload_n 0, 1) := by decide +kernel
theorem dX7_init_13 : decode cX7_init 13 = .ok (.bipush 15, 2) := by decide +kernel
theorem dX7_init_15 : decode cX7_init 15 = .ok (.newarray .int, 2) := by decide +kernel
theorem dX7_init_17 : decode cX7_init 17 = .ok (.putfield 15, 3) := by decide +kernel
theorem dX7_init_20 : decode cX7_init 20 = .ok (.aload_n 0, 1) := by decide +kernel
theorem dX7_init_21 : decode cX7_init 21 = .ok (.bipush 15, 2) := by decide +kernel
theorem dX7_init_23 : decode cX7_init 23 = .ok (.newarray .int, 2) := by decide +kernel
theorem dX7_init_25 : decode cX7_init 25 = .ok (.putfield 18, 3) := by decide +kernel
theorem dX7_init_28 : decode cX7_init 28 = .ok (.return_, 1) := by decide +kernel
theorem dX7_become_0 : decode cX7_become 0 = .ok (.aload_n 1, 1) := by decide +kernel
theorem dX7_become_1 : decode cX7_become 1 = .ok (.getfield 9, 3) := by decide +kernel
theorem dX7_become_4 : decode cX7_become 4 = .ok (.iconst 0, 1) := by decide +kernel
theorem dX7_become_5 : decode cX7_become 5 = .ok (.aload_n 0, 1) := by decide +kernel
theorem dX7_become_6 : decode cX7_become 6 = .ok (.getfield 9, 3) := by decide +kernel
theorem dX7_become_9 : decode cX7_become 9 = .ok (.iconst 0, 1) := by decide +kernel
theorem dX7_become_10 : decode cX7_become 10 = .ok (.bipush 15, 2) := by decide +kernel
theorem dX7_become_12 : decode cX7_become 12 = .ok (.invokestatic 21, 3) := by decide +kernel
theorem dX7_become_15 : decode cX7_become 15 = .ok (.aload_n 1, 1) := by decide +kernel
theorem dX7_become_16 : decode cX7_become 16 = .ok (.getfield 15, 3) := by decide +kernel
theorem dX7_become_19 : decode cX7_become 19 = .ok (.iconst 0, 1) := by decide +kernel
theorem dX7_become_20 : decode cX7_become 20 = .ok (.aload_n 0, 1) := by decide +kernel
theorem dX7_become_21 : decode cX7_become 21 = .ok (.getfield 15, 3) := by decide +kernel
theorem dX7_become_24 : decode cX7_become 24 = .ok (.iconst 0, 1) := by decide +kernel
theorem dX7_become_25 : decode cX7_become 25 = .ok (.bipush 15, 2) := by decide +kernel
theorem dX7_become_27 : decode cX7_become 27 = .ok (.invokestatic 21, 3) := by decide +kernel
theorem dX7_become_30 : decode cX7_become 30 = .ok (.aload_n 1, 1) := by decide +kernel
theorem dX7_become_31 : decode cX7_become 31 = .ok (.getfield 18, 3) := by decide +kernel
theorem dX7_become_34 : decode cX7_become 34 = .ok (.iconst 0, 1) := by decide +kernel
theorem dX7_become_35 : decode cX7_become 35 = .ok (.aload_n 0, 1) := by decide +kernel
theorem dX7_become_36 : decode cX7_become 36 = .ok (.getfield 18, 3) := by decide +kernel
theorem dX7_become_39 : decode cX7_become 39 = .ok (.iconst 0, 1) := by decide +kernel
theorem dX7_become_40 : decode cX7_become 40 = .ok (.bipush 15, 2) := by decide +kernel
theorem dX7_become_42 : decode cX7_become 42 = .ok (.invokestatic 21, 3) := by decide +kernel
theorem dX7_become_45 : decode cX7_become 45 = .ok (.aload_n 0, 1) := by decide +kernel
theorem dX7_become_46 : decode cX7_become 46 = .ok (.aload_n 1, 1) := by decide +kernel
theorem dX7_become_47 : decode cX7_become 47 = .ok (.getfield 27, 3) := by decide +kernel
theorem dX7_become_50 : decode cX7_become 50 = .ok (.putfield 27, 3) := by decide +kernel
theorem dX7_become_53 : decode cX7_become 53 = .ok (.aload_n 0, 1) := by decide +kernel
theorem dX7_become_54 : decode cX7_become 54 = .ok (.aload_n 1, 1) := by decide +kernel
theorem dX7_become_55 : decode cX7_become 55 = .ok (.getfield 31, 3) := by decide +kernel
theorem dX7_become_58 : decode cX7_become 58 = .ok (.putfield 31, 3) := by decide +kernel
theorem dX7_become_61 : decode cX7_become 61 = .ok (.aload_n 0, 1) := by decide +kernel
theorem dX7_become_62 : decode cX7_become 62 = .ok (.aload_n 1, 1) := by decide +kernel
theorem dX7_become_63 : decode cX7_become 63 = .ok (.getfield 34, 3) := by decide +kernel
theorem dX7_become_66 : decode cX7_become 66 = .ok (.putfield 34, 3) := by decide +kernel
theorem dX7_become_69 : decode cX7_become 69 = .ok (.return_, 1) := by decide +kernel
theorem dX7_wipe_0 : decode cX7_wipe 0 = .ok (.aload_n 0, 1) := by decide +kernel
theorem dX7_wipe_1 : decode cX7_wipe 1 = .ok (.getfield 9, 3) := by decide +kernel
theorem dX7_wipe_4 : decode cX7_wipe 4 = .ok (.iconst 0, 1) := by decide +kernel
theorem dX7_wipe_5 : decode cX7_wipe 5 = .ok (.invokestatic 37, 3) := by decide +kernel
theorem dX7_wipe_8 : decode cX7_wipe 8 = .ok (.aload_n 0, 1) := by decide +kernel
theorem dX7_wipe_9 : decode cX7_wipe 9 = .ok (.getfield 15, 3) := by decide +kernel
theorem dX7_wipe_12 : decode cX7_wipe 12 = .ok (.iconst 0, 1) := by decide +kernel
theorem dX7_wipe_13 : decode cX7_wipe 13 = .ok (.invokestatic 37, 3) := by decide +kernel
theorem dX7_wipe_16 : decode cX7_wipe 16 = .ok (.aload_n 0, 1) := by decide +kernel
theorem dX7_wipe_17 : decode cX7_wipe 17 = .ok (.getfield 18, 3) := by decide +kernel
theorem dX7_wipe_20 : decode cX7_wipe 20 = .ok (.iconst 0, 1) := by decide +kernel
theorem dX7_wipe_21 : decode cX7_wipe 21 = .ok (.invokestatic 37, 3) := by decide +kernel
theorem dX7_wipe_24 : decode cX7_wipe 24 = .ok (.aload_n 0, 1) := by decide +kernel
theorem dX7_wipe_25 : decode cX7_wipe 25 = .ok (.iconst 0, 1) := by decide +kernel
theorem dX7_wipe_26 : decode cX7_wipe 26 = .ok (.putfield 27, 3) := by decide +kernel
theorem dX7_wipe_29 : decode cX7_wipe 29 = .ok (.aload_n 0, 1) := by decide +kernel
theorem dX7_wipe_30 : decode cX7_wipe 30 = .ok (.iconst 0, 1) := by decide +kernel
theorem dX7_wipe_31 : decode cX7_wipe 31 = .ok (.putfield 31, 3) := by decide +kernel
theorem dX7_wipe_34 : decode cX7_wipe 34 = .ok (.aload_n 0, 1) := by decide +kernel
theorem dX7_wipe_35 : decode cX7_wipe 35 = .ok (.iconst 0, 1) := by decide +kernel
theorem dX7_wipe_36 : decode cX7_wipe 36 = .ok (.putfield 34, 3) := by decide +kernel
theorem dX7_wipe_39 : decode cX7_wipe 39 = .ok (.return_, 1) := by decide +kernel
theorem dX7_soakPad_0 : decode cX7_soakPad 0 = .ok (.iload_n 1, 1) := by decide +kernel
theorem dX7_soakPad_1 : decode cX7_soakPad 1 = .ok (.bipush 99, 2) := by decide +kernel
theorem dX7_soakPad_3 : decode cX7_soakPad 3 = .ok (.aload_n 0, 1) := by decide +kernel
theorem dX7_soakPad_4 : decode cX7_soakPad 4 = .ok (.getfield 27, 3) := by decide +kernel
theorem dX7_soakPad_7 : decode cX7_soakPad 7 = .ok (.isub, 1) := by decide +kernel
theorem dX7_soakPad_8 : decode cX7_soakPad 8 = .ok (.invokestatic 43, 3) := by decide +kernel
theorem dX7_soakPad_11 : decode cX7_soakPad 11 = .ok (.istore_n 3, 1) := by decide +kernel
theorem dX7_soakPad_12 : decode cX7_soakPad 12 = .ok (.aload_n 0, 1) := by decide +kernel
theorem dX7_soakPad_13 : decode cX7_soakPad 13 = .ok (.dup, 1) := by decide +kernel
theorem dX7_soakPad_14 : decode cX7_soakPad 14 = .ok (.getfield 27, 3) := by decide +kernel
theorem dX7_soakPad_17 : decode cX7_soakPad 17 = .ok (.iload_n 3, 1) := by decide +kernel
theorem dX7_soakPad_18 : decode cX7_soakPad 18 = .ok (.iadd, 1) := by decide +kernel
theorem dX7_soakPad_19 : decode cX7_soakPad 19 = .ok (.putfield 27, 3) := by decide +kernel
theorem dX7_soakPad_22 : decode cX7_soakPad 22 = .ok (.aload_n 0, 1) := by decide +kernel
theorem dX7_soakPad_23 : decode cX7_soakPad 23 = .ok (.dup, 1) := by decide +kernel
theorem dX7_soakPad_24 : decode cX7_soakPad 24 = .ok (.getfield 34, 3) := by decide +kernel
theorem dX7_soakPad_27 : decode cX7_soakPad 27 = .ok (.iload_n 3, 1) := by decide +kernel
theorem dX7_soakPad_28 : decode cX7_soakPad 28 = .ok (.iadd, 1) := by decide +kernel
theorem dX7_soakPad_29 : decode cX7_soakPad 29 = .ok (.putfield 34, 3) := by decide +kernel
theorem dX7_soakPad_32 : decode cX7_soakPad 32 = .ok (.aload_n 0, 1) := by decide +kernel
theorem dX7_soakPad_33 : decode cX7_soakPad 33 = .ok (.aload_n 0, 1) := by decide +kernel
theorem dX7_soakPad_34 : decode cX7_soakPad 34 = .ok (.getfield 31, 3) := by decide +kernel
theorem dX7_soakPad_37 : decode cX7_soakPad 37 = .ok (.iload_n 2, 1) := by decide +kernel
theorem dX7_soakPad_38 : decode cX7_soakPad 38 = .ok (.iadd, 1) := by decide +kernel
theorem dX7_soakPad_39 : decode cX7_soakPad 39 = .ok (.bipush 99, 2) := by decide +kernel
theorem dX7_soakPad_41 : decode cX7_soakPad 41 = .ok (.invokestatic 43, 3) := by decide +kernel
theorem dX7_soakPad_44 : decode cX7_soakPad 44 = .ok (.putfield 31, 3) := by decide +kernel
theorem dX7_soakPad_47 : decode cX7_soakPad 47 = .ok (.return_, 1) := by decide +kernel
theorem dX7_dryPad_0 : decode cX7_dryPad 0 = .ok (.aload_n 0, 1) := by decide +kernel
theorem dX7_dryPad_1 : decode cX7_dryPad 1 = .ok (.aload_n 0, 1) := by decide +kernel
theorem dX7_dryPad_2 : decode cX7_dryPad 2 = .ok (.getfield 27, 3) := by decide +kernel
theorem dX7_dryPad_5 : decode cX7_dryPad 5 = .ok (.iconst 1, 1) := by decide +kernel
theorem dX7_dryPad_6 : decode cX7_dryPad 6 = .ok (.isub, 1) := by decide +kernel
theorem dX7_dryPad_7 : decode cX7_dryPad 7 = .ok (.iconst 0, 1) := by decide +kernel
theorem dX7_dryPad_8 : decode cX7_dryPad 8 = .ok (.invokestatic 49, 3) := by decide +kernel
theorem dX7_dryPad_11 : decode cX7_dryPad 11 = .ok (.putfield 27, 3) := by decide +kernel
theorem dX7_dryPad_14 : decode cX7_dryPad 14 = .ok (.return_, 1) := by decide +kernel
theorem dX7_layFilm_0 : decode cX7_layFilm 0 = .ok (.iload_n 2, 1) := by decide +kernel
theorem dX7_layFilm_1 : decode cX7_layFilm 1 = .ok (.sipush 999, 3) := by decide +kernel
theorem dX7_layFilm_4 : decode cX7_layFilm 4 = .ok (.aload_n 0, 1) := by decide +kernel
theorem dX7_layFilm_5 : decode cX7_layFilm 5 = .ok (.getfield 9, 3) := by decide +kernel
theorem dX7_layFilm_8 : decode cX7_layFilm 8 = .ok (.iload_n 1, 1) := by decide +kernel
theorem dX7_layFilm_9 : decode cX7_layFilm 9 = .ok (.iaload, 1) := by decide +kernel
theorem dX7_layFilm_10 : decode cX7_layFilm 10 = .ok (.isub, 1) := by decide +kernel
theorem dX7_layFilm_11 : decode cX7_layFilm 11 = .ok (.invokestatic 43, 3) := by decide +kernel
theorem dX7_layFilm_14 : decode cX7_layFilm 14 = .ok (.istore_n 3, 1) := by decide +kernel
theorem dX7_layFilm_15 : decode cX7_layFilm 15 = .ok (.aload_n 0, 1) := by decide +kernel
theorem dX7_layFilm_16 : decode cX7_layFilm 16 = .ok (.getfield 9, 3) := by decide +kernel
theorem dX7_layFilm_19 : decode cX7_layFilm 19 = .ok (.iload_n 1, 1) := by decide +kernel
theorem dX7_layFilm_20 : decode cX7_layFilm 20 = .ok (.dup2, 1) := by decide +kernel
theorem dX7_layFilm_21 : decode cX7_layFilm 21 = .ok (.iaload, 1) := by decide +kernel
theorem dX7_layFilm_22 : decode cX7_layFilm 22 = .ok (.iload_n 3, 1) := by decide +kernel
theorem dX7_layFilm_23 : decode cX7_layFilm 23 = .ok (.iadd, 1) := by decide +kernel
theorem dX7_layFilm_24 : decode cX7_layFilm 24 = .ok (.iastore, 1) := by decide +kernel
theorem dX7_layFilm_25 : decode cX7_layFilm 25 = .ok (.aload_n 0, 1) := by decide +kernel
theorem dX7_layFilm_26 : decode cX7_layFilm 26 = .ok (.getfield 15, 3) := by decide +kernel
theorem dX7_layFilm_29 : decode cX7_layFilm 29 = .ok (.iload_n 1, 1) := by decide +kernel
theorem dX7_layFilm_30 : decode cX7_layFilm 30 = .ok (.dup2, 1) := by decide +kernel
theorem dX7_layFilm_31 : decode cX7_layFilm 31 = .ok (.iaload, 1) := by decide +kernel
theorem dX7_layFilm_32 : decode cX7_layFilm 32 = .ok (.iload_n 3, 1) := by decide +kernel
theorem dX7_layFilm_33 : decode cX7_layFilm 33 = .ok (.iadd, 1) := by decide +kernel
theorem dX7_layFilm_34 : decode cX7_layFilm 34 = .ok (.iastore, 1) := by decide +kernel
theorem dX7_layFilm_35 : decode cX7_layFilm 35 = .ok (.return_, 1) := by decide +kernel
theorem dX7_layHaze_0 : decode cX7_layHaze 0 = .ok (.aload_n 0, 1) := by decide +kernel
theorem dX7_layHaze_1 : decode cX7_layHaze 1 = .ok (.getfield 18, 3) := by decide +kernel
theorem dX7_layHaze_4 : decode cX7_layHaze 4 = .ok (.iload_n 1, 1) := by decide +kernel
theorem dX7_layHaze_5 : decode cX7_layHaze 5 = .ok (.aload_n 0, 1) := by decide +kernel
theorem dX7_layHaze_6 : decode cX7_layHaze 6 = .ok (.getfield 18, 3) := by decide +kernel
theorem dX7_layHaze_9 : decode cX7_layHaze 9 = .ok (.iload_n 1, 1) := by decide +kernel
theorem dX7_layHaze_10 : decode cX7_layHaze 10 = .ok (.iaload, 1) := by decide +kernel
theorem dX7_layHaze_11 : decode cX7_layHaze 11 = .ok (.aload_n 0, 1) := by decide +kernel
theorem dX7_layHaze_12 : decode cX7_layHaze 12 = .ok (.getfield 31, 3) := by decide +kernel
theorem dX7_layHaze_15 : decode cX7_layHaze 15 = .ok (.iconst 4, 1) := by decide +kernel
theorem dX7_layHaze_16 : decode cX7_layHaze 16 = .ok (.idiv, 1) := by decide +kernel
theorem dX7_layHaze_17 : decode cX7_layHaze 17 = .ok (.iadd, 1) := by decide +kernel
theorem dX7_layHaze_18 : decode cX7_layHaze 18 = .ok (.bipush 99, 2) := by decide +kernel
theorem dX7_layHaze_20 : decode cX7_layHaze 20 = .ok (.invokestatic 43, 3) := by decide +kernel
theorem dX7_layHaze_23 : decode cX7_layHaze 23 = .ok (.iastore, 1) := by decide +kernel
theorem dX7_layHaze_24 : decode cX7_layHaze 24 = .ok (.return_, 1) := by decide +kernel
theorem dX7_takeHaze_0 : decode cX7_takeHaze 0 = .ok (.aload_n 0, 1) := by decide +kernel
theorem dX7_takeHaze_1 : decode cX7_takeHaze 1 = .ok (.getfield 18, 3) := by decide +kernel
theorem dX7_takeHaze_4 : decode cX7_takeHaze 4 = .ok (.iload_n 1, 1) := by decide +kernel
theorem dX7_takeHaze_5 : decode cX7_takeHaze 5 = .ok (.aload_n 0, 1) := by decide +kernel
theorem dX7_takeHaze_6 : decode cX7_takeHaze 6 = .ok (.getfield 18, 3) := by decide +kernel
theorem dX7_takeHaze_9 : decode cX7_takeHaze 9 = .ok (.iload_n 1, 1) := by decide +kernel
theorem dX7_takeHaze_10 : decode cX7_takeHaze 10 = .ok (.iaload, 1) := by decide +kernel
theorem dX7_takeHaze_11 : decode cX7_takeHaze 11 = .ok (.iload_n 2, 1) := by decide +kernel
theorem dX7_takeHaze_12 : decode cX7_takeHaze 12 = .ok (.isub, 1) := by decide +kernel
theorem dX7_takeHaze_13 : decode cX7_takeHaze 13 = .ok (.iconst 0, 1) := by decide +kernel
theorem dX7_takeHaze_14 : decode cX7_takeHaze 14 = .ok (.invokestatic 49, 3) := by decide +kernel
theorem dX7_takeHaze_17 : decode cX7_takeHaze 17 = .ok (.iastore, 1) := by decide +kernel
theorem dX7_takeHaze_18 : decode cX7_takeHaze 18 = .ok (.return_, 1) := by decide +kernel
theorem dX7_takeSoft_0 : decode cX7_takeSoft 0 = .ok (.aload_n 0, 1) := by decide +kernel
theorem dX7_takeSoft_1 : decode cX7_takeSoft 1 = .ok (.getfield 9, 3) := by decide +kernel
theorem dX7_takeSoft_4 : decode cX7_takeSoft 4 = .ok (.iload_n 1, 1) := by decide +kernel
theorem dX7_takeSoft_5 : decode cX7_takeSoft 5 = .ok (.dup2, 1) := by decide +kernel
theorem dX7_takeSoft_6 : decode cX7_takeSoft 6 = .ok (.iaload, 1) := by decide +kernel
theorem dX7_takeSoft_7 : decode cX7_takeSoft 7 = .ok (.iload_n 2, 1) := by decide +kernel
theorem dX7_takeSoft_8 : decode cX7_takeSoft 8 = .ok (.isub, 1) := by decide +kernel
theorem dX7_takeSoft_9 : decode cX7_takeSoft 9 = .ok (.iastore, 1) := by decide +kernel
theorem dX7_takeSoft_10 : decode cX7_takeSoft 10 = .ok (.aload_n 0, 1) := by decide +kernel
theorem dX7_takeSoft_11 : decode cX7_takeSoft 11 = .ok (.getfield 15, 3) := by decide +kernel
theorem dX7_takeSoft_14 : decode cX7_takeSoft 14 = .ok (.iload_n 1, 1) := by decide +kernel
theorem dX7_takeSoft_15 : decode cX7_takeSoft 15 = .ok (.dup2, 1) := by decide +kernel
theorem dX7_takeSoft_16 : decode cX7_takeSoft 16 = .ok (.iaload, 1) := by decide +kernel
theorem dX7_takeSoft_17 : decode cX7_takeSoft 17 = .ok (.iload_n 2, 1) := by decide +kernel
theorem dX7_takeSoft_18 : decode cX7_takeSoft 18 = .ok (.isub, 1) := by decide +kernel
theorem dX7_takeSoft_19 : decode cX7_takeSoft 19 = .ok (.iastore, 1) := by decide +kernel
theorem dX7_takeSoft_20 : decode cX7_takeSoft 20 = .ok (.return_, 1) := by decide +kernel
theorem dX7_scratch_0 : decode cX7_scratch 0 = .ok (.aload_n 0, 1) := by decide +kernel
theorem dX7_scratch_1 : decode cX7_scratch 1 = .ok (.getfield 9, 3) := by decide +kernel
theorem dX7_scratch_4 : decode cX7_scratch 4 = .ok (.iload_n 1, 1) := by decide +kernel
theorem dX7_scratch_5 : decode cX7_scratch 5 = .ok (.aload_n 0, 1) := by decide +kernel
theorem dX7_scratch_6 : decode cX7_scratch 6 = .ok (.getfield 9, 3) := by decide +kernel
theorem dX7_scratch_9 : decode cX7_scratch 9 = .ok (.iload_n 1, 1) := by decide +kernel
theorem dX7_scratch_10 : decode cX7_scratch 10 = .ok (.iaload, 1) := by decide +kernel
theorem dX7_scratch_11 : decode cX7_scratch 11 = .ok (.iconst 2, 1) := by decide +kernel
theorem dX7_scratch_12 : decode cX7_scratch 12 = .ok (.isub, 1) := by decide +kernel
theorem dX7_scratch_13 : decode cX7_scratch 13 = .ok (.iconst 0, 1) := by decide +kernel
theorem dX7_scratch_14 : decode cX7_scratch 14 = .ok (.invokestatic 49, 3) := by decide +kernel
theorem dX7_scratch_17 : decode cX7_scratch 17 = .ok (.iastore, 1) := by decide +kernel
theorem dX7_scratch_18 : decode cX7_scratch 18 = .ok (.aload_n 0, 1) := by decide +kernel
theorem dX7_scratch_19 : decode cX7_scratch 19 = .ok (.getfield 15, 3) := by decide +kernel
theorem dX7_scratch_22 : decode cX7_scratch 22 = .ok (.iload_n 1, 1) := by decide +kernel
theorem dX7_scratch_23 : decode cX7_scratch 23 = .ok (.aload_n 0, 1) := by decide +kernel
theorem dX7_scratch_24 : decode cX7_scratch 24 = .ok (.getfield 15, 3) := by decide +kernel
theorem dX7_scratch_27 : decode cX7_scratch 27 = .ok (.iload_n 1, 1) := by decide +kernel
theorem dX7_scratch_28 : decode cX7_scratch 28 = .ok (.iaload, 1) := by decide +kernel
theorem dX7_scratch_29 : decode cX7_scratch 29 = .ok (.aload_n 0, 1) := by decide +kernel
theorem dX7_scratch_30 : decode cX7_scratch 30 = .ok (.getfield 9, 3) := by decide +kernel
theorem dX7_scratch_33 : decode cX7_scratch 33 = .ok (.iload_n 1, 1) := by decide +kernel
theorem dX7_scratch_34 : decode cX7_scratch 34 = .ok (.iaload, 1) := by decide +kernel
theorem dX7_scratch_35 : decode cX7_scratch 35 = .ok (.invokestatic 43, 3) := by decide +kernel
theorem dX7_scratch_38 : decode cX7_scratch 38 = .ok (.iastore, 1) := by decide +kernel
theorem dX7_scratch_39 : decode cX7_scratch 39 = .ok (.return_, 1) := by decide +kernel
theorem dX7_tearAt_0 : decode cX7_tearAt 0 = .ok (.aload_n 0, 1) := by decide +kernel
theorem dX7_tearAt_1 : decode cX7_tearAt 1 = .ok (.getfield 9, 3) := by decide +kernel
theorem dX7_tearAt_4 : decode cX7_tearAt 4 = .ok (.iload_n 1, 1) := by decide +kernel
theorem dX7_tearAt_5 : decode cX7_tearAt 5 = .ok (.aload_n 0, 1) := by decide +kernel
theorem dX7_tearAt_6 : decode cX7_tearAt 6 = .ok (.getfield 9, 3) := by decide +kernel
theorem dX7_tearAt_9 : decode cX7_tearAt 9 = .ok (.iload_n 1, 1) := by decide +kernel
theorem dX7_tearAt_10 : decode cX7_tearAt 10 = .ok (.iaload, 1) := by decide +kernel
theorem dX7_tearAt_11 : decode cX7_tearAt 11 = .ok (.bipush 10, 2) := by decide +kernel
theorem dX7_tearAt_13 : decode cX7_tearAt 13 = .ok (.isub, 1) := by decide +kernel
theorem dX7_tearAt_14 : decode cX7_tearAt 14 = .ok (.iconst 0, 1) := by decide +kernel
theorem dX7_tearAt_15 : decode cX7_tearAt 15 = .ok (.invokestatic 49, 3) := by decide +kernel
theorem dX7_tearAt_18 : decode cX7_tearAt 18 = .ok (.iastore, 1) := by decide +kernel
theorem dX7_tearAt_19 : decode cX7_tearAt 19 = .ok (.aload_n 0, 1) := by decide +kernel
theorem dX7_tearAt_20 : decode cX7_tearAt 20 = .ok (.getfield 15, 3) := by decide +kernel
theorem dX7_tearAt_23 : decode cX7_tearAt 23 = .ok (.iload_n 1, 1) := by decide +kernel
theorem dX7_tearAt_24 : decode cX7_tearAt 24 = .ok (.iconst 0, 1) := by decide +kernel
theorem dX7_tearAt_25 : decode cX7_tearAt 25 = .ok (.iastore, 1) := by decide +kernel
theorem dX7_tearAt_26 : decode cX7_tearAt 26 = .ok (.return_, 1) := by decide +kernel
theorem dX7_sinkBy_0 : decode cX7_sinkBy 0 = .ok (.iconst 0, 1) := by decide +kernel
theorem dX7_sinkBy_1 : decode cX7_sinkBy 1 = .ok (.istore_n 2, 1) := by decide +kernel
theorem dX7_sinkBy_2 : decode cX7_sinkBy 2 = .ok (.iload_n 2, 1) := by decide +kernel
theorem dX7_sinkBy_3 : decode cX7_sinkBy 3 = .ok (.bipush 15, 2) := by decide +kernel
theorem dX7_sinkBy_5 : decode cX7_sinkBy 5 = .ok (.if_icmp .ge 40, 3) := by decide +kernel
theorem dX7_sinkBy_8 : decode cX7_sinkBy 8 = .ok (.aload_n 0, 1) := by decide +kernel
theorem dX7_sinkBy_9 : decode cX7_sinkBy 9 = .ok (.getfield 9, 3) := by decide +kernel
theorem dX7_sinkBy_12 : decode cX7_sinkBy 12 = .ok (.iload_n 2, 1) := by decide +kernel
theorem dX7_sinkBy_13 : decode cX7_sinkBy 13 = .ok (.aload_n 0, 1) := by decide +kernel
theorem dX7_sinkBy_14 : decode cX7_sinkBy 14 = .ok (.getfield 9, 3) := by decide +kernel
theorem dX7_sinkBy_17 : decode cX7_sinkBy 17 = .ok (.iload_n 2, 1) := by decide +kernel
theorem dX7_sinkBy_18 : decode cX7_sinkBy 18 = .ok (.iaload, 1) := by decide +kernel
theorem dX7_sinkBy_19 : decode cX7_sinkBy 19 = .ok (.iload_n 1, 1) := by decide +kernel
theorem dX7_sinkBy_20 : decode cX7_sinkBy 20 = .ok (.isub, 1) := by decide +kernel
theorem dX7_sinkBy_21 : decode cX7_sinkBy 21 = .ok (.iconst 0, 1) := by decide +kernel
theorem dX7_sinkBy_22 : decode cX7_sinkBy 22 = .ok (.invokestatic 49, 3) := by decide +kernel
theorem dX7_sinkBy_25 : decode cX7_sinkBy 25 = .ok (.iastore, 1) := by decide +kernel
theorem dX7_sinkBy_26 : decode cX7_sinkBy 26 = .ok (.aload_n 0, 1) := by decide +kernel
theorem dX7_sinkBy_27 : decode cX7_sinkBy 27 = .ok (.getfield 15, 3) := by decide +kernel
theorem dX7_sinkBy_30 : decode cX7_sinkBy 30 = .ok (.iload_n 2, 1) := by decide +kernel
theorem dX7_sinkBy_31 : decode cX7_sinkBy 31 = .ok (.iconst 0, 1) := by decide +kernel
theorem dX7_sinkBy_32 : decode cX7_sinkBy 32 = .ok (.iastore, 1) := by decide +kernel
theorem dX7_sinkBy_33 : decode cX7_sinkBy 33 = .ok (.aload_n 0, 1) := by decide +kernel
theorem dX7_sinkBy_34 : decode cX7_sinkBy 34 = .ok (.iload_n 2, 1) := by decide +kernel
theorem dX7_sinkBy_35 : decode cX7_sinkBy 35 = .ok (.iconst 1, 1) := by decide +kernel
theorem dX7_sinkBy_36 : decode cX7_sinkBy 36 = .ok (.invokevirtual 52, 3) := by decide +kernel
theorem dX7_sinkBy_39 : decode cX7_sinkBy 39 = .ok (.iinc 2 1, 3) := by decide +kernel
theorem dX7_sinkBy_42 : decode cX7_sinkBy 42 = .ok (.goto (-40), 3) := by decide +kernel
theorem dX7_sinkBy_45 : decode cX7_sinkBy 45 = .ok (.return_, 1) := by decide +kernel
theorem dX7_allFilm_0 : decode cX7_allFilm 0 = .ok (.iconst 0, 1) := by decide +kernel
theorem dX7_allFilm_1 : decode cX7_allFilm 1 = .ok (.istore_n 1, 1) := by decide +kernel
theorem dX7_allFilm_2 : decode cX7_allFilm 2 = .ok (.aload_n 0, 1) := by decide +kernel
theorem dX7_allFilm_3 : decode cX7_allFilm 3 = .ok (.getfield 9, 3) := by decide +kernel
theorem dX7_allFilm_6 : decode cX7_allFilm 6 = .ok (.astore_n 2, 1) := by decide +kernel
theorem dX7_allFilm_7 : decode cX7_allFilm 7 = .ok (.aload_n 2, 1) := by decide +kernel
theorem dX7_allFilm_8 : decode cX7_allFilm 8 = .ok (.arraylength, 1) := by decide +kernel
theorem dX7_allFilm_9 : decode cX7_allFilm 9 = .ok (.istore_n 3, 1) := by decide +kernel
theorem dX7_allFilm_10 : decode cX7_allFilm 10 = .ok (.iconst 0, 1) := by decide +kernel
theorem dX7_allFilm_11 : decode cX7_allFilm 11 = .ok (.istore 4, 2) := by decide +kernel
theorem dX7_allFilm_13 : decode cX7_allFilm 13 = .ok (.iload 4, 2) := by decide +kernel
theorem dX7_allFilm_15 : decode cX7_allFilm 15 = .ok (.iload_n 3, 1) := by decide +kernel
theorem dX7_allFilm_16 : decode cX7_allFilm 16 = .ok (.if_icmp .ge 20, 3) := by decide +kernel
theorem dX7_allFilm_19 : decode cX7_allFilm 19 = .ok (.aload_n 2, 1) := by decide +kernel
theorem dX7_allFilm_20 : decode cX7_allFilm 20 = .ok (.iload 4, 2) := by decide +kernel
theorem dX7_allFilm_22 : decode cX7_allFilm 22 = .ok (.iaload, 1) := by decide +kernel
theorem dX7_allFilm_23 : decode cX7_allFilm 23 = .ok (.istore 5, 2) := by decide +kernel
theorem dX7_allFilm_25 : decode cX7_allFilm 25 = .ok (.iload_n 1, 1) := by decide +kernel
theorem dX7_allFilm_26 : decode cX7_allFilm 26 = .ok (.iload 5, 2) := by decide +kernel
theorem dX7_allFilm_28 : decode cX7_allFilm 28 = .ok (.iadd, 1) := by decide +kernel
theorem dX7_allFilm_29 : decode cX7_allFilm 29 = .ok (.istore_n 1, 1) := by decide +kernel
theorem dX7_allFilm_30 : decode cX7_allFilm 30 = .ok (.iinc 4 1, 3) := by decide +kernel
theorem dX7_allFilm_33 : decode cX7_allFilm 33 = .ok (.goto (-20), 3) := by decide +kernel
theorem dX7_allFilm_36 : decode cX7_allFilm 36 = .ok (.iload_n 1, 1) := by decide +kernel
theorem dX7_allFilm_37 : decode cX7_allFilm 37 = .ok (.ireturn, 1) := by decide +kernel
theorem dX7_thinnest_0 : decode cX7_thinnest 0 = .ok (.sipush 999, 3) := by decide +kernel
theorem dX7_thinnest_3 : decode cX7_thinnest 3 = .ok (.istore_n 1, 1) := by decide +kernel
theorem dX7_thinnest_4 : decode cX7_thinnest 4 = .ok (.aload_n 0, 1) := by decide +kernel
theorem dX7_thinnest_5 : decode cX7_thinnest 5 = .ok (.getfield 9, 3) := by decide +kernel
theorem dX7_thinnest_8 : decode cX7_thinnest 8 = .ok (.astore_n 2, 1) := by decide +kernel
theorem dX7_thinnest_9 : decode cX7_thinnest 9 = .ok (.aload_n 2, 1) := by decide +kernel
theorem dX7_thinnest_10 : decode cX7_thinnest 10 = .ok (.arraylength, 1) := by decide +kernel
theorem dX7_thinnest_11 : decode cX7_thinnest 11 = .ok (.istore_n 3, 1) := by decide +kernel
theorem dX7_thinnest_12 : decode cX7_thinnest 12 = .ok (.iconst 0, 1) := by decide +kernel
theorem dX7_thinnest_13 : decode cX7_thinnest 13 = .ok (.istore 4, 2) := by decide +kernel
theorem dX7_thinnest_15 : decode cX7_thinnest 15 = .ok (.iload 4, 2) := by decide +kernel
theorem dX7_thinnest_17 : decode cX7_thinnest 17 = .ok (.iload_n 3, 1) := by decide +kernel
theorem dX7_thinnest_18 : decode cX7_thinnest 18 = .ok (.if_icmp .ge 22, 3) := by decide +kernel
theorem dX7_thinnest_21 : decode cX7_thinnest 21 = .ok (.aload_n 2, 1) := by decide +kernel
theorem dX7_thinnest_22 : decode cX7_thinnest 22 = .ok (.iload 4, 2) := by decide +kernel
theorem dX7_thinnest_24 : decode cX7_thinnest 24 = .ok (.iaload, 1) := by decide +kernel
theorem dX7_thinnest_25 : decode cX7_thinnest 25 = .ok (.istore 5, 2) := by decide +kernel
theorem dX7_thinnest_27 : decode cX7_thinnest 27 = .ok (.iload_n 1, 1) := by decide +kernel
theorem dX7_thinnest_28 : decode cX7_thinnest 28 = .ok (.iload 5, 2) := by decide +kernel
theorem dX7_thinnest_30 : decode cX7_thinnest 30 = .ok (.invokestatic 43, 3) := by decide +kernel
theorem dX7_thinnest_33 : decode cX7_thinnest 33 = .ok (.istore_n 1, 1) := by decide +kernel
theorem dX7_thinnest_34 : decode cX7_thinnest 34 = .ok (.iinc 4 1, 3) := by decide +kernel
theorem dX7_thinnest_37 : decode cX7_thinnest 37 = .ok (.goto (-22), 3) := by decide +kernel
theorem dX7_thinnest_40 : decode cX7_thinnest 40 = .ok (.iload_n 1, 1) := by decide +kernel
theorem dX7_thinnest_41 : decode cX7_thinnest 41 = .ok (.ireturn, 1) := by decide +kernel
theorem dX7_unevenness_0 : decode cX7_unevenness 0 = .ok (.iconst 0, 1) := by decide +kernel
theorem dX7_unevenness_1 : decode cX7_unevenness 1 = .ok (.istore_n 1, 1) := by decide +kernel
theorem dX7_unevenness_2 : decode cX7_unevenness 2 = .ok (.aload_n 0, 1) := by decide +kernel
theorem dX7_unevenness_3 : decode cX7_unevenness 3 = .ok (.getfield 9, 3) := by decide +kernel
theorem dX7_unevenness_6 : decode cX7_unevenness 6 = .ok (.astore_n 2, 1) := by decide +kernel
theorem dX7_unevenness_7 : decode cX7_unevenness 7 = .ok (.aload_n 2, 1) := by decide +kernel
theorem dX7_unevenness_8 : decode cX7_unevenness 8 = .ok (.arraylength, 1) := by decide +kernel
theorem dX7_unevenness_9 : decode cX7_unevenness 9 = .ok (.istore_n 3, 1) := by decide +kernel
theorem dX7_unevenness_10 : decode cX7_unevenness 10 = .ok (.iconst 0, 1) := by decide +kernel
theorem dX7_unevenness_11 : decode cX7_unevenness 11 = .ok (.istore 4, 2) := by decide +kernel
theorem dX7_unevenness_13 : decode cX7_unevenness 13 = .ok (.iload 4, 2) := by decide +kernel
theorem dX7_unevenness_15 : decode cX7_unevenness 15 = .ok (.iload_n 3, 1) := by decide +kernel
theorem dX7_unevenness_16 : decode cX7_unevenness 16 = .ok (.if_icmp .ge 22, 3) := by decide +kernel
theorem dX7_unevenness_19 : decode cX7_unevenness 19 = .ok (.aload_n 2, 1) := by decide +kernel
theorem dX7_unevenness_20 : decode cX7_unevenness 20 = .ok (.iload 4, 2) := by decide +kernel
theorem dX7_unevenness_22 : decode cX7_unevenness 22 = .ok (.iaload, 1) := by decide +kernel
theorem dX7_unevenness_23 : decode cX7_unevenness 23 = .ok (.istore 5, 2) := by decide +kernel
theorem dX7_unevenness_25 : decode cX7_unevenness 25 = .ok (.iload_n 1, 1) := by decide +kernel
theorem dX7_unevenness_26 : decode cX7_unevenness 26 = .ok (.iload 5, 2) := by decide +kernel
theorem dX7_unevenness_28 : decode cX7_unevenness 28 = .ok (.invokestatic 49, 3) := by decide +kernel
theorem dX7_unevenness_31 : decode cX7_unevenness 31 = .ok (.istore_n 1, 1) := by decide +kernel
theorem dX7_unevenness_32 : decode cX7_unevenness 32 = .ok (.iinc 4 1, 3) := by decide +kernel
theorem dX7_unevenness_35 : decode cX7_unevenness 35 = .ok (.goto (-22), 3) := by decide +kernel
theorem dX7_unevenness_38 : decode cX7_unevenness 38 = .ok (.iload_n 1, 1) := by decide +kernel
theorem dX7_unevenness_39 : decode cX7_unevenness 39 = .ok (.aload_n 0, 1) := by decide +kernel
theorem dX7_unevenness_40 : decode cX7_unevenness 40 = .ok (.invokevirtual 56, 3) := by decide +kernel
theorem dX7_unevenness_43 : decode cX7_unevenness 43 = .ok (.isub, 1) := by decide +kernel
theorem dX7_unevenness_44 : decode cX7_unevenness 44 = .ok (.ireturn, 1) := by decide +kernel
theorem dX7_thinnestCells_0 : decode cX7_thinnestCells 0 = .ok (.aload_n 0, 1) := by decide +kernel
theorem dX7_thinnestCells_1 : decode cX7_thinnestCells 1 = .ok (.invokevirtual 56, 3) := by decide +kernel
theorem dX7_thinnestCells_4 : decode cX7_thinnestCells 4 = .ok (.istore_n 1, 1) := by decide +kernel
theorem dX7_thinnestCells_5 : decode cX7_thinnestCells 5 = .ok (.iconst 0, 1) := by decide +kernel
theorem dX7_thinnestCells_6 : decode cX7_thinnestCells 6 = .ok (.istore_n 2, 1) := by decide +kernel
theorem dX7_thinnestCells_7 : decode cX7_thinnestCells 7 = .ok (.iconst 0, 1) := by decide +kernel
theorem dX7_thinnestCells_8 : decode cX7_thinnestCells 8 = .ok (.istore_n 3, 1) := by decide +kernel
theorem dX7_thinnestCells_9 : decode cX7_thinnestCells 9 = .ok (.iload_n 3, 1) := by decide +kernel
theorem dX7_thinnestCells_10 : decode cX7_thinnestCells 10 = .ok (.bipush 15, 2) := by decide +kernel
theorem dX7_thinnestCells_12 : decode cX7_thinnestCells 12 = .ok (.if_icmp .ge 25, 3) := by decide +kernel
theorem dX7_thinnestCells_15 : decode cX7_thinnestCells 15 = .ok (.aload_n 0, 1) := by decide +kernel
theorem dX7_thinnestCells_16 : decode cX7_thinnestCells 16 = .ok (.getfield 9, 3) := by decide +kernel
theorem dX7_thinnestCells_19 : decode cX7_thinnestCells 19 = .ok (.iload_n 3, 1) := by decide +kernel
theorem dX7_thinnestCells_20 : decode cX7_thinnestCells 20 = .ok (.iaload, 1) := by decide +kernel
theorem dX7_thinnestCells_21 : decode cX7_thinnestCells 21 = .ok (.iload_n 1, 1) := by decide +kernel
theorem dX7_thinnestCells_22 : decode cX7_thinnestCells 22 = .ok (.if_icmp .ne 9, 3) := by decide +kernel
theorem dX7_thinnestCells_25 : decode cX7_thinnestCells 25 = .ok (.iload_n 2, 1) := by decide +kernel
theorem dX7_thinnestCells_26 : decode cX7_thinnestCells 26 = .ok (.iconst 1, 1) := by decide +kernel
theorem dX7_thinnestCells_27 : decode cX7_thinnestCells 27 = .ok (.iload_n 3, 1) := by decide +kernel
theorem dX7_thinnestCells_28 : decode cX7_thinnestCells 28 = .ok (.ishl, 1) := by decide +kernel
theorem dX7_thinnestCells_29 : decode cX7_thinnestCells 29 = .ok (.ior, 1) := by decide +kernel
theorem dX7_thinnestCells_30 : decode cX7_thinnestCells 30 = .ok (.istore_n 2, 1) := by decide +kernel
theorem dX7_thinnestCells_31 : decode cX7_thinnestCells 31 = .ok (.iinc 3 1, 3) := by decide +kernel
theorem dX7_thinnestCells_34 : decode cX7_thinnestCells 34 = .ok (.goto (-25), 3) := by decide +kernel
theorem dX7_thinnestCells_37 : decode cX7_thinnestCells 37 = .ok (.iload_n 2, 1) := by decide +kernel
theorem dX7_thinnestCells_38 : decode cX7_thinnestCells 38 = .ok (.ireturn, 1) := by decide +kernel
theorem dX7_lackTo_0 : decode cX7_lackTo 0 = .ok (.iconst 0, 1) := by decide +kernel
theorem dX7_lackTo_1 : decode cX7_lackTo 1 = .ok (.istore_n 3, 1) := by decide +kernel
theorem dX7_lackTo_2 : decode cX7_lackTo 2 = .ok (.iconst 0, 1) := by decide +kernel
theorem dX7_lackTo_3 : decode cX7_lackTo 3 = .ok (.istore 4, 2) := by decide +kernel
theorem dX7_lackTo_5 : decode cX7_lackTo 5 = .ok (.iload 4, 2) := by decide +kernel
theorem dX7_lackTo_7 : decode cX7_lackTo 7 = .ok (.bipush 15, 2) := by decide +kernel
theorem dX7_lackTo_9 : decode cX7_lackTo 9 = .ok (.if_icmp .ge 35, 3) := by decide +kernel
theorem dX7_lackTo_12 : decode cX7_lackTo 12 = .ok (.iload_n 2, 1) := by decide +kernel
theorem dX7_lackTo_13 : decode cX7_lackTo 13 = .ok (.iload 4, 2) := by decide +kernel
theorem dX7_lackTo_15 : decode cX7_lackTo 15 = .ok (.ishr, 1) := by decide +kernel
theorem dX7_lackTo_16 : decode cX7_lackTo 16 = .ok (.iconst 1, 1) := by decide +kernel
theorem dX7_lackTo_17 : decode cX7_lackTo 17 = .ok (.iand, 1) := by decide +kernel
theorem dX7_lackTo_18 : decode cX7_lackTo 18 = .ok (.iconst 1, 1) := by decide +kernel
theorem dX7_lackTo_19 : decode cX7_lackTo 19 = .ok (.if_icmp .ne 19, 3) := by decide +kernel
theorem dX7_lackTo_22 : decode cX7_lackTo 22 = .ok (.iload_n 3, 1) := by decide +kernel
theorem dX7_lackTo_23 : decode cX7_lackTo 23 = .ok (.iload_n 1, 1) := by decide +kernel
theorem dX7_lackTo_24 : decode cX7_lackTo 24 = .ok (.aload_n 0, 1) := by decide +kernel
theorem dX7_lackTo_25 : decode cX7_lackTo 25 = .ok (.getfield 9, 3) := by decide +kernel
theorem dX7_lackTo_28 : decode cX7_lackTo 28 = .ok (.iload 4, 2) := by decide +kernel
theorem dX7_lackTo_30 : decode cX7_lackTo 30 = .ok (.iaload, 1) := by decide +kernel
theorem dX7_lackTo_31 : decode cX7_lackTo 31 = .ok (.isub, 1) := by decide +kernel
theorem dX7_lackTo_32 : decode cX7_lackTo 32 = .ok (.iconst 0, 1) := by decide +kernel
theorem dX7_lackTo_33 : decode cX7_lackTo 33 = .ok (.invokestatic 49, 3) := by decide +kernel
theorem dX7_lackTo_36 : decode cX7_lackTo 36 = .ok (.iadd, 1) := by decide +kernel
theorem dX7_lackTo_37 : decode cX7_lackTo 37 = .ok (.istore_n 3, 1) := by decide +kernel
theorem dX7_lackTo_38 : decode cX7_lackTo 38 = .ok (.iinc 4 1, 3) := by decide +kernel
theorem dX7_lackTo_41 : decode cX7_lackTo 41 = .ok (.goto (-36), 3) := by decide +kernel
theorem dX7_lackTo_44 : decode cX7_lackTo 44 = .ok (.iload_n 3, 1) := by decide +kernel
theorem dX7_lackTo_45 : decode cX7_lackTo 45 = .ok (.ireturn, 1) := by decide +kernel
theorem dX8_init_0 : decode cX8_init 0 = .ok (.aload_n 0, 1) := by decide +kernel
theorem dX8_init_1 : decode cX8_init 1 = .ok (.invokespecial 1, 3) := by decide +kernel
theorem dX8_init_4 : decode cX8_init 4 = .ok (.aload_n 0, 1) := by decide +kernel
theorem dX8_init_5 : decode cX8_init 5 = .ok (.new 7, 3) := by decide +kernel
theorem dX8_init_8 : decode cX8_init 8 = .ok (.dup, 1) := by decide +kernel
theorem dX8_init_9 : decode cX8_init 9 = .ok (.invokespecial 9, 3) := by decide +kernel
theorem dX8_init_12 : decode cX8_init 12 = .ok (.putfield 10, 3) := by decide +kernel
theorem dX8_init_15 : decode cX8_init 15 = .ok (.aload_n 0, 1) := by decide +kernel
theorem dX8_init_16 : decode cX8_init 16 = .ok (.new 16, 3) := by decide +kernel
theorem dX8_init_19 : decode cX8_init 19 = .ok (.dup, 1) := by decide +kernel
theorem dX8_init_20 : decode cX8_init 20 = .ok (.invokespecial 18, 3) := by decide +kernel
theorem dX8_init_23 : decode cX8_init 23 = .ok (.putfield 19, 3) := by decide +kernel
theorem dX8_init_26 : decode cX8_init 26 = .ok (.return_, 1) := by decide +kernel
theorem dX8_begin_0 : decode cX8_begin 0 = .ok (.aload_n 0, 1) := by decide +kernel
theorem dX8_begin_1 : decode cX8_begin 1 = .ok (.getfield 10, 3) := by decide +kernel
theorem dX8_begin_4 : decode cX8_begin 4 = .ok (.invokevirtual 23, 3) := by decide +kernel
theorem dX8_begin_7 : decode cX8_begin 7 = .ok (.aload_n 0, 1) := by decide +kernel
theorem dX8_begin_8 : decode cX8_begin 8 = .ok (.new 16, 3) := by decide +kernel
theorem dX8_begin_11 : decode cX8_begin 11 = .ok (.dup, 1) := by decide +kernel
theorem dX8_begin_12 : decode cX8_begin 12 = .ok (.invokespecial 18, 3) := by decide +kernel
theorem dX8_begin_15 : decode cX8_begin 15 = .ok (.putfield 19, 3) := by decide +kernel
theorem dX8_begin_18 : decode cX8_begin 18 = .ok (.aload_n 0, 1) := by decide +kernel
theorem dX8_begin_19 : decode cX8_begin 19 = .ok (.iconst 0, 1) := by decide +kernel
theorem dX8_begin_20 : decode cX8_begin 20 = .ok (.putfield 26, 3) := by decide +kernel
theorem dX8_begin_23 : decode cX8_begin 23 = .ok (.return_, 1) := by decide +kernel
theorem dX8_become_0 : decode cX8_become 0 = .ok (.aload_n 0, 1) := by decide +kernel
theorem dX8_become_1 : decode cX8_become 1 = .ok (.getfield 10, 3) := by decide +kernel
theorem dX8_become_4 : decode cX8_become 4 = .ok (.aload_n 1, 1) := by decide +kernel
theorem dX8_become_5 : decode cX8_become 5 = .ok (.getfield 10, 3) := by decide +kernel
theorem dX8_become_8 : decode cX8_become 8 = .ok (.invokevirtual 30, 3) := by decide +kernel
theorem dX8_become_11 : decode cX8_become 11 = .ok (.aload_n 0, 1) := by decide +kernel
theorem dX8_become_12 : decode cX8_become 12 = .ok (.aload_n 1, 1) := by decide +kernel
theorem dX8_become_13 : decode cX8_become 13 = .ok (.getfield 19, 3) := by decide +kernel
theorem dX8_become_16 : decode cX8_become 16 = .ok (.putfield 19, 3) := by decide +kernel
theorem dX8_become_19 : decode cX8_become 19 = .ok (.aload_n 0, 1) := by decide +kernel
theorem dX8_become_20 : decode cX8_become 20 = .ok (.aload_n 1, 1) := by decide +kernel
theorem dX8_become_21 : decode cX8_become 21 = .ok (.getfield 26, 3) := by decide +kernel
theorem dX8_become_24 : decode cX8_become 24 = .ok (.putfield 26, 3) := by decide +kernel
theorem dX8_become_27 : decode cX8_become 27 = .ok (.return_, 1) := by decide +kernel
theorem dX8_makeAll_0 : decode cX8_makeAll 0 = .ok (.iconst 0, 1) := by decide +kernel
theorem dX8_makeAll_1 : decode cX8_makeAll 1 = .ok (.istore_n 2, 1) := by decide +kernel
theorem dX8_makeAll_2 : decode cX8_makeAll 2 = .ok (.iload_n 2, 1) := by decide +kernel
theorem dX8_makeAll_3 : decode cX8_makeAll 3 = .ok (.aload_n 0, 1) := by decide +kernel
theorem dX8_makeAll_4 : decode cX8_makeAll 4 = .ok (.getfield 19, 3) := by decide +kernel
theorem dX8_makeAll_7 : decode cX8_makeAll 7 = .ok (.invokevirtual 34, 3) := by decide +kernel
theorem dX8_makeAll_10 : decode cX8_makeAll 10 = .ok (.if_icmp .ge 24, 3) := by decide +kernel
theorem dX8_makeAll_13 : decode cX8_makeAll 13 = .ok (.aload_n 0, 1) := by decide +kernel
theorem dX8_makeAll_14 : decode cX8_makeAll 14 = .ok (.getfield 19, 3) := by decide +kernel
theorem dX8_makeAll_17 : decode cX8_makeAll 17 = .ok (.iload_n 2, 1) := by decide +kernel
theorem dX8_makeAll_18 : decode cX8_makeAll 18 = .ok (.invokevirtual 38, 3) := by decide +kernel
theorem dX8_makeAll_21 : decode cX8_makeAll 21 = .ok (.checkcast 42, 3) := by decide +kernel
theorem dX8_makeAll_24 : decode cX8_makeAll 24 = .ok (.aload_n 1, 1) := by decide +kernel
theorem dX8_makeAll_25 : decode cX8_makeAll 25 = .ok (.invokevirtual 44, 3) := by decide +kernel
theorem dX8_makeAll_28 : decode cX8_makeAll 28 = .ok (.iinc 2 1, 3) := by decide +kernel
theorem dX8_makeAll_31 : decode cX8_makeAll 31 = .ok (.goto (-29), 3) := by decide +kernel
theorem dX8_makeAll_34 : decode cX8_makeAll 34 = .ok (.return_, 1) := by decide +kernel
theorem dX8_makeSome_0 : decode cX8_makeSome 0 = .ok (.iconst 0, 1) := by decide +kernel
theorem dX8_makeSome_1 : decode cX8_makeSome 1 = .ok (.istore_n 3, 1) := by decide +kernel
theorem dX8_makeSome_2 : decode cX8_makeSome 2 = .ok (.iload_n 3, 1) := by decide +kernel
theorem dX8_makeSome_3 : decode cX8_makeSome 3 = .ok (.aload_n 0, 1) := by decide +kernel
theorem dX8_makeSome_4 : decode cX8_makeSome 4 = .ok (.getfield 19, 3) := by decide +kernel
theorem dX8_makeSome_7 : decode cX8_makeSome 7 = .ok (.invokevirtual 34, 3) := by decide +kernel
theorem dX8_makeSome_10 : decode cX8_makeSome 10 = .ok (.if_icmp .ge 33, 3) := by decide +kernel
theorem dX8_makeSome_13 : decode cX8_makeSome 13 = .ok (.iload_n 1, 1) := by decide +kernel
theorem dX8_makeSome_14 : decode cX8_makeSome 14 = .ok (.iload_n 3, 1) := by decide +kernel
theorem dX8_makeSome_15 : decode cX8_makeSome 15 = .ok (.ishr, 1) := by decide +kernel
theorem dX8_makeSome_16 : decode cX8_makeSome 16 = .ok (.iconst 1, 1) := by decide +kernel
theorem dX8_makeSome_17 : decode cX8_makeSome 17 = .ok (.iand, 1) := by decide +kernel
theorem dX8_makeSome_18 : decode cX8_makeSome 18 = .ok (.iconst 1, 1) := by decide +kernel
theorem dX8_makeSome_19 : decode cX8_makeSome 19 = .ok (.if_icmp .ne 18, 3) := by decide +kernel
theorem dX8_makeSome_22 : decode cX8_makeSome 22 = .ok (.aload_n 0, 1) := by decide +kernel
theorem dX8_makeSome_23 : decode cX8_makeSome 23 = .ok (.getfield 19, 3) := by decide +kernel
theorem dX8_makeSome_26 : decode cX8_makeSome 26 = .ok (.iload_n 3, 1) := by decide +kernel
theorem dX8_makeSome_27 : decode cX8_makeSome 27 = .ok (.invokevirtual 38, 3) := by decide +kernel
theorem dX8_makeSome_30 : decode cX8_makeSome 30 = .ok (.checkcast 42, 3) := by decide +kernel
theorem dX8_makeSome_33 : decode cX8_makeSome 33 = .ok (.aload_n 2, 1) := by decide +kernel
theorem dX8_makeSome_34 : decode cX8_makeSome 34 = .ok (.invokevirtual 44, 3) := by decide +kernel
theorem dX8_makeSome_37 : decode cX8_makeSome 37 = .ok (.iinc 3 1, 3) := by decide +kernel
theorem dX8_makeSome_40 : decode cX8_makeSome 40 = .ok (.goto (-38), 3) := by decide +kernel
theorem dX8_makeSome_43 : decode cX8_makeSome 43 = .ok (.return_, 1) := by decide +kernel
theorem dX8_cellsOf_0 : decode cX8_cellsOf 0 = .ok (.iconst 0, 1) := by decide +kernel
theorem dX8_cellsOf_1 : decode cX8_cellsOf 1 = .ok (.istore_n 2, 1) := by decide +kernel
theorem dX8_cellsOf_2 : decode cX8_cellsOf 2 = .ok (.iconst 0, 1) := by decide +kernel
theorem dX8_cellsOf_3 : decode cX8_cellsOf 3 = .ok (.istore_n 3, 1) := by decide +kernel
theorem dX8_cellsOf_4 : decode cX8_cellsOf 4 = .ok (.iload_n 3, 1) := by decide +kernel
theorem dX8_cellsOf_5 : decode cX8_cellsOf 5 = .ok (.aload_n 0, 1) := by decide +kernel
theorem dX8_cellsOf_6 : decode cX8_cellsOf 6 = .ok (.getfield 19, 3) := by decide +kernel
theorem dX8_cellsOf_9 : decode cX8_cellsOf 9 = .ok (.invokevirtual 34, 3) := by decide +kernel
theorem dX8_cellsOf_12 : decode cX8_cellsOf 12 = .ok (.if_icmp .ge 35, 3) := by decide +kernel
theorem dX8_cellsOf_15 : decode cX8_cellsOf 15 = .ok (.iload_n 1, 1) := by decide +kernel
theorem dX8_cellsOf_16 : decode cX8_cellsOf 16 = .ok (.iload_n 3, 1) := by decide +kernel
theorem dX8_cellsOf_17 : decode cX8_cellsOf 17 = .ok (.ishr, 1) := by decide +kernel
theorem dX8_cellsOf_18 : decode cX8_cellsOf 18 = .ok (.iconst 1, 1) := by decide +kernel
theorem dX8_cellsOf_19 : decode cX8_cellsOf 19 = .ok (.iand, 1) := by decide +kernel
theorem dX8_cellsOf_20 : decode cX8_cellsOf 20 = .ok (.iconst 1, 1) := by decide +kernel
theorem dX8_cellsOf_21 : decode cX8_cellsOf 21 = .ok (.if_icmp .ne 20, 3) := by decide +kernel
theorem dX8_cellsOf_24 : decode cX8_cellsOf 24 = .ok (.iload_n 2, 1) := by decide +kernel
theorem dX8_cellsOf_25 : decode cX8_cellsOf 25 = .ok (.aload_n 0, 1) := by decide +kernel
theorem dX8_cellsOf_26 : decode cX8_cellsOf 26 = .ok (.getfield 19, 3) := by decide +kernel
theorem dX8_cellsOf_29 : decode cX8_cellsOf 29 = .ok (.iload_n 3, 1) := by decide +kernel
theorem dX8_cellsOf_30 : decode cX8_cellsOf 30 = .ok (.invokevirtual 38, 3) := by decide +kernel
theorem dX8_cellsOf_33 : decode cX8_cellsOf 33 = .ok (.checkcast 42, 3) := by decide +kernel
theorem dX8_cellsOf_36 : decode cX8_cellsOf 36 = .ok (.invokevirtual 47, 3) := by decide +kernel
theorem dX8_cellsOf_39 : decode cX8_cellsOf 39 = .ok (.ior, 1) := by decide +kernel
theorem dX8_cellsOf_40 : decode cX8_cellsOf 40 = .ok (.istore_n 2, 1) := by decide +kernel
theorem dX8_cellsOf_41 : decode cX8_cellsOf 41 = .ok (.iinc 3 1, 3) := by decide +kernel
theorem dX8_cellsOf_44 : decode cX8_cellsOf 44 = .ok (.goto (-40), 3) := by decide +kernel
theorem dX8_cellsOf_47 : decode cX8_cellsOf 47 = .ok (.iload_n 2, 1) := by decide +kernel
theorem dX8_cellsOf_48 : decode cX8_cellsOf 48 = .ok (.ireturn, 1) := by decide +kernel
theorem dX8_passesAcross_0 : decode cX8_passesAcross 0 = .ok (.iconst 0, 1) := by decide +kernel
theorem dX8_passesAcross_1 : decode cX8_passesAcross 1 = .ok (.istore_n 2, 1) := by decide +kernel
theorem dX8_passesAcross_2 : decode cX8_passesAcross 2 = .ok (.iconst 0, 1) := by decide +kernel
theorem dX8_passesAcross_3 : decode cX8_passesAcross 3 = .ok (.istore_n 3, 1) := by decide +kernel
theorem dX8_passesAcross_4 : decode cX8_passesAcross 4 = .ok (.iload_n 3, 1) := by decide +kernel
theorem dX8_passesAcross_5 : decode cX8_passesAcross 5 = .ok (.aload_n 0, 1) := by decide +kernel
theorem dX8_passesAcross_6 : decode cX8_passesAcross 6 = .ok (.getfield 19, 3) := by decide +kernel
theorem dX8_passesAcross_9 : decode cX8_passesAcross 9 = .ok (.invokevirtual 34, 3) := by decide +kernel
theorem dX8_passesAcross_12 : decode cX8_passesAcross 12 = .ok (.if_icmp .ge 32, 3) := by decide +kernel
theorem dX8_passesAcross_15 : decode cX8_passesAcross 15 = .ok (.iload_n 2, 1) := by decide +kernel
theorem dX8_passesAcross_16 : decode cX8_passesAcross 16 = .ok (.aload_n 0, 1) := by decide +kernel
theorem dX8_passesAcross_17 : decode cX8_passesAcross 17 = .ok (.getfield 19, 3) := by decide +kernel
theorem dX8_passesAcross_20 : decode cX8_passesAcross 20 = .ok (.iload_n 3, 1) := by decide +kernel
theorem dX8_passesAcross_21 : decode cX8_passesAcross 21 = .ok (.invokevirtual 38, 3) := by decide +kernel
theorem dX8_passesAcross_24 : decode cX8_passesAcross 24 = .ok (.checkcast 42, 3) := by decide +kernel
theorem dX8_passesAcross_27 : decode cX8_passesAcross 27 = .ok (.invokevirtual 47, 3) := by decide +kernel
theorem dX8_passesAcross_30 : decode cX8_passesAcross 30 = .ok (.iload_n 1, 1) := by decide +kernel
theorem dX8_passesAcross_31 : decode cX8_passesAcross 31 = .ok (.ishr, 1) := by decide +kernel
theorem dX8_passesAcross_32 : decode cX8_passesAcross 32 = .ok (.iconst 1, 1) := by decide +kernel
theorem dX8_passesAcross_33 : decode cX8_passesAcross 33 = .ok (.iand, 1) := by decide +kernel
theorem dX8_passesAcross_34 : decode cX8_passesAcross 34 = .ok (.iload_n 3, 1) := by decide +kernel
theorem dX8_passesAcross_35 : decode cX8_passesAcross 35 = .ok (.ishl, 1) := by decide +kernel
theorem dX8_passesAcross_36 : decode cX8_passesAcross 36 = .ok (.ior, 1) := by decide +kernel
theorem dX8_passesAcross_37 : decode cX8_passesAcross 37 = .ok (.istore_n 2, 1) := by decide +kernel
theorem dX8_passesAcross_38 : decode cX8_passesAcross 38 = .ok (.iinc 3 1, 3) := by decide +kernel
theorem dX8_passesAcross_41 : decode cX8_passesAcross 41 = .ok (.goto (-37), 3) := by decide +kernel
theorem dX8_passesAcross_44 : decode cX8_passesAcross 44 = .ok (.iload_n 2, 1) := by decide +kernel
theorem dX8_passesAcross_45 : decode cX8_passesAcross 45 = .ok (.ireturn, 1) := by decide +kernel
theorem dX9_init_0 : decode cX9_init 0 = .ok (.aload_n 0, 1) := by decide +kernel
theorem dX9_init_1 : decode cX9_init 1 = .ok (.invokespecial 3, 3) := by decide +kernel
theorem dX9_init_4 : decode cX9_init 4 = .ok (.aload_n 0, 1) := by decide +kernel
theorem dX9_init_5 : decode cX9_init 5 = .ok (.bipush 120, 2) := by decide +kernel
theorem dX9_init_7 : decode cX9_init 7 = .ok (.newarray .int, 2) := by decide +kernel
theorem dX9_init_9 : decode cX9_init 9 = .ok (.putfield 9, 3) := by decide +kernel
theorem dX9_init_12 : decode cX9_init 12 = .ok (.aload_n 0, 1) := by decide +kernel
theorem dX9_init_13 : decode cX9_init 13 = .ok (.bipush 9, 2) := by decide +kernel
theorem dX9_init_15 : decode cX9_init 15 = .ok (.newarray .int, 2) := by decide +kernel
theorem dX9_init_17 : decode cX9_init 17 = .ok (.putfield 15, 3) := by decide +kernel
theorem dX9_init_20 : decode cX9_init 20 = .ok (.return_, 1) := by decide +kernel
theorem dX9_append_0 : decode cX9_append 0 = .ok (.aload_n 0, 1) := by decide +kernel
theorem dX9_append_1 : decode cX9_append 1 = .ok (.getfield 18, 3) := by decide +kernel
theorem dX9_append_4 : decode cX9_append 4 = .ok (.bipush 120, 2) := by decide +kernel
theorem dX9_append_6 : decode cX9_append 6 = .ok (.if_icmp .lt 5, 3) := by decide +kernel
theorem dX9_append_9 : decode cX9_append 9 = .ok (.iconst 0, 1) := by decide +kernel
theorem dX9_append_10 : decode cX9_append 10 = .ok (.ireturn, 1) := by decide +kernel
theorem dX9_append_11 : decode cX9_append 11 = .ok (.aload_n 0, 1) := by decide +kernel
theorem dX9_append_12 : decode cX9_append 12 = .ok (.getfield 9, 3) := by decide +kernel
theorem dX9_append_15 : decode cX9_append 15 = .ok (.aload_n 0, 1) := by decide +kernel
theorem dX9_append_16 : decode cX9_append 16 = .ok (.getfield 18, 3) := by decide +kernel
theorem dX9_append_19 : decode cX9_append 19 = .ok (.iload_n 1, 1) := by decide +kernel
theorem dX9_append_20 : decode cX9_append 20 = .ok (.iastore, 1) := by decide +kernel
theorem dX9_append_21 : decode cX9_append 21 = .ok (.aload_n 0, 1) := by decide +kernel
theorem dX9_append_22 : decode cX9_append 22 = .ok (.dup, 1) := by decide +kernel
theorem dX9_append_23 : decode cX9_append 23 = .ok (.getfield 18, 3) := by decide +kernel
theorem dX9_append_26 : decode cX9_append 26 = .ok (.iconst 1, 1) := by decide +kernel
theorem dX9_append_27 : decode cX9_append 27 = .ok (.iadd, 1) := by decide +kernel
theorem dX9_append_28 : decode cX9_append 28 = .ok (.putfield 18, 3) := by decide +kernel
theorem dX9_append_31 : decode cX9_append 31 = .ok (.iconst 1, 1) := by decide +kernel
theorem dX9_append_32 : decode cX9_append 32 = .ok (.ireturn, 1) := by decide +kernel
theorem dX9_readInto_0 : decode cX9_readInto 0 = .ok (.aload_n 0, 1) := by decide +kernel
theorem dX9_readInto_1 : decode cX9_readInto 1 = .ok (.iconst 0, 1) := by decide +kernel
theorem dX9_readInto_2 : decode cX9_readInto 2 = .ok (.putfield 22, 3) := by decide +kernel
theorem dX9_readInto_5 : decode cX9_readInto 5 = .ok (.aload_n 1, 1) := by decide +kernel
theorem dX9_readInto_6 : decode cX9_readInto 6 = .ok (.invokevirtual 25, 3) := by decide +kernel
theorem dX9_readInto_9 : decode cX9_readInto 9 = .ok (.aload_n 0, 1) := by decide +kernel
theorem dX9_readInto_10 : decode cX9_readInto 10 = .ok (.aload_n 1, 1) := by decide +kernel
theorem dX9_readInto_11 : decode cX9_readInto 11 = .ok (.invokevirtual 30, 3) := by decide +kernel
theorem dX9_readInto_14 : decode cX9_readInto 14 = .ok (.ifCond .eq 23, 3) := by decide +kernel
theorem dX9_readInto_17 : decode cX9_readInto 17 = .ok (.aload_n 0, 1) := by decide +kernel
theorem dX9_readInto_18 : decode cX9_readInto 18 = .ok (.aload_n 1, 1) := by decide +kernel
theorem dX9_readInto_19 : decode cX9_readInto 19 = .ok (.invokevirtual 34, 3) := by decide +kernel
theorem dX9_readInto_22 : decode cX9_readInto 22 = .ok (.ifCond .eq 15, 3) := by decide +kernel
theorem dX9_readInto_25 : decode cX9_readInto 25 = .ok (.aload_n 0, 1) := by decide +kernel
theorem dX9_readInto_26 : decode cX9_readInto 26 = .ok (.aload_n 1, 1) := by decide +kernel
theorem dX9_readInto_27 : decode cX9_readInto 27 = .ok (.invokevirtual 37, 3) := by decide +kernel
theorem dX9_readInto_30 : decode cX9_readInto 30 = .ok (.ifCond .eq 7, 3) := by decide +kernel
theorem dX9_readInto_33 : decode cX9_readInto 33 = .ok (.iconst 1, 1) := by decide +kernel
theorem dX9_readInto_34 : decode cX9_readInto 34 = .ok (.goto 4, 3) := by decide +kernel
theorem dX9_readInto_37 : decode cX9_readInto 37 = .ok (.iconst 0, 1) := by decide +kernel
theorem dX9_readInto_38 : decode cX9_readInto 38 = .ok (.ireturn, 1) := by decide +kernel
theorem dX9_readLaw_0 : decode cX9_readLaw 0 = .ok (.aload_n 0, 1) := by decide +kernel
theorem dX9_readLaw_1 : decode cX9_readLaw 1 = .ok (.bipush 116, 2) := by decide +kernel
theorem dX9_readLaw_3 : decode cX9_readLaw 3 = .ok (.invokevirtual 40, 3) := by decide +kernel
theorem dX9_readLaw_6 : decode cX9_readLaw 6 = .ok (.ifCond .ne 5, 3) := by decide +kernel
theorem dX9_readLaw_9 : decode cX9_readLaw 9 = .ok (.iconst 0, 1) := by decide +kernel
theorem dX9_readLaw_10 : decode cX9_readLaw 10 = .ok (.ireturn, 1) := by decide +kernel
theorem dX9_readLaw_11 : decode cX9_readLaw 11 = .ok (.aload_n 1, 1) := by decide +kernel
theorem dX9_readLaw_12 : decode cX9_readLaw 12 = .ok (.aload_n 0, 1) := by decide +kernel
theorem dX9_readLaw_13 : decode cX9_readLaw 13 = .ok (.bipush 9, 2) := by decide +kernel
theorem dX9_readLaw_15 : decode cX9_readLaw 15 = .ok (.invokevirtual 44, 3) := by decide +kernel
theorem dX9_readLaw_18 : decode cX9_readLaw 18 = .ok (.putfield 48, 3) := by decide +kernel
theorem dX9_readLaw_21 : decode cX9_readLaw 21 = .ok (.aload_n 1, 1) := by decide +kernel
theorem dX9_readLaw_22 : decode cX9_readLaw 22 = .ok (.getfield 48, 3) := by decide +kernel
theorem dX9_readLaw_25 : decode cX9_readLaw 25 = .ok (.ifCond .lt 12, 3) := by decide +kernel
theorem dX9_readLaw_28 : decode cX9_readLaw 28 = .ok (.aload_n 0, 1) := by decide +kernel
theorem dX9_readLaw_29 : decode cX9_readLaw 29 = .ok (.bipush 44, 2) := by decide +kernel
theorem dX9_readLaw_31 : decode cX9_readLaw 31 = .ok (.invokevirtual 40, 3) := by decide +kernel
theorem dX9_readLaw_34 : decode cX9_readLaw 34 = .ok (.ifCond .ne 5, 3) := by decide +kernel
theorem dX9_readLaw_37 : decode cX9_readLaw 37 = .ok (.iconst 0, 1) := by decide +kernel
theorem dX9_readLaw_38 : decode cX9_readLaw 38 = .ok (.ireturn, 1) := by decide +kernel
theorem dX9_readLaw_39 : decode cX9_readLaw 39 = .ok (.aload_n 1, 1) := by decide +kernel
theorem dX9_readLaw_40 : decode cX9_readLaw 40 = .ok (.getfield 51, 3) := by decide +kernel
theorem dX9_readLaw_43 : decode cX9_readLaw 43 = .ok (.aload_n 0, 1) := by decide +kernel
theorem dX9_readLaw_44 : decode cX9_readLaw 44 = .ok (.bipush 9, 2) := by decide +kernel
theorem dX9_readLaw_46 : decode cX9_readLaw 46 = .ok (.invokevirtual 44, 3) := by decide +kernel
theorem dX9_readLaw_49 : decode cX9_readLaw 49 = .ok (.putfield 55, 3) := by decide +kernel
theorem dX9_readLaw_52 : decode cX9_readLaw 52 = .ok (.aload_n 1, 1) := by decide +kernel
theorem dX9_readLaw_53 : decode cX9_readLaw 53 = .ok (.getfield 51, 3) := by decide +kernel
theorem dX9_readLaw_56 : decode cX9_readLaw 56 = .ok (.getfield 55, 3) := by decide +kernel
theorem dX9_readLaw_59 : decode cX9_readLaw 59 = .ok (.ifCond .lt 16, 3) := by decide +kernel
theorem dX9_readLaw_62 : decode cX9_readLaw 62 = .ok (.aload_n 0, 1) := by decide +kernel
theorem dX9_readLaw_63 : decode cX9_readLaw 63 = .ok (.bipush 59, 2) := by decide +kernel
theorem dX9_readLaw_65 : decode cX9_readLaw 65 = .ok (.invokevirtual 40, 3) := by decide +kernel
theorem dX9_readLaw_68 : decode cX9_readLaw 68 = .ok (.ifCond .eq 7, 3) := by decide +kernel
theorem dX9_readLaw_71 : decode cX9_readLaw 71 = .ok (.iconst 1, 1) := by decide +kernel
theorem dX9_readLaw_72 : decode cX9_readLaw 72 = .ok (.goto 4, 3) := by decide +kernel
theorem dX9_readLaw_75 : decode cX9_readLaw 75 = .ok (.iconst 0, 1) := by decide +kernel
theorem dX9_readLaw_76 : decode cX9_readLaw 76 = .ok (.ireturn, 1) := by decide +kernel
theorem dX9_readCells_0 : decode cX9_readCells 0 = .ok (.iconst 0, 1) := by decide +kernel
theorem dX9_readCells_1 : decode cX9_readCells 1 = .ok (.istore_n 2, 1) := by decide +kernel
theorem dX9_readCells_2 : decode cX9_readCells 2 = .ok (.iconst 0, 1) := by decide +kernel
theorem dX9_readCells_3 : decode cX9_readCells 3 = .ok (.istore_n 3, 1) := by decide +kernel
theorem dX9_readCells_4 : decode cX9_readCells 4 = .ok (.iload_n 3, 1) := by decide +kernel
theorem dX9_readCells_5 : decode cX9_readCells 5 = .ok (.bipush 15, 2) := by decide +kernel
theorem dX9_readCells_7 : decode cX9_readCells 7 = .ok (.if_icmp .gt 137, 3) := by decide +kernel
theorem dX9_readCells_10 : decode cX9_readCells 10 = .ok (.aload_n 0, 1) := by decide +kernel
theorem dX9_readCells_11 : decode cX9_readCells 11 = .ok (.invokevirtual 60, 3) := by decide +kernel
theorem dX9_readCells_14 : decode cX9_readCells 14 = .ok (.bipush 102, 2) := by decide +kernel
theorem dX9_readCells_16 : decode cX9_readCells 16 = .ok (.if_icmp .ne 128, 3) := by decide +kernel
theorem dX9_readCells_19 : decode cX9_readCells 19 = .ok (.iload_n 3, 1) := by decide +kernel
theorem dX9_readCells_20 : decode cX9_readCells 20 = .ok (.bipush 15, 2) := by decide +kernel
theorem dX9_readCells_22 : decode cX9_readCells 22 = .ok (.if_icmp .ne 9, 3) := by decide +kernel
theorem dX9_readCells_25 : decode cX9_readCells 25 = .ok (.aload_n 0, 1) := by decide +kernel
theorem dX9_readCells_26 : decode cX9_readCells 26 = .ok (.iconst 3, 1) := by decide +kernel
theorem dX9_readCells_27 : decode cX9_readCells 27 = .ok (.invokevirtual 64, 3) := by decide +kernel
theorem dX9_readCells_30 : decode cX9_readCells 30 = .ok (.ireturn, 1) := by decide +kernel
theorem dX9_readCells_31 : decode cX9_readCells 31 = .ok (.aload_n 0, 1) := by decide +kernel
theorem dX9_readCells_32 : decode cX9_readCells 32 = .ok (.dup, 1) := by decide +kernel
theorem dX9_readCells_33 : decode cX9_readCells 33 = .ok (.getfield 22, 3) := by decide +kernel
theorem dX9_readCells_36 : decode cX9_readCells 36 = .ok (.iconst 1, 1) := by decide +kernel
theorem dX9_readCells_37 : decode cX9_readCells 37 = .ok (.iadd, 1) := by decide +kernel
theorem dX9_readCells_38 : decode cX9_readCells 38 = .ok (.putfield 22, 3) := by decide +kernel
theorem dX9_readCells_41 : decode cX9_readCells 41 = .ok (.aload_n 0, 1) := by decide +kernel
theorem dX9_readCells_42 : decode cX9_readCells 42 = .ok (.getfield 22, 3) := by decide +kernel
theorem dX9_readCells_45 : decode cX9_readCells 45 = .ok (.istore 4, 2) := by decide +kernel
theorem dX9_readCells_47 : decode cX9_readCells 47 = .ok (.aload_n 0, 1) := by decide +kernel
theorem dX9_readCells_48 : decode cX9_readCells 48 = .ok (.bipush 14, 2) := by decide +kernel
theorem dX9_readCells_50 : decode cX9_readCells 50 = .ok (.invokevirtual 44, 3) := by decide +kernel
theorem dX9_readCells_53 : decode cX9_readCells 53 = .ok (.istore 5, 2) := by decide +kernel
theorem dX9_readCells_55 : decode cX9_readCells 55 = .ok (.iload 5, 2) := by decide +kernel
theorem dX9_readCells_57 : decode cX9_readCells 57 = .ok (.ifCond .ge 5, 3) := by decide +kernel
theorem dX9_readCells_60 : decode cX9_readCells 60 = .ok (.iconst 0, 1) := by decide +kernel
theorem dX9_readCells_61 : decode cX9_readCells 61 = .ok (.ireturn, 1) := by decide +kernel
theorem dX9_readCells_62 : decode cX9_readCells 62 = .ok (.iload_n 2, 1) := by decide +kernel
theorem dX9_readCells_63 : decode cX9_readCells 63 = .ok (.iload 5, 2) := by decide +kernel
theorem dX9_readCells_65 : decode cX9_readCells 65 = .ok (.ishr, 1) := by decide +kernel
theorem dX9_readCells_66 : decode cX9_readCells 66 = .ok (.iconst 1, 1) := by decide +kernel
theorem dX9_readCells_67 : decode cX9_readCells 67 = .ok (.iand, 1) := by decide +kernel
theorem dX9_readCells_68 : decode cX9_readCells 68 = .ok (.iconst 1, 1) := by decide +kernel
theorem dX9_readCells_69 : decode cX9_readCells 69 = .ok (.if_icmp .ne 15, 3) := by decide +kernel
theorem dX9_readCells_72 : decode cX9_readCells 72 = .ok (.aload_n 0, 1) := by decide +kernel
theorem dX9_readCells_73 : decode cX9_readCells 73 = .ok (.iload 4, 2) := by decide +kernel
theorem dX9_readCells_75 : decode cX9_readCells 75 = .ok (.putfield 22, 3) := by decide +kernel
theorem dX9_readCells_78 : decode cX9_readCells 78 = .ok (.aload_n 0, 1) := by decide +kernel
theorem dX9_readCells_79 : decode cX9_readCells 79 = .ok (.iconst 2, 1) := by decide +kernel
theorem dX9_readCells_80 : decode cX9_readCells 80 = .ok (.invokevirtual 64, 3) := by decide +kernel
theorem dX9_readCells_83 : decode cX9_readCells 83 = .ok (.ireturn, 1) := by decide +kernel
theorem dX9_readCells_84 : decode cX9_readCells 84 = .ok (.iload_n 2, 1) := by decide +kernel
theorem dX9_readCells_85 : decode cX9_readCells 85 = .ok (.iconst 1, 1) := by decide +kernel
theorem dX9_readCells_86 : decode cX9_readCells 86 = .ok (.iload 5, 2) := by decide +kernel
theorem dX9_readCells_88 : decode cX9_readCells 88 = .ok (.ishl, 1) := by decide +kernel
theorem dX9_readCells_89 : decode cX9_readCells 89 = .ok (.ior, 1) := by decide +kernel
theorem dX9_readCells_90 : decode cX9_readCells 90 = .ok (.istore_n 2, 1) := by decide +kernel
theorem dX9_readCells_91 : decode cX9_readCells 91 = .ok (.aload_n 0, 1) := by decide +kernel
theorem dX9_readCells_92 : decode cX9_readCells 92 = .ok (.bipush 44, 2) := by decide +kernel
theorem dX9_readCells_94 : decode cX9_readCells 94 = .ok (.invokevirtual 40, 3) := by decide +kernel
theorem dX9_readCells_97 : decode cX9_readCells 97 = .ok (.ifCond .ne 5, 3) := by decide +kernel
theorem dX9_readCells_100 : decode cX9_readCells 100 = .ok (.iconst 0, 1) := by decide +kernel
theorem dX9_readCells_101 : decode cX9_readCells 101 = .ok (.ireturn, 1) := by decide +kernel
theorem dX9_readCells_102 : decode cX9_readCells 102 = .ok (.aload_n 0, 1) := by decide +kernel
theorem dX9_readCells_103 : decode cX9_readCells 103 = .ok (.bipush 99, 2) := by decide +kernel
theorem dX9_readCells_105 : decode cX9_readCells 105 = .ok (.invokevirtual 44, 3) := by decide +kernel
theorem dX9_readCells_108 : decode cX9_readCells 108 = .ok (.istore 6, 2) := by decide +kernel
theorem dX9_readCells_110 : decode cX9_readCells 110 = .ok (.iload 6, 2) := by decide +kernel
theorem dX9_readCells_112 : decode cX9_readCells 112 = .ok (.ifCond .lt 12, 3) := by decide +kernel
theorem dX9_readCells_115 : decode cX9_readCells 115 = .ok (.aload_n 0, 1) := by decide +kernel
theorem dX9_readCells_116 : decode cX9_readCells 116 = .ok (.bipush 59, 2) := by decide +kernel
theorem dX9_readCells_118 : decode cX9_readCells 118 = .ok (.invokevirtual 40, 3) := by decide +kernel
theorem dX9_readCells_121 : decode cX9_readCells 121 = .ok (.ifCond .ne 5, 3) := by decide +kernel
theorem dX9_readCells_124 : decode cX9_readCells 124 = .ok (.iconst 0, 1) := by decide +kernel
theorem dX9_readCells_125 : decode cX9_readCells 125 = .ok (.ireturn, 1) := by decide +kernel
theorem dX9_readCells_126 : decode cX9_readCells 126 = .ok (.aload_n 1, 1) := by decide +kernel
theorem dX9_readCells_127 : decode cX9_readCells 127 = .ok (.getfield 51, 3) := by decide +kernel
theorem dX9_readCells_130 : decode cX9_readCells 130 = .ok (.getfield 68, 3) := by decide +kernel
theorem dX9_readCells_133 : decode cX9_readCells 133 = .ok (.iload 5, 2) := by decide +kernel
theorem dX9_readCells_135 : decode cX9_readCells 135 = .ok (.iload 6, 2) := by decide +kernel
theorem dX9_readCells_137 : decode cX9_readCells 137 = .ok (.iastore, 1) := by decide +kernel
theorem dX9_readCells_138 : decode cX9_readCells 138 = .ok (.iinc 3 1, 3) := by decide +kernel
theorem dX9_readCells_141 : decode cX9_readCells 141 = .ok (.goto (-137), 3) := by decide +kernel
theorem dX9_readCells_144 : decode cX9_readCells 144 = .ok (.iconst 1, 1) := by decide +kernel
theorem dX9_readCells_145 : decode cX9_readCells 145 = .ok (.ireturn, 1) := by decide +kernel
theorem dX9_readPasses_0 : decode cX9_readPasses 0 = .ok (.iconst 0, 1) := by decide +kernel
theorem dX9_readPasses_1 : decode cX9_readPasses 1 = .ok (.istore_n 2, 1) := by decide +kernel
theorem dX9_readPasses_2 : decode cX9_readPasses 2 = .ok (.iload_n 2, 1) := by decide +kernel
theorem dX9_readPasses_3 : decode cX9_readPasses 3 = .ok (.iconst 4, 1) := by decide +kernel
theorem dX9_readPasses_4 : decode cX9_readPasses 4 = .ok (.if_icmp .gt 100, 3) := by decide +kernel
theorem dX9_readPasses_7 : decode cX9_readPasses 7 = .ok (.aload_n 0, 1) := by decide +kernel
theorem dX9_readPasses_8 : decode cX9_readPasses 8 = .ok (.invokevirtual 60, 3) := by decide +kernel
theorem dX9_readPasses_11 : decode cX9_readPasses 11 = .ok (.iconst (-1), 1) := by decide +kernel
theorem dX9_readPasses_12 : decode cX9_readPasses 12 = .ok (.if_icmp .eq 92, 3) := by decide +kernel
theorem dX9_readPasses_15 : decode cX9_readPasses 15 = .ok (.aload_n 0, 1) := by decide +kernel
theorem dX9_readPasses_16 : decode cX9_readPasses 16 = .ok (.invokevirtual 60, 3) := by decide +kernel
theorem dX9_readPasses_19 : decode cX9_readPasses 19 = .ok (.istore_n 3, 1) := by decide +kernel
theorem dX9_readPasses_20 : decode cX9_readPasses 20 = .ok (.iload_n 3, 1) := by decide +kernel
theorem dX9_readPasses_21 : decode cX9_readPasses 21 = .ok (.invokestatic 71, 3) := by decide +kernel
theorem dX9_readPasses_24 : decode cX9_readPasses 24 = .ok (.ifCond .ne 9, 3) := by decide +kernel
theorem dX9_readPasses_27 : decode cX9_readPasses 27 = .ok (.aload_n 0, 1) := by decide +kernel
theorem dX9_readPasses_28 : decode cX9_readPasses 28 = .ok (.iconst 1, 1) := by decide +kernel
theorem dX9_readPasses_29 : decode cX9_readPasses 29 = .ok (.invokevirtual 64, 3) := by decide +kernel
theorem dX9_readPasses_32 : decode cX9_readPasses 32 = .ok (.ireturn, 1) := by decide +kernel
theorem dX9_readPasses_33 : decode cX9_readPasses 33 = .ok (.iload_n 2, 1) := by decide +kernel
theorem dX9_readPasses_34 : decode cX9_readPasses 34 = .ok (.iconst 4, 1) := by decide +kernel
theorem dX9_readPasses_35 : decode cX9_readPasses 35 = .ok (.if_icmp .ne 9, 3) := by decide +kernel
theorem dX9_readPasses_38 : decode cX9_readPasses 38 = .ok (.aload_n 0, 1) := by decide +kernel
theorem dX9_readPasses_39 : decode cX9_readPasses 39 = .ok (.iconst 3, 1) := by decide +kernel
theorem dX9_readPasses_40 : decode cX9_readPasses 40 = .ok (.invokevirtual 64, 3) := by decide +kernel
theorem dX9_readPasses_43 : decode cX9_readPasses 43 = .ok (.ireturn, 1) := by decide +kernel
theorem dX9_readPasses_44 : decode cX9_readPasses 44 = .ok (.aload_n 0, 1) := by decide +kernel
theorem dX9_readPasses_45 : decode cX9_readPasses 45 = .ok (.dup, 1) := by decide +kernel
theorem dX9_readPasses_46 : decode cX9_readPasses 46 = .ok (.getfield 22, 3) := by decide +kernel
theorem dX9_readPasses_49 : decode cX9_readPasses 49 = .ok (.iconst 1, 1) := by decide +kernel
theorem dX9_readPasses_50 : decode cX9_readPasses 50 = .ok (.iadd, 1) := by decide +kernel
theorem dX9_readPasses_51 : decode cX9_readPasses 51 = .ok (.putfield 22, 3) := by decide +kernel
theorem dX9_readPasses_54 : decode cX9_readPasses 54 = .ok (.aload_n 0, 1) := by decide +kernel
theorem dX9_readPasses_55 : decode cX9_readPasses 55 = .ok (.invokevirtual 74, 3) := by decide +kernel
theorem dX9_readPasses_58 : decode cX9_readPasses 58 = .ok (.istore 4, 2) := by decide +kernel
theorem dX9_readPasses_60 : decode cX9_readPasses 60 = .ok (.iload 4, 2) := by decide +kernel
theorem dX9_readPasses_62 : decode cX9_readPasses 62 = .ok (.ifCond .lt 12, 3) := by decide +kernel
theorem dX9_readPasses_65 : decode cX9_readPasses 65 = .ok (.aload_n 0, 1) := by decide +kernel
theorem dX9_readPasses_66 : decode cX9_readPasses 66 = .ok (.bipush 59, 2) := by decide +kernel
theorem dX9_readPasses_68 : decode cX9_readPasses 68 = .ok (.invokevirtual 40, 3) := by decide +kernel
theorem dX9_readPasses_71 : decode cX9_readPasses 71 = .ok (.ifCond .ne 5, 3) := by decide +kernel
theorem dX9_readPasses_74 : decode cX9_readPasses 74 = .ok (.iconst 0, 1) := by decide +kernel
theorem dX9_readPasses_75 : decode cX9_readPasses 75 = .ok (.ireturn, 1) := by decide +kernel
theorem dX9_readPasses_76 : decode cX9_readPasses 76 = .ok (.aload_n 1, 1) := by decide +kernel
theorem dX9_readPasses_77 : decode cX9_readPasses 77 = .ok (.getfield 77, 3) := by decide +kernel
theorem dX9_readPasses_80 : decode cX9_readPasses 80 = .ok (.iload_n 3, 1) := by decide +kernel
theorem dX9_readPasses_81 : decode cX9_readPasses 81 = .ok (.iload_n 2, 1) := by decide +kernel
theorem dX9_readPasses_82 : decode cX9_readPasses 82 = .ok (.aload_n 0, 1) := by decide +kernel
theorem dX9_readPasses_83 : decode cX9_readPasses 83 = .ok (.getfield 15, 3) := by decide +kernel
theorem dX9_readPasses_86 : decode cX9_readPasses 86 = .ok (.iload 4, 2) := by decide +kernel
theorem dX9_readPasses_88 : decode cX9_readPasses 88 = .ok (.invokestatic 81, 3) := by decide +kernel
theorem dX9_readPasses_91 : decode cX9_readPasses 91 = .ok (.invokestatic 87, 3) := by decide +kernel
theorem dX9_readPasses_94 : decode cX9_readPasses 94 = .ok (.invokevirtual 91, 3) := by decide +kernel
theorem dX9_readPasses_97 : decode cX9_readPasses 97 = .ok (.pop, 1) := by decide +kernel
theorem dX9_readPasses_98 : decode cX9_readPasses 98 = .ok (.iinc 2 1, 3) := by decide +kernel
theorem dX9_readPasses_101 : decode cX9_readPasses 101 = .ok (.goto (-99), 3) := by decide +kernel
theorem dX9_readPasses_104 : decode cX9_readPasses 104 = .ok (.iconst 1, 1) := by decide +kernel
theorem dX9_readPasses_105 : decode cX9_readPasses 105 = .ok (.ireturn, 1) := by decide +kernel
theorem dX9_readWay_0 : decode cX9_readWay 0 = .ok (.aload_n 0, 1) := by decide +kernel
theorem dX9_readWay_1 : decode cX9_readWay 1 = .ok (.bipush 14, 2) := by decide +kernel
theorem dX9_readWay_3 : decode cX9_readWay 3 = .ok (.invokevirtual 44, 3) := by decide +kernel
theorem dX9_readWay_6 : decode cX9_readWay 6 = .ok (.istore_n 1, 1) := by decide +kernel
theorem dX9_readWay_7 : decode cX9_readWay 7 = .ok (.iload_n 1, 1) := by decide +kernel
theorem dX9_readWay_8 : decode cX9_readWay 8 = .ok (.ifCond .ge 5, 3) := by decide +kernel
theorem dX9_readWay_11 : decode cX9_readWay 11 = .ok (.iconst (-1), 1) := by decide +kernel
theorem dX9_readWay_12 : decode cX9_readWay 12 = .ok (.ireturn, 1) := by decide +kernel
theorem dX9_readWay_13 : decode cX9_readWay 13 = .ok (.aload_n 0, 1) := by decide +kernel
theorem dX9_readWay_14 : decode cX9_readWay 14 = .ok (.getfield 15, 3) := by decide +kernel
theorem dX9_readWay_17 : decode cX9_readWay 17 = .ok (.iconst 0, 1) := by decide +kernel
theorem dX9_readWay_18 : decode cX9_readWay 18 = .ok (.iload_n 1, 1) := by decide +kernel
theorem dX9_readWay_19 : decode cX9_readWay 19 = .ok (.iastore, 1) := by decide +kernel
theorem dX9_readWay_20 : decode cX9_readWay 20 = .ok (.iconst 1, 1) := by decide +kernel
theorem dX9_readWay_21 : decode cX9_readWay 21 = .ok (.istore_n 2, 1) := by decide +kernel
theorem dX9_readWay_22 : decode cX9_readWay 22 = .ok (.iload_n 2, 1) := by decide +kernel
theorem dX9_readWay_23 : decode cX9_readWay 23 = .ok (.bipush 8, 2) := by decide +kernel
theorem dX9_readWay_25 : decode cX9_readWay 25 = .ok (.if_icmp .gt 41, 3) := by decide +kernel
theorem dX9_readWay_28 : decode cX9_readWay 28 = .ok (.iload_n 1, 1) := by decide +kernel
theorem dX9_readWay_29 : decode cX9_readWay 29 = .ok (.aload_n 0, 1) := by decide +kernel
theorem dX9_readWay_30 : decode cX9_readWay 30 = .ok (.invokevirtual 60, 3) := by decide +kernel
theorem dX9_readWay_33 : decode cX9_readWay 33 = .ok (.invokestatic 97, 3) := by decide +kernel
theorem dX9_readWay_36 : decode cX9_readWay 36 = .ok (.istore_n 1, 1) := by decide +kernel
theorem dX9_readWay_37 : decode cX9_readWay 37 = .ok (.iload_n 1, 1) := by decide +kernel
theorem dX9_readWay_38 : decode cX9_readWay 38 = .ok (.ifCond .ge 5, 3) := by decide +kernel
theorem dX9_readWay_41 : decode cX9_readWay 41 = .ok (.iload_n 2, 1) := by decide +kernel
theorem dX9_readWay_42 : decode cX9_readWay 42 = .ok (.ireturn, 1) := by decide +kernel
theorem dX9_readWay_43 : decode cX9_readWay 43 = .ok (.aload_n 0, 1) := by decide +kernel
theorem dX9_readWay_44 : decode cX9_readWay 44 = .ok (.getfield 15, 3) := by decide +kernel
theorem dX9_readWay_47 : decode cX9_readWay 47 = .ok (.iload_n 2, 1) := by decide +kernel
theorem dX9_readWay_48 : decode cX9_readWay 48 = .ok (.iload_n 1, 1) := by decide +kernel
theorem dX9_readWay_49 : decode cX9_readWay 49 = .ok (.iastore, 1) := by decide +kernel
theorem dX9_readWay_50 : decode cX9_readWay 50 = .ok (.iinc 2 1, 3) := by decide +kernel
theorem dX9_readWay_53 : decode cX9_readWay 53 = .ok (.aload_n 0, 1) := by decide +kernel
theorem dX9_readWay_54 : decode cX9_readWay 54 = .ok (.dup, 1) := by decide +kernel
theorem dX9_readWay_55 : decode cX9_readWay 55 = .ok (.getfield 22, 3) := by decide +kernel
theorem dX9_readWay_58 : decode cX9_readWay 58 = .ok (.iconst 1, 1) := by decide +kernel
theorem dX9_readWay_59 : decode cX9_readWay 59 = .ok (.iadd, 1) := by decide +kernel
theorem dX9_readWay_60 : decode cX9_readWay 60 = .ok (.putfield 22, 3) := by decide +kernel
theorem dX9_readWay_63 : decode cX9_readWay 63 = .ok (.goto (-41), 3) := by decide +kernel
theorem dX9_readWay_66 : decode cX9_readWay 66 = .ok (.iload_n 2, 1) := by decide +kernel
theorem dX9_readWay_67 : decode cX9_readWay 67 = .ok (.ireturn, 1) := by decide +kernel
theorem dX9_beside_0 : decode cX9_beside 0 = .ok (.iload_n 0, 1) := by decide +kernel
theorem dX9_beside_1 : decode cX9_beside 1 = .ok (.iconst 5, 1) := by decide +kernel
theorem dX9_beside_2 : decode cX9_beside 2 = .ok (.irem, 1) := by decide +kernel
theorem dX9_beside_3 : decode cX9_beside 3 = .ok (.istore_n 2, 1) := by decide +kernel
theorem dX9_beside_4 : decode cX9_beside 4 = .ok (.iload_n 0, 1) := by decide +kernel
theorem dX9_beside_5 : decode cX9_beside 5 = .ok (.iconst 5, 1) := by decide +kernel
theorem dX9_beside_6 : decode cX9_beside 6 = .ok (.idiv, 1) := by decide +kernel
theorem dX9_beside_7 : decode cX9_beside 7 = .ok (.istore_n 3, 1) := by decide +kernel
theorem dX9_beside_8 : decode cX9_beside 8 = .ok (.iload_n 1, 1) := by decide +kernel
theorem dX9_beside_9 : decode cX9_beside 9 = .ok (.lookupswitch 93 #[(98, 80), (101, 43), (110, 68), (119, 56)], 43) := by decide +kernel
theorem dX9_beside_52 : decode cX9_beside 52 = .ok (.iload_n 2, 1) := by decide +kernel
theorem dX9_beside_53 : decode cX9_beside 53 = .ok (.iconst 4, 1) := by decide +kernel
theorem dX9_beside_54 : decode cX9_beside 54 = .ok (.if_icmp .ge 9, 3) := by decide +kernel
theorem dX9_beside_57 : decode cX9_beside 57 = .ok (.iload_n 0, 1) := by decide +kernel
theorem dX9_beside_58 : decode cX9_beside 58 = .ok (.iconst 1, 1) := by decide +kernel
theorem dX9_beside_59 : decode cX9_beside 59 = .ok (.iadd, 1) := by decide +kernel
theorem dX9_beside_60 : decode cX9_beside 60 = .ok (.goto 4, 3) := by decide +kernel
theorem dX9_beside_63 : decode cX9_beside 63 = .ok (.iconst (-1), 1) := by decide +kernel
theorem dX9_beside_64 : decode cX9_beside 64 = .ok (.ireturn, 1) := by decide +kernel
theorem dX9_beside_65 : decode cX9_beside 65 = .ok (.iload_n 2, 1) := by decide +kernel
theorem dX9_beside_66 : decode cX9_beside 66 = .ok (.ifCond .le 9, 3) := by decide +kernel
theorem dX9_beside_69 : decode cX9_beside 69 = .ok (.iload_n 0, 1) := by decide +kernel
theorem dX9_beside_70 : decode cX9_beside 70 = .ok (.iconst 1, 1) := by decide +kernel
theorem dX9_beside_71 : decode cX9_beside 71 = .ok (.isub, 1) := by decide +kernel
theorem dX9_beside_72 : decode cX9_beside 72 = .ok (.goto 4, 3) := by decide +kernel
theorem dX9_beside_75 : decode cX9_beside 75 = .ok (.iconst (-1), 1) := by decide +kernel
theorem dX9_beside_76 : decode cX9_beside 76 = .ok (.ireturn, 1) := by decide +kernel
theorem dX9_beside_77 : decode cX9_beside 77 = .ok (.iload_n 3, 1) := by decide +kernel
theorem dX9_beside_78 : decode cX9_beside 78 = .ok (.ifCond .le 9, 3) := by decide +kernel
theorem dX9_beside_81 : decode cX9_beside 81 = .ok (.iload_n 0, 1) := by decide +kernel
theorem dX9_beside_82 : decode cX9_beside 82 = .ok (.iconst 5, 1) := by decide +kernel
theorem dX9_beside_83 : decode cX9_beside 83 = .ok (.isub, 1) := by decide +kernel
theorem dX9_beside_84 : decode cX9_beside 84 = .ok (.goto 4, 3) := by decide +kernel
theorem dX9_beside_87 : decode cX9_beside 87 = .ok (.iconst (-1), 1) := by decide +kernel
theorem dX9_beside_88 : decode cX9_beside 88 = .ok (.ireturn, 1) := by decide +kernel
theorem dX9_beside_89 : decode cX9_beside 89 = .ok (.iload_n 3, 1) := by decide +kernel
theorem dX9_beside_90 : decode cX9_beside 90 = .ok (.iconst 2, 1) := by decide +kernel
theorem dX9_beside_91 : decode cX9_beside 91 = .ok (.if_icmp .ge 9, 3) := by decide +kernel
theorem dX9_beside_94 : decode cX9_beside 94 = .ok (.iload_n 0, 1) := by decide +kernel
theorem dX9_beside_95 : decode cX9_beside 95 = .ok (.iconst 5, 1) := by decide +kernel
theorem dX9_beside_96 : decode cX9_beside 96 = .ok (.iadd, 1) := by decide +kernel
theorem dX9_beside_97 : decode cX9_beside 97 = .ok (.goto 4, 3) := by decide +kernel
theorem dX9_beside_100 : decode cX9_beside 100 = .ok (.iconst (-1), 1) := by decide +kernel
theorem dX9_beside_101 : decode cX9_beside 101 = .ok (.ireturn, 1) := by decide +kernel
theorem dX9_beside_102 : decode cX9_beside 102 = .ok (.iconst (-1), 1) := by decide +kernel
theorem dX9_beside_103 : decode cX9_beside 103 = .ok (.ireturn, 1) := by decide +kernel
theorem dX9_isSort_0 : decode cX9_isSort 0 = .ok (.iload_n 0, 1) := by decide +kernel
theorem dX9_isSort_1 : decode cX9_isSort 1 = .ok (.bipush 103, 2) := by decide +kernel
theorem dX9_isSort_3 : decode cX9_isSort 3 = .ok (.if_icmp .eq 27, 3) := by decide +kernel
theorem dX9_isSort_6 : decode cX9_isSort 6 = .ok (.iload_n 0, 1) := by decide +kernel
theorem dX9_isSort_7 : decode cX9_isSort 7 = .ok (.bipush 115, 2) := by decide +kernel
theorem dX9_isSort_9 : decode cX9_isSort 9 = .ok (.if_icmp .eq 21, 3) := by decide +kernel
theorem dX9_isSort_12 : decode cX9_isSort 12 = .ok (.iload_n 0, 1) := by decide +kernel
theorem dX9_isSort_13 : decode cX9_isSort 13 = .ok (.bipush 100, 2) := by decide +kernel
theorem dX9_isSort_15 : decode cX9_isSort 15 = .ok (.if_icmp .eq 15, 3) := by decide +kernel
theorem dX9_isSort_18 : decode cX9_isSort 18 = .ok (.iload_n 0, 1) := by decide +kernel
theorem dX9_isSort_19 : decode cX9_isSort 19 = .ok (.bipush 99, 2) := by decide +kernel
theorem dX9_isSort_21 : decode cX9_isSort 21 = .ok (.if_icmp .eq 9, 3) := by decide +kernel
theorem dX9_isSort_24 : decode cX9_isSort 24 = .ok (.iload_n 0, 1) := by decide +kernel
theorem dX9_isSort_25 : decode cX9_isSort 25 = .ok (.bipush 114, 2) := by decide +kernel
theorem dX9_isSort_27 : decode cX9_isSort 27 = .ok (.if_icmp .ne 7, 3) := by decide +kernel
theorem dX9_isSort_30 : decode cX9_isSort 30 = .ok (.iconst 1, 1) := by decide +kernel
theorem dX9_isSort_31 : decode cX9_isSort 31 = .ok (.goto 4, 3) := by decide +kernel
theorem dX9_isSort_34 : decode cX9_isSort 34 = .ok (.iconst 0, 1) := by decide +kernel
theorem dX9_isSort_35 : decode cX9_isSort 35 = .ok (.ireturn, 1) := by decide +kernel
theorem dX9_newPass_0 : decode cX9_newPass 0 = .ok (.iload_n 0, 1) := by decide +kernel
theorem dX9_newPass_1 : decode cX9_newPass 1 = .ok (.lookupswitch 83 #[(99, 63), (100, 53), (114, 73), (115, 43)], 43) := by decide +kernel
theorem dX9_newPass_44 : decode cX9_newPass 44 = .ok (.new 101, 3) := by decide +kernel
theorem dX9_newPass_47 : decode cX9_newPass 47 = .ok (.dup, 1) := by decide +kernel
theorem dX9_newPass_48 : decode cX9_newPass 48 = .ok (.iload_n 1, 1) := by decide +kernel
theorem dX9_newPass_49 : decode cX9_newPass 49 = .ok (.aload_n 2, 1) := by decide +kernel
theorem dX9_newPass_50 : decode cX9_newPass 50 = .ok (.invokespecial 103, 3) := by decide +kernel
theorem dX9_newPass_53 : decode cX9_newPass 53 = .ok (.areturn, 1) := by decide +kernel
theorem dX9_newPass_54 : decode cX9_newPass 54 = .ok (.new 106, 3) := by decide +kernel
theorem dX9_newPass_57 : decode cX9_newPass 57 = .ok (.dup, 1) := by decide +kernel
theorem dX9_newPass_58 : decode cX9_newPass 58 = .ok (.iload_n 1, 1) := by decide +kernel
theorem dX9_newPass_59 : decode cX9_newPass 59 = .ok (.aload_n 2, 1) := by decide +kernel
theorem dX9_newPass_60 : decode cX9_newPass 60 = .ok (.invokespecial 108, 3) := by decide +kernel
theorem dX9_newPass_63 : decode cX9_newPass 63 = .ok (.areturn, 1) := by decide +kernel
theorem dX9_newPass_64 : decode cX9_newPass 64 = .ok (.new 109, 3) := by decide +kernel
theorem dX9_newPass_67 : decode cX9_newPass 67 = .ok (.dup, 1) := by decide +kernel
theorem dX9_newPass_68 : decode cX9_newPass 68 = .ok (.iload_n 1, 1) := by decide +kernel
theorem dX9_newPass_69 : decode cX9_newPass 69 = .ok (.aload_n 2, 1) := by decide +kernel
theorem dX9_newPass_70 : decode cX9_newPass 70 = .ok (.invokespecial 111, 3) := by decide +kernel
theorem dX9_newPass_73 : decode cX9_newPass 73 = .ok (.areturn, 1) := by decide +kernel
theorem dX9_newPass_74 : decode cX9_newPass 74 = .ok (.new 112, 3) := by decide +kernel
theorem dX9_newPass_77 : decode cX9_newPass 77 = .ok (.dup, 1) := by decide +kernel
theorem dX9_newPass_78 : decode cX9_newPass 78 = .ok (.iload_n 1, 1) := by decide +kernel
theorem dX9_newPass_79 : decode cX9_newPass 79 = .ok (.aload_n 2, 1) := by decide +kernel
theorem dX9_newPass_80 : decode cX9_newPass 80 = .ok (.invokespecial 114, 3) := by decide +kernel
theorem dX9_newPass_83 : decode cX9_newPass 83 = .ok (.areturn, 1) := by decide +kernel
theorem dX9_newPass_84 : decode cX9_newPass 84 = .ok (.new 115, 3) := by decide +kernel
theorem dX9_newPass_87 : decode cX9_newPass 87 = .ok (.dup, 1) := by decide +kernel
theorem dX9_newPass_88 : decode cX9_newPass 88 = .ok (.iload_n 1, 1) := by decide +kernel
theorem dX9_newPass_89 : decode cX9_newPass 89 = .ok (.aload_n 2, 1) := by decide +kernel
theorem dX9_newPass_90 : decode cX9_newPass 90 = .ok (.invokespecial 117, 3) := by decide +kernel
theorem dX9_newPass_93 : decode cX9_newPass 93 = .ok (.areturn, 1) := by decide +kernel
theorem dX9_next_0 : decode cX9_next 0 = .ok (.aload_n 0, 1) := by decide +kernel
theorem dX9_next_1 : decode cX9_next 1 = .ok (.getfield 22, 3) := by decide +kernel
theorem dX9_next_4 : decode cX9_next 4 = .ok (.aload_n 0, 1) := by decide +kernel
theorem dX9_next_5 : decode cX9_next 5 = .ok (.getfield 18, 3) := by decide +kernel
theorem dX9_next_8 : decode cX9_next 8 = .ok (.if_icmp .ge 15, 3) := by decide +kernel
theorem dX9_next_11 : decode cX9_next 11 = .ok (.aload_n 0, 1) := by decide +kernel
theorem dX9_next_12 : decode cX9_next 12 = .ok (.getfield 9, 3) := by decide +kernel
theorem dX9_next_15 : decode cX9_next 15 = .ok (.aload_n 0, 1) := by decide +kernel
theorem dX9_next_16 : decode cX9_next 16 = .ok (.getfield 22, 3) := by decide +kernel
theorem dX9_next_19 : decode cX9_next 19 = .ok (.iaload, 1) := by decide +kernel
theorem dX9_next_20 : decode cX9_next 20 = .ok (.goto 4, 3) := by decide +kernel
theorem dX9_next_23 : decode cX9_next 23 = .ok (.iconst (-1), 1) := by decide +kernel
theorem dX9_next_24 : decode cX9_next 24 = .ok (.ireturn, 1) := by decide +kernel
theorem dX9_readSign_0 : decode cX9_readSign 0 = .ok (.aload_n 0, 1) := by decide +kernel
theorem dX9_readSign_1 : decode cX9_readSign 1 = .ok (.invokevirtual 60, 3) := by decide +kernel
theorem dX9_readSign_4 : decode cX9_readSign 4 = .ok (.iload_n 1, 1) := by decide +kernel
theorem dX9_readSign_5 : decode cX9_readSign 5 = .ok (.if_icmp .eq 9, 3) := by decide +kernel
theorem dX9_readSign_8 : decode cX9_readSign 8 = .ok (.aload_n 0, 1) := by decide +kernel
theorem dX9_readSign_9 : decode cX9_readSign 9 = .ok (.iconst 1, 1) := by decide +kernel
theorem dX9_readSign_10 : decode cX9_readSign 10 = .ok (.invokevirtual 64, 3) := by decide +kernel
theorem dX9_readSign_13 : decode cX9_readSign 13 = .ok (.ireturn, 1) := by decide +kernel
theorem dX9_readSign_14 : decode cX9_readSign 14 = .ok (.aload_n 0, 1) := by decide +kernel
theorem dX9_readSign_15 : decode cX9_readSign 15 = .ok (.dup, 1) := by decide +kernel
theorem dX9_readSign_16 : decode cX9_readSign 16 = .ok (.getfield 22, 3) := by decide +kernel
theorem dX9_readSign_19 : decode cX9_readSign 19 = .ok (.iconst 1, 1) := by decide +kernel
theorem dX9_readSign_20 : decode cX9_readSign 20 = .ok (.iadd, 1) := by decide +kernel
theorem dX9_readSign_21 : decode cX9_readSign 21 = .ok (.putfield 22, 3) := by decide +kernel
theorem dX9_readSign_24 : decode cX9_readSign 24 = .ok (.iconst 1, 1) := by decide +kernel
theorem dX9_readSign_25 : decode cX9_readSign 25 = .ok (.ireturn, 1) := by decide +kernel
theorem dX9_readNumber_0 : decode cX9_readNumber 0 = .ok (.iconst 0, 1) := by decide +kernel
theorem dX9_readNumber_1 : decode cX9_readNumber 1 = .ok (.istore_n 2, 1) := by decide +kernel
theorem dX9_readNumber_2 : decode cX9_readNumber 2 = .ok (.iconst 0, 1) := by decide +kernel
theorem dX9_readNumber_3 : decode cX9_readNumber 3 = .ok (.istore_n 3, 1) := by decide +kernel
theorem dX9_readNumber_4 : decode cX9_readNumber 4 = .ok (.iload_n 2, 1) := by decide +kernel
theorem dX9_readNumber_5 : decode cX9_readNumber 5 = .ok (.iconst 3, 1) := by decide +kernel
theorem dX9_readNumber_6 : decode cX9_readNumber 6 = .ok (.if_icmp .ge 42, 3) := by decide +kernel
theorem dX9_readNumber_9 : decode cX9_readNumber 9 = .ok (.aload_n 0, 1) := by decide +kernel
theorem dX9_readNumber_10 : decode cX9_readNumber 10 = .ok (.aload_n 0, 1) := by decide +kernel
theorem dX9_readNumber_11 : decode cX9_readNumber 11 = .ok (.getfield 22, 3) := by decide +kernel
theorem dX9_readNumber_14 : decode cX9_readNumber 14 = .ok (.iload_n 2, 1) := by decide +kernel
theorem dX9_readNumber_15 : decode cX9_readNumber 15 = .ok (.iadd, 1) := by decide +kernel
theorem dX9_readNumber_16 : decode cX9_readNumber 16 = .ok (.invokevirtual 118, 3) := by decide +kernel
theorem dX9_readNumber_19 : decode cX9_readNumber 19 = .ok (.ifCond .eq 29, 3) := by decide +kernel
theorem dX9_readNumber_22 : decode cX9_readNumber 22 = .ok (.iload_n 3, 1) := by decide +kernel
theorem dX9_readNumber_23 : decode cX9_readNumber 23 = .ok (.bipush 10, 2) := by decide +kernel
theorem dX9_readNumber_25 : decode cX9_readNumber 25 = .ok (.imul, 1) := by decide +kernel
theorem dX9_readNumber_26 : decode cX9_readNumber 26 = .ok (.aload_n 0, 1) := by decide +kernel
theorem dX9_readNumber_27 : decode cX9_readNumber 27 = .ok (.getfield 9, 3) := by decide +kernel
theorem dX9_readNumber_30 : decode cX9_readNumber 30 = .ok (.aload_n 0, 1) := by decide +kernel
theorem dX9_readNumber_31 : decode cX9_readNumber 31 = .ok (.getfield 22, 3) := by decide +kernel
theorem dX9_readNumber_34 : decode cX9_readNumber 34 = .ok (.iload_n 2, 1) := by decide +kernel
theorem dX9_readNumber_35 : decode cX9_readNumber 35 = .ok (.iadd, 1) := by decide +kernel
theorem dX9_readNumber_36 : decode cX9_readNumber 36 = .ok (.iaload, 1) := by decide +kernel
theorem dX9_readNumber_37 : decode cX9_readNumber 37 = .ok (.iadd, 1) := by decide +kernel
theorem dX9_readNumber_38 : decode cX9_readNumber 38 = .ok (.bipush 48, 2) := by decide +kernel
theorem dX9_readNumber_40 : decode cX9_readNumber 40 = .ok (.isub, 1) := by decide +kernel
theorem dX9_readNumber_41 : decode cX9_readNumber 41 = .ok (.istore_n 3, 1) := by decide +kernel
theorem dX9_readNumber_42 : decode cX9_readNumber 42 = .ok (.iinc 2 1, 3) := by decide +kernel
theorem dX9_readNumber_45 : decode cX9_readNumber 45 = .ok (.goto (-41), 3) := by decide +kernel
theorem dX9_readNumber_48 : decode cX9_readNumber 48 = .ok (.iload_n 2, 1) := by decide +kernel
theorem dX9_readNumber_49 : decode cX9_readNumber 49 = .ok (.ifCond .eq 8, 3) := by decide +kernel
theorem dX9_readNumber_52 : decode cX9_readNumber 52 = .ok (.iload_n 2, 1) := by decide +kernel
theorem dX9_readNumber_53 : decode cX9_readNumber 53 = .ok (.iconst 2, 1) := by decide +kernel
theorem dX9_readNumber_54 : decode cX9_readNumber 54 = .ok (.if_icmp .le 11, 3) := by decide +kernel
theorem dX9_readNumber_57 : decode cX9_readNumber 57 = .ok (.aload_n 0, 1) := by decide +kernel
theorem dX9_readNumber_58 : decode cX9_readNumber 58 = .ok (.iconst 1, 1) := by decide +kernel
theorem dX9_readNumber_59 : decode cX9_readNumber 59 = .ok (.invokevirtual 64, 3) := by decide +kernel
theorem dX9_readNumber_62 : decode cX9_readNumber 62 = .ok (.pop, 1) := by decide +kernel
theorem dX9_readNumber_63 : decode cX9_readNumber 63 = .ok (.iconst (-1), 1) := by decide +kernel
theorem dX9_readNumber_64 : decode cX9_readNumber 64 = .ok (.ireturn, 1) := by decide +kernel
theorem dX9_readNumber_65 : decode cX9_readNumber 65 = .ok (.iload_n 3, 1) := by decide +kernel
theorem dX9_readNumber_66 : decode cX9_readNumber 66 = .ok (.iload_n 1, 1) := by decide +kernel
theorem dX9_readNumber_67 : decode cX9_readNumber 67 = .ok (.if_icmp .le 11, 3) := by decide +kernel
theorem dX9_readNumber_70 : decode cX9_readNumber 70 = .ok (.aload_n 0, 1) := by decide +kernel
theorem dX9_readNumber_71 : decode cX9_readNumber 71 = .ok (.iconst 2, 1) := by decide +kernel
theorem dX9_readNumber_72 : decode cX9_readNumber 72 = .ok (.invokevirtual 64, 3) := by decide +kernel
theorem dX9_readNumber_75 : decode cX9_readNumber 75 = .ok (.pop, 1) := by decide +kernel
theorem dX9_readNumber_76 : decode cX9_readNumber 76 = .ok (.iconst (-1), 1) := by decide +kernel
theorem dX9_readNumber_77 : decode cX9_readNumber 77 = .ok (.ireturn, 1) := by decide +kernel
theorem dX9_readNumber_78 : decode cX9_readNumber 78 = .ok (.aload_n 0, 1) := by decide +kernel
theorem dX9_readNumber_79 : decode cX9_readNumber 79 = .ok (.dup, 1) := by decide +kernel
theorem dX9_readNumber_80 : decode cX9_readNumber 80 = .ok (.getfield 22, 3) := by decide +kernel
theorem dX9_readNumber_83 : decode cX9_readNumber 83 = .ok (.iload_n 2, 1) := by decide +kernel
theorem dX9_readNumber_84 : decode cX9_readNumber 84 = .ok (.iadd, 1) := by decide +kernel
theorem dX9_readNumber_85 : decode cX9_readNumber 85 = .ok (.putfield 22, 3) := by decide +kernel
theorem dX9_readNumber_88 : decode cX9_readNumber 88 = .ok (.iload_n 3, 1) := by decide +kernel
theorem dX9_readNumber_89 : decode cX9_readNumber 89 = .ok (.ireturn, 1) := by decide +kernel
theorem dX9_isFigure_0 : decode cX9_isFigure 0 = .ok (.iload_n 1, 1) := by decide +kernel
theorem dX9_isFigure_1 : decode cX9_isFigure 1 = .ok (.aload_n 0, 1) := by decide +kernel
theorem dX9_isFigure_2 : decode cX9_isFigure 2 = .ok (.getfield 18, 3) := by decide +kernel
theorem dX9_isFigure_5 : decode cX9_isFigure 5 = .ok (.if_icmp .ge 29, 3) := by decide +kernel
theorem dX9_isFigure_8 : decode cX9_isFigure 8 = .ok (.aload_n 0, 1) := by decide +kernel
theorem dX9_isFigure_9 : decode cX9_isFigure 9 = .ok (.getfield 9, 3) := by decide +kernel
theorem dX9_isFigure_12 : decode cX9_isFigure 12 = .ok (.iload_n 1, 1) := by decide +kernel
theorem dX9_isFigure_13 : decode cX9_isFigure 13 = .ok (.iaload, 1) := by decide +kernel
theorem dX9_isFigure_14 : decode cX9_isFigure 14 = .ok (.bipush 48, 2) := by decide +kernel
theorem dX9_isFigure_16 : decode cX9_isFigure 16 = .ok (.if_icmp .lt 18, 3) := by decide +kernel
theorem dX9_isFigure_19 : decode cX9_isFigure 19 = .ok (.aload_n 0, 1) := by decide +kernel
theorem dX9_isFigure_20 : decode cX9_isFigure 20 = .ok (.getfield 9, 3) := by decide +kernel
theorem dX9_isFigure_23 : decode cX9_isFigure 23 = .ok (.iload_n 1, 1) := by decide +kernel
theorem dX9_isFigure_24 : decode cX9_isFigure 24 = .ok (.iaload, 1) := by decide +kernel
theorem dX9_isFigure_25 : decode cX9_isFigure 25 = .ok (.bipush 57, 2) := by decide +kernel
theorem dX9_isFigure_27 : decode cX9_isFigure 27 = .ok (.if_icmp .gt 7, 3) := by decide +kernel
theorem dX9_isFigure_30 : decode cX9_isFigure 30 = .ok (.iconst 1, 1) := by decide +kernel
theorem dX9_isFigure_31 : decode cX9_isFigure 31 = .ok (.goto 4, 3) := by decide +kernel
theorem dX9_isFigure_34 : decode cX9_isFigure 34 = .ok (.iconst 0, 1) := by decide +kernel
theorem dX9_isFigure_35 : decode cX9_isFigure 35 = .ok (.ireturn, 1) := by decide +kernel
theorem dX9_refuse_0 : decode cX9_refuse 0 = .ok (.aload_n 0, 1) := by decide +kernel
theorem dX9_refuse_1 : decode cX9_refuse 1 = .ok (.iload_n 1, 1) := by decide +kernel
theorem dX9_refuse_2 : decode cX9_refuse 2 = .ok (.putfield 121, 3) := by decide +kernel
theorem dX9_refuse_5 : decode cX9_refuse 5 = .ok (.iconst 0, 1) := by decide +kernel
theorem dX9_refuse_6 : decode cX9_refuse 6 = .ok (.ireturn, 1) := by decide +kernel
theorem dX10_init_0 : decode cX10_init 0 = .ok (.aload_n 0, 1) := by decide +kernel
theorem dX10_init_1 : decode cX10_init 1 = .ok (.invokespecial 3, 3) := by decide +kernel
theorem dX10_init_4 : decode cX10_init 4 = .ok (.aload_n 0, 1) := by decide +kernel
theorem dX10_init_5 : decode cX10_init 5 = .ok (.bipush 16, 2) := by decide +kernel
theorem dX10_init_7 : decode cX10_init 7 = .ok (.newarray .int, 2) := by decide +kernel
theorem dX10_init_9 : decode cX10_init 9 = .ok (.putfield 9, 3) := by decide +kernel
theorem dX10_init_12 : decode cX10_init 12 = .ok (.return_, 1) := by decide +kernel
theorem dX10_leave_0 : decode cX10_leave 0 = .ok (.aload_n 0, 1) := by decide +kernel
theorem dX10_leave_1 : decode cX10_leave 1 = .ok (.getfield 15, 3) := by decide +kernel
theorem dX10_leave_4 : decode cX10_leave 4 = .ok (.bipush 16, 2) := by decide +kernel
theorem dX10_leave_6 : decode cX10_leave 6 = .ok (.if_icmp .ge 23, 3) := by decide +kernel
theorem dX10_leave_9 : decode cX10_leave 9 = .ok (.aload_n 0, 1) := by decide +kernel
theorem dX10_leave_10 : decode cX10_leave 10 = .ok (.getfield 9, 3) := by decide +kernel
theorem dX10_leave_13 : decode cX10_leave 13 = .ok (.aload_n 0, 1) := by decide +kernel
theorem dX10_leave_14 : decode cX10_leave 14 = .ok (.getfield 15, 3) := by decide +kernel
theorem dX10_leave_17 : decode cX10_leave 17 = .ok (.iload_n 1, 1) := by decide +kernel
theorem dX10_leave_18 : decode cX10_leave 18 = .ok (.iastore, 1) := by decide +kernel
theorem dX10_leave_19 : decode cX10_leave 19 = .ok (.aload_n 0, 1) := by decide +kernel
theorem dX10_leave_20 : decode cX10_leave 20 = .ok (.dup, 1) := by decide +kernel
theorem dX10_leave_21 : decode cX10_leave 21 = .ok (.getfield 15, 3) := by decide +kernel
theorem dX10_leave_24 : decode cX10_leave 24 = .ok (.iconst 1, 1) := by decide +kernel
theorem dX10_leave_25 : decode cX10_leave 25 = .ok (.iadd, 1) := by decide +kernel
theorem dX10_leave_26 : decode cX10_leave 26 = .ok (.putfield 15, 3) := by decide +kernel
theorem dX10_leave_29 : decode cX10_leave 29 = .ok (.return_, 1) := by decide +kernel
theorem dX11_init_0 : decode cX11_init 0 = .ok (.aload_n 0, 1) := by decide +kernel
theorem dX11_init_1 : decode cX11_init 1 = .ok (.invokespecial 1, 3) := by decide +kernel
theorem dX11_init_4 : decode cX11_init 4 = .ok (.aload_n 0, 1) := by decide +kernel
theorem dX11_init_5 : decode cX11_init 5 = .ok (.bipush 8, 2) := by decide +kernel
theorem dX11_init_7 : decode cX11_init 7 = .ok (.anewarray 9, 3) := by decide +kernel
theorem dX11_init_10 : decode cX11_init 10 = .ok (.putfield 11, 3) := by decide +kernel
theorem dX11_init_13 : decode cX11_init 13 = .ok (.aload_n 0, 1) := by decide +kernel
theorem dX11_init_14 : decode cX11_init 14 = .ok (.new 15, 3) := by decide +kernel
theorem dX11_init_17 : decode cX11_init 17 = .ok (.dup, 1) := by decide +kernel
theorem dX11_init_18 : decode cX11_init 18 = .ok (.invokespecial 17, 3) := by decide +kernel
theorem dX11_init_21 : decode cX11_init 21 = .ok (.putfield 18, 3) := by decide +kernel
theorem dX11_init_24 : decode cX11_init 24 = .ok (.aload_n 0, 1) := by decide +kernel
theorem dX11_init_25 : decode cX11_init 25 = .ok (.iconst 2, 1) := by decide +kernel
theorem dX11_init_26 : decode cX11_init 26 = .ok (.anewarray 22, 3) := by decide +kernel
theorem dX11_init_29 : decode cX11_init 29 = .ok (.putfield 24, 3) := by decide +kernel
theorem dX11_init_32 : decode cX11_init 32 = .ok (.aload_n 0, 1) := by decide +kernel
theorem dX11_init_33 : decode cX11_init 33 = .ok (.iconst 2, 1) := by decide +kernel
theorem dX11_init_34 : decode cX11_init 34 = .ok (.newarray .boolean, 2) := by decide +kernel
theorem dX11_init_36 : decode cX11_init 36 = .ok (.putfield 28, 3) := by decide +kernel
theorem dX11_init_39 : decode cX11_init 39 = .ok (.aload_n 0, 1) := by decide +kernel
theorem dX11_init_40 : decode cX11_init 40 = .ok (.bipush 24, 2) := by decide +kernel
theorem dX11_init_42 : decode cX11_init 42 = .ok (.anewarray 32, 3) := by decide +kernel
theorem dX11_init_45 : decode cX11_init 45 = .ok (.putfield 34, 3) := by decide +kernel
theorem dX11_init_48 : decode cX11_init 48 = .ok (.aload_n 0, 1) := by decide +kernel
theorem dX11_init_49 : decode cX11_init 49 = .ok (.new 32, 3) := by decide +kernel
theorem dX11_init_52 : decode cX11_init 52 = .ok (.dup, 1) := by decide +kernel
theorem dX11_init_53 : decode cX11_init 53 = .ok (.invokespecial 38, 3) := by decide +kernel
theorem dX11_init_56 : decode cX11_init 56 = .ok (.putfield 39, 3) := by decide +kernel
theorem dX11_init_59 : decode cX11_init 59 = .ok (.aload_n 0, 1) := by decide +kernel
theorem dX11_init_60 : decode cX11_init 60 = .ok (.new 43, 3) := by decide +kernel
theorem dX11_init_63 : decode cX11_init 63 = .ok (.dup, 1) := by decide +kernel
theorem dX11_init_64 : decode cX11_init 64 = .ok (.invokespecial 45, 3) := by decide +kernel
theorem dX11_init_67 : decode cX11_init 67 = .ok (.putfield 46, 3) := by decide +kernel
theorem dX11_init_70 : decode cX11_init 70 = .ok (.aload_n 0, 1) := by decide +kernel
theorem dX11_init_71 : decode cX11_init 71 = .ok (.iconst 4, 1) := by decide +kernel
theorem dX11_init_72 : decode cX11_init 72 = .ok (.newarray .int, 2) := by decide +kernel
theorem dX11_init_74 : decode cX11_init 74 = .ok (.putfield 50, 3) := by decide +kernel
theorem dX11_init_77 : decode cX11_init 77 = .ok (.aload_n 0, 1) := by decide +kernel
theorem dX11_init_78 : decode cX11_init 78 = .ok (.iconst 4, 1) := by decide +kernel
theorem dX11_init_79 : decode cX11_init 79 = .ok (.newarray .int, 2) := by decide +kernel
theorem dX11_init_81 : decode cX11_init 81 = .ok (.putfield 54, 3) := by decide +kernel
theorem dX11_init_84 : decode cX11_init 84 = .ok (.aload_n 0, 1) := by decide +kernel
theorem dX11_init_85 : decode cX11_init 85 = .ok (.new 22, 3) := by decide +kernel
theorem dX11_init_88 : decode cX11_init 88 = .ok (.dup, 1) := by decide +kernel
theorem dX11_init_89 : decode cX11_init 89 = .ok (.invokespecial 57, 3) := by decide +kernel
theorem dX11_init_92 : decode cX11_init 92 = .ok (.putfield 58, 3) := by decide +kernel
theorem dX11_init_95 : decode cX11_init 95 = .ok (.aload_n 0, 1) := by decide +kernel
theorem dX11_init_96 : decode cX11_init 96 = .ok (.new 22, 3) := by decide +kernel
theorem dX11_init_99 : decode cX11_init 99 = .ok (.dup, 1) := by decide +kernel
theorem dX11_init_100 : decode cX11_init 100 = .ok (.invokespecial 57, 3) := by decide +kernel
theorem dX11_init_103 : decode cX11_init 103 = .ok (.putfield 62, 3) := by decide +kernel
theorem dX11_init_106 : decode cX11_init 106 = .ok (.iconst 0, 1) := by decide +kernel
theorem dX11_init_107 : decode cX11_init 107 = .ok (.istore_n 1, 1) := by decide +kernel
theorem dX11_init_108 : decode cX11_init 108 = .ok (.iload_n 1, 1) := by decide +kernel
theorem dX11_init_109 : decode cX11_init 109 = .ok (.bipush 8, 2) := by decide +kernel
theorem dX11_init_111 : decode cX11_init 111 = .ok (.if_icmp .ge 22, 3) := by decide +kernel
theorem dX11_init_114 : decode cX11_init 114 = .ok (.aload_n 0, 1) := by decide +kernel
theorem dX11_init_115 : decode cX11_init 115 = .ok (.getfield 11, 3) := by decide +kernel
theorem dX11_init_118 : decode cX11_init 118 = .ok (.iload_n 1, 1) := by decide +kernel
theorem dX11_init_119 : decode cX11_init 119 = .ok (.new 9, 3) := by decide +kernel
theorem dX11_init_122 : decode cX11_init 122 = .ok (.dup, 1) := by decide +kernel
theorem dX11_init_123 : decode cX11_init 123 = .ok (.invokespecial 65, 3) := by decide +kernel
theorem dX11_init_126 : decode cX11_init 126 = .ok (.aastore, 1) := by decide +kernel
theorem dX11_init_127 : decode cX11_init 127 = .ok (.iinc 1 1, 3) := by decide +kernel
theorem dX11_init_130 : decode cX11_init 130 = .ok (.goto (-22), 3) := by decide +kernel
theorem dX11_init_133 : decode cX11_init 133 = .ok (.iconst 0, 1) := by decide +kernel
theorem dX11_init_134 : decode cX11_init 134 = .ok (.istore_n 1, 1) := by decide +kernel
theorem dX11_init_135 : decode cX11_init 135 = .ok (.iload_n 1, 1) := by decide +kernel
theorem dX11_init_136 : decode cX11_init 136 = .ok (.iconst 2, 1) := by decide +kernel
theorem dX11_init_137 : decode cX11_init 137 = .ok (.if_icmp .ge 22, 3) := by decide +kernel
theorem dX11_init_140 : decode cX11_init 140 = .ok (.aload_n 0, 1) := by decide +kernel
theorem dX11_init_141 : decode cX11_init 141 = .ok (.getfield 24, 3) := by decide +kernel
theorem dX11_init_144 : decode cX11_init 144 = .ok (.iload_n 1, 1) := by decide +kernel
theorem dX11_init_145 : decode cX11_init 145 = .ok (.new 22, 3) := by decide +kernel
theorem dX11_init_148 : decode cX11_init 148 = .ok (.dup, 1) := by decide +kernel
theorem dX11_init_149 : decode cX11_init 149 = .ok (.invokespecial 57, 3) := by decide +kernel
theorem dX11_init_152 : decode cX11_init 152 = .ok (.aastore, 1) := by decide +kernel
theorem dX11_init_153 : decode cX11_init 153 = .ok (.iinc 1 1, 3) := by decide +kernel
theorem dX11_init_156 : decode cX11_init 156 = .ok (.goto (-21), 3) := by decide +kernel
theorem dX11_init_159 : decode cX11_init 159 = .ok (.iconst 0, 1) := by decide +kernel
theorem dX11_init_160 : decode cX11_init 160 = .ok (.istore_n 1, 1) := by decide +kernel
theorem dX11_init_161 : decode cX11_init 161 = .ok (.iload_n 1, 1) := by decide +kernel
theorem dX11_init_162 : decode cX11_init 162 = .ok (.bipush 24, 2) := by decide +kernel
theorem dX11_init_164 : decode cX11_init 164 = .ok (.if_icmp .ge 22, 3) := by decide +kernel
theorem dX11_init_167 : decode cX11_init 167 = .ok (.aload_n 0, 1) := by decide +kernel
theorem dX11_init_168 : decode cX11_init 168 = .ok (.getfield 34, 3) := by decide +kernel
theorem dX11_init_171 : decode cX11_init 171 = .ok (.iload_n 1, 1) := by decide +kernel
theorem dX11_init_172 : decode cX11_init 172 = .ok (.new 32, 3) := by decide +kernel
theorem dX11_init_175 : decode cX11_init 175 = .ok (.dup, 1) := by decide +kernel
theorem dX11_init_176 : decode cX11_init 176 = .ok (.invokespecial 38, 3) := by decide +kernel
theorem dX11_init_179 : decode cX11_init 179 = .ok (.aastore, 1) := by decide +kernel
theorem dX11_init_180 : decode cX11_init 180 = .ok (.iinc 1 1, 3) := by decide +kernel
theorem dX11_init_183 : decode cX11_init 183 = .ok (.goto (-22), 3) := by decide +kernel
theorem dX11_init_186 : decode cX11_init 186 = .ok (.return_, 1) := by decide +kernel
theorem dX11_row_0 : decode cX11_row 0 = .ok (.iload_n 1, 1) := by decide +kernel
theorem dX11_row_1 : decode cX11_row 1 = .ok (.invokestatic 66, 3) := by decide +kernel
theorem dX11_row_4 : decode cX11_row 4 = .ok (.ifCond .eq 18, 3) := by decide +kernel
theorem dX11_row_7 : decode cX11_row 7 = .ok (.iload_n 2, 1) := by decide +kernel
theorem dX11_row_8 : decode cX11_row 8 = .ok (.iconst 0, 1) := by decide +kernel
theorem dX11_row_9 : decode cX11_row 9 = .ok (.iconst 2, 1) := by decide +kernel
theorem dX11_row_10 : decode cX11_row 10 = .ok (.invokestatic 70, 3) := by decide +kernel
theorem dX11_row_13 : decode cX11_row 13 = .ok (.ifCond .eq 9, 3) := by decide +kernel
theorem dX11_row_16 : decode cX11_row 16 = .ok (.iload_n 3, 1) := by decide +kernel
theorem dX11_row_17 : decode cX11_row 17 = .ok (.bipush 40, 2) := by decide +kernel
theorem dX11_row_19 : decode cX11_row 19 = .ok (.if_icmp .le 6, 3) := by decide +kernel
theorem dX11_row_22 : decode cX11_row 22 = .ok (.ldc 74, 2) := by decide +kernel
theorem dX11_row_24 : decode cX11_row 24 = .ok (.ireturn, 1) := by decide +kernel
theorem dX11_row_25 : decode cX11_row 25 = .ok (.iload_n 3, 1) := by decide +kernel
theorem dX11_row_26 : decode cX11_row 26 = .ok (.ifCond .ge 9, 3) := by decide +kernel
theorem dX11_row_29 : decode cX11_row 29 = .ok (.aload_n 0, 1) := by decide +kernel
theorem dX11_row_30 : decode cX11_row 30 = .ok (.iconst 4, 1) := by decide +kernel
theorem dX11_row_31 : decode cX11_row 31 = .ok (.invokevirtual 75, 3) := by decide +kernel
theorem dX11_row_34 : decode cX11_row 34 = .ok (.ireturn, 1) := by decide +kernel
theorem dX11_row_35 : decode cX11_row 35 = .ok (.aload_n 0, 1) := by decide +kernel
theorem dX11_row_36 : decode cX11_row 36 = .ok (.getfield 11, 3) := by decide +kernel
theorem dX11_row_39 : decode cX11_row 39 = .ok (.iload_n 1, 1) := by decide +kernel
theorem dX11_row_40 : decode cX11_row 40 = .ok (.aaload, 1) := by decide +kernel
theorem dX11_row_41 : decode cX11_row 41 = .ok (.iload_n 2, 1) := by decide +kernel
theorem dX11_row_42 : decode cX11_row 42 = .ok (.iload_n 3, 1) := by decide +kernel
theorem dX11_row_43 : decode cX11_row 43 = .ok (.invokevirtual 79, 3) := by decide +kernel
theorem dX11_row_46 : decode cX11_row 46 = .ok (.aload_n 0, 1) := by decide +kernel
theorem dX11_row_47 : decode cX11_row 47 = .ok (.iload_n 3, 1) := by decide +kernel
theorem dX11_row_48 : decode cX11_row 48 = .ok (.invokevirtual 83, 3) := by decide +kernel
theorem dX11_row_51 : decode cX11_row 51 = .ok (.ireturn, 1) := by decide +kernel
theorem dX11_set_0 : decode cX11_set 0 = .ok (.iload_n 1, 1) := by decide +kernel
theorem dX11_set_1 : decode cX11_set 1 = .ok (.invokestatic 66, 3) := by decide +kernel
theorem dX11_set_4 : decode cX11_set 4 = .ok (.ifCond .ne 6, 3) := by decide +kernel
theorem dX11_set_7 : decode cX11_set 7 = .ok (.ldc 74, 2) := by decide +kernel
theorem dX11_set_9 : decode cX11_set 9 = .ok (.ireturn, 1) := by decide +kernel
theorem dX11_set_10 : decode cX11_set 10 = .ok (.aload_n 0, 1) := by decide +kernel
theorem dX11_set_11 : decode cX11_set 11 = .ok (.getfield 11, 3) := by decide +kernel
theorem dX11_set_14 : decode cX11_set 14 = .ok (.iload_n 1, 1) := by decide +kernel
theorem dX11_set_15 : decode cX11_set 15 = .ok (.aaload, 1) := by decide +kernel
theorem dX11_set_16 : decode cX11_set 16 = .ok (.astore 4, 2) := by decide +kernel
theorem dX11_set_18 : decode cX11_set 18 = .ok (.aload 4, 2) := by decide +kernel
theorem dX11_set_20 : decode cX11_set 20 = .ok (.invokevirtual 86, 3) := by decide +kernel
theorem dX11_set_23 : decode cX11_set 23 = .ok (.ifCond .eq 9, 3) := by decide +kernel
theorem dX11_set_26 : decode cX11_set 26 = .ok (.aload_n 0, 1) := by decide +kernel
theorem dX11_set_27 : decode cX11_set 27 = .ok (.iconst 1, 1) := by decide +kernel
theorem dX11_set_28 : decode cX11_set 28 = .ok (.invokevirtual 75, 3) := by decide +kernel
theorem dX11_set_31 : decode cX11_set 31 = .ok (.ireturn, 1) := by decide +kernel
theorem dX11_set_32 : decode cX11_set 32 = .ok (.aload 4, 2) := by decide +kernel
theorem dX11_set_34 : decode cX11_set 34 = .ok (.iload_n 2, 1) := by decide +kernel
theorem dX11_set_35 : decode cX11_set 35 = .ok (.iconst 1, 1) := by decide +kernel
theorem dX11_set_36 : decode cX11_set 36 = .ok (.invokevirtual 90, 3) := by decide +kernel
theorem dX11_set_39 : decode cX11_set 39 = .ok (.ifCond .ne 9, 3) := by decide +kernel
theorem dX11_set_42 : decode cX11_set 42 = .ok (.aload_n 0, 1) := by decide +kernel
theorem dX11_set_43 : decode cX11_set 43 = .ok (.iconst 2, 1) := by decide +kernel
theorem dX11_set_44 : decode cX11_set 44 = .ok (.invokevirtual 75, 3) := by decide +kernel
theorem dX11_set_47 : decode cX11_set 47 = .ok (.ireturn, 1) := by decide +kernel
theorem dX11_set_48 : decode cX11_set 48 = .ok (.aload_n 0, 1) := by decide +kernel
theorem dX11_set_49 : decode cX11_set 49 = .ok (.aload 4, 2) := by decide +kernel
theorem dX11_set_51 : decode cX11_set 51 = .ok (.iload_n 2, 1) := by decide +kernel
theorem dX11_set_52 : decode cX11_set 52 = .ok (.iload_n 3, 1) := by decide +kernel
theorem dX11_set_53 : decode cX11_set 53 = .ok (.invokevirtual 94, 3) := by decide +kernel
theorem dX11_set_56 : decode cX11_set 56 = .ok (.invokevirtual 83, 3) := by decide +kernel
theorem dX11_set_59 : decode cX11_set 59 = .ok (.ireturn, 1) := by decide +kernel
theorem dX11_copy_0 : decode cX11_copy 0 = .ok (.iload_n 1, 1) := by decide +kernel
theorem dX11_copy_1 : decode cX11_copy 1 = .ok (.invokestatic 66, 3) := by decide +kernel
theorem dX11_copy_4 : decode cX11_copy 4 = .ok (.ifCond .eq 10, 3) := by decide +kernel
theorem dX11_copy_7 : decode cX11_copy 7 = .ok (.iload_n 3, 1) := by decide +kernel
theorem dX11_copy_8 : decode cX11_copy 8 = .ok (.invokestatic 66, 3) := by decide +kernel
theorem dX11_copy_11 : decode cX11_copy 11 = .ok (.ifCond .ne 6, 3) := by decide +kernel
theorem dX11_copy_14 : decode cX11_copy 14 = .ok (.ldc 74, 2) := by decide +kernel
theorem dX11_copy_16 : decode cX11_copy 16 = .ok (.ireturn, 1) := by decide +kernel
theorem dX11_copy_17 : decode cX11_copy 17 = .ok (.aload_n 0, 1) := by decide +kernel
theorem dX11_copy_18 : decode cX11_copy 18 = .ok (.getfield 11, 3) := by decide +kernel
theorem dX11_copy_21 : decode cX11_copy 21 = .ok (.iload_n 1, 1) := by decide +kernel
theorem dX11_copy_22 : decode cX11_copy 22 = .ok (.aaload, 1) := by decide +kernel
theorem dX11_copy_23 : decode cX11_copy 23 = .ok (.astore 6, 2) := by decide +kernel
theorem dX11_copy_25 : decode cX11_copy 25 = .ok (.aload_n 0, 1) := by decide +kernel
theorem dX11_copy_26 : decode cX11_copy 26 = .ok (.getfield 11, 3) := by decide +kernel
theorem dX11_copy_29 : decode cX11_copy 29 = .ok (.iload_n 3, 1) := by decide +kernel
theorem dX11_copy_30 : decode cX11_copy 30 = .ok (.aaload, 1) := by decide +kernel
theorem dX11_copy_31 : decode cX11_copy 31 = .ok (.astore 7, 2) := by decide +kernel
theorem dX11_copy_33 : decode cX11_copy 33 = .ok (.aload 6, 2) := by decide +kernel
theorem dX11_copy_35 : decode cX11_copy 35 = .ok (.invokevirtual 86, 3) := by decide +kernel
theorem dX11_copy_38 : decode cX11_copy 38 = .ok (.ifCond .ne 11, 3) := by decide +kernel
theorem dX11_copy_41 : decode cX11_copy 41 = .ok (.aload 7, 2) := by decide +kernel
theorem dX11_copy_43 : decode cX11_copy 43 = .ok (.invokevirtual 86, 3) := by decide +kernel
theorem dX11_copy_46 : decode cX11_copy 46 = .ok (.ifCond .eq 9, 3) := by decide +kernel
theorem dX11_copy_49 : decode cX11_copy 49 = .ok (.aload_n 0, 1) := by decide +kernel
theorem dX11_copy_50 : decode cX11_copy 50 = .ok (.iconst 1, 1) := by decide +kernel
theorem dX11_copy_51 : decode cX11_copy 51 = .ok (.invokevirtual 75, 3) := by decide +kernel
theorem dX11_copy_54 : decode cX11_copy 54 = .ok (.ireturn, 1) := by decide +kernel
theorem dX11_copy_55 : decode cX11_copy 55 = .ok (.aload 6, 2) := by decide +kernel
theorem dX11_copy_57 : decode cX11_copy 57 = .ok (.getfield 98, 3) := by decide +kernel
theorem dX11_copy_60 : decode cX11_copy 60 = .ok (.aload 7, 2) := by decide +kernel
theorem dX11_copy_62 : decode cX11_copy 62 = .ok (.getfield 98, 3) := by decide +kernel
theorem dX11_copy_65 : decode cX11_copy 65 = .ok (.if_icmp .eq 9, 3) := by decide +kernel
theorem dX11_copy_68 : decode cX11_copy 68 = .ok (.aload_n 0, 1) := by decide +kernel
theorem dX11_copy_69 : decode cX11_copy 69 = .ok (.iconst 5, 1) := by decide +kernel
theorem dX11_copy_70 : decode cX11_copy 70 = .ok (.invokevirtual 75, 3) := by decide +kernel
theorem dX11_copy_73 : decode cX11_copy 73 = .ok (.ireturn, 1) := by decide +kernel
theorem dX11_copy_74 : decode cX11_copy 74 = .ok (.aload 6, 2) := by decide +kernel
theorem dX11_copy_76 : decode cX11_copy 76 = .ok (.iload_n 2, 1) := by decide +kernel
theorem dX11_copy_77 : decode cX11_copy 77 = .ok (.iload 5, 2) := by decide +kernel
theorem dX11_copy_79 : decode cX11_copy 79 = .ok (.invokevirtual 90, 3) := by decide +kernel
theorem dX11_copy_82 : decode cX11_copy 82 = .ok (.ifCond .eq 15, 3) := by decide +kernel
theorem dX11_copy_85 : decode cX11_copy 85 = .ok (.aload 7, 2) := by decide +kernel
theorem dX11_copy_87 : decode cX11_copy 87 = .ok (.iload 4, 2) := by decide +kernel
theorem dX11_copy_89 : decode cX11_copy 89 = .ok (.iload 5, 2) := by decide +kernel
theorem dX11_copy_91 : decode cX11_copy 91 = .ok (.invokevirtual 90, 3) := by decide +kernel
theorem dX11_copy_94 : decode cX11_copy 94 = .ok (.ifCond .ne 9, 3) := by decide +kernel
theorem dX11_copy_97 : decode cX11_copy 97 = .ok (.aload_n 0, 1) := by decide +kernel
theorem dX11_copy_98 : decode cX11_copy 98 = .ok (.iconst 2, 1) := by decide +kernel
theorem dX11_copy_99 : decode cX11_copy 99 = .ok (.invokevirtual 75, 3) := by decide +kernel
theorem dX11_copy_102 : decode cX11_copy 102 = .ok (.ireturn, 1) := by decide +kernel
theorem dX11_copy_103 : decode cX11_copy 103 = .ok (.aload 6, 2) := by decide +kernel
theorem dX11_copy_105 : decode cX11_copy 105 = .ok (.getfield 102, 3) := by decide +kernel
theorem dX11_copy_108 : decode cX11_copy 108 = .ok (.iload_n 2, 1) := by decide +kernel
theorem dX11_copy_109 : decode cX11_copy 109 = .ok (.aload 7, 2) := by decide +kernel
theorem dX11_copy_111 : decode cX11_copy 111 = .ok (.getfield 102, 3) := by decide +kernel
theorem dX11_copy_114 : decode cX11_copy 114 = .ok (.iload 4, 2) := by decide +kernel
theorem dX11_copy_116 : decode cX11_copy 116 = .ok (.iload 5, 2) := by decide +kernel
theorem dX11_copy_118 : decode cX11_copy 118 = .ok (.invokestatic 105, 3) := by decide +kernel
theorem dX11_copy_121 : decode cX11_copy 121 = .ok (.aload_n 0, 1) := by decide +kernel
theorem dX11_copy_122 : decode cX11_copy 122 = .ok (.iload 5, 2) := by decide +kernel
theorem dX11_copy_124 : decode cX11_copy 124 = .ok (.invokevirtual 83, 3) := by decide +kernel
theorem dX11_copy_127 : decode cX11_copy 127 = .ok (.ireturn, 1) := by decide +kernel
theorem dX11_drop_0 : decode cX11_drop 0 = .ok (.iload_n 1, 1) := by decide +kernel
theorem dX11_drop_1 : decode cX11_drop 1 = .ok (.invokestatic 66, 3) := by decide +kernel
theorem dX11_drop_4 : decode cX11_drop 4 = .ok (.ifCond .ne 6, 3) := by decide +kernel
theorem dX11_drop_7 : decode cX11_drop 7 = .ok (.ldc 74, 2) := by decide +kernel
theorem dX11_drop_9 : decode cX11_drop 9 = .ok (.ireturn, 1) := by decide +kernel
theorem dX11_drop_10 : decode cX11_drop 10 = .ok (.aload_n 0, 1) := by decide +kernel
theorem dX11_drop_11 : decode cX11_drop 11 = .ok (.getfield 11, 3) := by decide +kernel
theorem dX11_drop_14 : decode cX11_drop 14 = .ok (.iload_n 1, 1) := by decide +kernel
theorem dX11_drop_15 : decode cX11_drop 15 = .ok (.aaload, 1) := by decide +kernel
theorem dX11_drop_16 : decode cX11_drop 16 = .ok (.astore_n 2, 1) := by decide +kernel
theorem dX11_drop_17 : decode cX11_drop 17 = .ok (.aload_n 2, 1) := by decide +kernel
theorem dX11_drop_18 : decode cX11_drop 18 = .ok (.invokevirtual 86, 3) := by decide +kernel
theorem dX11_drop_21 : decode cX11_drop 21 = .ok (.ifCond .eq 9, 3) := by decide +kernel
theorem dX11_drop_24 : decode cX11_drop 24 = .ok (.aload_n 0, 1) := by decide +kernel
theorem dX11_drop_25 : decode cX11_drop 25 = .ok (.iconst 1, 1) := by decide +kernel
theorem dX11_drop_26 : decode cX11_drop 26 = .ok (.invokevirtual 75, 3) := by decide +kernel
theorem dX11_drop_29 : decode cX11_drop 29 = .ok (.ireturn, 1) := by decide +kernel
theorem dX11_drop_30 : decode cX11_drop 30 = .ok (.aload_n 2, 1) := by decide +kernel
theorem dX11_drop_31 : decode cX11_drop 31 = .ok (.getfield 111, 3) := by decide +kernel
theorem dX11_drop_34 : decode cX11_drop 34 = .ok (.istore_n 3, 1) := by decide +kernel
theorem dX11_drop_35 : decode cX11_drop 35 = .ok (.aload_n 2, 1) := by decide +kernel
theorem dX11_drop_36 : decode cX11_drop 36 = .ok (.iconst (-1), 1) := by decide +kernel
theorem dX11_drop_37 : decode cX11_drop 37 = .ok (.putfield 111, 3) := by decide +kernel
theorem dX11_drop_40 : decode cX11_drop 40 = .ok (.aload_n 0, 1) := by decide +kernel
theorem dX11_drop_41 : decode cX11_drop 41 = .ok (.iload_n 3, 1) := by decide +kernel
theorem dX11_drop_42 : decode cX11_drop 42 = .ok (.invokevirtual 83, 3) := by decide +kernel
theorem dX11_drop_45 : decode cX11_drop 45 = .ok (.ireturn, 1) := by decide +kernel
theorem dX11_feed_0 : decode cX11_feed 0 = .ok (.iload_n 1, 1) := by decide +kernel
theorem dX11_feed_1 : decode cX11_feed 1 = .ok (.iconst 0, 1) := by decide +kernel
theorem dX11_feed_2 : decode cX11_feed 2 = .ok (.sipush 255, 3) := by decide +kernel
theorem dX11_feed_5 : decode cX11_feed 5 = .ok (.invokestatic 70, 3) := by decide +kernel
theorem dX11_feed_8 : decode cX11_feed 8 = .ok (.ifCond .ne 6, 3) := by decide +kernel
theorem dX11_feed_11 : decode cX11_feed 11 = .ok (.ldc 74, 2) := by decide +kernel
theorem dX11_feed_13 : decode cX11_feed 13 = .ok (.ireturn, 1) := by decide +kernel
theorem dX11_feed_14 : decode cX11_feed 14 = .ok (.aload_n 0, 1) := by decide +kernel
theorem dX11_feed_15 : decode cX11_feed 15 = .ok (.getfield 18, 3) := by decide +kernel
theorem dX11_feed_18 : decode cX11_feed 18 = .ok (.iload_n 1, 1) := by decide +kernel
theorem dX11_feed_19 : decode cX11_feed 19 = .ok (.invokevirtual 114, 3) := by decide +kernel
theorem dX11_feed_22 : decode cX11_feed 22 = .ok (.ifCond .eq 13, 3) := by decide +kernel
theorem dX11_feed_25 : decode cX11_feed 25 = .ok (.aload_n 0, 1) := by decide +kernel
theorem dX11_feed_26 : decode cX11_feed 26 = .ok (.getfield 18, 3) := by decide +kernel
theorem dX11_feed_29 : decode cX11_feed 29 = .ok (.getfield 117, 3) := by decide +kernel
theorem dX11_feed_32 : decode cX11_feed 32 = .ok (.goto 5, 3) := by decide +kernel
theorem dX11_feed_35 : decode cX11_feed 35 = .ok (.ldc 118, 2) := by decide +kernel
theorem dX11_feed_37 : decode cX11_feed 37 = .ok (.ireturn, 1) := by decide +kernel
theorem dX11_table_0 : decode cX11_table 0 = .ok (.aload_n 0, 1) := by decide +kernel
theorem dX11_table_1 : decode cX11_table 1 = .ok (.getfield 18, 3) := by decide +kernel
theorem dX11_table_4 : decode cX11_table 4 = .ok (.aload_n 0, 1) := by decide +kernel
theorem dX11_table_5 : decode cX11_table 5 = .ok (.getfield 62, 3) := by decide +kernel
theorem dX11_table_8 : decode cX11_table 8 = .ok (.invokevirtual 119, 3) := by decide +kernel
theorem dX11_table_11 : decode cX11_table 11 = .ok (.istore_n 1, 1) := by decide +kernel
theorem dX11_table_12 : decode cX11_table 12 = .ok (.aload_n 0, 1) := by decide +kernel
theorem dX11_table_13 : decode cX11_table 13 = .ok (.getfield 18, 3) := by decide +kernel
theorem dX11_table_16 : decode cX11_table 16 = .ok (.iconst 0, 1) := by decide +kernel
theorem dX11_table_17 : decode cX11_table 17 = .ok (.putfield 117, 3) := by decide +kernel
theorem dX11_table_20 : decode cX11_table 20 = .ok (.iload_n 1, 1) := by decide +kernel
theorem dX11_table_21 : decode cX11_table 21 = .ok (.ifCond .ne 25, 3) := by decide +kernel
theorem dX11_table_24 : decode cX11_table 24 = .ok (.aload_n 0, 1) := by decide +kernel
theorem dX11_table_25 : decode cX11_table 25 = .ok (.aload_n 0, 1) := by decide +kernel
theorem dX11_table_26 : decode cX11_table 26 = .ok (.getfield 18, 3) := by decide +kernel
theorem dX11_table_29 : decode cX11_table 29 = .ok (.getfield 123, 3) := by decide +kernel
theorem dX11_table_32 : decode cX11_table 32 = .ok (.putfield 126, 3) := by decide +kernel
theorem dX11_table_35 : decode cX11_table 35 = .ok (.ldc 129, 2) := by decide +kernel
theorem dX11_table_37 : decode cX11_table 37 = .ok (.aload_n 0, 1) := by decide +kernel
theorem dX11_table_38 : decode cX11_table 38 = .ok (.getfield 18, 3) := by decide +kernel
theorem dX11_table_41 : decode cX11_table 41 = .ok (.getfield 130, 3) := by decide +kernel
theorem dX11_table_44 : decode cX11_table 44 = .ok (.isub, 1) := by decide +kernel
theorem dX11_table_45 : decode cX11_table 45 = .ok (.ireturn, 1) := by decide +kernel
theorem dX11_table_46 : decode cX11_table 46 = .ok (.aload_n 0, 1) := by decide +kernel
theorem dX11_table_47 : decode cX11_table 47 = .ok (.getfield 58, 3) := by decide +kernel
theorem dX11_table_50 : decode cX11_table 50 = .ok (.astore_n 2, 1) := by decide +kernel
theorem dX11_table_51 : decode cX11_table 51 = .ok (.aload_n 0, 1) := by decide +kernel
theorem dX11_table_52 : decode cX11_table 52 = .ok (.aload_n 0, 1) := by decide +kernel
theorem dX11_table_53 : decode cX11_table 53 = .ok (.getfield 62, 3) := by decide +kernel
theorem dX11_table_56 : decode cX11_table 56 = .ok (.putfield 58, 3) := by decide +kernel
theorem dX11_table_59 : decode cX11_table 59 = .ok (.aload_n 0, 1) := by decide +kernel
theorem dX11_table_60 : decode cX11_table 60 = .ok (.aload_n 2, 1) := by decide +kernel
theorem dX11_table_61 : decode cX11_table 61 = .ok (.putfield 62, 3) := by decide +kernel
theorem dX11_table_64 : decode cX11_table 64 = .ok (.aload_n 0, 1) := by decide +kernel
theorem dX11_table_65 : decode cX11_table 65 = .ok (.iconst 1, 1) := by decide +kernel
theorem dX11_table_66 : decode cX11_table 66 = .ok (.putfield 133, 3) := by decide +kernel
theorem dX11_table_69 : decode cX11_table 69 = .ok (.aload_n 0, 1) := by decide +kernel
theorem dX11_table_70 : decode cX11_table 70 = .ok (.invokevirtual 137, 3) := by decide +kernel
theorem dX11_table_73 : decode cX11_table 73 = .ok (.aload_n 0, 1) := by decide +kernel
theorem dX11_table_74 : decode cX11_table 74 = .ok (.getfield 58, 3) := by decide +kernel
theorem dX11_table_77 : decode cX11_table 77 = .ok (.getfield 140, 3) := by decide +kernel
theorem dX11_table_80 : decode cX11_table 80 = .ok (.invokevirtual 144, 3) := by decide +kernel
theorem dX11_table_83 : decode cX11_table 83 = .ok (.ireturn, 1) := by decide +kernel
theorem dX11_fault_0 : decode cX11_fault 0 = .ok (.aload_n 0, 1) := by decide +kernel
theorem dX11_fault_1 : decode cX11_fault 1 = .ok (.getfield 126, 3) := by decide +kernel
theorem dX11_fault_4 : decode cX11_fault 4 = .ok (.ireturn, 1) := by decide +kernel
theorem dX11_undo_0 : decode cX11_undo 0 = .ok (.aload_n 0, 1) := by decide +kernel
theorem dX11_undo_1 : decode cX11_undo 1 = .ok (.getfield 150, 3) := by decide +kernel
theorem dX11_undo_4 : decode cX11_undo 4 = .ok (.ifCond .ne 6, 3) := by decide +kernel
theorem dX11_undo_7 : decode cX11_undo 7 = .ok (.ldc 153, 2) := by decide +kernel
theorem dX11_undo_9 : decode cX11_undo 9 = .ok (.ireturn, 1) := by decide +kernel
theorem dX11_undo_10 : decode cX11_undo 10 = .ok (.aload_n 0, 1) := by decide +kernel
theorem dX11_undo_11 : decode cX11_undo 11 = .ok (.aload_n 0, 1) := by decide +kernel
theorem dX11_undo_12 : decode cX11_undo 12 = .ok (.getfield 154, 3) := by decide +kernel
theorem dX11_undo_15 : decode cX11_undo 15 = .ok (.bipush 24, 2) := by decide +kernel
theorem dX11_undo_17 : decode cX11_undo 17 = .ok (.iadd, 1) := by decide +kernel
theorem dX11_undo_18 : decode cX11_undo 18 = .ok (.iconst 1, 1) := by decide +kernel
theorem dX11_undo_19 : decode cX11_undo 19 = .ok (.isub, 1) := by decide +kernel
theorem dX11_undo_20 : decode cX11_undo 20 = .ok (.bipush 24, 2) := by decide +kernel
theorem dX11_undo_22 : decode cX11_undo 22 = .ok (.irem, 1) := by decide +kernel
theorem dX11_undo_23 : decode cX11_undo 23 = .ok (.putfield 154, 3) := by decide +kernel
theorem dX11_undo_26 : decode cX11_undo 26 = .ok (.aload_n 0, 1) := by decide +kernel
theorem dX11_undo_27 : decode cX11_undo 27 = .ok (.dup, 1) := by decide +kernel
theorem dX11_undo_28 : decode cX11_undo 28 = .ok (.getfield 150, 3) := by decide +kernel
theorem dX11_undo_31 : decode cX11_undo 31 = .ok (.iconst 1, 1) := by decide +kernel
theorem dX11_undo_32 : decode cX11_undo 32 = .ok (.isub, 1) := by decide +kernel
theorem dX11_undo_33 : decode cX11_undo 33 = .ok (.putfield 150, 3) := by decide +kernel
theorem dX11_undo_36 : decode cX11_undo 36 = .ok (.aload_n 0, 1) := by decide +kernel
theorem dX11_undo_37 : decode cX11_undo 37 = .ok (.getfield 58, 3) := by decide +kernel
theorem dX11_undo_40 : decode cX11_undo 40 = .ok (.getfield 157, 3) := by decide +kernel
theorem dX11_undo_43 : decode cX11_undo 43 = .ok (.aload_n 0, 1) := by decide +kernel
theorem dX11_undo_44 : decode cX11_undo 44 = .ok (.getfield 34, 3) := by decide +kernel
theorem dX11_undo_47 : decode cX11_undo 47 = .ok (.aload_n 0, 1) := by decide +kernel
theorem dX11_undo_48 : decode cX11_undo 48 = .ok (.getfield 154, 3) := by decide +kernel
theorem dX11_undo_51 : decode cX11_undo 51 = .ok (.aaload, 1) := by decide +kernel
theorem dX11_undo_52 : decode cX11_undo 52 = .ok (.invokevirtual 160, 3) := by decide +kernel
theorem dX11_undo_55 : decode cX11_undo 55 = .ok (.aload_n 0, 1) := by decide +kernel
theorem dX11_undo_56 : decode cX11_undo 56 = .ok (.getfield 150, 3) := by decide +kernel
theorem dX11_undo_59 : decode cX11_undo 59 = .ok (.ireturn, 1) := by decide +kernel
theorem dX11_charge_0 : decode cX11_charge 0 = .ok (.aload_n 0, 1) := by decide +kernel
theorem dX11_charge_1 : decode cX11_charge 1 = .ok (.getfield 133, 3) := by decide +kernel
theorem dX11_charge_4 : decode cX11_charge 4 = .ok (.ifCond .ne 6, 3) := by decide +kernel
theorem dX11_charge_7 : decode cX11_charge 7 = .ok (.ldc 153, 2) := by decide +kernel
theorem dX11_charge_9 : decode cX11_charge 9 = .ok (.ireturn, 1) := by decide +kernel
theorem dX11_charge_10 : decode cX11_charge 10 = .ok (.iload_n 1, 1) := by decide +kernel
theorem dX11_charge_11 : decode cX11_charge 11 = .ok (.iconst 0, 1) := by decide +kernel
theorem dX11_charge_12 : decode cX11_charge 12 = .ok (.bipush 99, 2) := by decide +kernel
theorem dX11_charge_14 : decode cX11_charge 14 = .ok (.invokestatic 70, 3) := by decide +kernel
theorem dX11_charge_17 : decode cX11_charge 17 = .ok (.ifCond .eq 13, 3) := by decide +kernel
theorem dX11_charge_20 : decode cX11_charge 20 = .ok (.iload_n 2, 1) := by decide +kernel
theorem dX11_charge_21 : decode cX11_charge 21 = .ok (.iconst 0, 1) := by decide +kernel
theorem dX11_charge_22 : decode cX11_charge 22 = .ok (.bipush 99, 2) := by decide +kernel
theorem dX11_charge_24 : decode cX11_charge 24 = .ok (.invokestatic 70, 3) := by decide +kernel
theorem dX11_charge_27 : decode cX11_charge 27 = .ok (.ifCond .ne 6, 3) := by decide +kernel
theorem dX11_charge_30 : decode cX11_charge 30 = .ok (.ldc 74, 2) := by decide +kernel
theorem dX11_charge_32 : decode cX11_charge 32 = .ok (.ireturn, 1) := by decide +kernel
theorem dX11_charge_33 : decode cX11_charge 33 = .ok (.aload_n 0, 1) := by decide +kernel
theorem dX11_charge_34 : decode cX11_charge 34 = .ok (.invokevirtual 164, 3) := by decide +kernel
theorem dX11_charge_37 : decode cX11_charge 37 = .ok (.aload_n 0, 1) := by decide +kernel
theorem dX11_charge_38 : decode cX11_charge 38 = .ok (.getfield 58, 3) := by decide +kernel
theorem dX11_charge_41 : decode cX11_charge 41 = .ok (.getfield 157, 3) := by decide +kernel
theorem dX11_charge_44 : decode cX11_charge 44 = .ok (.iload_n 1, 1) := by decide +kernel
theorem dX11_charge_45 : decode cX11_charge 45 = .ok (.iload_n 2, 1) := by decide +kernel
theorem dX11_charge_46 : decode cX11_charge 46 = .ok (.invokevirtual 167, 3) := by decide +kernel
theorem dX11_charge_49 : decode cX11_charge 49 = .ok (.aload_n 0, 1) := by decide +kernel
theorem dX11_charge_50 : decode cX11_charge 50 = .ok (.getfield 58, 3) := by decide +kernel
theorem dX11_charge_53 : decode cX11_charge 53 = .ok (.getfield 157, 3) := by decide +kernel
theorem dX11_charge_56 : decode cX11_charge 56 = .ok (.getfield 170, 3) := by decide +kernel
theorem dX11_charge_59 : decode cX11_charge 59 = .ok (.ireturn, 1) := by decide +kernel
theorem dX11_make_0 : decode cX11_make 0 = .ok (.aload_n 0, 1) := by decide +kernel
theorem dX11_make_1 : decode cX11_make 1 = .ok (.iload_n 1, 1) := by decide +kernel
theorem dX11_make_2 : decode cX11_make 2 = .ok (.invokevirtual 173, 3) := by decide +kernel
theorem dX11_make_5 : decode cX11_make 5 = .ok (.astore_n 2, 1) := by decide +kernel
theorem dX11_make_6 : decode cX11_make 6 = .ok (.aload_n 2, 1) := by decide +kernel
theorem dX11_make_7 : decode cX11_make 7 = .ok (.ifnonnull 6, 3) := by decide +kernel
theorem dX11_make_10 : decode cX11_make 10 = .ok (.ldc 74, 2) := by decide +kernel
theorem dX11_make_12 : decode cX11_make 12 = .ok (.ireturn, 1) := by decide +kernel
theorem dX11_make_13 : decode cX11_make 13 = .ok (.aload_n 0, 1) := by decide +kernel
theorem dX11_make_14 : decode cX11_make 14 = .ok (.invokevirtual 164, 3) := by decide +kernel
theorem dX11_make_17 : decode cX11_make 17 = .ok (.aload_n 2, 1) := by decide +kernel
theorem dX11_make_18 : decode cX11_make 18 = .ok (.aload_n 0, 1) := by decide +kernel
theorem dX11_make_19 : decode cX11_make 19 = .ok (.getfield 58, 3) := by decide +kernel
theorem dX11_make_22 : decode cX11_make 22 = .ok (.getfield 157, 3) := by decide +kernel
theorem dX11_make_25 : decode cX11_make 25 = .ok (.invokevirtual 177, 3) := by decide +kernel
theorem dX11_make_28 : decode cX11_make 28 = .ok (.aload_n 0, 1) := by decide +kernel
theorem dX11_make_29 : decode cX11_make 29 = .ok (.getfield 58, 3) := by decide +kernel
theorem dX11_make_32 : decode cX11_make 32 = .ok (.getfield 157, 3) := by decide +kernel
theorem dX11_make_35 : decode cX11_make 35 = .ok (.getfield 170, 3) := by decide +kernel
theorem dX11_make_38 : decode cX11_make 38 = .ok (.ireturn, 1) := by decide +kernel
theorem dX11_stand_0 : decode cX11_stand 0 = .ok (.aload_n 0, 1) := by decide +kernel
theorem dX11_stand_1 : decode cX11_stand 1 = .ok (.getfield 133, 3) := by decide +kernel
theorem dX11_stand_4 : decode cX11_stand 4 = .ok (.ifCond .ne 6, 3) := by decide +kernel
theorem dX11_stand_7 : decode cX11_stand 7 = .ok (.ldc 153, 2) := by decide +kernel
theorem dX11_stand_9 : decode cX11_stand 9 = .ok (.ireturn, 1) := by decide +kernel
theorem dX11_stand_10 : decode cX11_stand 10 = .ok (.iload_n 1, 1) := by decide +kernel
theorem dX11_stand_11 : decode cX11_stand 11 = .ok (.invokestatic 182, 3) := by decide +kernel
theorem dX11_stand_14 : decode cX11_stand 14 = .ok (.ifCond .ne 6, 3) := by decide +kernel
theorem dX11_stand_17 : decode cX11_stand 17 = .ok (.ldc 74, 2) := by decide +kernel
theorem dX11_stand_19 : decode cX11_stand 19 = .ok (.ireturn, 1) := by decide +kernel
theorem dX11_stand_20 : decode cX11_stand 20 = .ok (.aload_n 0, 1) := by decide +kernel
theorem dX11_stand_21 : decode cX11_stand 21 = .ok (.invokevirtual 164, 3) := by decide +kernel
theorem dX11_stand_24 : decode cX11_stand 24 = .ok (.aload_n 0, 1) := by decide +kernel
theorem dX11_stand_25 : decode cX11_stand 25 = .ok (.getfield 58, 3) := by decide +kernel
theorem dX11_stand_28 : decode cX11_stand 28 = .ok (.getfield 157, 3) := by decide +kernel
theorem dX11_stand_31 : decode cX11_stand 31 = .ok (.iload_n 1, 1) := by decide +kernel
theorem dX11_stand_32 : decode cX11_stand 32 = .ok (.invokevirtual 185, 3) := by decide +kernel
theorem dX11_stand_35 : decode cX11_stand 35 = .ok (.aload_n 0, 1) := by decide +kernel
theorem dX11_stand_36 : decode cX11_stand 36 = .ok (.getfield 58, 3) := by decide +kernel
theorem dX11_stand_39 : decode cX11_stand 39 = .ok (.getfield 157, 3) := by decide +kernel
theorem dX11_stand_42 : decode cX11_stand 42 = .ok (.getfield 189, 3) := by decide +kernel
theorem dX11_stand_45 : decode cX11_stand 45 = .ok (.iload_n 1, 1) := by decide +kernel
theorem dX11_stand_46 : decode cX11_stand 46 = .ok (.iaload, 1) := by decide +kernel
theorem dX11_stand_47 : decode cX11_stand 47 = .ok (.ireturn, 1) := by decide +kernel
theorem dX11_rest_0 : decode cX11_rest 0 = .ok (.aload_n 0, 1) := by decide +kernel
theorem dX11_rest_1 : decode cX11_rest 1 = .ok (.getfield 133, 3) := by decide +kernel
theorem dX11_rest_4 : decode cX11_rest 4 = .ok (.ifCond .ne 6, 3) := by decide +kernel
theorem dX11_rest_7 : decode cX11_rest 7 = .ok (.ldc 153, 2) := by decide +kernel
theorem dX11_rest_9 : decode cX11_rest 9 = .ok (.ireturn, 1) := by decide +kernel
theorem dX11_rest_10 : decode cX11_rest 10 = .ok (.aload_n 0, 1) := by decide +kernel
theorem dX11_rest_11 : decode cX11_rest 11 = .ok (.invokevirtual 164, 3) := by decide +kernel
theorem dX11_rest_14 : decode cX11_rest 14 = .ok (.aload_n 0, 1) := by decide +kernel
theorem dX11_rest_15 : decode cX11_rest 15 = .ok (.getfield 58, 3) := by decide +kernel
theorem dX11_rest_18 : decode cX11_rest 18 = .ok (.getfield 157, 3) := by decide +kernel
theorem dX11_rest_21 : decode cX11_rest 21 = .ok (.aload_n 0, 1) := by decide +kernel
theorem dX11_rest_22 : decode cX11_rest 22 = .ok (.getfield 58, 3) := by decide +kernel
theorem dX11_rest_25 : decode cX11_rest 25 = .ok (.getfield 192, 3) := by decide +kernel
theorem dX11_rest_28 : decode cX11_rest 28 = .ok (.invokevirtual 195, 3) := by decide +kernel
theorem dX11_rest_31 : decode cX11_rest 31 = .ok (.aload_n 0, 1) := by decide +kernel
theorem dX11_rest_32 : decode cX11_rest 32 = .ok (.getfield 58, 3) := by decide +kernel
theorem dX11_rest_35 : decode cX11_rest 35 = .ok (.getfield 157, 3) := by decide +kernel
theorem dX11_rest_38 : decode cX11_rest 38 = .ok (.invokevirtual 198, 3) := by decide +kernel
theorem dX11_rest_41 : decode cX11_rest 41 = .ok (.ireturn, 1) := by decide +kernel
theorem dX11_cell_0 : decode cX11_cell 0 = .ok (.aload_n 0, 1) := by decide +kernel
theorem dX11_cell_1 : decode cX11_cell 1 = .ok (.getfield 133, 3) := by decide +kernel
theorem dX11_cell_4 : decode cX11_cell 4 = .ok (.ifCond .ne 6, 3) := by decide +kernel
theorem dX11_cell_7 : decode cX11_cell 7 = .ok (.ldc 153, 2) := by decide +kernel
theorem dX11_cell_9 : decode cX11_cell 9 = .ok (.ireturn, 1) := by decide +kernel
theorem dX11_cell_10 : decode cX11_cell 10 = .ok (.iload_n 1, 1) := by decide +kernel
theorem dX11_cell_11 : decode cX11_cell 11 = .ok (.invokestatic 182, 3) := by decide +kernel
theorem dX11_cell_14 : decode cX11_cell 14 = .ok (.ifCond .ne 6, 3) := by decide +kernel
theorem dX11_cell_17 : decode cX11_cell 17 = .ok (.ldc 74, 2) := by decide +kernel
theorem dX11_cell_19 : decode cX11_cell 19 = .ok (.ireturn, 1) := by decide +kernel
theorem dX11_cell_20 : decode cX11_cell 20 = .ok (.iload_n 2, 1) := by decide +kernel
theorem dX11_cell_21 : decode cX11_cell 21 = .ok (.tableswitch 79 0 3 #[31, 44, 57, 70], 31) := by decide +kernel
theorem dX11_cell_52 : decode cX11_cell 52 = .ok (.aload_n 0, 1) := by decide +kernel
theorem dX11_cell_53 : decode cX11_cell 53 = .ok (.getfield 58, 3) := by decide +kernel
theorem dX11_cell_56 : decode cX11_cell 56 = .ok (.getfield 157, 3) := by decide +kernel
theorem dX11_cell_59 : decode cX11_cell 59 = .ok (.getfield 189, 3) := by decide +kernel
theorem dX11_cell_62 : decode cX11_cell 62 = .ok (.iload_n 1, 1) := by decide +kernel
theorem dX11_cell_63 : decode cX11_cell 63 = .ok (.iaload, 1) := by decide +kernel
theorem dX11_cell_64 : decode cX11_cell 64 = .ok (.ireturn, 1) := by decide +kernel
theorem dX11_cell_65 : decode cX11_cell 65 = .ok (.aload_n 0, 1) := by decide +kernel
theorem dX11_cell_66 : decode cX11_cell 66 = .ok (.getfield 58, 3) := by decide +kernel
theorem dX11_cell_69 : decode cX11_cell 69 = .ok (.getfield 157, 3) := by decide +kernel
theorem dX11_cell_72 : decode cX11_cell 72 = .ok (.getfield 201, 3) := by decide +kernel
theorem dX11_cell_75 : decode cX11_cell 75 = .ok (.iload_n 1, 1) := by decide +kernel
theorem dX11_cell_76 : decode cX11_cell 76 = .ok (.iaload, 1) := by decide +kernel
theorem dX11_cell_77 : decode cX11_cell 77 = .ok (.ireturn, 1) := by decide +kernel
theorem dX11_cell_78 : decode cX11_cell 78 = .ok (.aload_n 0, 1) := by decide +kernel
theorem dX11_cell_79 : decode cX11_cell 79 = .ok (.getfield 58, 3) := by decide +kernel
theorem dX11_cell_82 : decode cX11_cell 82 = .ok (.getfield 157, 3) := by decide +kernel
theorem dX11_cell_85 : decode cX11_cell 85 = .ok (.getfield 204, 3) := by decide +kernel
theorem dX11_cell_88 : decode cX11_cell 88 = .ok (.iload_n 1, 1) := by decide +kernel
theorem dX11_cell_89 : decode cX11_cell 89 = .ok (.iaload, 1) := by decide +kernel
theorem dX11_cell_90 : decode cX11_cell 90 = .ok (.ireturn, 1) := by decide +kernel
theorem dX11_cell_91 : decode cX11_cell 91 = .ok (.aload_n 0, 1) := by decide +kernel
theorem dX11_cell_92 : decode cX11_cell 92 = .ok (.getfield 58, 3) := by decide +kernel
theorem dX11_cell_95 : decode cX11_cell 95 = .ok (.iload_n 1, 1) := by decide +kernel
theorem dX11_cell_96 : decode cX11_cell 96 = .ok (.invokevirtual 207, 3) := by decide +kernel
theorem dX11_cell_99 : decode cX11_cell 99 = .ok (.ireturn, 1) := by decide +kernel
theorem dX11_cell_100 : decode cX11_cell 100 = .ok (.ldc 74, 2) := by decide +kernel
theorem dX11_cell_102 : decode cX11_cell 102 = .ok (.ireturn, 1) := by decide +kernel
theorem dX11_path_0 : decode cX11_path 0 = .ok (.aload_n 0, 1) := by decide +kernel
theorem dX11_path_1 : decode cX11_path 1 = .ok (.iload_n 1, 1) := by decide +kernel
theorem dX11_path_2 : decode cX11_path 2 = .ok (.invokevirtual 173, 3) := by decide +kernel
theorem dX11_path_5 : decode cX11_path 5 = .ok (.astore_n 3, 1) := by decide +kernel
theorem dX11_path_6 : decode cX11_path 6 = .ok (.aload_n 3, 1) := by decide +kernel
theorem dX11_path_7 : decode cX11_path 7 = .ok (.ifnull 8, 3) := by decide +kernel
theorem dX11_path_10 : decode cX11_path 10 = .ok (.iload_n 2, 1) := by decide +kernel
theorem dX11_path_11 : decode cX11_path 11 = .ok (.iconst (-1), 1) := by decide +kernel
theorem dX11_path_12 : decode cX11_path 12 = .ok (.if_icmp .ge 6, 3) := by decide +kernel
theorem dX11_path_15 : decode cX11_path 15 = .ok (.ldc 74, 2) := by decide +kernel
theorem dX11_path_17 : decode cX11_path 17 = .ok (.ireturn, 1) := by decide +kernel
theorem dX11_path_18 : decode cX11_path 18 = .ok (.iload_n 2, 1) := by decide +kernel
theorem dX11_path_19 : decode cX11_path 19 = .ok (.iconst (-1), 1) := by decide +kernel
theorem dX11_path_20 : decode cX11_path 20 = .ok (.if_icmp .ne 9, 3) := by decide +kernel
theorem dX11_path_23 : decode cX11_path 23 = .ok (.aload_n 3, 1) := by decide +kernel
theorem dX11_path_24 : decode cX11_path 24 = .ok (.getfield 210, 3) := by decide +kernel
theorem dX11_path_27 : decode cX11_path 27 = .ok (.arraylength, 1) := by decide +kernel
theorem dX11_path_28 : decode cX11_path 28 = .ok (.ireturn, 1) := by decide +kernel
theorem dX11_path_29 : decode cX11_path 29 = .ok (.iload_n 2, 1) := by decide +kernel
theorem dX11_path_30 : decode cX11_path 30 = .ok (.aload_n 3, 1) := by decide +kernel
theorem dX11_path_31 : decode cX11_path 31 = .ok (.getfield 210, 3) := by decide +kernel
theorem dX11_path_34 : decode cX11_path 34 = .ok (.arraylength, 1) := by decide +kernel
theorem dX11_path_35 : decode cX11_path 35 = .ok (.if_icmp .ge 12, 3) := by decide +kernel
theorem dX11_path_38 : decode cX11_path 38 = .ok (.aload_n 3, 1) := by decide +kernel
theorem dX11_path_39 : decode cX11_path 39 = .ok (.getfield 210, 3) := by decide +kernel
theorem dX11_path_42 : decode cX11_path 42 = .ok (.iload_n 2, 1) := by decide +kernel
theorem dX11_path_43 : decode cX11_path 43 = .ok (.iaload, 1) := by decide +kernel
theorem dX11_path_44 : decode cX11_path 44 = .ok (.goto 5, 3) := by decide +kernel
theorem dX11_path_47 : decode cX11_path 47 = .ok (.ldc 213, 2) := by decide +kernel
theorem dX11_path_49 : decode cX11_path 49 = .ok (.ireturn, 1) := by decide +kernel
theorem dX11_pad_0 : decode cX11_pad 0 = .ok (.aload_n 0, 1) := by decide +kernel
theorem dX11_pad_1 : decode cX11_pad 1 = .ok (.getfield 133, 3) := by decide +kernel
theorem dX11_pad_4 : decode cX11_pad 4 = .ok (.ifCond .ne 6, 3) := by decide +kernel
theorem dX11_pad_7 : decode cX11_pad 7 = .ok (.ldc 153, 2) := by decide +kernel
theorem dX11_pad_9 : decode cX11_pad 9 = .ok (.ireturn, 1) := by decide +kernel
theorem dX11_pad_10 : decode cX11_pad 10 = .ok (.iload_n 1, 1) := by decide +kernel
theorem dX11_pad_11 : decode cX11_pad 11 = .ok (.tableswitch 58 0 2 #[25, 36, 47], 25) := by decide +kernel
theorem dX11_pad_36 : decode cX11_pad 36 = .ok (.aload_n 0, 1) := by decide +kernel
theorem dX11_pad_37 : decode cX11_pad 37 = .ok (.getfield 58, 3) := by decide +kernel
theorem dX11_pad_40 : decode cX11_pad 40 = .ok (.getfield 157, 3) := by decide +kernel
theorem dX11_pad_43 : decode cX11_pad 43 = .ok (.getfield 170, 3) := by decide +kernel
theorem dX11_pad_46 : decode cX11_pad 46 = .ok (.ireturn, 1) := by decide +kernel
theorem dX11_pad_47 : decode cX11_pad 47 = .ok (.aload_n 0, 1) := by decide +kernel
theorem dX11_pad_48 : decode cX11_pad 48 = .ok (.getfield 58, 3) := by decide +kernel
theorem dX11_pad_51 : decode cX11_pad 51 = .ok (.getfield 157, 3) := by decide +kernel
theorem dX11_pad_54 : decode cX11_pad 54 = .ok (.getfield 214, 3) := by decide +kernel
theorem dX11_pad_57 : decode cX11_pad 57 = .ok (.ireturn, 1) := by decide +kernel
theorem dX11_pad_58 : decode cX11_pad 58 = .ok (.aload_n 0, 1) := by decide +kernel
theorem dX11_pad_59 : decode cX11_pad 59 = .ok (.getfield 58, 3) := by decide +kernel
theorem dX11_pad_62 : decode cX11_pad 62 = .ok (.getfield 157, 3) := by decide +kernel
theorem dX11_pad_65 : decode cX11_pad 65 = .ok (.getfield 217, 3) := by decide +kernel
theorem dX11_pad_68 : decode cX11_pad 68 = .ok (.ireturn, 1) := by decide +kernel
theorem dX11_pad_69 : decode cX11_pad 69 = .ok (.ldc 74, 2) := by decide +kernel
theorem dX11_pad_71 : decode cX11_pad 71 = .ok (.ireturn, 1) := by decide +kernel
theorem dX11_ahead_0 : decode cX11_ahead 0 = .ok (.aload_n 0, 1) := by decide +kernel
theorem dX11_ahead_1 : decode cX11_ahead 1 = .ok (.getfield 133, 3) := by decide +kernel
theorem dX11_ahead_4 : decode cX11_ahead 4 = .ok (.ifCond .ne 6, 3) := by decide +kernel
theorem dX11_ahead_7 : decode cX11_ahead 7 = .ok (.ldc 153, 2) := by decide +kernel
theorem dX11_ahead_9 : decode cX11_ahead 9 = .ok (.ireturn, 1) := by decide +kernel
theorem dX11_ahead_10 : decode cX11_ahead 10 = .ok (.iload_n 1, 1) := by decide +kernel
theorem dX11_ahead_11 : decode cX11_ahead 11 = .ok (.iconst 0, 1) := by decide +kernel
theorem dX11_ahead_12 : decode cX11_ahead 12 = .ok (.bipush 20, 2) := by decide +kernel
theorem dX11_ahead_14 : decode cX11_ahead 14 = .ok (.invokestatic 70, 3) := by decide +kernel
theorem dX11_ahead_17 : decode cX11_ahead 17 = .ok (.ifCond .eq 19, 3) := by decide +kernel
theorem dX11_ahead_20 : decode cX11_ahead 20 = .ok (.iload_n 2, 1) := by decide +kernel
theorem dX11_ahead_21 : decode cX11_ahead 21 = .ok (.invokestatic 182, 3) := by decide +kernel
theorem dX11_ahead_24 : decode cX11_ahead 24 = .ok (.ifCond .eq 12, 3) := by decide +kernel
theorem dX11_ahead_27 : decode cX11_ahead 27 = .ok (.iload_n 3, 1) := by decide +kernel
theorem dX11_ahead_28 : decode cX11_ahead 28 = .ok (.iconst 0, 1) := by decide +kernel
theorem dX11_ahead_29 : decode cX11_ahead 29 = .ok (.iconst 1, 1) := by decide +kernel
theorem dX11_ahead_30 : decode cX11_ahead 30 = .ok (.invokestatic 70, 3) := by decide +kernel
theorem dX11_ahead_33 : decode cX11_ahead 33 = .ok (.ifCond .ne 6, 3) := by decide +kernel
theorem dX11_ahead_36 : decode cX11_ahead 36 = .ok (.ldc 74, 2) := by decide +kernel
theorem dX11_ahead_38 : decode cX11_ahead 38 = .ok (.ireturn, 1) := by decide +kernel
theorem dX11_ahead_39 : decode cX11_ahead 39 = .ok (.aload_n 0, 1) := by decide +kernel
theorem dX11_ahead_40 : decode cX11_ahead 40 = .ok (.iload_n 1, 1) := by decide +kernel
theorem dX11_ahead_41 : decode cX11_ahead 41 = .ok (.invokevirtual 220, 3) := by decide +kernel
theorem dX11_ahead_44 : decode cX11_ahead 44 = .ok (.iload_n 3, 1) := by decide +kernel
theorem dX11_ahead_45 : decode cX11_ahead 45 = .ok (.ifCond .ne 15, 3) := by decide +kernel
theorem dX11_ahead_48 : decode cX11_ahead 48 = .ok (.aload_n 0, 1) := by decide +kernel
theorem dX11_ahead_49 : decode cX11_ahead 49 = .ok (.getfield 39, 3) := by decide +kernel
theorem dX11_ahead_52 : decode cX11_ahead 52 = .ok (.getfield 189, 3) := by decide +kernel
theorem dX11_ahead_55 : decode cX11_ahead 55 = .ok (.iload_n 2, 1) := by decide +kernel
theorem dX11_ahead_56 : decode cX11_ahead 56 = .ok (.iaload, 1) := by decide +kernel
theorem dX11_ahead_57 : decode cX11_ahead 57 = .ok (.goto 12, 3) := by decide +kernel
theorem dX11_ahead_60 : decode cX11_ahead 60 = .ok (.aload_n 0, 1) := by decide +kernel
theorem dX11_ahead_61 : decode cX11_ahead 61 = .ok (.getfield 39, 3) := by decide +kernel
theorem dX11_ahead_64 : decode cX11_ahead 64 = .ok (.getfield 204, 3) := by decide +kernel
theorem dX11_ahead_67 : decode cX11_ahead 67 = .ok (.iload_n 2, 1) := by decide +kernel
theorem dX11_ahead_68 : decode cX11_ahead 68 = .ok (.iaload, 1) := by decide +kernel
theorem dX11_ahead_69 : decode cX11_ahead 69 = .ok (.ireturn, 1) := by decide +kernel
theorem dX11_uneven_0 : decode cX11_uneven 0 = .ok (.aload_n 0, 1) := by decide +kernel
theorem dX11_uneven_1 : decode cX11_uneven 1 = .ok (.getfield 133, 3) := by decide +kernel
theorem dX11_uneven_4 : decode cX11_uneven 4 = .ok (.ifCond .ne 6, 3) := by decide +kernel
theorem dX11_uneven_7 : decode cX11_uneven 7 = .ok (.ldc 153, 2) := by decide +kernel
theorem dX11_uneven_9 : decode cX11_uneven 9 = .ok (.ireturn, 1) := by decide +kernel
theorem dX11_uneven_10 : decode cX11_uneven 10 = .ok (.iload_n 1, 1) := by decide +kernel
theorem dX11_uneven_11 : decode cX11_uneven 11 = .ok (.iconst 0, 1) := by decide +kernel
theorem dX11_uneven_12 : decode cX11_uneven 12 = .ok (.bipush 20, 2) := by decide +kernel
theorem dX11_uneven_14 : decode cX11_uneven 14 = .ok (.invokestatic 70, 3) := by decide +kernel
theorem dX11_uneven_17 : decode cX11_uneven 17 = .ok (.ifCond .ne 6, 3) := by decide +kernel
theorem dX11_uneven_20 : decode cX11_uneven 20 = .ok (.ldc 74, 2) := by decide +kernel
theorem dX11_uneven_22 : decode cX11_uneven 22 = .ok (.ireturn, 1) := by decide +kernel
theorem dX11_uneven_23 : decode cX11_uneven 23 = .ok (.aload_n 0, 1) := by decide +kernel
theorem dX11_uneven_24 : decode cX11_uneven 24 = .ok (.iload_n 1, 1) := by decide +kernel
theorem dX11_uneven_25 : decode cX11_uneven 25 = .ok (.invokevirtual 220, 3) := by decide +kernel
theorem dX11_uneven_28 : decode cX11_uneven 28 = .ok (.aload_n 0, 1) := by decide +kernel
theorem dX11_uneven_29 : decode cX11_uneven 29 = .ok (.getfield 39, 3) := by decide +kernel
theorem dX11_uneven_32 : decode cX11_uneven 32 = .ok (.invokevirtual 223, 3) := by decide +kernel
theorem dX11_uneven_35 : decode cX11_uneven 35 = .ok (.ireturn, 1) := by decide +kernel
theorem dX11_order_0 : decode cX11_order 0 = .ok (.aload_n 0, 1) := by decide +kernel
theorem dX11_order_1 : decode cX11_order 1 = .ok (.getfield 133, 3) := by decide +kernel
theorem dX11_order_4 : decode cX11_order 4 = .ok (.ifCond .ne 6, 3) := by decide +kernel
theorem dX11_order_7 : decode cX11_order 7 = .ok (.ldc 153, 2) := by decide +kernel
theorem dX11_order_9 : decode cX11_order 9 = .ok (.ireturn, 1) := by decide +kernel
theorem dX11_order_10 : decode cX11_order 10 = .ok (.iload_n 1, 1) := by decide +kernel
theorem dX11_order_11 : decode cX11_order 11 = .ok (.iconst (-1), 1) := by decide +kernel
theorem dX11_order_12 : decode cX11_order 12 = .ok (.iconst 3, 1) := by decide +kernel
theorem dX11_order_13 : decode cX11_order 13 = .ok (.invokestatic 70, 3) := by decide +kernel
theorem dX11_order_16 : decode cX11_order 16 = .ok (.ifCond .ne 6, 3) := by decide +kernel
theorem dX11_order_19 : decode cX11_order 19 = .ok (.ldc 74, 2) := by decide +kernel
theorem dX11_order_21 : decode cX11_order 21 = .ok (.ireturn, 1) := by decide +kernel
theorem dX11_order_22 : decode cX11_order 22 = .ok (.aload_n 0, 1) := by decide +kernel
theorem dX11_order_23 : decode cX11_order 23 = .ok (.invokevirtual 226, 3) := by decide +kernel
theorem dX11_order_26 : decode cX11_order 26 = .ok (.istore_n 2, 1) := by decide +kernel
theorem dX11_order_27 : decode cX11_order 27 = .ok (.iload_n 1, 1) := by decide +kernel
theorem dX11_order_28 : decode cX11_order 28 = .ok (.iconst (-1), 1) := by decide +kernel
theorem dX11_order_29 : decode cX11_order 29 = .ok (.if_icmp .ne 5, 3) := by decide +kernel
theorem dX11_order_32 : decode cX11_order 32 = .ok (.iload_n 2, 1) := by decide +kernel
theorem dX11_order_33 : decode cX11_order 33 = .ok (.ireturn, 1) := by decide +kernel
theorem dX11_order_34 : decode cX11_order 34 = .ok (.iload_n 1, 1) := by decide +kernel
theorem dX11_order_35 : decode cX11_order 35 = .ok (.aload_n 0, 1) := by decide +kernel
theorem dX11_order_36 : decode cX11_order 36 = .ok (.getfield 58, 3) := by decide +kernel
theorem dX11_order_39 : decode cX11_order 39 = .ok (.getfield 140, 3) := by decide +kernel
theorem dX11_order_42 : decode cX11_order 42 = .ok (.invokevirtual 144, 3) := by decide +kernel
theorem dX11_order_45 : decode cX11_order 45 = .ok (.if_icmp .ge 12, 3) := by decide +kernel
theorem dX11_order_48 : decode cX11_order 48 = .ok (.aload_n 0, 1) := by decide +kernel
theorem dX11_order_49 : decode cX11_order 49 = .ok (.getfield 54, 3) := by decide +kernel
theorem dX11_order_52 : decode cX11_order 52 = .ok (.iload_n 1, 1) := by decide +kernel
theorem dX11_order_53 : decode cX11_order 53 = .ok (.iaload, 1) := by decide +kernel
theorem dX11_order_54 : decode cX11_order 54 = .ok (.goto 5, 3) := by decide +kernel
theorem dX11_order_57 : decode cX11_order 57 = .ok (.ldc 213, 2) := by decide +kernel
theorem dX11_order_59 : decode cX11_order 59 = .ok (.ireturn, 1) := by decide +kernel
theorem dX11_enough_0 : decode cX11_enough 0 = .ok (.aload_n 0, 1) := by decide +kernel
theorem dX11_enough_1 : decode cX11_enough 1 = .ok (.getfield 133, 3) := by decide +kernel
theorem dX11_enough_4 : decode cX11_enough 4 = .ok (.ifCond .ne 6, 3) := by decide +kernel
theorem dX11_enough_7 : decode cX11_enough 7 = .ok (.ldc 153, 2) := by decide +kernel
theorem dX11_enough_9 : decode cX11_enough 9 = .ok (.ireturn, 1) := by decide +kernel
theorem dX11_enough_10 : decode cX11_enough 10 = .ok (.iload_n 1, 1) := by decide +kernel
theorem dX11_enough_11 : decode cX11_enough 11 = .ok (.iconst 1, 1) := by decide +kernel
theorem dX11_enough_12 : decode cX11_enough 12 = .ok (.sipush 999, 3) := by decide +kernel
theorem dX11_enough_15 : decode cX11_enough 15 = .ok (.invokestatic 70, 3) := by decide +kernel
theorem dX11_enough_18 : decode cX11_enough 18 = .ok (.ifCond .ne 6, 3) := by decide +kernel
theorem dX11_enough_21 : decode cX11_enough 21 = .ok (.ldc 74, 2) := by decide +kernel
theorem dX11_enough_23 : decode cX11_enough 23 = .ok (.ireturn, 1) := by decide +kernel
theorem dX11_enough_24 : decode cX11_enough 24 = .ok (.aload_n 0, 1) := by decide +kernel
theorem dX11_enough_25 : decode cX11_enough 25 = .ok (.getfield 58, 3) := by decide +kernel
theorem dX11_enough_28 : decode cX11_enough 28 = .ok (.aload_n 0, 1) := by decide +kernel
theorem dX11_enough_29 : decode cX11_enough 29 = .ok (.invokevirtual 229, 3) := by decide +kernel
theorem dX11_enough_32 : decode cX11_enough 32 = .ok (.invokevirtual 232, 3) := by decide +kernel
theorem dX11_enough_35 : decode cX11_enough 35 = .ok (.istore_n 2, 1) := by decide +kernel
theorem dX11_enough_36 : decode cX11_enough 36 = .ok (.aload_n 0, 1) := by decide +kernel
theorem dX11_enough_37 : decode cX11_enough 37 = .ok (.getfield 39, 3) := by decide +kernel
theorem dX11_enough_40 : decode cX11_enough 40 = .ok (.aload_n 0, 1) := by decide +kernel
theorem dX11_enough_41 : decode cX11_enough 41 = .ok (.getfield 58, 3) := by decide +kernel
theorem dX11_enough_44 : decode cX11_enough 44 = .ok (.getfield 157, 3) := by decide +kernel
theorem dX11_enough_47 : decode cX11_enough 47 = .ok (.invokevirtual 160, 3) := by decide +kernel
theorem dX11_enough_50 : decode cX11_enough 50 = .ok (.iconst 0, 1) := by decide +kernel
theorem dX11_enough_51 : decode cX11_enough 51 = .ok (.istore_n 3, 1) := by decide +kernel
theorem dX11_enough_52 : decode cX11_enough 52 = .ok (.iload_n 3, 1) := by decide +kernel
theorem dX11_enough_53 : decode cX11_enough 53 = .ok (.bipush 40, 2) := by decide +kernel
theorem dX11_enough_55 : decode cX11_enough 55 = .ok (.if_icmp .gt 34, 3) := by decide +kernel
theorem dX11_enough_58 : decode cX11_enough 58 = .ok (.aload_n 0, 1) := by decide +kernel
theorem dX11_enough_59 : decode cX11_enough 59 = .ok (.getfield 39, 3) := by decide +kernel
theorem dX11_enough_62 : decode cX11_enough 62 = .ok (.iload_n 1, 1) := by decide +kernel
theorem dX11_enough_63 : decode cX11_enough 63 = .ok (.iload_n 2, 1) := by decide +kernel
theorem dX11_enough_64 : decode cX11_enough 64 = .ok (.invokevirtual 235, 3) := by decide +kernel
theorem dX11_enough_67 : decode cX11_enough 67 = .ok (.ifCond .ne 5, 3) := by decide +kernel
theorem dX11_enough_70 : decode cX11_enough 70 = .ok (.iload_n 3, 1) := by decide +kernel
theorem dX11_enough_71 : decode cX11_enough 71 = .ok (.ireturn, 1) := by decide +kernel
theorem dX11_enough_72 : decode cX11_enough 72 = .ok (.aload_n 0, 1) := by decide +kernel
theorem dX11_enough_73 : decode cX11_enough 73 = .ok (.getfield 58, 3) := by decide +kernel
theorem dX11_enough_76 : decode cX11_enough 76 = .ok (.aload_n 0, 1) := by decide +kernel
theorem dX11_enough_77 : decode cX11_enough 77 = .ok (.getfield 39, 3) := by decide +kernel
theorem dX11_enough_80 : decode cX11_enough 80 = .ok (.invokevirtual 238, 3) := by decide +kernel
theorem dX11_enough_83 : decode cX11_enough 83 = .ok (.iinc 3 1, 3) := by decide +kernel
theorem dX11_enough_86 : decode cX11_enough 86 = .ok (.goto (-34), 3) := by decide +kernel
theorem dX11_enough_89 : decode cX11_enough 89 = .ok (.ldc 213, 2) := by decide +kernel
theorem dX11_enough_91 : decode cX11_enough 91 = .ok (.ireturn, 1) := by decide +kernel
theorem dX11_wetFor_0 : decode cX11_wetFor 0 = .ok (.aload_n 0, 1) := by decide +kernel
theorem dX11_wetFor_1 : decode cX11_wetFor 1 = .ok (.iload_n 1, 1) := by decide +kernel
theorem dX11_wetFor_2 : decode cX11_wetFor 2 = .ok (.invokevirtual 173, 3) := by decide +kernel
theorem dX11_wetFor_5 : decode cX11_wetFor 5 = .ok (.astore_n 3, 1) := by decide +kernel
theorem dX11_wetFor_6 : decode cX11_wetFor 6 = .ok (.aload_n 3, 1) := by decide +kernel
theorem dX11_wetFor_7 : decode cX11_wetFor 7 = .ok (.ifnull 13, 3) := by decide +kernel
theorem dX11_wetFor_10 : decode cX11_wetFor 10 = .ok (.iload_n 2, 1) := by decide +kernel
theorem dX11_wetFor_11 : decode cX11_wetFor 11 = .ok (.iconst 0, 1) := by decide +kernel
theorem dX11_wetFor_12 : decode cX11_wetFor 12 = .ok (.bipush 99, 2) := by decide +kernel
theorem dX11_wetFor_14 : decode cX11_wetFor 14 = .ok (.invokestatic 70, 3) := by decide +kernel
theorem dX11_wetFor_17 : decode cX11_wetFor 17 = .ok (.ifCond .ne 6, 3) := by decide +kernel
theorem dX11_wetFor_20 : decode cX11_wetFor 20 = .ok (.ldc 74, 2) := by decide +kernel
theorem dX11_wetFor_22 : decode cX11_wetFor 22 = .ok (.ireturn, 1) := by decide +kernel
theorem dX11_wetFor_23 : decode cX11_wetFor 23 = .ok (.iconst 0, 1) := by decide +kernel
theorem dX11_wetFor_24 : decode cX11_wetFor 24 = .ok (.istore 4, 2) := by decide +kernel
theorem dX11_wetFor_26 : decode cX11_wetFor 26 = .ok (.iload 4, 2) := by decide +kernel
theorem dX11_wetFor_28 : decode cX11_wetFor 28 = .ok (.bipush 99, 2) := by decide +kernel
theorem dX11_wetFor_30 : decode cX11_wetFor 30 = .ok (.if_icmp .gt 52, 3) := by decide +kernel
theorem dX11_wetFor_33 : decode cX11_wetFor 33 = .ok (.aload_n 0, 1) := by decide +kernel
theorem dX11_wetFor_34 : decode cX11_wetFor 34 = .ok (.getfield 39, 3) := by decide +kernel
theorem dX11_wetFor_37 : decode cX11_wetFor 37 = .ok (.aload_n 0, 1) := by decide +kernel
theorem dX11_wetFor_38 : decode cX11_wetFor 38 = .ok (.getfield 58, 3) := by decide +kernel
theorem dX11_wetFor_41 : decode cX11_wetFor 41 = .ok (.getfield 157, 3) := by decide +kernel
theorem dX11_wetFor_44 : decode cX11_wetFor 44 = .ok (.invokevirtual 160, 3) := by decide +kernel
theorem dX11_wetFor_47 : decode cX11_wetFor 47 = .ok (.aload_n 0, 1) := by decide +kernel
theorem dX11_wetFor_48 : decode cX11_wetFor 48 = .ok (.getfield 39, 3) := by decide +kernel
theorem dX11_wetFor_51 : decode cX11_wetFor 51 = .ok (.iload 4, 2) := by decide +kernel
theorem dX11_wetFor_53 : decode cX11_wetFor 53 = .ok (.putfield 170, 3) := by decide +kernel
theorem dX11_wetFor_56 : decode cX11_wetFor 56 = .ok (.aload_n 3, 1) := by decide +kernel
theorem dX11_wetFor_57 : decode cX11_wetFor 57 = .ok (.aload_n 0, 1) := by decide +kernel
theorem dX11_wetFor_58 : decode cX11_wetFor 58 = .ok (.getfield 39, 3) := by decide +kernel
theorem dX11_wetFor_61 : decode cX11_wetFor 61 = .ok (.invokevirtual 177, 3) := by decide +kernel
theorem dX11_wetFor_64 : decode cX11_wetFor 64 = .ok (.aload_n 0, 1) := by decide +kernel
theorem dX11_wetFor_65 : decode cX11_wetFor 65 = .ok (.aload_n 3, 1) := by decide +kernel
theorem dX11_wetFor_66 : decode cX11_wetFor 66 = .ok (.iload_n 2, 1) := by decide +kernel
theorem dX11_wetFor_67 : decode cX11_wetFor 67 = .ok (.invokevirtual 241, 3) := by decide +kernel
theorem dX11_wetFor_70 : decode cX11_wetFor 70 = .ok (.ifCond .eq 6, 3) := by decide +kernel
theorem dX11_wetFor_73 : decode cX11_wetFor 73 = .ok (.iload 4, 2) := by decide +kernel
theorem dX11_wetFor_75 : decode cX11_wetFor 75 = .ok (.ireturn, 1) := by decide +kernel
theorem dX11_wetFor_76 : decode cX11_wetFor 76 = .ok (.iinc 4 1, 3) := by decide +kernel
theorem dX11_wetFor_79 : decode cX11_wetFor 79 = .ok (.goto (-53), 3) := by decide +kernel
theorem dX11_wetFor_82 : decode cX11_wetFor 82 = .ok (.ldc 213, 2) := by decide +kernel
theorem dX11_wetFor_84 : decode cX11_wetFor 84 = .ok (.ireturn, 1) := by decide +kernel
theorem dX11_over_0 : decode cX11_over 0 = .ok (.aload_n 0, 1) := by decide +kernel
theorem dX11_over_1 : decode cX11_over 1 = .ok (.getfield 133, 3) := by decide +kernel
theorem dX11_over_4 : decode cX11_over 4 = .ok (.ifCond .ne 6, 3) := by decide +kernel
theorem dX11_over_7 : decode cX11_over 7 = .ok (.ldc 153, 2) := by decide +kernel
theorem dX11_over_9 : decode cX11_over 9 = .ok (.ireturn, 1) := by decide +kernel
theorem dX11_over_10 : decode cX11_over 10 = .ok (.iload_n 1, 1) := by decide +kernel
theorem dX11_over_11 : decode cX11_over 11 = .ok (.iconst 0, 1) := by decide +kernel
theorem dX11_over_12 : decode cX11_over 12 = .ok (.sipush 32767, 3) := by decide +kernel
theorem dX11_over_15 : decode cX11_over 15 = .ok (.invokestatic 70, 3) := by decide +kernel
theorem dX11_over_18 : decode cX11_over 18 = .ok (.ifCond .eq 12, 3) := by decide +kernel
theorem dX11_over_21 : decode cX11_over 21 = .ok (.iload_n 2, 1) := by decide +kernel
theorem dX11_over_22 : decode cX11_over 22 = .ok (.iconst 0, 1) := by decide +kernel
theorem dX11_over_23 : decode cX11_over 23 = .ok (.iconst 1, 1) := by decide +kernel
theorem dX11_over_24 : decode cX11_over 24 = .ok (.invokestatic 70, 3) := by decide +kernel
theorem dX11_over_27 : decode cX11_over 27 = .ok (.ifCond .ne 6, 3) := by decide +kernel
theorem dX11_over_30 : decode cX11_over 30 = .ok (.ldc 74, 2) := by decide +kernel
theorem dX11_over_32 : decode cX11_over 32 = .ok (.ireturn, 1) := by decide +kernel
theorem dX11_over_33 : decode cX11_over 33 = .ok (.ldc 213, 2) := by decide +kernel
theorem dX11_over_35 : decode cX11_over 35 = .ok (.istore_n 3, 1) := by decide +kernel
theorem dX11_over_36 : decode cX11_over 36 = .ok (.iconst 5, 1) := by decide +kernel
theorem dX11_over_37 : decode cX11_over 37 = .ok (.istore 4, 2) := by decide +kernel
theorem dX11_over_39 : decode cX11_over 39 = .ok (.iconst 0, 1) := by decide +kernel
theorem dX11_over_40 : decode cX11_over 40 = .ok (.istore 5, 2) := by decide +kernel
theorem dX11_over_42 : decode cX11_over 42 = .ok (.iload 5, 2) := by decide +kernel
theorem dX11_over_44 : decode cX11_over 44 = .ok (.aload_n 0, 1) := by decide +kernel
theorem dX11_over_45 : decode cX11_over 45 = .ok (.invokevirtual 229, 3) := by decide +kernel
theorem dX11_over_48 : decode cX11_over 48 = .ok (.if_icmp .gt 57, 3) := by decide +kernel
theorem dX11_over_51 : decode cX11_over 51 = .ok (.iload_n 1, 1) := by decide +kernel
theorem dX11_over_52 : decode cX11_over 52 = .ok (.aload_n 0, 1) := by decide +kernel
theorem dX11_over_53 : decode cX11_over 53 = .ok (.getfield 58, 3) := by decide +kernel
theorem dX11_over_56 : decode cX11_over 56 = .ok (.iload 5, 2) := by decide +kernel
theorem dX11_over_58 : decode cX11_over 58 = .ok (.invokevirtual 232, 3) := by decide +kernel
theorem dX11_over_61 : decode cX11_over 61 = .ok (.iconst (-1), 1) := by decide +kernel
theorem dX11_over_62 : decode cX11_over 62 = .ok (.ixor, 1) := by decide +kernel
theorem dX11_over_63 : decode cX11_over 63 = .ok (.iand, 1) := by decide +kernel
theorem dX11_over_64 : decode cX11_over 64 = .ok (.ifCond .ne 7, 3) := by decide +kernel
theorem dX11_over_67 : decode cX11_over 67 = .ok (.iconst 1, 1) := by decide +kernel
theorem dX11_over_68 : decode cX11_over 68 = .ok (.goto 4, 3) := by decide +kernel
theorem dX11_over_71 : decode cX11_over 71 = .ok (.iconst 0, 1) := by decide +kernel
theorem dX11_over_72 : decode cX11_over 72 = .ok (.istore 6, 2) := by decide +kernel
theorem dX11_over_74 : decode cX11_over 74 = .ok (.iload 6, 2) := by decide +kernel
theorem dX11_over_76 : decode cX11_over 76 = .ok (.ifCond .eq 23, 3) := by decide +kernel
theorem dX11_over_79 : decode cX11_over 79 = .ok (.iload 5, 2) := by decide +kernel
theorem dX11_over_81 : decode cX11_over 81 = .ok (.invokestatic 245, 3) := by decide +kernel
theorem dX11_over_84 : decode cX11_over 84 = .ok (.iload 4, 2) := by decide +kernel
theorem dX11_over_86 : decode cX11_over 86 = .ok (.if_icmp .ge 13, 3) := by decide +kernel
theorem dX11_over_89 : decode cX11_over 89 = .ok (.iload 5, 2) := by decide +kernel
theorem dX11_over_91 : decode cX11_over 91 = .ok (.istore_n 3, 1) := by decide +kernel
theorem dX11_over_92 : decode cX11_over 92 = .ok (.iload 5, 2) := by decide +kernel
theorem dX11_over_94 : decode cX11_over 94 = .ok (.invokestatic 245, 3) := by decide +kernel
theorem dX11_over_97 : decode cX11_over 97 = .ok (.istore 4, 2) := by decide +kernel
theorem dX11_over_99 : decode cX11_over 99 = .ok (.iinc 5 1, 3) := by decide +kernel
theorem dX11_over_102 : decode cX11_over 102 = .ok (.goto (-60), 3) := by decide +kernel
theorem dX11_over_105 : decode cX11_over 105 = .ok (.iload_n 3, 1) := by decide +kernel
theorem dX11_over_106 : decode cX11_over 106 = .ok (.ldc 213, 2) := by decide +kernel
theorem dX11_over_108 : decode cX11_over 108 = .ok (.if_icmp .eq 8, 3) := by decide +kernel
theorem dX11_over_111 : decode cX11_over 111 = .ok (.iload_n 2, 1) := by decide +kernel
theorem dX11_over_112 : decode cX11_over 112 = .ok (.iconst 1, 1) := by decide +kernel
theorem dX11_over_113 : decode cX11_over 113 = .ok (.if_icmp .ne 7, 3) := by decide +kernel
theorem dX11_over_116 : decode cX11_over 116 = .ok (.iload_n 3, 1) := by decide +kernel
theorem dX11_over_117 : decode cX11_over 117 = .ok (.goto 5, 3) := by decide +kernel
theorem dX11_over_120 : decode cX11_over 120 = .ok (.iload 4, 2) := by decide +kernel
theorem dX11_over_122 : decode cX11_over 122 = .ok (.ireturn, 1) := by decide +kernel
theorem dX11_goOn_0 : decode cX11_goOn 0 = .ok (.aload_n 0, 1) := by decide +kernel
theorem dX11_goOn_1 : decode cX11_goOn 1 = .ok (.getfield 133, 3) := by decide +kernel
theorem dX11_goOn_4 : decode cX11_goOn 4 = .ok (.ifCond .ne 6, 3) := by decide +kernel
theorem dX11_goOn_7 : decode cX11_goOn 7 = .ok (.ldc 153, 2) := by decide +kernel
theorem dX11_goOn_9 : decode cX11_goOn 9 = .ok (.ireturn, 1) := by decide +kernel
theorem dX11_goOn_10 : decode cX11_goOn 10 = .ok (.aload_n 0, 1) := by decide +kernel
theorem dX11_goOn_11 : decode cX11_goOn 11 = .ok (.iconst 1, 1) := by decide +kernel
theorem dX11_goOn_12 : decode cX11_goOn 12 = .ok (.invokevirtual 220, 3) := by decide +kernel
theorem dX11_goOn_15 : decode cX11_goOn 15 = .ok (.aload_n 0, 1) := by decide +kernel
theorem dX11_goOn_16 : decode cX11_goOn 16 = .ok (.getfield 39, 3) := by decide +kernel
theorem dX11_goOn_19 : decode cX11_goOn 19 = .ok (.invokevirtual 198, 3) := by decide +kernel
theorem dX11_goOn_22 : decode cX11_goOn 22 = .ok (.istore_n 1, 1) := by decide +kernel
theorem dX11_goOn_23 : decode cX11_goOn 23 = .ok (.aload_n 0, 1) := by decide +kernel
theorem dX11_goOn_24 : decode cX11_goOn 24 = .ok (.getfield 39, 3) := by decide +kernel
theorem dX11_goOn_27 : decode cX11_goOn 27 = .ok (.aload_n 0, 1) := by decide +kernel
theorem dX11_goOn_28 : decode cX11_goOn 28 = .ok (.getfield 58, 3) := by decide +kernel
theorem dX11_goOn_31 : decode cX11_goOn 31 = .ok (.getfield 157, 3) := by decide +kernel
theorem dX11_goOn_34 : decode cX11_goOn 34 = .ok (.invokevirtual 160, 3) := by decide +kernel
theorem dX11_goOn_37 : decode cX11_goOn 37 = .ok (.aload_n 0, 1) := by decide +kernel
theorem dX11_goOn_38 : decode cX11_goOn 38 = .ok (.getfield 39, 3) := by decide +kernel
theorem dX11_goOn_41 : decode cX11_goOn 41 = .ok (.aload_n 0, 1) := by decide +kernel
theorem dX11_goOn_42 : decode cX11_goOn 42 = .ok (.getfield 58, 3) := by decide +kernel
theorem dX11_goOn_45 : decode cX11_goOn 45 = .ok (.getfield 192, 3) := by decide +kernel
theorem dX11_goOn_48 : decode cX11_goOn 48 = .ok (.invokevirtual 195, 3) := by decide +kernel
theorem dX11_goOn_51 : decode cX11_goOn 51 = .ok (.aload_n 0, 1) := by decide +kernel
theorem dX11_goOn_52 : decode cX11_goOn 52 = .ok (.getfield 58, 3) := by decide +kernel
theorem dX11_goOn_55 : decode cX11_goOn 55 = .ok (.aload_n 0, 1) := by decide +kernel
theorem dX11_goOn_56 : decode cX11_goOn 56 = .ok (.getfield 39, 3) := by decide +kernel
theorem dX11_goOn_59 : decode cX11_goOn 59 = .ok (.invokevirtual 238, 3) := by decide +kernel
theorem dX11_goOn_62 : decode cX11_goOn 62 = .ok (.iload_n 1, 1) := by decide +kernel
theorem dX11_goOn_63 : decode cX11_goOn 63 = .ok (.aload_n 0, 1) := by decide +kernel
theorem dX11_goOn_64 : decode cX11_goOn 64 = .ok (.getfield 39, 3) := by decide +kernel
theorem dX11_goOn_67 : decode cX11_goOn 67 = .ok (.invokevirtual 198, 3) := by decide +kernel
theorem dX11_goOn_70 : decode cX11_goOn 70 = .ok (.isub, 1) := by decide +kernel
theorem dX11_goOn_71 : decode cX11_goOn 71 = .ok (.ireturn, 1) := by decide +kernel
theorem dX11_done_0 : decode cX11_done 0 = .ok (.aload_n 0, 1) := by decide +kernel
theorem dX11_done_1 : decode cX11_done 1 = .ok (.getfield 133, 3) := by decide +kernel
theorem dX11_done_4 : decode cX11_done 4 = .ok (.ifCond .ne 6, 3) := by decide +kernel
theorem dX11_done_7 : decode cX11_done 7 = .ok (.ldc 153, 2) := by decide +kernel
theorem dX11_done_9 : decode cX11_done 9 = .ok (.ireturn, 1) := by decide +kernel
theorem dX11_done_10 : decode cX11_done 10 = .ok (.iload_n 1, 1) := by decide +kernel
theorem dX11_done_11 : decode cX11_done 11 = .ok (.invokestatic 66, 3) := by decide +kernel
theorem dX11_done_14 : decode cX11_done 14 = .ok (.ifCond .eq 12, 3) := by decide +kernel
theorem dX11_done_17 : decode cX11_done 17 = .ok (.iload_n 3, 1) := by decide +kernel
theorem dX11_done_18 : decode cX11_done 18 = .ok (.iconst 0, 1) := by decide +kernel
theorem dX11_done_19 : decode cX11_done 19 = .ok (.iconst 1, 1) := by decide +kernel
theorem dX11_done_20 : decode cX11_done 20 = .ok (.invokestatic 70, 3) := by decide +kernel
theorem dX11_done_23 : decode cX11_done 23 = .ok (.ifCond .ne 6, 3) := by decide +kernel
theorem dX11_done_26 : decode cX11_done 26 = .ok (.ldc 74, 2) := by decide +kernel
theorem dX11_done_28 : decode cX11_done 28 = .ok (.ireturn, 1) := by decide +kernel
theorem dX11_done_29 : decode cX11_done 29 = .ok (.aload_n 0, 1) := by decide +kernel
theorem dX11_done_30 : decode cX11_done 30 = .ok (.getfield 11, 3) := by decide +kernel
theorem dX11_done_33 : decode cX11_done 33 = .ok (.iload_n 1, 1) := by decide +kernel
theorem dX11_done_34 : decode cX11_done 34 = .ok (.aaload, 1) := by decide +kernel
theorem dX11_done_35 : decode cX11_done 35 = .ok (.astore 4, 2) := by decide +kernel
theorem dX11_done_37 : decode cX11_done 37 = .ok (.aload 4, 2) := by decide +kernel
theorem dX11_done_39 : decode cX11_done 39 = .ok (.invokevirtual 86, 3) := by decide +kernel
theorem dX11_done_42 : decode cX11_done 42 = .ok (.ifCond .eq 9, 3) := by decide +kernel
theorem dX11_done_45 : decode cX11_done 45 = .ok (.aload_n 0, 1) := by decide +kernel
theorem dX11_done_46 : decode cX11_done 46 = .ok (.iconst 1, 1) := by decide +kernel
theorem dX11_done_47 : decode cX11_done 47 = .ok (.invokevirtual 75, 3) := by decide +kernel
theorem dX11_done_50 : decode cX11_done 50 = .ok (.ireturn, 1) := by decide +kernel
theorem dX11_done_51 : decode cX11_done 51 = .ok (.aload 4, 2) := by decide +kernel
theorem dX11_done_53 : decode cX11_done 53 = .ok (.iload_n 2, 1) := by decide +kernel
theorem dX11_done_54 : decode cX11_done 54 = .ok (.bipush 15, 2) := by decide +kernel
theorem dX11_done_56 : decode cX11_done 56 = .ok (.invokevirtual 90, 3) := by decide +kernel
theorem dX11_done_59 : decode cX11_done 59 = .ok (.ifCond .ne 9, 3) := by decide +kernel
theorem dX11_done_62 : decode cX11_done 62 = .ok (.aload_n 0, 1) := by decide +kernel
theorem dX11_done_63 : decode cX11_done 63 = .ok (.iconst 2, 1) := by decide +kernel
theorem dX11_done_64 : decode cX11_done 64 = .ok (.invokevirtual 75, 3) := by decide +kernel
theorem dX11_done_67 : decode cX11_done 67 = .ok (.ireturn, 1) := by decide +kernel
theorem dX11_done_68 : decode cX11_done 68 = .ok (.iconst 0, 1) := by decide +kernel
theorem dX11_done_69 : decode cX11_done 69 = .ok (.istore 5, 2) := by decide +kernel
theorem dX11_done_71 : decode cX11_done 71 = .ok (.ldc 213, 2) := by decide +kernel
theorem dX11_done_73 : decode cX11_done 73 = .ok (.istore 6, 2) := by decide +kernel
theorem dX11_done_75 : decode cX11_done 75 = .ok (.aload_n 0, 1) := by decide +kernel
theorem dX11_done_76 : decode cX11_done 76 = .ok (.invokevirtual 229, 3) := by decide +kernel
theorem dX11_done_79 : decode cX11_done 79 = .ok (.istore 7, 2) := by decide +kernel
theorem dX11_done_81 : decode cX11_done 81 = .ok (.iload 7, 2) := by decide +kernel
theorem dX11_done_83 : decode cX11_done 83 = .ok (.ifCond .lt 56, 3) := by decide +kernel
theorem dX11_done_86 : decode cX11_done 86 = .ok (.aload_n 0, 1) := by decide +kernel
theorem dX11_done_87 : decode cX11_done 87 = .ok (.getfield 39, 3) := by decide +kernel
theorem dX11_done_90 : decode cX11_done 90 = .ok (.aload_n 0, 1) := by decide +kernel
theorem dX11_done_91 : decode cX11_done 91 = .ok (.getfield 58, 3) := by decide +kernel
theorem dX11_done_94 : decode cX11_done 94 = .ok (.getfield 157, 3) := by decide +kernel
theorem dX11_done_97 : decode cX11_done 97 = .ok (.invokevirtual 160, 3) := by decide +kernel
theorem dX11_done_100 : decode cX11_done 100 = .ok (.aload_n 0, 1) := by decide +kernel
theorem dX11_done_101 : decode cX11_done 101 = .ok (.getfield 58, 3) := by decide +kernel
theorem dX11_done_104 : decode cX11_done 104 = .ok (.iload 7, 2) := by decide +kernel
theorem dX11_done_106 : decode cX11_done 106 = .ok (.aload_n 0, 1) := by decide +kernel
theorem dX11_done_107 : decode cX11_done 107 = .ok (.getfield 39, 3) := by decide +kernel
theorem dX11_done_110 : decode cX11_done 110 = .ok (.invokevirtual 250, 3) := by decide +kernel
theorem dX11_done_113 : decode cX11_done 113 = .ok (.aload 4, 2) := by decide +kernel
theorem dX11_done_115 : decode cX11_done 115 = .ok (.iload_n 2, 1) := by decide +kernel
theorem dX11_done_116 : decode cX11_done 116 = .ok (.aload_n 0, 1) := by decide +kernel
theorem dX11_done_117 : decode cX11_done 117 = .ok (.getfield 39, 3) := by decide +kernel
theorem dX11_done_120 : decode cX11_done 120 = .ok (.invokevirtual 254, 3) := by decide +kernel
theorem dX11_done_123 : decode cX11_done 123 = .ok (.ifCond .eq 10, 3) := by decide +kernel
theorem dX11_done_126 : decode cX11_done 126 = .ok (.iinc 5 1, 3) := by decide +kernel
theorem dX11_done_129 : decode cX11_done 129 = .ok (.iload 7, 2) := by decide +kernel
theorem dX11_done_131 : decode cX11_done 131 = .ok (.istore 6, 2) := by decide +kernel
theorem dX11_done_133 : decode cX11_done 133 = .ok (.iinc 7 (-1), 3) := by decide +kernel
theorem dX11_done_136 : decode cX11_done 136 = .ok (.goto (-55), 3) := by decide +kernel
theorem dX11_done_139 : decode cX11_done 139 = .ok (.aload_n 0, 1) := by decide +kernel
theorem dX11_done_140 : decode cX11_done 140 = .ok (.iload_n 3, 1) := by decide +kernel
theorem dX11_done_141 : decode cX11_done 141 = .ok (.ifCond .ne 8, 3) := by decide +kernel
theorem dX11_done_144 : decode cX11_done 144 = .ok (.iload 5, 2) := by decide +kernel
theorem dX11_done_146 : decode cX11_done 146 = .ok (.goto 5, 3) := by decide +kernel
theorem dX11_done_149 : decode cX11_done 149 = .ok (.iload 6, 2) := by decide +kernel
theorem dX11_done_151 : decode cX11_done 151 = .ok (.invokevirtual 83, 3) := by decide +kernel
theorem dX11_done_154 : decode cX11_done 154 = .ok (.ireturn, 1) := by decide +kernel
theorem dX11_cups_0 : decode cX11_cups 0 = .ok (.aload_n 0, 1) := by decide +kernel
theorem dX11_cups_1 : decode cX11_cups 1 = .ok (.getfield 133, 3) := by decide +kernel
theorem dX11_cups_4 : decode cX11_cups 4 = .ok (.ifCond .ne 6, 3) := by decide +kernel
theorem dX11_cups_7 : decode cX11_cups 7 = .ok (.ldc 153, 2) := by decide +kernel
theorem dX11_cups_9 : decode cX11_cups 9 = .ok (.ireturn, 1) := by decide +kernel
theorem dX11_cups_10 : decode cX11_cups 10 = .ok (.iload_n 1, 1) := by decide +kernel
theorem dX11_cups_11 : decode cX11_cups 11 = .ok (.iconst 0, 1) := by decide +kernel
theorem dX11_cups_12 : decode cX11_cups 12 = .ok (.sipush 32767, 3) := by decide +kernel
theorem dX11_cups_15 : decode cX11_cups 15 = .ok (.invokestatic 70, 3) := by decide +kernel
theorem dX11_cups_18 : decode cX11_cups 18 = .ok (.ifCond .eq 14, 3) := by decide +kernel
theorem dX11_cups_21 : decode cX11_cups 21 = .ok (.iload_n 2, 1) := by decide +kernel
theorem dX11_cups_22 : decode cX11_cups 22 = .ok (.iconst 1, 1) := by decide +kernel
theorem dX11_cups_23 : decode cX11_cups 23 = .ok (.sipush 999, 3) := by decide +kernel
theorem dX11_cups_26 : decode cX11_cups 26 = .ok (.invokestatic 70, 3) := by decide +kernel
theorem dX11_cups_29 : decode cX11_cups 29 = .ok (.ifCond .ne 6, 3) := by decide +kernel
theorem dX11_cups_32 : decode cX11_cups 32 = .ok (.ldc 74, 2) := by decide +kernel
theorem dX11_cups_34 : decode cX11_cups 34 = .ok (.ireturn, 1) := by decide +kernel
theorem dX11_cups_35 : decode cX11_cups 35 = .ok (.aload_n 0, 1) := by decide +kernel
theorem dX11_cups_36 : decode cX11_cups 36 = .ok (.getfield 58, 3) := by decide +kernel
theorem dX11_cups_39 : decode cX11_cups 39 = .ok (.getfield 157, 3) := by decide +kernel
theorem dX11_cups_42 : decode cX11_cups 42 = .ok (.iload_n 2, 1) := by decide +kernel
theorem dX11_cups_43 : decode cX11_cups 43 = .ok (.iload_n 1, 1) := by decide +kernel
theorem dX11_cups_44 : decode cX11_cups 44 = .ok (.invokevirtual 235, 3) := by decide +kernel
theorem dX11_cups_47 : decode cX11_cups 47 = .ok (.ireturn, 1) := by decide +kernel
theorem dX11_thin_0 : decode cX11_thin 0 = .ok (.aload_n 0, 1) := by decide +kernel
theorem dX11_thin_1 : decode cX11_thin 1 = .ok (.getfield 133, 3) := by decide +kernel
theorem dX11_thin_4 : decode cX11_thin 4 = .ok (.ifCond .ne 6, 3) := by decide +kernel
theorem dX11_thin_7 : decode cX11_thin 7 = .ok (.ldc 153, 2) := by decide +kernel
theorem dX11_thin_9 : decode cX11_thin 9 = .ok (.ireturn, 1) := by decide +kernel
theorem dX11_thin_10 : decode cX11_thin 10 = .ok (.aload_n 0, 1) := by decide +kernel
theorem dX11_thin_11 : decode cX11_thin 11 = .ok (.getfield 58, 3) := by decide +kernel
theorem dX11_thin_14 : decode cX11_thin 14 = .ok (.getfield 157, 3) := by decide +kernel
theorem dX11_thin_17 : decode cX11_thin 17 = .ok (.invokevirtual 258, 3) := by decide +kernel
theorem dX11_thin_20 : decode cX11_thin 20 = .ok (.ireturn, 1) := by decide +kernel
theorem dX11_dust_0 : decode cX11_dust 0 = .ok (.iload_n 1, 1) := by decide +kernel
theorem dX11_dust_1 : decode cX11_dust 1 = .ok (.iconst 0, 1) := by decide +kernel
theorem dX11_dust_2 : decode cX11_dust 2 = .ok (.bipush 10, 2) := by decide +kernel
theorem dX11_dust_4 : decode cX11_dust 4 = .ok (.invokestatic 70, 3) := by decide +kernel
theorem dX11_dust_7 : decode cX11_dust 7 = .ok (.ifCond .eq 32, 3) := by decide +kernel
theorem dX11_dust_10 : decode cX11_dust 10 = .ok (.iload_n 2, 1) := by decide +kernel
theorem dX11_dust_11 : decode cX11_dust 11 = .ok (.iconst 0, 1) := by decide +kernel
theorem dX11_dust_12 : decode cX11_dust 12 = .ok (.bipush 10, 2) := by decide +kernel
theorem dX11_dust_14 : decode cX11_dust 14 = .ok (.invokestatic 70, 3) := by decide +kernel
theorem dX11_dust_17 : decode cX11_dust 17 = .ok (.ifCond .eq 22, 3) := by decide +kernel
theorem dX11_dust_20 : decode cX11_dust 20 = .ok (.iload_n 3, 1) := by decide +kernel
theorem dX11_dust_21 : decode cX11_dust 21 = .ok (.iconst 0, 1) := by decide +kernel
theorem dX11_dust_22 : decode cX11_dust 22 = .ok (.iload_n 2, 1) := by decide +kernel
theorem dX11_dust_23 : decode cX11_dust 23 = .ok (.invokestatic 70, 3) := by decide +kernel
theorem dX11_dust_26 : decode cX11_dust 26 = .ok (.ifCond .eq 13, 3) := by decide +kernel
theorem dX11_dust_29 : decode cX11_dust 29 = .ok (.iload 4, 2) := by decide +kernel
theorem dX11_dust_31 : decode cX11_dust 31 = .ok (.iconst 0, 1) := by decide +kernel
theorem dX11_dust_32 : decode cX11_dust 32 = .ok (.iconst 1, 1) := by decide +kernel
theorem dX11_dust_33 : decode cX11_dust 33 = .ok (.invokestatic 70, 3) := by decide +kernel
theorem dX11_dust_36 : decode cX11_dust 36 = .ok (.ifCond .ne 7, 3) := by decide +kernel
theorem dX11_dust_39 : decode cX11_dust 39 = .ok (.ldc2_w 261, 3) := by decide +kernel
theorem dX11_dust_42 : decode cX11_dust 42 = .ok (.lreturn, 1) := by decide +kernel
theorem dX11_dust_43 : decode cX11_dust 43 = .ok (.lconst 1, 1) := by decide +kernel
theorem dX11_dust_44 : decode cX11_dust 44 = .ok (.lstore 5, 2) := by decide +kernel
theorem dX11_dust_46 : decode cX11_dust 46 = .ok (.lconst 0, 1) := by decide +kernel
theorem dX11_dust_47 : decode cX11_dust 47 = .ok (.lstore 7, 2) := by decide +kernel
theorem dX11_dust_49 : decode cX11_dust 49 = .ok (.iconst 0, 1) := by decide +kernel
theorem dX11_dust_50 : decode cX11_dust 50 = .ok (.istore 9, 2) := by decide +kernel
theorem dX11_dust_52 : decode cX11_dust 52 = .ok (.iload 9, 2) := by decide +kernel
theorem dX11_dust_54 : decode cX11_dust 54 = .ok (.iload_n 2, 1) := by decide +kernel
theorem dX11_dust_55 : decode cX11_dust 55 = .ok (.if_icmp .gt 59, 3) := by decide +kernel
theorem dX11_dust_58 : decode cX11_dust 58 = .ok (.iload 9, 2) := by decide +kernel
theorem dX11_dust_60 : decode cX11_dust 60 = .ok (.iload_n 3, 1) := by decide +kernel
theorem dX11_dust_61 : decode cX11_dust 61 = .ok (.if_icmp .lt 31, 3) := by decide +kernel
theorem dX11_dust_64 : decode cX11_dust 64 = .ok (.lload 7, 2) := by decide +kernel
theorem dX11_dust_66 : decode cX11_dust 66 = .ok (.lload 5, 2) := by decide +kernel
theorem dX11_dust_68 : decode cX11_dust 68 = .ok (.iload_n 1, 1) := by decide +kernel
theorem dX11_dust_69 : decode cX11_dust 69 = .ok (.i2l, 1) := by decide +kernel
theorem dX11_dust_70 : decode cX11_dust 70 = .ok (.iload 9, 2) := by decide +kernel
theorem dX11_dust_72 : decode cX11_dust 72 = .ok (.invokestatic 263, 3) := by decide +kernel
theorem dX11_dust_75 : decode cX11_dust 75 = .ok (.lmul, 1) := by decide +kernel
theorem dX11_dust_76 : decode cX11_dust 76 = .ok (.bipush 10, 2) := by decide +kernel
theorem dX11_dust_78 : decode cX11_dust 78 = .ok (.iload_n 1, 1) := by decide +kernel
theorem dX11_dust_79 : decode cX11_dust 79 = .ok (.isub, 1) := by decide +kernel
theorem dX11_dust_80 : decode cX11_dust 80 = .ok (.i2l, 1) := by decide +kernel
theorem dX11_dust_81 : decode cX11_dust 81 = .ok (.iload_n 2, 1) := by decide +kernel
theorem dX11_dust_82 : decode cX11_dust 82 = .ok (.iload 9, 2) := by decide +kernel
theorem dX11_dust_84 : decode cX11_dust 84 = .ok (.isub, 1) := by decide +kernel
theorem dX11_dust_85 : decode cX11_dust 85 = .ok (.invokestatic 263, 3) := by decide +kernel
theorem dX11_dust_88 : decode cX11_dust 88 = .ok (.lmul, 1) := by decide +kernel
theorem dX11_dust_89 : decode cX11_dust 89 = .ok (.ladd, 1) := by decide +kernel
theorem dX11_dust_90 : decode cX11_dust 90 = .ok (.lstore 7, 2) := by decide +kernel
theorem dX11_dust_92 : decode cX11_dust 92 = .ok (.lload 5, 2) := by decide +kernel
theorem dX11_dust_94 : decode cX11_dust 94 = .ok (.iload_n 2, 1) := by decide +kernel
theorem dX11_dust_95 : decode cX11_dust 95 = .ok (.iload 9, 2) := by decide +kernel
theorem dX11_dust_97 : decode cX11_dust 97 = .ok (.isub, 1) := by decide +kernel
theorem dX11_dust_98 : decode cX11_dust 98 = .ok (.i2l, 1) := by decide +kernel
theorem dX11_dust_99 : decode cX11_dust 99 = .ok (.lmul, 1) := by decide +kernel
theorem dX11_dust_100 : decode cX11_dust 100 = .ok (.iload 9, 2) := by decide +kernel
theorem dX11_dust_102 : decode cX11_dust 102 = .ok (.iconst 1, 1) := by decide +kernel
theorem dX11_dust_103 : decode cX11_dust 103 = .ok (.iadd, 1) := by decide +kernel
theorem dX11_dust_104 : decode cX11_dust 104 = .ok (.i2l, 1) := by decide +kernel
theorem dX11_dust_105 : decode cX11_dust 105 = .ok (.ldiv, 1) := by decide +kernel
theorem dX11_dust_106 : decode cX11_dust 106 = .ok (.lstore 5, 2) := by decide +kernel
theorem dX11_dust_108 : decode cX11_dust 108 = .ok (.iinc 9 1, 3) := by decide +kernel
theorem dX11_dust_111 : decode cX11_dust 111 = .ok (.goto (-59), 3) := by decide +kernel
theorem dX11_dust_114 : decode cX11_dust 114 = .ok (.ldc2_w 267, 3) := by decide +kernel
theorem dX11_dust_117 : decode cX11_dust 117 = .ok (.iload_n 2, 1) := by decide +kernel
theorem dX11_dust_118 : decode cX11_dust 118 = .ok (.invokestatic 263, 3) := by decide +kernel
theorem dX11_dust_121 : decode cX11_dust 121 = .ok (.lstore 9, 2) := by decide +kernel
theorem dX11_dust_123 : decode cX11_dust 123 = .ok (.lload 7, 2) := by decide +kernel
theorem dX11_dust_125 : decode cX11_dust 125 = .ok (.lload 9, 2) := by decide +kernel
theorem dX11_dust_127 : decode cX11_dust 127 = .ok (.invokestatic 269, 3) := by decide +kernel
theorem dX11_dust_130 : decode cX11_dust 130 = .ok (.lstore 11, 2) := by decide +kernel
theorem dX11_dust_132 : decode cX11_dust 132 = .ok (.iload 4, 2) := by decide +kernel
theorem dX11_dust_134 : decode cX11_dust 134 = .ok (.ifCond .ne 8, 3) := by decide +kernel
theorem dX11_dust_137 : decode cX11_dust 137 = .ok (.lload 7, 2) := by decide +kernel
theorem dX11_dust_139 : decode cX11_dust 139 = .ok (.goto 5, 3) := by decide +kernel
theorem dX11_dust_142 : decode cX11_dust 142 = .ok (.lload 9, 2) := by decide +kernel
theorem dX11_dust_144 : decode cX11_dust 144 = .ok (.lload 11, 2) := by decide +kernel
theorem dX11_dust_146 : decode cX11_dust 146 = .ok (.ldiv, 1) := by decide +kernel
theorem dX11_dust_147 : decode cX11_dust 147 = .ok (.lreturn, 1) := by decide +kernel
theorem dX11_evenings_0 : decode cX11_evenings 0 = .ok (.aload_n 0, 1) := by decide +kernel
theorem dX11_evenings_1 : decode cX11_evenings 1 = .ok (.getfield 133, 3) := by decide +kernel
theorem dX11_evenings_4 : decode cX11_evenings 4 = .ok (.ifCond .ne 6, 3) := by decide +kernel
theorem dX11_evenings_7 : decode cX11_evenings 7 = .ok (.ldc 153, 2) := by decide +kernel
theorem dX11_evenings_9 : decode cX11_evenings 9 = .ok (.ireturn, 1) := by decide +kernel
theorem dX11_evenings_10 : decode cX11_evenings 10 = .ok (.iload_n 1, 1) := by decide +kernel
theorem dX11_evenings_11 : decode cX11_evenings 11 = .ok (.iconst 0, 1) := by decide +kernel
theorem dX11_evenings_12 : decode cX11_evenings 12 = .ok (.bipush 30, 2) := by decide +kernel
theorem dX11_evenings_14 : decode cX11_evenings 14 = .ok (.invokestatic 70, 3) := by decide +kernel
theorem dX11_evenings_17 : decode cX11_evenings 17 = .ok (.ifCond .eq 23, 3) := by decide +kernel
theorem dX11_evenings_20 : decode cX11_evenings 20 = .ok (.iload_n 2, 1) := by decide +kernel
theorem dX11_evenings_21 : decode cX11_evenings 21 = .ok (.iconst 1, 1) := by decide +kernel
theorem dX11_evenings_22 : decode cX11_evenings 22 = .ok (.ldc_w 273, 3) := by decide +kernel
theorem dX11_evenings_25 : decode cX11_evenings 25 = .ok (.invokestatic 70, 3) := by decide +kernel
theorem dX11_evenings_28 : decode cX11_evenings 28 = .ok (.ifCond .eq 12, 3) := by decide +kernel
theorem dX11_evenings_31 : decode cX11_evenings 31 = .ok (.iload_n 3, 1) := by decide +kernel
theorem dX11_evenings_32 : decode cX11_evenings 32 = .ok (.iconst 0, 1) := by decide +kernel
theorem dX11_evenings_33 : decode cX11_evenings 33 = .ok (.iconst 1, 1) := by decide +kernel
theorem dX11_evenings_34 : decode cX11_evenings 34 = .ok (.invokestatic 70, 3) := by decide +kernel
theorem dX11_evenings_37 : decode cX11_evenings 37 = .ok (.ifCond .ne 6, 3) := by decide +kernel
theorem dX11_evenings_40 : decode cX11_evenings 40 = .ok (.ldc 74, 2) := by decide +kernel
theorem dX11_evenings_42 : decode cX11_evenings 42 = .ok (.ireturn, 1) := by decide +kernel
theorem dX11_evenings_43 : decode cX11_evenings 43 = .ok (.aload_n 0, 1) := by decide +kernel
theorem dX11_evenings_44 : decode cX11_evenings 44 = .ok (.getfield 39, 3) := by decide +kernel
theorem dX11_evenings_47 : decode cX11_evenings 47 = .ok (.aload_n 0, 1) := by decide +kernel
theorem dX11_evenings_48 : decode cX11_evenings 48 = .ok (.getfield 58, 3) := by decide +kernel
theorem dX11_evenings_51 : decode cX11_evenings 51 = .ok (.getfield 157, 3) := by decide +kernel
theorem dX11_evenings_54 : decode cX11_evenings 54 = .ok (.invokevirtual 160, 3) := by decide +kernel
theorem dX11_evenings_57 : decode cX11_evenings 57 = .ok (.aload_n 0, 1) := by decide +kernel
theorem dX11_evenings_58 : decode cX11_evenings 58 = .ok (.getfield 58, 3) := by decide +kernel
theorem dX11_evenings_61 : decode cX11_evenings 61 = .ok (.getfield 140, 3) := by decide +kernel
theorem dX11_evenings_64 : decode cX11_evenings 64 = .ok (.invokevirtual 144, 3) := by decide +kernel
theorem dX11_evenings_67 : decode cX11_evenings 67 = .ok (.istore 4, 2) := by decide +kernel
theorem dX11_evenings_69 : decode cX11_evenings 69 = .ok (.iload_n 2, 1) := by decide +kernel
theorem dX11_evenings_70 : decode cX11_evenings 70 = .ok (.i2l, 1) := by decide +kernel
theorem dX11_evenings_71 : decode cX11_evenings 71 = .ok (.lstore 5, 2) := by decide +kernel
theorem dX11_evenings_73 : decode cX11_evenings 73 = .ok (.iconst 0, 1) := by decide +kernel
theorem dX11_evenings_74 : decode cX11_evenings 74 = .ok (.istore 7, 2) := by decide +kernel
theorem dX11_evenings_76 : decode cX11_evenings 76 = .ok (.iload 7, 2) := by decide +kernel
theorem dX11_evenings_78 : decode cX11_evenings 78 = .ok (.iload_n 1, 1) := by decide +kernel
theorem dX11_evenings_79 : decode cX11_evenings 79 = .ok (.if_icmp .ge 78, 3) := by decide +kernel
theorem dX11_evenings_82 : decode cX11_evenings 82 = .ok (.lload 5, 2) := by decide +kernel
theorem dX11_evenings_84 : decode cX11_evenings 84 = .ok (.ldc2_w 274, 3) := by decide +kernel
theorem dX11_evenings_87 : decode cX11_evenings 87 = .ok (.lmul, 1) := by decide +kernel
theorem dX11_evenings_88 : decode cX11_evenings 88 = .ok (.ldc2_w 276, 3) := by decide +kernel
theorem dX11_evenings_91 : decode cX11_evenings 91 = .ok (.lrem, 1) := by decide +kernel
theorem dX11_evenings_92 : decode cX11_evenings 92 = .ok (.lstore 5, 2) := by decide +kernel
theorem dX11_evenings_94 : decode cX11_evenings 94 = .ok (.iload 4, 2) := by decide +kernel
theorem dX11_evenings_96 : decode cX11_evenings 96 = .ok (.ifCond .le 30, 3) := by decide +kernel
theorem dX11_evenings_99 : decode cX11_evenings 99 = .ok (.aload_n 0, 1) := by decide +kernel
theorem dX11_evenings_100 : decode cX11_evenings 100 = .ok (.getfield 58, 3) := by decide +kernel
theorem dX11_evenings_103 : decode cX11_evenings 103 = .ok (.getfield 140, 3) := by decide +kernel
theorem dX11_evenings_106 : decode cX11_evenings 106 = .ok (.lload 5, 2) := by decide +kernel
theorem dX11_evenings_108 : decode cX11_evenings 108 = .ok (.iload 4, 2) := by decide +kernel
theorem dX11_evenings_110 : decode cX11_evenings 110 = .ok (.i2l, 1) := by decide +kernel
theorem dX11_evenings_111 : decode cX11_evenings 111 = .ok (.lrem, 1) := by decide +kernel
theorem dX11_evenings_112 : decode cX11_evenings 112 = .ok (.l2i, 1) := by decide +kernel
theorem dX11_evenings_113 : decode cX11_evenings 113 = .ok (.invokevirtual 278, 3) := by decide +kernel
theorem dX11_evenings_116 : decode cX11_evenings 116 = .ok (.checkcast 178, 3) := by decide +kernel
theorem dX11_evenings_119 : decode cX11_evenings 119 = .ok (.aload_n 0, 1) := by decide +kernel
theorem dX11_evenings_120 : decode cX11_evenings 120 = .ok (.getfield 39, 3) := by decide +kernel
theorem dX11_evenings_123 : decode cX11_evenings 123 = .ok (.invokevirtual 177, 3) := by decide +kernel
theorem dX11_evenings_126 : decode cX11_evenings 126 = .ok (.lload 5, 2) := by decide +kernel
theorem dX11_evenings_128 : decode cX11_evenings 128 = .ok (.ldc2_w 282, 3) := by decide +kernel
theorem dX11_evenings_131 : decode cX11_evenings 131 = .ok (.lrem, 1) := by decide +kernel
theorem dX11_evenings_132 : decode cX11_evenings 132 = .ok (.lconst 0, 1) := by decide +kernel
theorem dX11_evenings_133 : decode cX11_evenings 133 = .ok (.lcmp, 1) := by decide +kernel
theorem dX11_evenings_134 : decode cX11_evenings 134 = .ok (.ifCond .ne 17, 3) := by decide +kernel
theorem dX11_evenings_137 : decode cX11_evenings 137 = .ok (.aload_n 0, 1) := by decide +kernel
theorem dX11_evenings_138 : decode cX11_evenings 138 = .ok (.getfield 39, 3) := by decide +kernel
theorem dX11_evenings_141 : decode cX11_evenings 141 = .ok (.lload 5, 2) := by decide +kernel
theorem dX11_evenings_143 : decode cX11_evenings 143 = .ok (.ldc2_w 284, 3) := by decide +kernel
theorem dX11_evenings_146 : decode cX11_evenings 146 = .ok (.lrem, 1) := by decide +kernel
theorem dX11_evenings_147 : decode cX11_evenings 147 = .ok (.l2i, 1) := by decide +kernel
theorem dX11_evenings_148 : decode cX11_evenings 148 = .ok (.invokevirtual 185, 3) := by decide +kernel
theorem dX11_evenings_151 : decode cX11_evenings 151 = .ok (.iinc 7 1, 3) := by decide +kernel
theorem dX11_evenings_154 : decode cX11_evenings 154 = .ok (.goto (-78), 3) := by decide +kernel
theorem dX11_evenings_157 : decode cX11_evenings 157 = .ok (.iload_n 3, 1) := by decide +kernel
theorem dX11_evenings_158 : decode cX11_evenings 158 = .ok (.ifCond .ne 13, 3) := by decide +kernel
theorem dX11_evenings_161 : decode cX11_evenings 161 = .ok (.aload_n 0, 1) := by decide +kernel
theorem dX11_evenings_162 : decode cX11_evenings 162 = .ok (.getfield 39, 3) := by decide +kernel
theorem dX11_evenings_165 : decode cX11_evenings 165 = .ok (.invokevirtual 198, 3) := by decide +kernel
theorem dX11_evenings_168 : decode cX11_evenings 168 = .ok (.goto 10, 3) := by decide +kernel
theorem dX11_evenings_171 : decode cX11_evenings 171 = .ok (.aload_n 0, 1) := by decide +kernel
theorem dX11_evenings_172 : decode cX11_evenings 172 = .ok (.getfield 39, 3) := by decide +kernel
theorem dX11_evenings_175 : decode cX11_evenings 175 = .ok (.invokevirtual 223, 3) := by decide +kernel
theorem dX11_evenings_178 : decode cX11_evenings 178 = .ok (.ireturn, 1) := by decide +kernel
theorem dX11_image_0 : decode cX11_image 0 = .ok (.iload_n 1, 1) := by decide +kernel
theorem dX11_image_1 : decode cX11_image 1 = .ok (.iconst 0, 1) := by decide +kernel
theorem dX11_image_2 : decode cX11_image 2 = .ok (.iconst 1, 1) := by decide +kernel
theorem dX11_image_3 : decode cX11_image 3 = .ok (.invokestatic 70, 3) := by decide +kernel
theorem dX11_image_6 : decode cX11_image 6 = .ok (.ifCond .ne 6, 3) := by decide +kernel
theorem dX11_image_9 : decode cX11_image 9 = .ok (.ldc 74, 2) := by decide +kernel
theorem dX11_image_11 : decode cX11_image 11 = .ok (.ireturn, 1) := by decide +kernel
theorem dX11_image_12 : decode cX11_image 12 = .ok (.aload_n 0, 1) := by decide +kernel
theorem dX11_image_13 : decode cX11_image 13 = .ok (.getfield 133, 3) := by decide +kernel
theorem dX11_image_16 : decode cX11_image 16 = .ok (.ifCond .ne 6, 3) := by decide +kernel
theorem dX11_image_19 : decode cX11_image 19 = .ok (.ldc 153, 2) := by decide +kernel
theorem dX11_image_21 : decode cX11_image 21 = .ok (.ireturn, 1) := by decide +kernel
theorem dX11_image_22 : decode cX11_image 22 = .ok (.aload_n 0, 1) := by decide +kernel
theorem dX11_image_23 : decode cX11_image 23 = .ok (.getfield 24, 3) := by decide +kernel
theorem dX11_image_26 : decode cX11_image 26 = .ok (.iload_n 1, 1) := by decide +kernel
theorem dX11_image_27 : decode cX11_image 27 = .ok (.aaload, 1) := by decide +kernel
theorem dX11_image_28 : decode cX11_image 28 = .ok (.aload_n 0, 1) := by decide +kernel
theorem dX11_image_29 : decode cX11_image 29 = .ok (.getfield 58, 3) := by decide +kernel
theorem dX11_image_32 : decode cX11_image 32 = .ok (.invokevirtual 286, 3) := by decide +kernel
theorem dX11_image_35 : decode cX11_image 35 = .ok (.aload_n 0, 1) := by decide +kernel
theorem dX11_image_36 : decode cX11_image 36 = .ok (.getfield 28, 3) := by decide +kernel
theorem dX11_image_39 : decode cX11_image 39 = .ok (.iload_n 1, 1) := by decide +kernel
theorem dX11_image_40 : decode cX11_image 40 = .ok (.iconst 1, 1) := by decide +kernel
theorem dX11_image_41 : decode cX11_image 41 = .ok (.bastore, 1) := by decide +kernel
theorem dX11_image_42 : decode cX11_image 42 = .ok (.iconst 1, 1) := by decide +kernel
theorem dX11_image_43 : decode cX11_image 43 = .ok (.ireturn, 1) := by decide +kernel
theorem dX11_restore_0 : decode cX11_restore 0 = .ok (.iload_n 1, 1) := by decide +kernel
theorem dX11_restore_1 : decode cX11_restore 1 = .ok (.iconst 0, 1) := by decide +kernel
theorem dX11_restore_2 : decode cX11_restore 2 = .ok (.iconst 1, 1) := by decide +kernel
theorem dX11_restore_3 : decode cX11_restore 3 = .ok (.invokestatic 70, 3) := by decide +kernel
theorem dX11_restore_6 : decode cX11_restore 6 = .ok (.ifCond .ne 6, 3) := by decide +kernel
theorem dX11_restore_9 : decode cX11_restore 9 = .ok (.ldc 74, 2) := by decide +kernel
theorem dX11_restore_11 : decode cX11_restore 11 = .ok (.ireturn, 1) := by decide +kernel
theorem dX11_restore_12 : decode cX11_restore 12 = .ok (.aload_n 0, 1) := by decide +kernel
theorem dX11_restore_13 : decode cX11_restore 13 = .ok (.getfield 28, 3) := by decide +kernel
theorem dX11_restore_16 : decode cX11_restore 16 = .ok (.iload_n 1, 1) := by decide +kernel
theorem dX11_restore_17 : decode cX11_restore 17 = .ok (.baload, 1) := by decide +kernel
theorem dX11_restore_18 : decode cX11_restore 18 = .ok (.ifCond .ne 6, 3) := by decide +kernel
theorem dX11_restore_21 : decode cX11_restore 21 = .ok (.ldc 153, 2) := by decide +kernel
theorem dX11_restore_23 : decode cX11_restore 23 = .ok (.ireturn, 1) := by decide +kernel
theorem dX11_restore_24 : decode cX11_restore 24 = .ok (.aload_n 0, 1) := by decide +kernel
theorem dX11_restore_25 : decode cX11_restore 25 = .ok (.getfield 58, 3) := by decide +kernel
theorem dX11_restore_28 : decode cX11_restore 28 = .ok (.aload_n 0, 1) := by decide +kernel
theorem dX11_restore_29 : decode cX11_restore 29 = .ok (.getfield 24, 3) := by decide +kernel
theorem dX11_restore_32 : decode cX11_restore 32 = .ok (.iload_n 1, 1) := by decide +kernel
theorem dX11_restore_33 : decode cX11_restore 33 = .ok (.aaload, 1) := by decide +kernel
theorem dX11_restore_34 : decode cX11_restore 34 = .ok (.invokevirtual 286, 3) := by decide +kernel
theorem dX11_restore_37 : decode cX11_restore 37 = .ok (.aload_n 0, 1) := by decide +kernel
theorem dX11_restore_38 : decode cX11_restore 38 = .ok (.invokevirtual 137, 3) := by decide +kernel
theorem dX11_restore_41 : decode cX11_restore 41 = .ok (.iconst 1, 1) := by decide +kernel
theorem dX11_restore_42 : decode cX11_restore 42 = .ok (.ireturn, 1) := by decide +kernel
theorem dX11_kind_0 : decode cX11_kind 0 = .ok (.aload_n 0, 1) := by decide +kernel
theorem dX11_kind_1 : decode cX11_kind 1 = .ok (.iload_n 1, 1) := by decide +kernel
theorem dX11_kind_2 : decode cX11_kind 2 = .ok (.invokevirtual 173, 3) := by decide +kernel
theorem dX11_kind_5 : decode cX11_kind 5 = .ok (.astore_n 2, 1) := by decide +kernel
theorem dX11_kind_6 : decode cX11_kind 6 = .ok (.aload_n 2, 1) := by decide +kernel
theorem dX11_kind_7 : decode cX11_kind 7 = .ok (.ifnonnull 8, 3) := by decide +kernel
theorem dX11_kind_10 : decode cX11_kind 10 = .ok (.ldc 74, 2) := by decide +kernel
theorem dX11_kind_12 : decode cX11_kind 12 = .ok (.goto 7, 3) := by decide +kernel
theorem dX11_kind_15 : decode cX11_kind 15 = .ok (.aload_n 2, 1) := by decide +kernel
theorem dX11_kind_16 : decode cX11_kind 16 = .ok (.invokevirtual 289, 3) := by decide +kernel
theorem dX11_kind_19 : decode cX11_kind 19 = .ok (.ireturn, 1) := by decide +kernel
theorem dX11_as_0 : decode cX11_as 0 = .ok (.aload_n 0, 1) := by decide +kernel
theorem dX11_as_1 : decode cX11_as 1 = .ok (.iload_n 1, 1) := by decide +kernel
theorem dX11_as_2 : decode cX11_as 2 = .ok (.invokevirtual 173, 3) := by decide +kernel
theorem dX11_as_5 : decode cX11_as 5 = .ok (.astore_n 3, 1) := by decide +kernel
theorem dX11_as_6 : decode cX11_as 6 = .ok (.aload_n 3, 1) := by decide +kernel
theorem dX11_as_7 : decode cX11_as 7 = .ok (.ifnull 12, 3) := by decide +kernel
theorem dX11_as_10 : decode cX11_as 10 = .ok (.iload_n 2, 1) := by decide +kernel
theorem dX11_as_11 : decode cX11_as 11 = .ok (.iconst 0, 1) := by decide +kernel
theorem dX11_as_12 : decode cX11_as 12 = .ok (.iconst 5, 1) := by decide +kernel
theorem dX11_as_13 : decode cX11_as 13 = .ok (.invokestatic 70, 3) := by decide +kernel
theorem dX11_as_16 : decode cX11_as 16 = .ok (.ifCond .ne 6, 3) := by decide +kernel
theorem dX11_as_19 : decode cX11_as 19 = .ok (.ldc 74, 2) := by decide +kernel
theorem dX11_as_21 : decode cX11_as 21 = .ok (.ireturn, 1) := by decide +kernel
theorem dX11_as_22 : decode cX11_as 22 = .ok (.aload_n 3, 1) := by decide +kernel
theorem dX11_as_23 : decode cX11_as 23 = .ok (.iload_n 2, 1) := by decide +kernel
theorem dX11_as_24 : decode cX11_as 24 = .ok (.invokestatic 292, 3) := by decide +kernel
theorem dX11_as_27 : decode cX11_as 27 = .ok (.ifCond .eq 11, 3) := by decide +kernel
theorem dX11_as_30 : decode cX11_as 30 = .ok (.aload_n 0, 1) := by decide +kernel
theorem dX11_as_31 : decode cX11_as 31 = .ok (.iload_n 1, 1) := by decide +kernel
theorem dX11_as_32 : decode cX11_as 32 = .ok (.invokevirtual 83, 3) := by decide +kernel
theorem dX11_as_35 : decode cX11_as 35 = .ok (.goto 8, 3) := by decide +kernel
theorem dX11_as_38 : decode cX11_as 38 = .ok (.aload_n 0, 1) := by decide +kernel
theorem dX11_as_39 : decode cX11_as 39 = .ok (.iconst 3, 1) := by decide +kernel
theorem dX11_as_40 : decode cX11_as 40 = .ok (.invokevirtual 75, 3) := by decide +kernel
theorem dX11_as_43 : decode cX11_as 43 = .ok (.ireturn, 1) := by decide +kernel
theorem dX11_ask_0 : decode cX11_ask 0 = .ok (.aload_n 0, 1) := by decide +kernel
theorem dX11_ask_1 : decode cX11_ask 1 = .ok (.iload_n 1, 1) := by decide +kernel
theorem dX11_ask_2 : decode cX11_ask 2 = .ok (.invokevirtual 173, 3) := by decide +kernel
theorem dX11_ask_5 : decode cX11_ask 5 = .ok (.astore_n 3, 1) := by decide +kernel
theorem dX11_ask_6 : decode cX11_ask 6 = .ok (.aload_n 3, 1) := by decide +kernel
theorem dX11_ask_7 : decode cX11_ask 7 = .ok (.ifnull 12, 3) := by decide +kernel
theorem dX11_ask_10 : decode cX11_ask 10 = .ok (.iload_n 2, 1) := by decide +kernel
theorem dX11_ask_11 : decode cX11_ask 11 = .ok (.iconst 0, 1) := by decide +kernel
theorem dX11_ask_12 : decode cX11_ask 12 = .ok (.iconst 1, 1) := by decide +kernel
theorem dX11_ask_13 : decode cX11_ask 13 = .ok (.invokestatic 70, 3) := by decide +kernel
theorem dX11_ask_16 : decode cX11_ask 16 = .ok (.ifCond .ne 6, 3) := by decide +kernel
theorem dX11_ask_19 : decode cX11_ask 19 = .ok (.ldc 74, 2) := by decide +kernel
theorem dX11_ask_21 : decode cX11_ask 21 = .ok (.ireturn, 1) := by decide +kernel
theorem dX11_ask_22 : decode cX11_ask 22 = .ok (.aload_n 0, 1) := by decide +kernel
theorem dX11_ask_23 : decode cX11_ask 23 = .ok (.getfield 46, 3) := by decide +kernel
theorem dX11_ask_26 : decode cX11_ask 26 = .ok (.iconst 0, 1) := by decide +kernel
theorem dX11_ask_27 : decode cX11_ask 27 = .ok (.putfield 295, 3) := by decide +kernel
theorem dX11_ask_30 : decode cX11_ask 30 = .ok (.aload_n 0, 1) := by decide +kernel
theorem dX11_ask_31 : decode cX11_ask 31 = .ok (.getfield 58, 3) := by decide +kernel
theorem dX11_ask_34 : decode cX11_ask 34 = .ok (.getfield 157, 3) := by decide +kernel
theorem dX11_ask_37 : decode cX11_ask 37 = .ok (.getfield 170, 3) := by decide +kernel
theorem dX11_ask_40 : decode cX11_ask 40 = .ok (.istore 4, 2) := by decide +kernel
theorem dX11_ask_42 : decode cX11_ask 42 = .ok (.iload_n 2, 1) := by decide +kernel
theorem dX11_ask_43 : decode cX11_ask 43 = .ok (.ifCond .ne 16, 3) := by decide +kernel
theorem dX11_ask_46 : decode cX11_ask 46 = .ok (.aload_n 3, 1) := by decide +kernel
theorem dX11_ask_47 : decode cX11_ask 47 = .ok (.iload 4, 2) := by decide +kernel
theorem dX11_ask_49 : decode cX11_ask 49 = .ok (.aload_n 0, 1) := by decide +kernel
theorem dX11_ask_50 : decode cX11_ask 50 = .ok (.getfield 46, 3) := by decide +kernel
theorem dX11_ask_53 : decode cX11_ask 53 = .ok (.invokevirtual 296, 3) := by decide +kernel
theorem dX11_ask_56 : decode cX11_ask 56 = .ok (.goto 13, 3) := by decide +kernel
theorem dX11_ask_59 : decode cX11_ask 59 = .ok (.aload_n 3, 1) := by decide +kernel
theorem dX11_ask_60 : decode cX11_ask 60 = .ok (.iload 4, 2) := by decide +kernel
theorem dX11_ask_62 : decode cX11_ask 62 = .ok (.aload_n 0, 1) := by decide +kernel
theorem dX11_ask_63 : decode cX11_ask 63 = .ok (.getfield 46, 3) := by decide +kernel
theorem dX11_ask_66 : decode cX11_ask 66 = .ok (.invokevirtual 299, 3) := by decide +kernel
theorem dX11_ask_69 : decode cX11_ask 69 = .ok (.ireturn, 1) := by decide +kernel
theorem dX11_trace_0 : decode cX11_trace 0 = .ok (.iload_n 1, 1) := by decide +kernel
theorem dX11_trace_1 : decode cX11_trace 1 = .ok (.iconst 0, 1) := by decide +kernel
theorem dX11_trace_2 : decode cX11_trace 2 = .ok (.aload_n 0, 1) := by decide +kernel
theorem dX11_trace_3 : decode cX11_trace 3 = .ok (.getfield 46, 3) := by decide +kernel
theorem dX11_trace_6 : decode cX11_trace 6 = .ok (.getfield 295, 3) := by decide +kernel
theorem dX11_trace_9 : decode cX11_trace 9 = .ok (.iconst 1, 1) := by decide +kernel
theorem dX11_trace_10 : decode cX11_trace 10 = .ok (.isub, 1) := by decide +kernel
theorem dX11_trace_11 : decode cX11_trace 11 = .ok (.invokestatic 70, 3) := by decide +kernel
theorem dX11_trace_14 : decode cX11_trace 14 = .ok (.ifCond .eq 15, 3) := by decide +kernel
theorem dX11_trace_17 : decode cX11_trace 17 = .ok (.aload_n 0, 1) := by decide +kernel
theorem dX11_trace_18 : decode cX11_trace 18 = .ok (.getfield 46, 3) := by decide +kernel
theorem dX11_trace_21 : decode cX11_trace 21 = .ok (.getfield 302, 3) := by decide +kernel
theorem dX11_trace_24 : decode cX11_trace 24 = .ok (.iload_n 1, 1) := by decide +kernel
theorem dX11_trace_25 : decode cX11_trace 25 = .ok (.iaload, 1) := by decide +kernel
theorem dX11_trace_26 : decode cX11_trace 26 = .ok (.goto 5, 3) := by decide +kernel
theorem dX11_trace_29 : decode cX11_trace 29 = .ok (.ldc 213, 2) := by decide +kernel
theorem dX11_trace_31 : decode cX11_trace 31 = .ok (.ireturn, 1) := by decide +kernel
theorem dX11_count_0 : decode cX11_count 0 = .ok (.iload_n 1, 1) := by decide +kernel
theorem dX11_count_1 : decode cX11_count 1 = .ok (.tableswitch 108 0 6 #[43, 48, 59, 67, 81, 95, 100], 43) := by decide +kernel
theorem dX11_count_44 : decode cX11_count 44 = .ok (.aload_n 0, 1) := by decide +kernel
theorem dX11_count_45 : decode cX11_count 45 = .ok (.invokevirtual 305, 3) := by decide +kernel
theorem dX11_count_48 : decode cX11_count 48 = .ok (.ireturn, 1) := by decide +kernel
theorem dX11_count_49 : decode cX11_count 49 = .ok (.aload_n 0, 1) := by decide +kernel
theorem dX11_count_50 : decode cX11_count 50 = .ok (.getfield 58, 3) := by decide +kernel
theorem dX11_count_53 : decode cX11_count 53 = .ok (.getfield 140, 3) := by decide +kernel
theorem dX11_count_56 : decode cX11_count 56 = .ok (.invokevirtual 144, 3) := by decide +kernel
theorem dX11_count_59 : decode cX11_count 59 = .ok (.ireturn, 1) := by decide +kernel
theorem dX11_count_60 : decode cX11_count 60 = .ok (.aload_n 0, 1) := by decide +kernel
theorem dX11_count_61 : decode cX11_count 61 = .ok (.getfield 58, 3) := by decide +kernel
theorem dX11_count_64 : decode cX11_count 64 = .ok (.getfield 192, 3) := by decide +kernel
theorem dX11_count_67 : decode cX11_count 67 = .ok (.ireturn, 1) := by decide +kernel
theorem dX11_count_68 : decode cX11_count 68 = .ok (.aload_n 0, 1) := by decide +kernel
theorem dX11_count_69 : decode cX11_count 69 = .ok (.getfield 58, 3) := by decide +kernel
theorem dX11_count_72 : decode cX11_count 72 = .ok (.getfield 157, 3) := by decide +kernel
theorem dX11_count_75 : decode cX11_count 75 = .ok (.getfield 189, 3) := by decide +kernel
theorem dX11_count_78 : decode cX11_count 78 = .ok (.invokestatic 308, 3) := by decide +kernel
theorem dX11_count_81 : decode cX11_count 81 = .ok (.ireturn, 1) := by decide +kernel
theorem dX11_count_82 : decode cX11_count 82 = .ok (.aload_n 0, 1) := by decide +kernel
theorem dX11_count_83 : decode cX11_count 83 = .ok (.getfield 58, 3) := by decide +kernel
theorem dX11_count_86 : decode cX11_count 86 = .ok (.getfield 157, 3) := by decide +kernel
theorem dX11_count_89 : decode cX11_count 89 = .ok (.getfield 201, 3) := by decide +kernel
theorem dX11_count_92 : decode cX11_count 92 = .ok (.invokestatic 308, 3) := by decide +kernel
theorem dX11_count_95 : decode cX11_count 95 = .ok (.ireturn, 1) := by decide +kernel
theorem dX11_count_96 : decode cX11_count 96 = .ok (.aload_n 0, 1) := by decide +kernel
theorem dX11_count_97 : decode cX11_count 97 = .ok (.getfield 150, 3) := by decide +kernel
theorem dX11_count_100 : decode cX11_count 100 = .ok (.ireturn, 1) := by decide +kernel
theorem dX11_count_101 : decode cX11_count 101 = .ok (.aload_n 0, 1) := by decide +kernel
theorem dX11_count_102 : decode cX11_count 102 = .ok (.getfield 18, 3) := by decide +kernel
theorem dX11_count_105 : decode cX11_count 105 = .ok (.getfield 117, 3) := by decide +kernel
theorem dX11_count_108 : decode cX11_count 108 = .ok (.ireturn, 1) := by decide +kernel
theorem dX11_count_109 : decode cX11_count 109 = .ok (.ldc 74, 2) := by decide +kernel
theorem dX11_count_111 : decode cX11_count 111 = .ok (.ireturn, 1) := by decide +kernel
theorem dX11_status_0 : decode cX11_status 0 = .ok (.aload_n 0, 1) := by decide +kernel
theorem dX11_status_1 : decode cX11_status 1 = .ok (.getfield 312, 3) := by decide +kernel
theorem dX11_status_4 : decode cX11_status 4 = .ok (.ireturn, 1) := by decide +kernel
theorem dX11_isWithin_0 : decode cX11_isWithin 0 = .ok (.iload_n 0, 1) := by decide +kernel
theorem dX11_isWithin_1 : decode cX11_isWithin 1 = .ok (.iload_n 1, 1) := by decide +kernel
theorem dX11_isWithin_2 : decode cX11_isWithin 2 = .ok (.if_icmp .lt 12, 3) := by decide +kernel
theorem dX11_isWithin_5 : decode cX11_isWithin 5 = .ok (.iload_n 0, 1) := by decide +kernel
theorem dX11_isWithin_6 : decode cX11_isWithin 6 = .ok (.iload_n 2, 1) := by decide +kernel
theorem dX11_isWithin_7 : decode cX11_isWithin 7 = .ok (.if_icmp .gt 7, 3) := by decide +kernel
theorem dX11_isWithin_10 : decode cX11_isWithin 10 = .ok (.iconst 1, 1) := by decide +kernel
theorem dX11_isWithin_11 : decode cX11_isWithin 11 = .ok (.goto 4, 3) := by decide +kernel
theorem dX11_isWithin_14 : decode cX11_isWithin 14 = .ok (.iconst 0, 1) := by decide +kernel
theorem dX11_isWithin_15 : decode cX11_isWithin 15 = .ok (.ireturn, 1) := by decide +kernel
theorem dX11_isRow_0 : decode cX11_isRow 0 = .ok (.iload_n 0, 1) := by decide +kernel
theorem dX11_isRow_1 : decode cX11_isRow 1 = .ok (.iconst 0, 1) := by decide +kernel
theorem dX11_isRow_2 : decode cX11_isRow 2 = .ok (.bipush 7, 2) := by decide +kernel
theorem dX11_isRow_4 : decode cX11_isRow 4 = .ok (.invokestatic 70, 3) := by decide +kernel
theorem dX11_isRow_7 : decode cX11_isRow 7 = .ok (.ireturn, 1) := by decide +kernel
theorem dX11_isCell_0 : decode cX11_isCell 0 = .ok (.iload_n 0, 1) := by decide +kernel
theorem dX11_isCell_1 : decode cX11_isCell 1 = .ok (.iconst 0, 1) := by decide +kernel
theorem dX11_isCell_2 : decode cX11_isCell 2 = .ok (.bipush 14, 2) := by decide +kernel
theorem dX11_isCell_4 : decode cX11_isCell 4 = .ok (.invokestatic 70, 3) := by decide +kernel
theorem dX11_isCell_7 : decode cX11_isCell 7 = .ok (.ireturn, 1) := by decide +kernel
theorem dX11_found_0 : decode cX11_found 0 = .ok (.aload_n 0, 1) := by decide +kernel
theorem dX11_found_1 : decode cX11_found 1 = .ok (.iload_n 1, 1) := by decide +kernel
theorem dX11_found_2 : decode cX11_found 2 = .ok (.putfield 312, 3) := by decide +kernel
theorem dX11_found_5 : decode cX11_found 5 = .ok (.ldc_w 315, 3) := by decide +kernel
theorem dX11_found_8 : decode cX11_found 8 = .ok (.iload_n 1, 1) := by decide +kernel
theorem dX11_found_9 : decode cX11_found 9 = .ok (.isub, 1) := by decide +kernel
theorem dX11_found_10 : decode cX11_found 10 = .ok (.ireturn, 1) := by decide +kernel
theorem dX11_unfound_0 : decode cX11_unfound 0 = .ok (.aload_n 0, 1) := by decide +kernel
theorem dX11_unfound_1 : decode cX11_unfound 1 = .ok (.iconst 0, 1) := by decide +kernel
theorem dX11_unfound_2 : decode cX11_unfound 2 = .ok (.putfield 312, 3) := by decide +kernel
theorem dX11_unfound_5 : decode cX11_unfound 5 = .ok (.iload_n 1, 1) := by decide +kernel
theorem dX11_unfound_6 : decode cX11_unfound 6 = .ok (.ireturn, 1) := by decide +kernel
theorem dX11_passOf_0 : decode cX11_passOf 0 = .ok (.iload_n 1, 1) := by decide +kernel
theorem dX11_passOf_1 : decode cX11_passOf 1 = .ok (.iconst 0, 1) := by decide +kernel
theorem dX11_passOf_2 : decode cX11_passOf 2 = .ok (.aload_n 0, 1) := by decide +kernel
theorem dX11_passOf_3 : decode cX11_passOf 3 = .ok (.getfield 58, 3) := by decide +kernel
theorem dX11_passOf_6 : decode cX11_passOf 6 = .ok (.getfield 140, 3) := by decide +kernel
theorem dX11_passOf_9 : decode cX11_passOf 9 = .ok (.invokevirtual 144, 3) := by decide +kernel
theorem dX11_passOf_12 : decode cX11_passOf 12 = .ok (.iconst 1, 1) := by decide +kernel
theorem dX11_passOf_13 : decode cX11_passOf 13 = .ok (.isub, 1) := by decide +kernel
theorem dX11_passOf_14 : decode cX11_passOf 14 = .ok (.invokestatic 70, 3) := by decide +kernel
theorem dX11_passOf_17 : decode cX11_passOf 17 = .ok (.ifCond .eq 20, 3) := by decide +kernel
theorem dX11_passOf_20 : decode cX11_passOf 20 = .ok (.aload_n 0, 1) := by decide +kernel
theorem dX11_passOf_21 : decode cX11_passOf 21 = .ok (.getfield 58, 3) := by decide +kernel
theorem dX11_passOf_24 : decode cX11_passOf 24 = .ok (.getfield 140, 3) := by decide +kernel
theorem dX11_passOf_27 : decode cX11_passOf 27 = .ok (.iload_n 1, 1) := by decide +kernel
theorem dX11_passOf_28 : decode cX11_passOf 28 = .ok (.invokevirtual 278, 3) := by decide +kernel
theorem dX11_passOf_31 : decode cX11_passOf 31 = .ok (.checkcast 178, 3) := by decide +kernel
theorem dX11_passOf_34 : decode cX11_passOf 34 = .ok (.goto 4, 3) := by decide +kernel
theorem dX11_passOf_37 : decode cX11_passOf 37 = .ok (.aconst_null, 1) := by decide +kernel
theorem dX11_passOf_38 : decode cX11_passOf 38 = .ok (.areturn, 1) := by decide +kernel
theorem dX11_allPasses_0 : decode cX11_allPasses 0 = .ok (.iconst 1, 1) := by decide +kernel
theorem dX11_allPasses_1 : decode cX11_allPasses 1 = .ok (.aload_n 0, 1) := by decide +kernel
theorem dX11_allPasses_2 : decode cX11_allPasses 2 = .ok (.getfield 58, 3) := by decide +kernel
theorem dX11_allPasses_5 : decode cX11_allPasses 5 = .ok (.getfield 140, 3) := by decide +kernel
theorem dX11_allPasses_8 : decode cX11_allPasses 8 = .ok (.invokevirtual 144, 3) := by decide +kernel
theorem dX11_allPasses_11 : decode cX11_allPasses 11 = .ok (.ishl, 1) := by decide +kernel
theorem dX11_allPasses_12 : decode cX11_allPasses 12 = .ok (.iconst 1, 1) := by decide +kernel
theorem dX11_allPasses_13 : decode cX11_allPasses 13 = .ok (.isub, 1) := by decide +kernel
theorem dX11_allPasses_14 : decode cX11_allPasses 14 = .ok (.ireturn, 1) := by decide +kernel
theorem dX11_keepAct_0 : decode cX11_keepAct 0 = .ok (.aload_n 0, 1) := by decide +kernel
theorem dX11_keepAct_1 : decode cX11_keepAct 1 = .ok (.getfield 34, 3) := by decide +kernel
theorem dX11_keepAct_4 : decode cX11_keepAct 4 = .ok (.aload_n 0, 1) := by decide +kernel
theorem dX11_keepAct_5 : decode cX11_keepAct 5 = .ok (.getfield 154, 3) := by decide +kernel
theorem dX11_keepAct_8 : decode cX11_keepAct 8 = .ok (.aaload, 1) := by decide +kernel
theorem dX11_keepAct_9 : decode cX11_keepAct 9 = .ok (.aload_n 0, 1) := by decide +kernel
theorem dX11_keepAct_10 : decode cX11_keepAct 10 = .ok (.getfield 58, 3) := by decide +kernel
theorem dX11_keepAct_13 : decode cX11_keepAct 13 = .ok (.getfield 157, 3) := by decide +kernel
theorem dX11_keepAct_16 : decode cX11_keepAct 16 = .ok (.invokevirtual 160, 3) := by decide +kernel
theorem dX11_keepAct_19 : decode cX11_keepAct 19 = .ok (.aload_n 0, 1) := by decide +kernel
theorem dX11_keepAct_20 : decode cX11_keepAct 20 = .ok (.aload_n 0, 1) := by decide +kernel
theorem dX11_keepAct_21 : decode cX11_keepAct 21 = .ok (.getfield 154, 3) := by decide +kernel
theorem dX11_keepAct_24 : decode cX11_keepAct 24 = .ok (.iconst 1, 1) := by decide +kernel
theorem dX11_keepAct_25 : decode cX11_keepAct 25 = .ok (.iadd, 1) := by decide +kernel
theorem dX11_keepAct_26 : decode cX11_keepAct 26 = .ok (.bipush 24, 2) := by decide +kernel
theorem dX11_keepAct_28 : decode cX11_keepAct 28 = .ok (.irem, 1) := by decide +kernel
theorem dX11_keepAct_29 : decode cX11_keepAct 29 = .ok (.putfield 154, 3) := by decide +kernel
theorem dX11_keepAct_32 : decode cX11_keepAct 32 = .ok (.aload_n 0, 1) := by decide +kernel
theorem dX11_keepAct_33 : decode cX11_keepAct 33 = .ok (.aload_n 0, 1) := by decide +kernel
theorem dX11_keepAct_34 : decode cX11_keepAct 34 = .ok (.getfield 150, 3) := by decide +kernel
theorem dX11_keepAct_37 : decode cX11_keepAct 37 = .ok (.iconst 1, 1) := by decide +kernel
theorem dX11_keepAct_38 : decode cX11_keepAct 38 = .ok (.iadd, 1) := by decide +kernel
theorem dX11_keepAct_39 : decode cX11_keepAct 39 = .ok (.bipush 24, 2) := by decide +kernel
theorem dX11_keepAct_41 : decode cX11_keepAct 41 = .ok (.invokestatic 316, 3) := by decide +kernel
theorem dX11_keepAct_44 : decode cX11_keepAct 44 = .ok (.putfield 150, 3) := by decide +kernel
theorem dX11_keepAct_47 : decode cX11_keepAct 47 = .ok (.return_, 1) := by decide +kernel
theorem dX11_forgetActs_0 : decode cX11_forgetActs 0 = .ok (.aload_n 0, 1) := by decide +kernel
theorem dX11_forgetActs_1 : decode cX11_forgetActs 1 = .ok (.iconst 0, 1) := by decide +kernel
theorem dX11_forgetActs_2 : decode cX11_forgetActs 2 = .ok (.putfield 150, 3) := by decide +kernel
theorem dX11_forgetActs_5 : decode cX11_forgetActs 5 = .ok (.return_, 1) := by decide +kernel
theorem dX11_guessRounds_0 : decode cX11_guessRounds 0 = .ok (.aload_n 0, 1) := by decide +kernel
theorem dX11_guessRounds_1 : decode cX11_guessRounds 1 = .ok (.getfield 39, 3) := by decide +kernel
theorem dX11_guessRounds_4 : decode cX11_guessRounds 4 = .ok (.aload_n 0, 1) := by decide +kernel
theorem dX11_guessRounds_5 : decode cX11_guessRounds 5 = .ok (.getfield 58, 3) := by decide +kernel
theorem dX11_guessRounds_8 : decode cX11_guessRounds 8 = .ok (.getfield 157, 3) := by decide +kernel
theorem dX11_guessRounds_11 : decode cX11_guessRounds 11 = .ok (.invokevirtual 160, 3) := by decide +kernel
theorem dX11_guessRounds_14 : decode cX11_guessRounds 14 = .ok (.iconst 0, 1) := by decide +kernel
theorem dX11_guessRounds_15 : decode cX11_guessRounds 15 = .ok (.istore_n 2, 1) := by decide +kernel
theorem dX11_guessRounds_16 : decode cX11_guessRounds 16 = .ok (.iload_n 2, 1) := by decide +kernel
theorem dX11_guessRounds_17 : decode cX11_guessRounds 17 = .ok (.iload_n 1, 1) := by decide +kernel
theorem dX11_guessRounds_18 : decode cX11_guessRounds 18 = .ok (.if_icmp .ge 20, 3) := by decide +kernel
theorem dX11_guessRounds_21 : decode cX11_guessRounds 21 = .ok (.aload_n 0, 1) := by decide +kernel
theorem dX11_guessRounds_22 : decode cX11_guessRounds 22 = .ok (.getfield 58, 3) := by decide +kernel
theorem dX11_guessRounds_25 : decode cX11_guessRounds 25 = .ok (.aload_n 0, 1) := by decide +kernel
theorem dX11_guessRounds_26 : decode cX11_guessRounds 26 = .ok (.getfield 39, 3) := by decide +kernel
theorem dX11_guessRounds_29 : decode cX11_guessRounds 29 = .ok (.invokevirtual 238, 3) := by decide +kernel
theorem dX11_guessRounds_32 : decode cX11_guessRounds 32 = .ok (.iinc 2 1, 3) := by decide +kernel
theorem dX11_guessRounds_35 : decode cX11_guessRounds 35 = .ok (.goto (-19), 3) := by decide +kernel
theorem dX11_guessRounds_38 : decode cX11_guessRounds 38 = .ok (.return_, 1) := by decide +kernel
theorem dX11_gainsAlong_0 : decode cX11_gainsAlong 0 = .ok (.aload_n 1, 1) := by decide +kernel
theorem dX11_gainsAlong_1 : decode cX11_gainsAlong 1 = .ok (.getfield 210, 3) := by decide +kernel
theorem dX11_gainsAlong_4 : decode cX11_gainsAlong 4 = .ok (.astore_n 3, 1) := by decide +kernel
theorem dX11_gainsAlong_5 : decode cX11_gainsAlong 5 = .ok (.aload_n 3, 1) := by decide +kernel
theorem dX11_gainsAlong_6 : decode cX11_gainsAlong 6 = .ok (.arraylength, 1) := by decide +kernel
theorem dX11_gainsAlong_7 : decode cX11_gainsAlong 7 = .ok (.istore 4, 2) := by decide +kernel
theorem dX11_gainsAlong_9 : decode cX11_gainsAlong 9 = .ok (.iconst 0, 1) := by decide +kernel
theorem dX11_gainsAlong_10 : decode cX11_gainsAlong 10 = .ok (.istore 5, 2) := by decide +kernel
theorem dX11_gainsAlong_12 : decode cX11_gainsAlong 12 = .ok (.iload 5, 2) := by decide +kernel
theorem dX11_gainsAlong_14 : decode cX11_gainsAlong 14 = .ok (.iload 4, 2) := by decide +kernel
theorem dX11_gainsAlong_16 : decode cX11_gainsAlong 16 = .ok (.if_icmp .ge 45, 3) := by decide +kernel
theorem dX11_gainsAlong_19 : decode cX11_gainsAlong 19 = .ok (.aload_n 3, 1) := by decide +kernel
theorem dX11_gainsAlong_20 : decode cX11_gainsAlong 20 = .ok (.iload 5, 2) := by decide +kernel
theorem dX11_gainsAlong_22 : decode cX11_gainsAlong 22 = .ok (.iaload, 1) := by decide +kernel
theorem dX11_gainsAlong_23 : decode cX11_gainsAlong 23 = .ok (.istore 6, 2) := by decide +kernel
theorem dX11_gainsAlong_25 : decode cX11_gainsAlong 25 = .ok (.aload_n 0, 1) := by decide +kernel
theorem dX11_gainsAlong_26 : decode cX11_gainsAlong 26 = .ok (.getfield 39, 3) := by decide +kernel
theorem dX11_gainsAlong_29 : decode cX11_gainsAlong 29 = .ok (.getfield 189, 3) := by decide +kernel
theorem dX11_gainsAlong_32 : decode cX11_gainsAlong 32 = .ok (.iload 6, 2) := by decide +kernel
theorem dX11_gainsAlong_34 : decode cX11_gainsAlong 34 = .ok (.iaload, 1) := by decide +kernel
theorem dX11_gainsAlong_35 : decode cX11_gainsAlong 35 = .ok (.aload_n 0, 1) := by decide +kernel
theorem dX11_gainsAlong_36 : decode cX11_gainsAlong 36 = .ok (.getfield 58, 3) := by decide +kernel
theorem dX11_gainsAlong_39 : decode cX11_gainsAlong 39 = .ok (.getfield 157, 3) := by decide +kernel
theorem dX11_gainsAlong_42 : decode cX11_gainsAlong 42 = .ok (.getfield 189, 3) := by decide +kernel
theorem dX11_gainsAlong_45 : decode cX11_gainsAlong 45 = .ok (.iload 6, 2) := by decide +kernel
theorem dX11_gainsAlong_47 : decode cX11_gainsAlong 47 = .ok (.iaload, 1) := by decide +kernel
theorem dX11_gainsAlong_48 : decode cX11_gainsAlong 48 = .ok (.iload_n 2, 1) := by decide +kernel
theorem dX11_gainsAlong_49 : decode cX11_gainsAlong 49 = .ok (.iadd, 1) := by decide +kernel
theorem dX11_gainsAlong_50 : decode cX11_gainsAlong 50 = .ok (.if_icmp .ge 5, 3) := by decide +kernel
theorem dX11_gainsAlong_53 : decode cX11_gainsAlong 53 = .ok (.iconst 0, 1) := by decide +kernel
theorem dX11_gainsAlong_54 : decode cX11_gainsAlong 54 = .ok (.ireturn, 1) := by decide +kernel
theorem dX11_gainsAlong_55 : decode cX11_gainsAlong 55 = .ok (.iinc 5 1, 3) := by decide +kernel
theorem dX11_gainsAlong_58 : decode cX11_gainsAlong 58 = .ok (.goto (-46), 3) := by decide +kernel
theorem dX11_gainsAlong_61 : decode cX11_gainsAlong 61 = .ok (.iconst 1, 1) := by decide +kernel
theorem dX11_gainsAlong_62 : decode cX11_gainsAlong 62 = .ok (.ireturn, 1) := by decide +kernel
theorem dX11_findBestOrder_0 : decode cX11_findBestOrder 0 = .ok (.aload_n 0, 1) := by decide +kernel
theorem dX11_findBestOrder_1 : decode cX11_findBestOrder 1 = .ok (.getfield 58, 3) := by decide +kernel
theorem dX11_findBestOrder_4 : decode cX11_findBestOrder 4 = .ok (.getfield 140, 3) := by decide +kernel
theorem dX11_findBestOrder_7 : decode cX11_findBestOrder 7 = .ok (.invokevirtual 144, 3) := by decide +kernel
theorem dX11_findBestOrder_10 : decode cX11_findBestOrder 10 = .ok (.istore_n 1, 1) := by decide +kernel
theorem dX11_findBestOrder_11 : decode cX11_findBestOrder 11 = .ok (.sipush 1000, 3) := by decide +kernel
theorem dX11_findBestOrder_14 : decode cX11_findBestOrder 14 = .ok (.istore_n 2, 1) := by decide +kernel
theorem dX11_findBestOrder_15 : decode cX11_findBestOrder 15 = .ok (.iconst 0, 1) := by decide +kernel
theorem dX11_findBestOrder_16 : decode cX11_findBestOrder 16 = .ok (.istore_n 3, 1) := by decide +kernel
theorem dX11_findBestOrder_17 : decode cX11_findBestOrder 17 = .ok (.iload_n 3, 1) := by decide +kernel
theorem dX11_findBestOrder_18 : decode cX11_findBestOrder 18 = .ok (.getstatic 321, 3) := by decide +kernel
theorem dX11_findBestOrder_21 : decode cX11_findBestOrder 21 = .ok (.iload_n 1, 1) := by decide +kernel
theorem dX11_findBestOrder_22 : decode cX11_findBestOrder 22 = .ok (.iaload, 1) := by decide +kernel
theorem dX11_findBestOrder_23 : decode cX11_findBestOrder 23 = .ok (.if_icmp .ge 109, 3) := by decide +kernel
theorem dX11_findBestOrder_26 : decode cX11_findBestOrder 26 = .ok (.aload_n 0, 1) := by decide +kernel
theorem dX11_findBestOrder_27 : decode cX11_findBestOrder 27 = .ok (.iload_n 3, 1) := by decide +kernel
theorem dX11_findBestOrder_28 : decode cX11_findBestOrder 28 = .ok (.iload_n 1, 1) := by decide +kernel
theorem dX11_findBestOrder_29 : decode cX11_findBestOrder 29 = .ok (.invokevirtual 324, 3) := by decide +kernel
theorem dX11_findBestOrder_32 : decode cX11_findBestOrder 32 = .ok (.ifCond .ne 6, 3) := by decide +kernel
theorem dX11_findBestOrder_35 : decode cX11_findBestOrder 35 = .ok (.goto 91, 3) := by decide +kernel
theorem dX11_findBestOrder_38 : decode cX11_findBestOrder 38 = .ok (.aload_n 0, 1) := by decide +kernel
theorem dX11_findBestOrder_39 : decode cX11_findBestOrder 39 = .ok (.getfield 39, 3) := by decide +kernel
theorem dX11_findBestOrder_42 : decode cX11_findBestOrder 42 = .ok (.aload_n 0, 1) := by decide +kernel
theorem dX11_findBestOrder_43 : decode cX11_findBestOrder 43 = .ok (.getfield 58, 3) := by decide +kernel
theorem dX11_findBestOrder_46 : decode cX11_findBestOrder 46 = .ok (.getfield 157, 3) := by decide +kernel
theorem dX11_findBestOrder_49 : decode cX11_findBestOrder 49 = .ok (.invokevirtual 160, 3) := by decide +kernel
theorem dX11_findBestOrder_52 : decode cX11_findBestOrder 52 = .ok (.iconst 0, 1) := by decide +kernel
theorem dX11_findBestOrder_53 : decode cX11_findBestOrder 53 = .ok (.istore 4, 2) := by decide +kernel
theorem dX11_findBestOrder_55 : decode cX11_findBestOrder 55 = .ok (.iload 4, 2) := by decide +kernel
theorem dX11_findBestOrder_57 : decode cX11_findBestOrder 57 = .ok (.iload_n 1, 1) := by decide +kernel
theorem dX11_findBestOrder_58 : decode cX11_findBestOrder 58 = .ok (.if_icmp .ge 36, 3) := by decide +kernel
theorem dX11_findBestOrder_61 : decode cX11_findBestOrder 61 = .ok (.aload_n 0, 1) := by decide +kernel
theorem dX11_findBestOrder_62 : decode cX11_findBestOrder 62 = .ok (.getfield 58, 3) := by decide +kernel
theorem dX11_findBestOrder_65 : decode cX11_findBestOrder 65 = .ok (.getfield 140, 3) := by decide +kernel
theorem dX11_findBestOrder_68 : decode cX11_findBestOrder 68 = .ok (.aload_n 0, 1) := by decide +kernel
theorem dX11_findBestOrder_69 : decode cX11_findBestOrder 69 = .ok (.getfield 50, 3) := by decide +kernel
theorem dX11_findBestOrder_72 : decode cX11_findBestOrder 72 = .ok (.iload 4, 2) := by decide +kernel
theorem dX11_findBestOrder_74 : decode cX11_findBestOrder 74 = .ok (.iaload, 1) := by decide +kernel
theorem dX11_findBestOrder_75 : decode cX11_findBestOrder 75 = .ok (.invokevirtual 278, 3) := by decide +kernel
theorem dX11_findBestOrder_78 : decode cX11_findBestOrder 78 = .ok (.checkcast 178, 3) := by decide +kernel
theorem dX11_findBestOrder_81 : decode cX11_findBestOrder 81 = .ok (.aload_n 0, 1) := by decide +kernel
theorem dX11_findBestOrder_82 : decode cX11_findBestOrder 82 = .ok (.getfield 39, 3) := by decide +kernel
theorem dX11_findBestOrder_85 : decode cX11_findBestOrder 85 = .ok (.invokevirtual 177, 3) := by decide +kernel
theorem dX11_findBestOrder_88 : decode cX11_findBestOrder 88 = .ok (.iinc 4 1, 3) := by decide +kernel
theorem dX11_findBestOrder_91 : decode cX11_findBestOrder 91 = .ok (.goto (-36), 3) := by decide +kernel
theorem dX11_findBestOrder_94 : decode cX11_findBestOrder 94 = .ok (.aload_n 0, 1) := by decide +kernel
theorem dX11_findBestOrder_95 : decode cX11_findBestOrder 95 = .ok (.getfield 39, 3) := by decide +kernel
theorem dX11_findBestOrder_98 : decode cX11_findBestOrder 98 = .ok (.invokevirtual 223, 3) := by decide +kernel
theorem dX11_findBestOrder_101 : decode cX11_findBestOrder 101 = .ok (.istore 4, 2) := by decide +kernel
theorem dX11_findBestOrder_103 : decode cX11_findBestOrder 103 = .ok (.iload 4, 2) := by decide +kernel
theorem dX11_findBestOrder_105 : decode cX11_findBestOrder 105 = .ok (.iload_n 2, 1) := by decide +kernel
theorem dX11_findBestOrder_106 : decode cX11_findBestOrder 106 = .ok (.if_icmp .ge 20, 3) := by decide +kernel
theorem dX11_findBestOrder_109 : decode cX11_findBestOrder 109 = .ok (.iload 4, 2) := by decide +kernel
theorem dX11_findBestOrder_111 : decode cX11_findBestOrder 111 = .ok (.istore_n 2, 1) := by decide +kernel
theorem dX11_findBestOrder_112 : decode cX11_findBestOrder 112 = .ok (.aload_n 0, 1) := by decide +kernel
theorem dX11_findBestOrder_113 : decode cX11_findBestOrder 113 = .ok (.getfield 50, 3) := by decide +kernel
theorem dX11_findBestOrder_116 : decode cX11_findBestOrder 116 = .ok (.iconst 0, 1) := by decide +kernel
theorem dX11_findBestOrder_117 : decode cX11_findBestOrder 117 = .ok (.aload_n 0, 1) := by decide +kernel
theorem dX11_findBestOrder_118 : decode cX11_findBestOrder 118 = .ok (.getfield 54, 3) := by decide +kernel
theorem dX11_findBestOrder_121 : decode cX11_findBestOrder 121 = .ok (.iconst 0, 1) := by decide +kernel
theorem dX11_findBestOrder_122 : decode cX11_findBestOrder 122 = .ok (.iload_n 1, 1) := by decide +kernel
theorem dX11_findBestOrder_123 : decode cX11_findBestOrder 123 = .ok (.invokestatic 105, 3) := by decide +kernel
theorem dX11_findBestOrder_126 : decode cX11_findBestOrder 126 = .ok (.iinc 3 1, 3) := by decide +kernel
theorem dX11_findBestOrder_129 : decode cX11_findBestOrder 129 = .ok (.goto (-112), 3) := by decide +kernel
theorem dX11_findBestOrder_132 : decode cX11_findBestOrder 132 = .ok (.iload_n 2, 1) := by decide +kernel
theorem dX11_findBestOrder_133 : decode cX11_findBestOrder 133 = .ok (.ireturn, 1) := by decide +kernel
theorem dX11_spellOrder_0 : decode cX11_spellOrder 0 = .ok (.iload_n 1, 1) := by decide +kernel
theorem dX11_spellOrder_1 : decode cX11_spellOrder 1 = .ok (.istore_n 3, 1) := by decide +kernel
theorem dX11_spellOrder_2 : decode cX11_spellOrder 2 = .ok (.iconst 0, 1) := by decide +kernel
theorem dX11_spellOrder_3 : decode cX11_spellOrder 3 = .ok (.istore 4, 2) := by decide +kernel
theorem dX11_spellOrder_5 : decode cX11_spellOrder 5 = .ok (.iload_n 2, 1) := by decide +kernel
theorem dX11_spellOrder_6 : decode cX11_spellOrder 6 = .ok (.iconst 1, 1) := by decide +kernel
theorem dX11_spellOrder_7 : decode cX11_spellOrder 7 = .ok (.isub, 1) := by decide +kernel
theorem dX11_spellOrder_8 : decode cX11_spellOrder 8 = .ok (.istore 5, 2) := by decide +kernel
theorem dX11_spellOrder_10 : decode cX11_spellOrder 10 = .ok (.iload 5, 2) := by decide +kernel
theorem dX11_spellOrder_12 : decode cX11_spellOrder 12 = .ok (.ifCond .lt 37, 3) := by decide +kernel
theorem dX11_spellOrder_15 : decode cX11_spellOrder 15 = .ok (.aload_n 0, 1) := by decide +kernel
theorem dX11_spellOrder_16 : decode cX11_spellOrder 16 = .ok (.getfield 50, 3) := by decide +kernel
theorem dX11_spellOrder_19 : decode cX11_spellOrder 19 = .ok (.iload 5, 2) := by decide +kernel
theorem dX11_spellOrder_21 : decode cX11_spellOrder 21 = .ok (.iload_n 3, 1) := by decide +kernel
theorem dX11_spellOrder_22 : decode cX11_spellOrder 22 = .ok (.iload_n 2, 1) := by decide +kernel
theorem dX11_spellOrder_23 : decode cX11_spellOrder 23 = .ok (.irem, 1) := by decide +kernel
theorem dX11_spellOrder_24 : decode cX11_spellOrder 24 = .ok (.iastore, 1) := by decide +kernel
theorem dX11_spellOrder_25 : decode cX11_spellOrder 25 = .ok (.iload_n 3, 1) := by decide +kernel
theorem dX11_spellOrder_26 : decode cX11_spellOrder 26 = .ok (.iload_n 2, 1) := by decide +kernel
theorem dX11_spellOrder_27 : decode cX11_spellOrder 27 = .ok (.idiv, 1) := by decide +kernel
theorem dX11_spellOrder_28 : decode cX11_spellOrder 28 = .ok (.istore_n 3, 1) := by decide +kernel
theorem dX11_spellOrder_29 : decode cX11_spellOrder 29 = .ok (.iload 4, 2) := by decide +kernel
theorem dX11_spellOrder_31 : decode cX11_spellOrder 31 = .ok (.iconst 1, 1) := by decide +kernel
theorem dX11_spellOrder_32 : decode cX11_spellOrder 32 = .ok (.aload_n 0, 1) := by decide +kernel
theorem dX11_spellOrder_33 : decode cX11_spellOrder 33 = .ok (.getfield 50, 3) := by decide +kernel
theorem dX11_spellOrder_36 : decode cX11_spellOrder 36 = .ok (.iload 5, 2) := by decide +kernel
theorem dX11_spellOrder_38 : decode cX11_spellOrder 38 = .ok (.iaload, 1) := by decide +kernel
theorem dX11_spellOrder_39 : decode cX11_spellOrder 39 = .ok (.ishl, 1) := by decide +kernel
theorem dX11_spellOrder_40 : decode cX11_spellOrder 40 = .ok (.ior, 1) := by decide +kernel
theorem dX11_spellOrder_41 : decode cX11_spellOrder 41 = .ok (.istore 4, 2) := by decide +kernel
theorem dX11_spellOrder_43 : decode cX11_spellOrder 43 = .ok (.iinc 5 (-1), 3) := by decide +kernel
theorem dX11_spellOrder_46 : decode cX11_spellOrder 46 = .ok (.goto (-36), 3) := by decide +kernel
theorem dX11_spellOrder_49 : decode cX11_spellOrder 49 = .ok (.iload 4, 2) := by decide +kernel
theorem dX11_spellOrder_51 : decode cX11_spellOrder 51 = .ok (.aload_n 0, 1) := by decide +kernel
theorem dX11_spellOrder_52 : decode cX11_spellOrder 52 = .ok (.invokevirtual 229, 3) := by decide +kernel
theorem dX11_spellOrder_55 : decode cX11_spellOrder 55 = .ok (.if_icmp .ne 7, 3) := by decide +kernel
theorem dX11_spellOrder_58 : decode cX11_spellOrder 58 = .ok (.iconst 1, 1) := by decide +kernel
theorem dX11_spellOrder_59 : decode cX11_spellOrder 59 = .ok (.goto 4, 3) := by decide +kernel
theorem dX11_spellOrder_62 : decode cX11_spellOrder 62 = .ok (.iconst 0, 1) := by decide +kernel
theorem dX11_spellOrder_63 : decode cX11_spellOrder 63 = .ok (.ireturn, 1) := by decide +kernel
theorem dX11_power_0 : decode cX11_power 0 = .ok (.lconst 1, 1) := by decide +kernel
theorem dX11_power_1 : decode cX11_power 1 = .ok (.lstore_n 3, 1) := by decide +kernel
theorem dX11_power_2 : decode cX11_power 2 = .ok (.iconst 0, 1) := by decide +kernel
theorem dX11_power_3 : decode cX11_power 3 = .ok (.istore 5, 2) := by decide +kernel
theorem dX11_power_5 : decode cX11_power 5 = .ok (.iload 5, 2) := by decide +kernel
theorem dX11_power_7 : decode cX11_power 7 = .ok (.iload_n 2, 1) := by decide +kernel
theorem dX11_power_8 : decode cX11_power 8 = .ok (.if_icmp .ge 13, 3) := by decide +kernel
theorem dX11_power_11 : decode cX11_power 11 = .ok (.lload_n 3, 1) := by decide +kernel
theorem dX11_power_12 : decode cX11_power 12 = .ok (.lload_n 0, 1) := by decide +kernel
theorem dX11_power_13 : decode cX11_power 13 = .ok (.lmul, 1) := by decide +kernel
theorem dX11_power_14 : decode cX11_power 14 = .ok (.lstore_n 3, 1) := by decide +kernel
theorem dX11_power_15 : decode cX11_power 15 = .ok (.iinc 5 1, 3) := by decide +kernel
theorem dX11_power_18 : decode cX11_power 18 = .ok (.goto (-13), 3) := by decide +kernel
theorem dX11_power_21 : decode cX11_power 21 = .ok (.lload_n 3, 1) := by decide +kernel
theorem dX11_power_22 : decode cX11_power 22 = .ok (.lreturn, 1) := by decide +kernel
theorem dX11_commonDivisor_0 : decode cX11_commonDivisor 0 = .ok (.lload_n 0, 1) := by decide +kernel
theorem dX11_commonDivisor_1 : decode cX11_commonDivisor 1 = .ok (.lstore 4, 2) := by decide +kernel
theorem dX11_commonDivisor_3 : decode cX11_commonDivisor 3 = .ok (.lload_n 2, 1) := by decide +kernel
theorem dX11_commonDivisor_4 : decode cX11_commonDivisor 4 = .ok (.lstore 6, 2) := by decide +kernel
theorem dX11_commonDivisor_6 : decode cX11_commonDivisor 6 = .ok (.iconst 0, 1) := by decide +kernel
theorem dX11_commonDivisor_7 : decode cX11_commonDivisor 7 = .ok (.istore 8, 2) := by decide +kernel
theorem dX11_commonDivisor_9 : decode cX11_commonDivisor 9 = .ok (.iload 8, 2) := by decide +kernel
theorem dX11_commonDivisor_11 : decode cX11_commonDivisor 11 = .ok (.bipush 100, 2) := by decide +kernel
theorem dX11_commonDivisor_13 : decode cX11_commonDivisor 13 = .ok (.if_icmp .ge 31, 3) := by decide +kernel
theorem dX11_commonDivisor_16 : decode cX11_commonDivisor 16 = .ok (.lload 4, 2) := by decide +kernel
theorem dX11_commonDivisor_18 : decode cX11_commonDivisor 18 = .ok (.lconst 0, 1) := by decide +kernel
theorem dX11_commonDivisor_19 : decode cX11_commonDivisor 19 = .ok (.lcmp, 1) := by decide +kernel
theorem dX11_commonDivisor_20 : decode cX11_commonDivisor 20 = .ok (.ifCond .eq 24, 3) := by decide +kernel
theorem dX11_commonDivisor_23 : decode cX11_commonDivisor 23 = .ok (.lload 6, 2) := by decide +kernel
theorem dX11_commonDivisor_25 : decode cX11_commonDivisor 25 = .ok (.lload 4, 2) := by decide +kernel
theorem dX11_commonDivisor_27 : decode cX11_commonDivisor 27 = .ok (.lrem, 1) := by decide +kernel
theorem dX11_commonDivisor_28 : decode cX11_commonDivisor 28 = .ok (.lstore 9, 2) := by decide +kernel
theorem dX11_commonDivisor_30 : decode cX11_commonDivisor 30 = .ok (.lload 4, 2) := by decide +kernel
theorem dX11_commonDivisor_32 : decode cX11_commonDivisor 32 = .ok (.lstore 6, 2) := by decide +kernel
theorem dX11_commonDivisor_34 : decode cX11_commonDivisor 34 = .ok (.lload 9, 2) := by decide +kernel
theorem dX11_commonDivisor_36 : decode cX11_commonDivisor 36 = .ok (.lstore 4, 2) := by decide +kernel
theorem dX11_commonDivisor_38 : decode cX11_commonDivisor 38 = .ok (.iinc 8 1, 3) := by decide +kernel
theorem dX11_commonDivisor_41 : decode cX11_commonDivisor 41 = .ok (.goto (-32), 3) := by decide +kernel
theorem dX11_commonDivisor_44 : decode cX11_commonDivisor 44 = .ok (.lload 6, 2) := by decide +kernel
theorem dX11_commonDivisor_46 : decode cX11_commonDivisor 46 = .ok (.lreturn, 1) := by decide +kernel
theorem dX11_isOfKind_0 : decode cX11_isOfKind 0 = .ok (.iload_n 1, 1) := by decide +kernel
theorem dX11_isOfKind_1 : decode cX11_isOfKind 1 = .ok (.tableswitch 66 0 5 #[39, 41, 46, 51, 56, 61], 39) := by decide +kernel
theorem dX11_isOfKind_40 : decode cX11_isOfKind 40 = .ok (.iconst 1, 1) := by decide +kernel
theorem dX11_isOfKind_41 : decode cX11_isOfKind 41 = .ok (.ireturn, 1) := by decide +kernel
theorem dX11_isOfKind_42 : decode cX11_isOfKind 42 = .ok (.aload_n 0, 1) := by decide +kernel
theorem dX11_isOfKind_43 : decode cX11_isOfKind 43 = .ok (.instanceof 327, 3) := by decide +kernel
theorem dX11_isOfKind_46 : decode cX11_isOfKind 46 = .ok (.ireturn, 1) := by decide +kernel
theorem dX11_isOfKind_47 : decode cX11_isOfKind 47 = .ok (.aload_n 0, 1) := by decide +kernel
theorem dX11_isOfKind_48 : decode cX11_isOfKind 48 = .ok (.instanceof 329, 3) := by decide +kernel
theorem dX11_isOfKind_51 : decode cX11_isOfKind 51 = .ok (.ireturn, 1) := by decide +kernel
theorem dX11_isOfKind_52 : decode cX11_isOfKind 52 = .ok (.aload_n 0, 1) := by decide +kernel
theorem dX11_isOfKind_53 : decode cX11_isOfKind 53 = .ok (.instanceof 331, 3) := by decide +kernel
theorem dX11_isOfKind_56 : decode cX11_isOfKind 56 = .ok (.ireturn, 1) := by decide +kernel
theorem dX11_isOfKind_57 : decode cX11_isOfKind 57 = .ok (.aload_n 0, 1) := by decide +kernel
theorem dX11_isOfKind_58 : decode cX11_isOfKind 58 = .ok (.instanceof 333, 3) := by decide +kernel
theorem dX11_isOfKind_61 : decode cX11_isOfKind 61 = .ok (.ireturn, 1) := by decide +kernel
theorem dX11_isOfKind_62 : decode cX11_isOfKind 62 = .ok (.aload_n 0, 1) := by decide +kernel
theorem dX11_isOfKind_63 : decode cX11_isOfKind 63 = .ok (.instanceof 335, 3) := by decide +kernel
theorem dX11_isOfKind_66 : decode cX11_isOfKind 66 = .ok (.ireturn, 1) := by decide +kernel
theorem dX11_isOfKind_67 : decode cX11_isOfKind 67 = .ok (.iconst 0, 1) := by decide +kernel
theorem dX11_isOfKind_68 : decode cX11_isOfKind 68 = .ok (.ireturn, 1) := by decide +kernel
theorem dX11_rowsThere_0 : decode cX11_rowsThere 0 = .ok (.iconst 0, 1) := by decide +kernel
theorem dX11_rowsThere_1 : decode cX11_rowsThere 1 = .ok (.istore_n 1, 1) := by decide +kernel
theorem dX11_rowsThere_2 : decode cX11_rowsThere 2 = .ok (.aload_n 0, 1) := by decide +kernel
theorem dX11_rowsThere_3 : decode cX11_rowsThere 3 = .ok (.getfield 11, 3) := by decide +kernel
theorem dX11_rowsThere_6 : decode cX11_rowsThere 6 = .ok (.astore_n 2, 1) := by decide +kernel
theorem dX11_rowsThere_7 : decode cX11_rowsThere 7 = .ok (.aload_n 2, 1) := by decide +kernel
theorem dX11_rowsThere_8 : decode cX11_rowsThere 8 = .ok (.arraylength, 1) := by decide +kernel
theorem dX11_rowsThere_9 : decode cX11_rowsThere 9 = .ok (.istore_n 3, 1) := by decide +kernel
theorem dX11_rowsThere_10 : decode cX11_rowsThere 10 = .ok (.iconst 0, 1) := by decide +kernel
theorem dX11_rowsThere_11 : decode cX11_rowsThere 11 = .ok (.istore 4, 2) := by decide +kernel
theorem dX11_rowsThere_13 : decode cX11_rowsThere 13 = .ok (.iload 4, 2) := by decide +kernel
theorem dX11_rowsThere_15 : decode cX11_rowsThere 15 = .ok (.iload_n 3, 1) := by decide +kernel
theorem dX11_rowsThere_16 : decode cX11_rowsThere 16 = .ok (.if_icmp .ge 26, 3) := by decide +kernel
theorem dX11_rowsThere_19 : decode cX11_rowsThere 19 = .ok (.aload_n 2, 1) := by decide +kernel
theorem dX11_rowsThere_20 : decode cX11_rowsThere 20 = .ok (.iload 4, 2) := by decide +kernel
theorem dX11_rowsThere_22 : decode cX11_rowsThere 22 = .ok (.aaload, 1) := by decide +kernel
theorem dX11_rowsThere_23 : decode cX11_rowsThere 23 = .ok (.astore 5, 2) := by decide +kernel
theorem dX11_rowsThere_25 : decode cX11_rowsThere 25 = .ok (.aload 5, 2) := by decide +kernel
theorem dX11_rowsThere_27 : decode cX11_rowsThere 27 = .ok (.invokevirtual 86, 3) := by decide +kernel
theorem dX11_rowsThere_30 : decode cX11_rowsThere 30 = .ok (.ifCond .ne 6, 3) := by decide +kernel
theorem dX11_rowsThere_33 : decode cX11_rowsThere 33 = .ok (.iinc 1 1, 3) := by decide +kernel
theorem dX11_rowsThere_36 : decode cX11_rowsThere 36 = .ok (.iinc 4 1, 3) := by decide +kernel
theorem dX11_rowsThere_39 : decode cX11_rowsThere 39 = .ok (.goto (-26), 3) := by decide +kernel
theorem dX11_rowsThere_42 : decode cX11_rowsThere 42 = .ok (.iload_n 1, 1) := by decide +kernel
theorem dX11_rowsThere_43 : decode cX11_rowsThere 43 = .ok (.ireturn, 1) := by decide +kernel
theorem dX11_cellsAboveNone_0 : decode cX11_cellsAboveNone 0 = .ok (.iconst 0, 1) := by decide +kernel
theorem dX11_cellsAboveNone_1 : decode cX11_cellsAboveNone 1 = .ok (.istore_n 1, 1) := by decide +kernel
theorem dX11_cellsAboveNone_2 : decode cX11_cellsAboveNone 2 = .ok (.aload_n 0, 1) := by decide +kernel
theorem dX11_cellsAboveNone_3 : decode cX11_cellsAboveNone 3 = .ok (.astore_n 2, 1) := by decide +kernel
theorem dX11_cellsAboveNone_4 : decode cX11_cellsAboveNone 4 = .ok (.aload_n 2, 1) := by decide +kernel
theorem dX11_cellsAboveNone_5 : decode cX11_cellsAboveNone 5 = .ok (.arraylength, 1) := by decide +kernel
theorem dX11_cellsAboveNone_6 : decode cX11_cellsAboveNone 6 = .ok (.istore_n 3, 1) := by decide +kernel
theorem dX11_cellsAboveNone_7 : decode cX11_cellsAboveNone 7 = .ok (.iconst 0, 1) := by decide +kernel
theorem dX11_cellsAboveNone_8 : decode cX11_cellsAboveNone 8 = .ok (.istore 4, 2) := by decide +kernel
theorem dX11_cellsAboveNone_10 : decode cX11_cellsAboveNone 10 = .ok (.iload 4, 2) := by decide +kernel
theorem dX11_cellsAboveNone_12 : decode cX11_cellsAboveNone 12 = .ok (.iload_n 3, 1) := by decide +kernel
theorem dX11_cellsAboveNone_13 : decode cX11_cellsAboveNone 13 = .ok (.if_icmp .ge 23, 3) := by decide +kernel
theorem dX11_cellsAboveNone_16 : decode cX11_cellsAboveNone 16 = .ok (.aload_n 2, 1) := by decide +kernel
theorem dX11_cellsAboveNone_17 : decode cX11_cellsAboveNone 17 = .ok (.iload 4, 2) := by decide +kernel
theorem dX11_cellsAboveNone_19 : decode cX11_cellsAboveNone 19 = .ok (.iaload, 1) := by decide +kernel
theorem dX11_cellsAboveNone_20 : decode cX11_cellsAboveNone 20 = .ok (.istore 5, 2) := by decide +kernel
theorem dX11_cellsAboveNone_22 : decode cX11_cellsAboveNone 22 = .ok (.iload 5, 2) := by decide +kernel
theorem dX11_cellsAboveNone_24 : decode cX11_cellsAboveNone 24 = .ok (.ifCond .le 6, 3) := by decide +kernel
theorem dX11_cellsAboveNone_27 : decode cX11_cellsAboveNone 27 = .ok (.iinc 1 1, 3) := by decide +kernel
theorem dX11_cellsAboveNone_30 : decode cX11_cellsAboveNone 30 = .ok (.iinc 4 1, 3) := by decide +kernel
theorem dX11_cellsAboveNone_33 : decode cX11_cellsAboveNone 33 = .ok (.goto (-23), 3) := by decide +kernel
theorem dX11_cellsAboveNone_36 : decode cX11_cellsAboveNone 36 = .ok (.iload_n 1, 1) := by decide +kernel
theorem dX11_cellsAboveNone_37 : decode cX11_cellsAboveNone 37 = .ok (.ireturn, 1) := by decide +kernel
theorem dJ6_bitCount_0f7a4_0 : decode cJ6_bitCount_0f7a4 0 = .ok (.iload_n 0, 1) := by decide +kernel
theorem dJ6_bitCount_0f7a4_1 : decode cJ6_bitCount_0f7a4 1 = .ok (.iload_n 0, 1) := by decide +kernel
theorem dJ6_bitCount_0f7a4_2 : decode cJ6_bitCount_0f7a4 2 = .ok (.iconst 1, 1) := by decide +kernel
theorem dJ6_bitCount_0f7a4_3 : decode cJ6_bitCount_0f7a4 3 = .ok (.iushr, 1) := by decide +kernel
theorem dJ6_bitCount_0f7a4_4 : decode cJ6_bitCount_0f7a4 4 = .ok (.ldc_w 265, 3) := by decide +kernel
theorem dJ6_bitCount_0f7a4_7 : decode cJ6_bitCount_0f7a4 7 = .ok (.iand, 1) := by decide +kernel
theorem dJ6_bitCount_0f7a4_8 : decode cJ6_bitCount_0f7a4 8 = .ok (.isub, 1) := by decide +kernel
theorem dJ6_bitCount_0f7a4_9 : decode cJ6_bitCount_0f7a4 9 = .ok (.istore_n 0, 1) := by decide +kernel
theorem dJ6_bitCount_0f7a4_10 : decode cJ6_bitCount_0f7a4 10 = .ok (.iload_n 0, 1) := by decide +kernel
theorem dJ6_bitCount_0f7a4_11 : decode cJ6_bitCount_0f7a4 11 = .ok (.ldc_w 266, 3) := by decide +kernel
theorem dJ6_bitCount_0f7a4_14 : decode cJ6_bitCount_0f7a4 14 = .ok (.iand, 1) := by decide +kernel
theorem dJ6_bitCount_0f7a4_15 : decode cJ6_bitCount_0f7a4 15 = .ok (.iload_n 0, 1) := by decide +kernel
theorem dJ6_bitCount_0f7a4_16 : decode cJ6_bitCount_0f7a4 16 = .ok (.iconst 2, 1) := by decide +kernel
theorem dJ6_bitCount_0f7a4_17 : decode cJ6_bitCount_0f7a4 17 = .ok (.iushr, 1) := by decide +kernel
theorem dJ6_bitCount_0f7a4_18 : decode cJ6_bitCount_0f7a4 18 = .ok (.ldc_w 266, 3) := by decide +kernel
theorem dJ6_bitCount_0f7a4_21 : decode cJ6_bitCount_0f7a4 21 = .ok (.iand, 1) := by decide +kernel
theorem dJ6_bitCount_0f7a4_22 : decode cJ6_bitCount_0f7a4 22 = .ok (.iadd, 1) := by decide +kernel
theorem dJ6_bitCount_0f7a4_23 : decode cJ6_bitCount_0f7a4 23 = .ok (.istore_n 0, 1) := by decide +kernel
theorem dJ6_bitCount_0f7a4_24 : decode cJ6_bitCount_0f7a4 24 = .ok (.iload_n 0, 1) := by decide +kernel
theorem dJ6_bitCount_0f7a4_25 : decode cJ6_bitCount_0f7a4 25 = .ok (.iload_n 0, 1) := by decide +kernel
theorem dJ6_bitCount_0f7a4_26 : decode cJ6_bitCount_0f7a4 26 = .ok (.iconst 4, 1) := by decide +kernel
theorem dJ6_bitCount_0f7a4_27 : decode cJ6_bitCount_0f7a4 27 = .ok (.iushr, 1) := by decide +kernel
theorem dJ6_bitCount_0f7a4_28 : decode cJ6_bitCount_0f7a4 28 = .ok (.iadd, 1) := by decide +kernel
theorem dJ6_bitCount_0f7a4_29 : decode cJ6_bitCount_0f7a4 29 = .ok (.ldc_w 267, 3) := by decide +kernel
theorem dJ6_bitCount_0f7a4_32 : decode cJ6_bitCount_0f7a4 32 = .ok (.iand, 1) := by decide +kernel
theorem dJ6_bitCount_0f7a4_33 : decode cJ6_bitCount_0f7a4 33 = .ok (.istore_n 0, 1) := by decide +kernel
theorem dJ6_bitCount_0f7a4_34 : decode cJ6_bitCount_0f7a4 34 = .ok (.iload_n 0, 1) := by decide +kernel
theorem dJ6_bitCount_0f7a4_35 : decode cJ6_bitCount_0f7a4 35 = .ok (.iload_n 0, 1) := by decide +kernel
theorem dJ6_bitCount_0f7a4_36 : decode cJ6_bitCount_0f7a4 36 = .ok (.bipush 8, 2) := by decide +kernel
theorem dJ6_bitCount_0f7a4_38 : decode cJ6_bitCount_0f7a4 38 = .ok (.iushr, 1) := by decide +kernel
theorem dJ6_bitCount_0f7a4_39 : decode cJ6_bitCount_0f7a4 39 = .ok (.iadd, 1) := by decide +kernel
theorem dJ6_bitCount_0f7a4_40 : decode cJ6_bitCount_0f7a4 40 = .ok (.istore_n 0, 1) := by decide +kernel
theorem dJ6_bitCount_0f7a4_41 : decode cJ6_bitCount_0f7a4 41 = .ok (.iload_n 0, 1) := by decide +kernel
theorem dJ6_bitCount_0f7a4_42 : decode cJ6_bitCount_0f7a4 42 = .ok (.iload_n 0, 1) := by decide +kernel
theorem dJ6_bitCount_0f7a4_43 : decode cJ6_bitCount_0f7a4 43 = .ok (.bipush 16, 2) := by decide +kernel
theorem dJ6_bitCount_0f7a4_45 : decode cJ6_bitCount_0f7a4 45 = .ok (.iushr, 1) := by decide +kernel
theorem dJ6_bitCount_0f7a4_46 : decode cJ6_bitCount_0f7a4 46 = .ok (.iadd, 1) := by decide +kernel
theorem dJ6_bitCount_0f7a4_47 : decode cJ6_bitCount_0f7a4 47 = .ok (.istore_n 0, 1) := by decide +kernel
theorem dJ6_bitCount_0f7a4_48 : decode cJ6_bitCount_0f7a4 48 = .ok (.iload_n 0, 1) := by decide +kernel
theorem dJ6_bitCount_0f7a4_49 : decode cJ6_bitCount_0f7a4 49 = .ok (.bipush 63, 2) := by decide +kernel
theorem dJ6_bitCount_0f7a4_51 : decode cJ6_bitCount_0f7a4 51 = .ok (.iand, 1) := by decide +kernel
theorem dJ6_bitCount_0f7a4_52 : decode cJ6_bitCount_0f7a4 52 = .ok (.ireturn, 1) := by decide +kernel
theorem dJ9_max_7cf53_0 : decode cJ9_max_7cf53 0 = .ok (.iload_n 0, 1) := by decide +kernel
theorem dJ9_max_7cf53_1 : decode cJ9_max_7cf53 1 = .ok (.iload_n 1, 1) := by decide +kernel
theorem dJ9_max_7cf53_2 : decode cJ9_max_7cf53 2 = .ok (.if_icmp .lt 7, 3) := by decide +kernel
theorem dJ9_max_7cf53_5 : decode cJ9_max_7cf53 5 = .ok (.iload_n 0, 1) := by decide +kernel
theorem dJ9_max_7cf53_6 : decode cJ9_max_7cf53 6 = .ok (.goto 4, 3) := by decide +kernel
theorem dJ9_max_7cf53_9 : decode cJ9_max_7cf53 9 = .ok (.iload_n 1, 1) := by decide +kernel
theorem dJ9_max_7cf53_10 : decode cJ9_max_7cf53 10 = .ok (.ireturn, 1) := by decide +kernel
theorem dJ9_min_7cf53_0 : decode cJ9_min_7cf53 0 = .ok (.iload_n 0, 1) := by decide +kernel
theorem dJ9_min_7cf53_1 : decode cJ9_min_7cf53 1 = .ok (.iload_n 1, 1) := by decide +kernel
theorem dJ9_min_7cf53_2 : decode cJ9_min_7cf53 2 = .ok (.if_icmp .gt 7, 3) := by decide +kernel
theorem dJ9_min_7cf53_5 : decode cJ9_min_7cf53 5 = .ok (.iload_n 0, 1) := by decide +kernel
theorem dJ9_min_7cf53_6 : decode cJ9_min_7cf53 6 = .ok (.goto 4, 3) := by decide +kernel
theorem dJ9_min_7cf53_9 : decode cJ9_min_7cf53 9 = .ok (.iload_n 1, 1) := by decide +kernel
theorem dJ9_min_7cf53_10 : decode cJ9_min_7cf53 10 = .ok (.ireturn, 1) := by decide +kernel
theorem dJxa1e45_init_da8c8_0 : decode cJxa1e45_init_da8c8 0 = .ok (.aload_n 0, 1) := by decide +kernel
theorem dJxa1e45_init_da8c8_1 : decode cJxa1e45_init_da8c8 1 = .ok (.invokespecial 1, 3) := by decide +kernel
theorem dJxa1e45_init_da8c8_4 : decode cJxa1e45_init_da8c8 4 = .ok (.return_, 1) := by decide +kernel
theorem dJxc12de_init_da8c8_0 : decode cJxc12de_init_da8c8 0 = .ok (.aload_n 0, 1) := by decide +kernel
theorem dJxc12de_init_da8c8_1 : decode cJxc12de_init_da8c8 1 = .ok (.invokespecial 1, 3) := by decide +kernel
theorem dJxc12de_init_da8c8_4 : decode cJxc12de_init_da8c8 4 = .ok (.aload_n 0, 1) := by decide +kernel
theorem dJxc12de_init_da8c8_5 : decode cJxc12de_init_da8c8 5 = .ok (.iconst 0, 1) := by decide +kernel
theorem dJxc12de_init_da8c8_6 : decode cJxc12de_init_da8c8 6 = .ok (.putfield 7, 3) := by decide +kernel
theorem dJxc12de_init_da8c8_9 : decode cJxc12de_init_da8c8 9 = .ok (.return_, 1) := by decide +kernel
theorem dJx4a65c_init_da8c8_0 : decode cJx4a65c_init_da8c8 0 = .ok (.aload_n 0, 1) := by decide +kernel
theorem dJx4a65c_init_da8c8_1 : decode cJx4a65c_init_da8c8 1 = .ok (.invokespecial 1, 3) := by decide +kernel
theorem dJx4a65c_init_da8c8_4 : decode cJx4a65c_init_da8c8 4 = .ok (.aload_n 0, 1) := by decide +kernel
theorem dJx4a65c_init_da8c8_5 : decode cJx4a65c_init_da8c8 5 = .ok (.getstatic 39, 3) := by decide +kernel
theorem dJx4a65c_init_da8c8_8 : decode cJx4a65c_init_da8c8 8 = .ok (.putfield 9, 3) := by decide +kernel
theorem dJx4a65c_init_da8c8_11 : decode cJx4a65c_init_da8c8 11 = .ok (.return_, 1) := by decide +kernel
theorem dJx4a65c_grow_92f84_0 : decode cJx4a65c_grow_92f84 0 = .ok (.aload_n 0, 1) := by decide +kernel
theorem dJx4a65c_grow_92f84_1 : decode cJx4a65c_grow_92f84 1 = .ok (.getfield 9, 3) := by decide +kernel
theorem dJx4a65c_grow_92f84_4 : decode cJx4a65c_grow_92f84 4 = .ok (.arraylength, 1) := by decide +kernel
theorem dJx4a65c_grow_92f84_5 : decode cJx4a65c_grow_92f84 5 = .ok (.istore_n 2, 1) := by decide +kernel
theorem dJx4a65c_grow_92f84_6 : decode cJx4a65c_grow_92f84 6 = .ok (.iload_n 2, 1) := by decide +kernel
theorem dJx4a65c_grow_92f84_7 : decode cJx4a65c_grow_92f84 7 = .ok (.ifCond .gt 13, 3) := by decide +kernel
theorem dJx4a65c_grow_92f84_10 : decode cJx4a65c_grow_92f84 10 = .ok (.aload_n 0, 1) := by decide +kernel
theorem dJx4a65c_grow_92f84_11 : decode cJx4a65c_grow_92f84 11 = .ok (.getfield 9, 3) := by decide +kernel
theorem dJx4a65c_grow_92f84_14 : decode cJx4a65c_grow_92f84 14 = .ok (.getstatic 39, 3) := by decide +kernel
theorem dJx4a65c_grow_92f84_17 : decode cJx4a65c_grow_92f84 17 = .ok (.if_acmp .eq 28, 3) := by decide +kernel
theorem dJx4a65c_grow_92f84_20 : decode cJx4a65c_grow_92f84 20 = .ok (.iload_n 2, 1) := by decide +kernel
theorem dJx4a65c_grow_92f84_21 : decode cJx4a65c_grow_92f84 21 = .ok (.iload_n 1, 1) := by decide +kernel
theorem dJx4a65c_grow_92f84_22 : decode cJx4a65c_grow_92f84 22 = .ok (.iload_n 2, 1) := by decide +kernel
theorem dJx4a65c_grow_92f84_23 : decode cJx4a65c_grow_92f84 23 = .ok (.isub, 1) := by decide +kernel
theorem dJx4a65c_grow_92f84_24 : decode cJx4a65c_grow_92f84 24 = .ok (.iload_n 2, 1) := by decide +kernel
theorem dJx4a65c_grow_92f84_25 : decode cJx4a65c_grow_92f84 25 = .ok (.iconst 1, 1) := by decide +kernel
theorem dJx4a65c_grow_92f84_26 : decode cJx4a65c_grow_92f84 26 = .ok (.ishr, 1) := by decide +kernel
theorem dJx4a65c_grow_92f84_27 : decode cJx4a65c_grow_92f84 27 = .ok (.invokestatic 73, 3) := by decide +kernel
theorem dJx4a65c_grow_92f84_30 : decode cJx4a65c_grow_92f84 30 = .ok (.istore_n 3, 1) := by decide +kernel
theorem dJx4a65c_grow_92f84_31 : decode cJx4a65c_grow_92f84 31 = .ok (.aload_n 0, 1) := by decide +kernel
theorem dJx4a65c_grow_92f84_32 : decode cJx4a65c_grow_92f84 32 = .ok (.aload_n 0, 1) := by decide +kernel
theorem dJx4a65c_grow_92f84_33 : decode cJx4a65c_grow_92f84 33 = .ok (.getfield 9, 3) := by decide +kernel
theorem dJx4a65c_grow_92f84_36 : decode cJx4a65c_grow_92f84 36 = .ok (.iload_n 3, 1) := by decide +kernel
theorem dJx4a65c_grow_92f84_37 : decode cJx4a65c_grow_92f84 37 = .ok (.invokestatic 66, 3) := by decide +kernel
theorem dJx4a65c_grow_92f84_40 : decode cJx4a65c_grow_92f84 40 = .ok (.dup_x1, 1) := by decide +kernel
theorem dJx4a65c_grow_92f84_41 : decode cJx4a65c_grow_92f84 41 = .ok (.putfield 9, 3) := by decide +kernel
theorem dJx4a65c_grow_92f84_44 : decode cJx4a65c_grow_92f84 44 = .ok (.areturn, 1) := by decide +kernel
theorem dJx4a65c_grow_92f84_45 : decode cJx4a65c_grow_92f84 45 = .ok (.aload_n 0, 1) := by decide +kernel
theorem dJx4a65c_grow_92f84_46 : decode cJx4a65c_grow_92f84 46 = .ok (.bipush 10, 2) := by decide +kernel
theorem dJx4a65c_grow_92f84_48 : decode cJx4a65c_grow_92f84 48 = .ok (.iload_n 1, 1) := by decide +kernel
theorem dJx4a65c_grow_92f84_49 : decode cJx4a65c_grow_92f84 49 = .ok (.invokestatic 79, 3) := by decide +kernel
theorem dJx4a65c_grow_92f84_52 : decode cJx4a65c_grow_92f84 52 = .ok (.anewarray 7, 3) := by decide +kernel
theorem dJx4a65c_grow_92f84_55 : decode cJx4a65c_grow_92f84 55 = .ok (.dup_x1, 1) := by decide +kernel
theorem dJx4a65c_grow_92f84_56 : decode cJx4a65c_grow_92f84 56 = .ok (.putfield 9, 3) := by decide +kernel
theorem dJx4a65c_grow_92f84_59 : decode cJx4a65c_grow_92f84 59 = .ok (.areturn, 1) := by decide +kernel
theorem dJx4a65c_grow_d5877_0 : decode cJx4a65c_grow_d5877 0 = .ok (.aload_n 0, 1) := by decide +kernel
theorem dJx4a65c_grow_d5877_1 : decode cJx4a65c_grow_d5877 1 = .ok (.aload_n 0, 1) := by decide +kernel
theorem dJx4a65c_grow_d5877_2 : decode cJx4a65c_grow_d5877 2 = .ok (.getfield 48, 3) := by decide +kernel
theorem dJx4a65c_grow_d5877_5 : decode cJx4a65c_grow_d5877 5 = .ok (.iconst 1, 1) := by decide +kernel
theorem dJx4a65c_grow_d5877_6 : decode cJx4a65c_grow_d5877 6 = .ok (.iadd, 1) := by decide +kernel
theorem dJx4a65c_grow_d5877_7 : decode cJx4a65c_grow_d5877 7 = .ok (.invokevirtual 69, 3) := by decide +kernel
theorem dJx4a65c_grow_d5877_10 : decode cJx4a65c_grow_d5877 10 = .ok (.areturn, 1) := by decide +kernel
theorem dJx4a65c_size_8abf5_0 : decode cJx4a65c_size_8abf5 0 = .ok (.aload_n 0, 1) := by decide +kernel
theorem dJx4a65c_size_8abf5_1 : decode cJx4a65c_size_8abf5 1 = .ok (.getfield 48, 3) := by decide +kernel
theorem dJx4a65c_size_8abf5_4 : decode cJx4a65c_size_8abf5 4 = .ok (.ireturn, 1) := by decide +kernel
theorem dJx4a65c_elementData_915e3_0 : decode cJx4a65c_elementData_915e3 0 = .ok (.aload_n 0, 1) := by decide +kernel
theorem dJx4a65c_elementData_915e3_1 : decode cJx4a65c_elementData_915e3 1 = .ok (.getfield 9, 3) := by decide +kernel
theorem dJx4a65c_elementData_915e3_4 : decode cJx4a65c_elementData_915e3 4 = .ok (.iload_n 1, 1) := by decide +kernel
theorem dJx4a65c_elementData_915e3_5 : decode cJx4a65c_elementData_915e3 5 = .ok (.aaload, 1) := by decide +kernel
theorem dJx4a65c_elementData_915e3_6 : decode cJx4a65c_elementData_915e3 6 = .ok (.areturn, 1) := by decide +kernel
theorem dJx4a65c_get_915e3_0 : decode cJx4a65c_get_915e3 0 = .ok (.iload_n 1, 1) := by decide +kernel
theorem dJx4a65c_get_915e3_1 : decode cJx4a65c_get_915e3 1 = .ok (.aload_n 0, 1) := by decide +kernel
theorem dJx4a65c_get_915e3_2 : decode cJx4a65c_get_915e3 2 = .ok (.getfield 48, 3) := by decide +kernel
theorem dJx4a65c_get_915e3_5 : decode cJx4a65c_get_915e3 5 = .ok (.invokestatic 118, 3) := by decide +kernel
theorem dJx4a65c_get_915e3_8 : decode cJx4a65c_get_915e3 8 = .ok (.pop, 1) := by decide +kernel
theorem dJx4a65c_get_915e3_9 : decode cJx4a65c_get_915e3 9 = .ok (.aload_n 0, 1) := by decide +kernel
theorem dJx4a65c_get_915e3_10 : decode cJx4a65c_get_915e3 10 = .ok (.iload_n 1, 1) := by decide +kernel
theorem dJx4a65c_get_915e3_11 : decode cJx4a65c_get_915e3 11 = .ok (.invokevirtual 123, 3) := by decide +kernel
theorem dJx4a65c_get_915e3_14 : decode cJx4a65c_get_915e3 14 = .ok (.areturn, 1) := by decide +kernel
theorem dJx4a65c_add_72be8_0 : decode cJx4a65c_add_72be8 0 = .ok (.iload_n 3, 1) := by decide +kernel
theorem dJx4a65c_add_72be8_1 : decode cJx4a65c_add_72be8 1 = .ok (.aload_n 2, 1) := by decide +kernel
theorem dJx4a65c_add_72be8_2 : decode cJx4a65c_add_72be8 2 = .ok (.arraylength, 1) := by decide +kernel
theorem dJx4a65c_add_72be8_3 : decode cJx4a65c_add_72be8 3 = .ok (.if_icmp .ne 8, 3) := by decide +kernel
theorem dJx4a65c_add_72be8_6 : decode cJx4a65c_add_72be8 6 = .ok (.aload_n 0, 1) := by decide +kernel
theorem dJx4a65c_add_72be8_7 : decode cJx4a65c_add_72be8 7 = .ok (.invokevirtual 129, 3) := by decide +kernel
theorem dJx4a65c_add_72be8_10 : decode cJx4a65c_add_72be8 10 = .ok (.astore_n 2, 1) := by decide +kernel
theorem dJx4a65c_add_72be8_11 : decode cJx4a65c_add_72be8 11 = .ok (.aload_n 2, 1) := by decide +kernel
theorem dJx4a65c_add_72be8_12 : decode cJx4a65c_add_72be8 12 = .ok (.iload_n 3, 1) := by decide +kernel
theorem dJx4a65c_add_72be8_13 : decode cJx4a65c_add_72be8 13 = .ok (.aload_n 1, 1) := by decide +kernel
theorem dJx4a65c_add_72be8_14 : decode cJx4a65c_add_72be8 14 = .ok (.aastore, 1) := by decide +kernel
theorem dJx4a65c_add_72be8_15 : decode cJx4a65c_add_72be8 15 = .ok (.aload_n 0, 1) := by decide +kernel
theorem dJx4a65c_add_72be8_16 : decode cJx4a65c_add_72be8 16 = .ok (.iload_n 3, 1) := by decide +kernel
theorem dJx4a65c_add_72be8_17 : decode cJx4a65c_add_72be8 17 = .ok (.iconst 1, 1) := by decide +kernel
theorem dJx4a65c_add_72be8_18 : decode cJx4a65c_add_72be8 18 = .ok (.iadd, 1) := by decide +kernel
theorem dJx4a65c_add_72be8_19 : decode cJx4a65c_add_72be8 19 = .ok (.putfield 48, 3) := by decide +kernel
theorem dJx4a65c_add_72be8_22 : decode cJx4a65c_add_72be8 22 = .ok (.return_, 1) := by decide +kernel
theorem dJx4a65c_add_9ea2d_0 : decode cJx4a65c_add_9ea2d 0 = .ok (.aload_n 0, 1) := by decide +kernel
theorem dJx4a65c_add_9ea2d_1 : decode cJx4a65c_add_9ea2d 1 = .ok (.dup, 1) := by decide +kernel
theorem dJx4a65c_add_9ea2d_2 : decode cJx4a65c_add_9ea2d 2 = .ok (.getfield 63, 3) := by decide +kernel
theorem dJx4a65c_add_9ea2d_5 : decode cJx4a65c_add_9ea2d 5 = .ok (.iconst 1, 1) := by decide +kernel
theorem dJx4a65c_add_9ea2d_6 : decode cJx4a65c_add_9ea2d 6 = .ok (.iadd, 1) := by decide +kernel
theorem dJx4a65c_add_9ea2d_7 : decode cJx4a65c_add_9ea2d 7 = .ok (.putfield 63, 3) := by decide +kernel
theorem dJx4a65c_add_9ea2d_10 : decode cJx4a65c_add_9ea2d 10 = .ok (.aload_n 0, 1) := by decide +kernel
theorem dJx4a65c_add_9ea2d_11 : decode cJx4a65c_add_9ea2d 11 = .ok (.aload_n 1, 1) := by decide +kernel
theorem dJx4a65c_add_9ea2d_12 : decode cJx4a65c_add_9ea2d 12 = .ok (.aload_n 0, 1) := by decide +kernel
theorem dJx4a65c_add_9ea2d_13 : decode cJx4a65c_add_9ea2d 13 = .ok (.getfield 9, 3) := by decide +kernel
theorem dJx4a65c_add_9ea2d_16 : decode cJx4a65c_add_9ea2d 16 = .ok (.aload_n 0, 1) := by decide +kernel
theorem dJx4a65c_add_9ea2d_17 : decode cJx4a65c_add_9ea2d 17 = .ok (.getfield 48, 3) := by decide +kernel
theorem dJx4a65c_add_9ea2d_20 : decode cJx4a65c_add_9ea2d 20 = .ok (.invokevirtual 131, 3) := by decide +kernel
theorem dJx4a65c_add_9ea2d_23 : decode cJx4a65c_add_9ea2d 23 = .ok (.iconst 1, 1) := by decide +kernel
theorem dJx4a65c_add_9ea2d_24 : decode cJx4a65c_add_9ea2d 24 = .ok (.ireturn, 1) := by decide +kernel
theorem dJ7_fill_53178_0 : decode cJ7_fill_53178 0 = .ok (.iconst 0, 1) := by decide +kernel
theorem dJ7_fill_53178_1 : decode cJ7_fill_53178 1 = .ok (.istore_n 2, 1) := by decide +kernel
theorem dJ7_fill_53178_2 : decode cJ7_fill_53178 2 = .ok (.aload_n 0, 1) := by decide +kernel
theorem dJ7_fill_53178_3 : decode cJ7_fill_53178 3 = .ok (.arraylength, 1) := by decide +kernel
theorem dJ7_fill_53178_4 : decode cJ7_fill_53178 4 = .ok (.istore_n 3, 1) := by decide +kernel
theorem dJ7_fill_53178_5 : decode cJ7_fill_53178 5 = .ok (.iload_n 2, 1) := by decide +kernel
theorem dJ7_fill_53178_6 : decode cJ7_fill_53178 6 = .ok (.iload_n 3, 1) := by decide +kernel
theorem dJ7_fill_53178_7 : decode cJ7_fill_53178 7 = .ok (.if_icmp .ge 13, 3) := by decide +kernel
theorem dJ7_fill_53178_10 : decode cJ7_fill_53178 10 = .ok (.aload_n 0, 1) := by decide +kernel
theorem dJ7_fill_53178_11 : decode cJ7_fill_53178 11 = .ok (.iload_n 2, 1) := by decide +kernel
theorem dJ7_fill_53178_12 : decode cJ7_fill_53178 12 = .ok (.iload_n 1, 1) := by decide +kernel
theorem dJ7_fill_53178_13 : decode cJ7_fill_53178 13 = .ok (.iastore, 1) := by decide +kernel
theorem dJ7_fill_53178_14 : decode cJ7_fill_53178 14 = .ok (.iinc 2 1, 3) := by decide +kernel
theorem dJ7_fill_53178_17 : decode cJ7_fill_53178 17 = .ok (.goto (-12), 3) := by decide +kernel
theorem dJ7_fill_53178_20 : decode cJ7_fill_53178 20 = .ok (.return_, 1) := by decide +kernel
theorem dJ7_copyOf_1904c_0 : decode cJ7_copyOf_1904c 0 = .ok (.aload_n 0, 1) := by decide +kernel
theorem dJ7_copyOf_1904c_1 : decode cJ7_copyOf_1904c 1 = .ok (.iload_n 1, 1) := by decide +kernel
theorem dJ7_copyOf_1904c_2 : decode cJ7_copyOf_1904c 2 = .ok (.aload_n 0, 1) := by decide +kernel
theorem dJ7_copyOf_1904c_3 : decode cJ7_copyOf_1904c 3 = .ok (.invokevirtual 86, 3) := by decide +kernel
theorem dJ7_copyOf_1904c_6 : decode cJ7_copyOf_1904c 6 = .ok (.invokestatic 300, 3) := by decide +kernel
theorem dJ7_copyOf_1904c_9 : decode cJ7_copyOf_1904c 9 = .ok (.areturn, 1) := by decide +kernel
theorem dJ7_copyOf_6403c_0 : decode cJ7_copyOf_6403c 0 = .ok (.aload_n 2, 1) := by decide +kernel
theorem dJ7_copyOf_6403c_1 : decode cJ7_copyOf_6403c 1 = .ok (.ldc 110, 2) := by decide +kernel
theorem dJ7_copyOf_6403c_3 : decode cJ7_copyOf_6403c 3 = .ok (.if_acmp .ne 10, 3) := by decide +kernel
theorem dJ7_copyOf_6403c_6 : decode cJ7_copyOf_6403c 6 = .ok (.iload_n 1, 1) := by decide +kernel
theorem dJ7_copyOf_6403c_7 : decode cJ7_copyOf_6403c 7 = .ok (.anewarray 2, 3) := by decide +kernel
theorem dJ7_copyOf_6403c_10 : decode cJ7_copyOf_6403c 10 = .ok (.goto 14, 3) := by decide +kernel
theorem dJ7_copyOf_6403c_13 : decode cJ7_copyOf_6403c 13 = .ok (.aload_n 2, 1) := by decide +kernel
theorem dJ7_copyOf_6403c_14 : decode cJ7_copyOf_6403c 14 = .ok (.invokevirtual 90, 3) := by decide +kernel
theorem dJ7_copyOf_6403c_17 : decode cJ7_copyOf_6403c 17 = .ok (.iload_n 1, 1) := by decide +kernel
theorem dJ7_copyOf_6403c_18 : decode cJ7_copyOf_6403c 18 = .ok (.invokestatic 95, 3) := by decide +kernel
theorem dJ7_copyOf_6403c_21 : decode cJ7_copyOf_6403c 21 = .ok (.checkcast 110, 3) := by decide +kernel
theorem dJ7_copyOf_6403c_24 : decode cJ7_copyOf_6403c 24 = .ok (.astore_n 3, 1) := by decide +kernel
theorem dJ7_copyOf_6403c_25 : decode cJ7_copyOf_6403c 25 = .ok (.aload_n 0, 1) := by decide +kernel
theorem dJ7_copyOf_6403c_26 : decode cJ7_copyOf_6403c 26 = .ok (.iconst 0, 1) := by decide +kernel
theorem dJ7_copyOf_6403c_27 : decode cJ7_copyOf_6403c 27 = .ok (.aload_n 3, 1) := by decide +kernel
theorem dJ7_copyOf_6403c_28 : decode cJ7_copyOf_6403c 28 = .ok (.iconst 0, 1) := by decide +kernel
theorem dJ7_copyOf_6403c_29 : decode cJ7_copyOf_6403c 29 = .ok (.aload_n 0, 1) := by decide +kernel
theorem dJ7_copyOf_6403c_30 : decode cJ7_copyOf_6403c 30 = .ok (.arraylength, 1) := by decide +kernel
theorem dJ7_copyOf_6403c_31 : decode cJ7_copyOf_6403c 31 = .ok (.iload_n 1, 1) := by decide +kernel
theorem dJ7_copyOf_6403c_32 : decode cJ7_copyOf_6403c 32 = .ok (.invokestatic 304, 3) := by decide +kernel
theorem dJ7_copyOf_6403c_35 : decode cJ7_copyOf_6403c 35 = .ok (.invokestatic 150, 3) := by decide +kernel
theorem dJ7_copyOf_6403c_38 : decode cJ7_copyOf_6403c 38 = .ok (.aload_n 3, 1) := by decide +kernel
theorem dJ7_copyOf_6403c_39 : decode cJ7_copyOf_6403c 39 = .ok (.areturn, 1) := by decide +kernel
theorem dJ7_copyOf_59c91_0 : decode cJ7_copyOf_59c91 0 = .ok (.iload_n 1, 1) := by decide +kernel
theorem dJ7_copyOf_59c91_1 : decode cJ7_copyOf_59c91 1 = .ok (.aload_n 0, 1) := by decide +kernel
theorem dJ7_copyOf_59c91_2 : decode cJ7_copyOf_59c91 2 = .ok (.arraylength, 1) := by decide +kernel
theorem dJ7_copyOf_59c91_3 : decode cJ7_copyOf_59c91 3 = .ok (.if_icmp .ne 11, 3) := by decide +kernel
theorem dJ7_copyOf_59c91_6 : decode cJ7_copyOf_59c91 6 = .ok (.aload_n 0, 1) := by decide +kernel
theorem dJ7_copyOf_59c91_7 : decode cJ7_copyOf_59c91 7 = .ok (.invokevirtual 316, 3) := by decide +kernel
theorem dJ7_copyOf_59c91_10 : decode cJ7_copyOf_59c91 10 = .ok (.checkcast 317, 3) := by decide +kernel
theorem dJ7_copyOf_59c91_13 : decode cJ7_copyOf_59c91 13 = .ok (.areturn, 1) := by decide +kernel
theorem dJ7_copyOf_59c91_14 : decode cJ7_copyOf_59c91 14 = .ok (.iload_n 1, 1) := by decide +kernel
theorem dJ7_copyOf_59c91_15 : decode cJ7_copyOf_59c91 15 = .ok (.newarray .int, 2) := by decide +kernel
theorem dJ7_copyOf_59c91_17 : decode cJ7_copyOf_59c91 17 = .ok (.astore_n 2, 1) := by decide +kernel
theorem dJ7_copyOf_59c91_18 : decode cJ7_copyOf_59c91 18 = .ok (.aload_n 0, 1) := by decide +kernel
theorem dJ7_copyOf_59c91_19 : decode cJ7_copyOf_59c91 19 = .ok (.iconst 0, 1) := by decide +kernel
theorem dJ7_copyOf_59c91_20 : decode cJ7_copyOf_59c91 20 = .ok (.aload_n 2, 1) := by decide +kernel
theorem dJ7_copyOf_59c91_21 : decode cJ7_copyOf_59c91 21 = .ok (.iconst 0, 1) := by decide +kernel
theorem dJ7_copyOf_59c91_22 : decode cJ7_copyOf_59c91 22 = .ok (.aload_n 0, 1) := by decide +kernel
theorem dJ7_copyOf_59c91_23 : decode cJ7_copyOf_59c91 23 = .ok (.arraylength, 1) := by decide +kernel
theorem dJ7_copyOf_59c91_24 : decode cJ7_copyOf_59c91 24 = .ok (.iload_n 1, 1) := by decide +kernel
theorem dJ7_copyOf_59c91_25 : decode cJ7_copyOf_59c91 25 = .ok (.invokestatic 304, 3) := by decide +kernel
theorem dJ7_copyOf_59c91_28 : decode cJ7_copyOf_59c91 28 = .ok (.invokestatic 150, 3) := by decide +kernel
theorem dJ7_copyOf_59c91_31 : decode cJ7_copyOf_59c91 31 = .ok (.aload_n 2, 1) := by decide +kernel
theorem dJ7_copyOf_59c91_32 : decode cJ7_copyOf_59c91 32 = .ok (.areturn, 1) := by decide +kernel
theorem dJ15_checkIndex_7cf53_0 : decode cJ15_checkIndex_7cf53 0 = .ok (.iload_n 0, 1) := by decide +kernel
theorem dJ15_checkIndex_7cf53_1 : decode cJ15_checkIndex_7cf53 1 = .ok (.iload_n 1, 1) := by decide +kernel
theorem dJ15_checkIndex_7cf53_2 : decode cJ15_checkIndex_7cf53 2 = .ok (.aconst_null, 1) := by decide +kernel
theorem dJ15_checkIndex_7cf53_3 : decode cJ15_checkIndex_7cf53 3 = .ok (.invokestatic 105, 3) := by decide +kernel
theorem dJ15_checkIndex_7cf53_6 : decode cJ15_checkIndex_7cf53 6 = .ok (.ireturn, 1) := by decide +kernel
theorem dJ8_newLength_cabcc_0 : decode cJ8_newLength_cabcc 0 = .ok (.iload_n 0, 1) := by decide +kernel
theorem dJ8_newLength_cabcc_1 : decode cJ8_newLength_cabcc 1 = .ok (.iload_n 1, 1) := by decide +kernel
theorem dJ8_newLength_cabcc_2 : decode cJ8_newLength_cabcc 2 = .ok (.iload_n 2, 1) := by decide +kernel
theorem dJ8_newLength_cabcc_3 : decode cJ8_newLength_cabcc 3 = .ok (.invokestatic 194, 3) := by decide +kernel
theorem dJ8_newLength_cabcc_6 : decode cJ8_newLength_cabcc 6 = .ok (.iadd, 1) := by decide +kernel
theorem dJ8_newLength_cabcc_7 : decode cJ8_newLength_cabcc 7 = .ok (.istore_n 3, 1) := by decide +kernel
theorem dJ8_newLength_cabcc_8 : decode cJ8_newLength_cabcc 8 = .ok (.iconst 0, 1) := by decide +kernel
theorem dJ8_newLength_cabcc_9 : decode cJ8_newLength_cabcc 9 = .ok (.iload_n 3, 1) := by decide +kernel
theorem dJ8_newLength_cabcc_10 : decode cJ8_newLength_cabcc 10 = .ok (.if_icmp .ge 11, 3) := by decide +kernel
theorem dJ8_newLength_cabcc_13 : decode cJ8_newLength_cabcc 13 = .ok (.iload_n 3, 1) := by decide +kernel
theorem dJ8_newLength_cabcc_14 : decode cJ8_newLength_cabcc 14 = .ok (.ldc 200, 2) := by decide +kernel
theorem dJ8_newLength_cabcc_16 : decode cJ8_newLength_cabcc 16 = .ok (.if_icmp .gt 5, 3) := by decide +kernel
theorem dJ8_newLength_cabcc_19 : decode cJ8_newLength_cabcc 19 = .ok (.iload_n 3, 1) := by decide +kernel
theorem dJ8_newLength_cabcc_20 : decode cJ8_newLength_cabcc 20 = .ok (.ireturn, 1) := by decide +kernel
theorem dJ8_newLength_cabcc_21 : decode cJ8_newLength_cabcc 21 = .ok (.iload_n 0, 1) := by decide +kernel
theorem dJ8_newLength_cabcc_22 : decode cJ8_newLength_cabcc 22 = .ok (.iload_n 1, 1) := by decide +kernel
theorem dJ8_newLength_cabcc_23 : decode cJ8_newLength_cabcc 23 = .ok (.invokestatic 201, 3) := by decide +kernel
theorem dJ8_newLength_cabcc_26 : decode cJ8_newLength_cabcc 26 = .ok (.ireturn, 1) := by decide +kernel
theorem dJ8_hugeLength_7cf53_0 : decode cJ8_hugeLength_7cf53 0 = .ok (.iload_n 0, 1) := by decide +kernel
theorem dJ8_hugeLength_7cf53_1 : decode cJ8_hugeLength_7cf53 1 = .ok (.iload_n 1, 1) := by decide +kernel
theorem dJ8_hugeLength_7cf53_2 : decode cJ8_hugeLength_7cf53 2 = .ok (.iadd, 1) := by decide +kernel
theorem dJ8_hugeLength_7cf53_3 : decode cJ8_hugeLength_7cf53 3 = .ok (.istore_n 2, 1) := by decide +kernel
theorem dJ8_hugeLength_7cf53_4 : decode cJ8_hugeLength_7cf53 4 = .ok (.iload_n 2, 1) := by decide +kernel
theorem dJ8_hugeLength_7cf53_5 : decode cJ8_hugeLength_7cf53 5 = .ok (.ifCond .ge 44, 3) := by decide +kernel
theorem dJ8_hugeLength_7cf53_8 : decode cJ8_hugeLength_7cf53 8 = .ok (.new 204, 3) := by decide +kernel
theorem dJ8_hugeLength_7cf53_11 : decode cJ8_hugeLength_7cf53 11 = .ok (.dup, 1) := by decide +kernel
theorem dJ8_hugeLength_7cf53_12 : decode cJ8_hugeLength_7cf53 12 = .ok (.new 89, 3) := by decide +kernel
theorem dJ8_hugeLength_7cf53_15 : decode cJ8_hugeLength_7cf53 15 = .ok (.dup, 1) := by decide +kernel
theorem dJ8_hugeLength_7cf53_16 : decode cJ8_hugeLength_7cf53 16 = .ok (.invokespecial 91, 3) := by decide +kernel
theorem dJ8_hugeLength_7cf53_19 : decode cJ8_hugeLength_7cf53 19 = .ok (.ldc 206, 2) := by decide +kernel
theorem dJ8_hugeLength_7cf53_21 : decode cJ8_hugeLength_7cf53 21 = .ok (.invokevirtual 94, 3) := by decide +kernel
theorem dJ8_hugeLength_7cf53_24 : decode cJ8_hugeLength_7cf53 24 = .ok (.iload_n 0, 1) := by decide +kernel
theorem dJ8_hugeLength_7cf53_25 : decode cJ8_hugeLength_7cf53 25 = .ok (.invokevirtual 98, 3) := by decide +kernel
theorem dJ8_hugeLength_7cf53_28 : decode cJ8_hugeLength_7cf53 28 = .ok (.ldc 208, 2) := by decide +kernel
theorem dJ8_hugeLength_7cf53_30 : decode cJ8_hugeLength_7cf53 30 = .ok (.invokevirtual 94, 3) := by decide +kernel
theorem dJ8_hugeLength_7cf53_33 : decode cJ8_hugeLength_7cf53 33 = .ok (.iload_n 1, 1) := by decide +kernel
theorem dJ8_hugeLength_7cf53_34 : decode cJ8_hugeLength_7cf53 34 = .ok (.invokevirtual 98, 3) := by decide +kernel
theorem dJ8_hugeLength_7cf53_37 : decode cJ8_hugeLength_7cf53 37 = .ok (.ldc 210, 2) := by decide +kernel
theorem dJ8_hugeLength_7cf53_39 : decode cJ8_hugeLength_7cf53 39 = .ok (.invokevirtual 94, 3) := by decide +kernel
theorem dJ8_hugeLength_7cf53_42 : decode cJ8_hugeLength_7cf53 42 = .ok (.invokevirtual 101, 3) := by decide +kernel
theorem dJ8_hugeLength_7cf53_45 : decode cJ8_hugeLength_7cf53 45 = .ok (.invokespecial 212, 3) := by decide +kernel
theorem dJ8_hugeLength_7cf53_48 : decode cJ8_hugeLength_7cf53 48 = .ok (.athrow, 1) := by decide +kernel
theorem dJ8_hugeLength_7cf53_49 : decode cJ8_hugeLength_7cf53 49 = .ok (.iload_n 2, 1) := by decide +kernel
theorem dJ8_hugeLength_7cf53_50 : decode cJ8_hugeLength_7cf53 50 = .ok (.ldc 200, 2) := by decide +kernel
theorem dJ8_hugeLength_7cf53_52 : decode cJ8_hugeLength_7cf53 52 = .ok (.if_icmp .gt 6, 3) := by decide +kernel
theorem dJ8_hugeLength_7cf53_55 : decode cJ8_hugeLength_7cf53 55 = .ok (.ldc 200, 2) := by decide +kernel
theorem dJ8_hugeLength_7cf53_57 : decode cJ8_hugeLength_7cf53 57 = .ok (.ireturn, 1) := by decide +kernel
theorem dJ8_hugeLength_7cf53_58 : decode cJ8_hugeLength_7cf53 58 = .ok (.iload_n 2, 1) := by decide +kernel
theorem dJ8_hugeLength_7cf53_59 : decode cJ8_hugeLength_7cf53 59 = .ok (.ireturn, 1) := by decide +kernel
theorem dJ3_checkIndex_8e157_0 : decode cJ3_checkIndex_8e157 0 = .ok (.iload_n 0, 1) := by decide +kernel
theorem dJ3_checkIndex_8e157_1 : decode cJ3_checkIndex_8e157 1 = .ok (.ifCond .lt 8, 3) := by decide +kernel
theorem dJ3_checkIndex_8e157_4 : decode cJ3_checkIndex_8e157 4 = .ok (.iload_n 0, 1) := by decide +kernel
theorem dJ3_checkIndex_8e157_5 : decode cJ3_checkIndex_8e157 5 = .ok (.iload_n 1, 1) := by decide +kernel
theorem dJ3_checkIndex_8e157_6 : decode cJ3_checkIndex_8e157 6 = .ok (.if_icmp .lt 10, 3) := by decide +kernel
theorem dJ3_checkIndex_8e157_9 : decode cJ3_checkIndex_8e157 9 = .ok (.aload_n 2, 1) := by decide +kernel
theorem dJ3_checkIndex_8e157_10 : decode cJ3_checkIndex_8e157 10 = .ok (.iload_n 0, 1) := by decide +kernel
theorem dJ3_checkIndex_8e157_11 : decode cJ3_checkIndex_8e157 11 = .ok (.iload_n 1, 1) := by decide +kernel
theorem dJ3_checkIndex_8e157_12 : decode cJ3_checkIndex_8e157 12 = .ok (.invokestatic 95, 3) := by decide +kernel
theorem dJ3_checkIndex_8e157_15 : decode cJ3_checkIndex_8e157 15 = .ok (.athrow, 1) := by decide +kernel
theorem dJ3_checkIndex_8e157_16 : decode cJ3_checkIndex_8e157 16 = .ok (.iload_n 0, 1) := by decide +kernel
theorem dJ3_checkIndex_8e157_17 : decode cJ3_checkIndex_8e157 17 = .ok (.ireturn, 1) := by decide +kernel
end
section
theorem dX12_init_0 : decode cX12_init 0 = .ok (.aload_n 0, 1) := by decide +kernel
theorem dX12_init_1 : decode cX12_init 1 = .ok (.invokespecial 1, 3) := by decide +kernel
theorem dX12_init_4 : decode cX12_init 4 = .ok (.aload_n 0, 1) := by decide +kernel
theorem dX12_init_5 : decode cX12_init 5 = .ok (.bipush 8, 2) := by decide +kernel
theorem dX12_init_7 : decode cX12_init 7 = .ok (.newarray .int, 2) := by decide +kernel
theorem dX12_init_9 : decode cX12_init 9 = .ok (.dup, 1) := by decide +kernel
theorem dX12_init_10 : decode cX12_init 10 = .ok (.iconst 0, 1) := by decide +kernel
theorem dX12_init_11 : decode cX12_init 11 = .ok (.iconst (-1), 1) := by decide +kernel
theorem dX12_init_12 : decode cX12_init 12 = .ok (.iastore, 1) := by decide +kernel
theorem dX12_init_13 : decode cX12_init 13 = .ok (.dup, 1) := by decide +kernel
theorem dX12_init_14 : decode cX12_init 14 = .ok (.iconst 1, 1) := by decide +kernel
theorem dX12_init_15 : decode cX12_init 15 = .ok (.iconst (-1), 1) := by decide +kernel
theorem dX12_init_16 : decode cX12_init 16 = .ok (.iastore, 1) := by decide +kernel
theorem dX12_init_17 : decode cX12_init 17 = .ok (.dup, 1) := by decide +kernel
theorem dX12_init_18 : decode cX12_init 18 = .ok (.iconst 2, 1) := by decide +kernel
theorem dX12_init_19 : decode cX12_init 19 = .ok (.iconst (-1), 1) := by decide +kernel
theorem dX12_init_20 : decode cX12_init 20 = .ok (.iastore, 1) := by decide +kernel
theorem dX12_init_21 : decode cX12_init 21 = .ok (.dup, 1) := by decide +kernel
theorem dX12_init_22 : decode cX12_init 22 = .ok (.iconst 3, 1) := by decide +kernel
theorem dX12_init_23 : decode cX12_init 23 = .ok (.iconst (-1), 1) := by decide +kernel
theorem dX12_init_24 : decode cX12_init 24 = .ok (.iastore, 1) := by decide +kernel
theorem dX12_init_25 : decode cX12_init 25 = .ok (.dup, 1) := by decide +kernel
theorem dX12_init_26 : decode cX12_init 26 = .ok (.iconst 4, 1) := by decide +kernel
theorem dX12_init_27 : decode cX12_init 27 = .ok (.iconst (-1), 1) := by decide +kernel
theorem dX12_init_28 : decode cX12_init 28 = .ok (.iastore, 1) := by decide +kernel
theorem dX12_init_29 : decode cX12_init 29 = .ok (.dup, 1) := by decide +kernel
theorem dX12_init_30 : decode cX12_init 30 = .ok (.iconst 5, 1) := by decide +kernel
theorem dX12_init_31 : decode cX12_init 31 = .ok (.iconst (-1), 1) := by decide +kernel
theorem dX12_init_32 : decode cX12_init 32 = .ok (.iastore, 1) := by decide +kernel
theorem dX12_init_33 : decode cX12_init 33 = .ok (.dup, 1) := by decide +kernel
theorem dX12_init_34 : decode cX12_init 34 = .ok (.bipush 6, 2) := by decide +kernel
theorem dX12_init_36 : decode cX12_init 36 = .ok (.iconst (-1), 1) := by decide +kernel
theorem dX12_init_37 : decode cX12_init 37 = .ok (.iastore, 1) := by decide +kernel
theorem dX12_init_38 : decode cX12_init 38 = .ok (.dup, 1) := by decide +kernel
theorem dX12_init_39 : decode cX12_init 39 = .ok (.bipush 7, 2) := by decide +kernel
theorem dX12_init_41 : decode cX12_init 41 = .ok (.iconst (-1), 1) := by decide +kernel
theorem dX12_init_42 : decode cX12_init 42 = .ok (.iastore, 1) := by decide +kernel
theorem dX12_init_43 : decode cX12_init 43 = .ok (.putfield 7, 3) := by decide +kernel
theorem dX12_init_46 : decode cX12_init 46 = .ok (.aload_n 0, 1) := by decide +kernel
theorem dX12_init_47 : decode cX12_init 47 = .ok (.bipush 8, 2) := by decide +kernel
theorem dX12_init_49 : decode cX12_init 49 = .ok (.newarray .int, 2) := by decide +kernel
theorem dX12_init_51 : decode cX12_init 51 = .ok (.putfield 13, 3) := by decide +kernel
theorem dX12_init_54 : decode cX12_init 54 = .ok (.aload_n 0, 1) := by decide +kernel
theorem dX12_init_55 : decode cX12_init 55 = .ok (.sipush 320, 3) := by decide +kernel
theorem dX12_init_58 : decode cX12_init 58 = .ok (.newarray .int, 2) := by decide +kernel
theorem dX12_init_60 : decode cX12_init 60 = .ok (.putfield 16, 3) := by decide +kernel
theorem dX12_init_63 : decode cX12_init 63 = .ok (.aload_n 0, 1) := by decide +kernel
theorem dX12_init_64 : decode cX12_init 64 = .ok (.bipush 95, 2) := by decide +kernel
theorem dX12_init_66 : decode cX12_init 66 = .ok (.newarray .int, 2) := by decide +kernel
theorem dX12_init_68 : decode cX12_init 68 = .ok (.putfield 19, 3) := by decide +kernel
theorem dX12_init_71 : decode cX12_init 71 = .ok (.aload_n 0, 1) := by decide +kernel
theorem dX12_init_72 : decode cX12_init 72 = .ok (.bipush 95, 2) := by decide +kernel
theorem dX12_init_74 : decode cX12_init 74 = .ok (.newarray .int, 2) := by decide +kernel
theorem dX12_init_76 : decode cX12_init 76 = .ok (.putfield 22, 3) := by decide +kernel
theorem dX12_init_79 : decode cX12_init 79 = .ok (.aload_n 0, 1) := by decide +kernel
theorem dX12_init_80 : decode cX12_init 80 = .ok (.bipush 95, 2) := by decide +kernel
theorem dX12_init_82 : decode cX12_init 82 = .ok (.newarray .int, 2) := by decide +kernel
theorem dX12_init_84 : decode cX12_init 84 = .ok (.putfield 25, 3) := by decide +kernel
theorem dX12_init_87 : decode cX12_init 87 = .ok (.aload_n 0, 1) := by decide +kernel
theorem dX12_init_88 : decode cX12_init 88 = .ok (.sipush 2280, 3) := by decide +kernel
theorem dX12_init_91 : decode cX12_init 91 = .ok (.newarray .int, 2) := by decide +kernel
theorem dX12_init_93 : decode cX12_init 93 = .ok (.putfield 28, 3) := by decide +kernel
theorem dX12_init_96 : decode cX12_init 96 = .ok (.aload_n 0, 1) := by decide +kernel
theorem dX12_init_97 : decode cX12_init 97 = .ok (.bipush 120, 2) := by decide +kernel
theorem dX12_init_99 : decode cX12_init 99 = .ok (.newarray .int, 2) := by decide +kernel
theorem dX12_init_101 : decode cX12_init 101 = .ok (.putfield 31, 3) := by decide +kernel
theorem dX12_init_104 : decode cX12_init 104 = .ok (.aload_n 0, 1) := by decide +kernel
theorem dX12_init_105 : decode cX12_init 105 = .ok (.iconst 2, 1) := by decide +kernel
theorem dX12_init_106 : decode cX12_init 106 = .ok (.newarray .boolean, 2) := by decide +kernel
theorem dX12_init_108 : decode cX12_init 108 = .ok (.putfield 34, 3) := by decide +kernel
theorem dX12_init_111 : decode cX12_init 111 = .ok (.aload_n 0, 1) := by decide +kernel
theorem dX12_init_112 : decode cX12_init 112 = .ok (.sipush 190, 3) := by decide +kernel
theorem dX12_init_115 : decode cX12_init 115 = .ok (.newarray .int, 2) := by decide +kernel
theorem dX12_init_117 : decode cX12_init 117 = .ok (.putfield 38, 3) := by decide +kernel
theorem dX12_init_120 : decode cX12_init 120 = .ok (.aload_n 0, 1) := by decide +kernel
theorem dX12_init_121 : decode cX12_init 121 = .ok (.bipush 16, 2) := by decide +kernel
theorem dX12_init_123 : decode cX12_init 123 = .ok (.newarray .int, 2) := by decide +kernel
theorem dX12_init_125 : decode cX12_init 125 = .ok (.putfield 41, 3) := by decide +kernel
theorem dX12_init_128 : decode cX12_init 128 = .ok (.return_, 1) := by decide +kernel
theorem dX12_in_0 : decode cX12_in 0 = .ok (.lload_n 0, 1) := by decide +kernel
theorem dX12_in_1 : decode cX12_in 1 = .ok (.lload_n 2, 1) := by decide +kernel
theorem dX12_in_2 : decode cX12_in 2 = .ok (.lcmp, 1) := by decide +kernel
theorem dX12_in_3 : decode cX12_in 3 = .ok (.ifCond .lt 14, 3) := by decide +kernel
theorem dX12_in_6 : decode cX12_in 6 = .ok (.lload_n 0, 1) := by decide +kernel
theorem dX12_in_7 : decode cX12_in 7 = .ok (.lload 4, 2) := by decide +kernel
theorem dX12_in_9 : decode cX12_in 9 = .ok (.lcmp, 1) := by decide +kernel
theorem dX12_in_10 : decode cX12_in 10 = .ok (.ifCond .gt 7, 3) := by decide +kernel
theorem dX12_in_13 : decode cX12_in 13 = .ok (.iconst 1, 1) := by decide +kernel
theorem dX12_in_14 : decode cX12_in 14 = .ok (.goto 4, 3) := by decide +kernel
theorem dX12_in_17 : decode cX12_in 17 = .ok (.iconst 0, 1) := by decide +kernel
theorem dX12_in_18 : decode cX12_in 18 = .ok (.ireturn, 1) := by decide +kernel
theorem dX12_finding_0 : decode cX12_finding 0 = .ok (.aload_n 0, 1) := by decide +kernel
theorem dX12_finding_1 : decode cX12_finding 1 = .ok (.iload_n 1, 1) := by decide +kernel
theorem dX12_finding_2 : decode cX12_finding 2 = .ok (.putfield 48, 3) := by decide +kernel
theorem dX12_finding_5 : decode cX12_finding 5 = .ok (.ldc 51, 2) := by decide +kernel
theorem dX12_finding_7 : decode cX12_finding 7 = .ok (.iload_n 1, 1) := by decide +kernel
theorem dX12_finding_8 : decode cX12_finding 8 = .ok (.isub, 1) := by decide +kernel
theorem dX12_finding_9 : decode cX12_finding 9 = .ok (.ireturn, 1) := by decide +kernel
theorem dX12_isRow_0 : decode cX12_isRow 0 = .ok (.iload_n 0, 1) := by decide +kernel
theorem dX12_isRow_1 : decode cX12_isRow 1 = .ok (.i2l, 1) := by decide +kernel
theorem dX12_isRow_2 : decode cX12_isRow 2 = .ok (.lconst 0, 1) := by decide +kernel
theorem dX12_isRow_3 : decode cX12_isRow 3 = .ok (.ldc2_w 52, 3) := by decide +kernel
theorem dX12_isRow_6 : decode cX12_isRow 6 = .ok (.invokestatic 54, 3) := by decide +kernel
theorem dX12_isRow_9 : decode cX12_isRow 9 = .ok (.ireturn, 1) := by decide +kernel
theorem dX12_row_0 : decode cX12_row 0 = .ok (.aload_n 0, 1) := by decide +kernel
theorem dX12_row_1 : decode cX12_row 1 = .ok (.iconst 0, 1) := by decide +kernel
theorem dX12_row_2 : decode cX12_row 2 = .ok (.putfield 44, 3) := by decide +kernel
theorem dX12_row_5 : decode cX12_row 5 = .ok (.iload_n 1, 1) := by decide +kernel
theorem dX12_row_6 : decode cX12_row 6 = .ok (.invokestatic 58, 3) := by decide +kernel
theorem dX12_row_9 : decode cX12_row 9 = .ok (.ifCond .eq 21, 3) := by decide +kernel
theorem dX12_row_12 : decode cX12_row 12 = .ok (.iload_n 2, 1) := by decide +kernel
theorem dX12_row_13 : decode cX12_row 13 = .ok (.i2l, 1) := by decide +kernel
theorem dX12_row_14 : decode cX12_row 14 = .ok (.lconst 0, 1) := by decide +kernel
theorem dX12_row_15 : decode cX12_row 15 = .ok (.ldc2_w 62, 3) := by decide +kernel
theorem dX12_row_18 : decode cX12_row 18 = .ok (.invokestatic 54, 3) := by decide +kernel
theorem dX12_row_21 : decode cX12_row 21 = .ok (.ifCond .eq 9, 3) := by decide +kernel
theorem dX12_row_24 : decode cX12_row 24 = .ok (.iload_n 3, 1) := by decide +kernel
theorem dX12_row_25 : decode cX12_row 25 = .ok (.bipush 40, 2) := by decide +kernel
theorem dX12_row_27 : decode cX12_row 27 = .ok (.if_icmp .le 6, 3) := by decide +kernel
theorem dX12_row_30 : decode cX12_row 30 = .ok (.ldc 64, 2) := by decide +kernel
theorem dX12_row_32 : decode cX12_row 32 = .ok (.ireturn, 1) := by decide +kernel
theorem dX12_row_33 : decode cX12_row 33 = .ok (.aload_n 0, 1) := by decide +kernel
theorem dX12_row_34 : decode cX12_row 34 = .ok (.iconst 0, 1) := by decide +kernel
theorem dX12_row_35 : decode cX12_row 35 = .ok (.putfield 48, 3) := by decide +kernel
theorem dX12_row_38 : decode cX12_row 38 = .ok (.iload_n 3, 1) := by decide +kernel
theorem dX12_row_39 : decode cX12_row 39 = .ok (.ifCond .ge 9, 3) := by decide +kernel
theorem dX12_row_42 : decode cX12_row 42 = .ok (.aload_n 0, 1) := by decide +kernel
theorem dX12_row_43 : decode cX12_row 43 = .ok (.iconst 4, 1) := by decide +kernel
theorem dX12_row_44 : decode cX12_row 44 = .ok (.invokevirtual 65, 3) := by decide +kernel
theorem dX12_row_47 : decode cX12_row 47 = .ok (.ireturn, 1) := by decide +kernel
theorem dX12_row_48 : decode cX12_row 48 = .ok (.aload_n 0, 1) := by decide +kernel
theorem dX12_row_49 : decode cX12_row 49 = .ok (.getfield 7, 3) := by decide +kernel
theorem dX12_row_52 : decode cX12_row 52 = .ok (.iload_n 1, 1) := by decide +kernel
theorem dX12_row_53 : decode cX12_row 53 = .ok (.iload_n 2, 1) := by decide +kernel
theorem dX12_row_54 : decode cX12_row 54 = .ok (.iastore, 1) := by decide +kernel
theorem dX12_row_55 : decode cX12_row 55 = .ok (.aload_n 0, 1) := by decide +kernel
theorem dX12_row_56 : decode cX12_row 56 = .ok (.getfield 13, 3) := by decide +kernel
theorem dX12_row_59 : decode cX12_row 59 = .ok (.iload_n 1, 1) := by decide +kernel
theorem dX12_row_60 : decode cX12_row 60 = .ok (.iload_n 3, 1) := by decide +kernel
theorem dX12_row_61 : decode cX12_row 61 = .ok (.iastore, 1) := by decide +kernel
theorem dX12_row_62 : decode cX12_row 62 = .ok (.iconst 0, 1) := by decide +kernel
theorem dX12_row_63 : decode cX12_row 63 = .ok (.istore 4, 2) := by decide +kernel
theorem dX12_row_65 : decode cX12_row 65 = .ok (.iload 4, 2) := by decide +kernel
theorem dX12_row_67 : decode cX12_row 67 = .ok (.bipush 40, 2) := by decide +kernel
theorem dX12_row_69 : decode cX12_row 69 = .ok (.if_icmp .ge 22, 3) := by decide +kernel
theorem dX12_row_72 : decode cX12_row 72 = .ok (.aload_n 0, 1) := by decide +kernel
theorem dX12_row_73 : decode cX12_row 73 = .ok (.getfield 16, 3) := by decide +kernel
theorem dX12_row_76 : decode cX12_row 76 = .ok (.bipush 40, 2) := by decide +kernel
theorem dX12_row_78 : decode cX12_row 78 = .ok (.iload_n 1, 1) := by decide +kernel
theorem dX12_row_79 : decode cX12_row 79 = .ok (.imul, 1) := by decide +kernel
theorem dX12_row_80 : decode cX12_row 80 = .ok (.iload 4, 2) := by decide +kernel
theorem dX12_row_82 : decode cX12_row 82 = .ok (.iadd, 1) := by decide +kernel
theorem dX12_row_83 : decode cX12_row 83 = .ok (.iconst 0, 1) := by decide +kernel
theorem dX12_row_84 : decode cX12_row 84 = .ok (.iastore, 1) := by decide +kernel
theorem dX12_row_85 : decode cX12_row 85 = .ok (.iinc 4 1, 3) := by decide +kernel
theorem dX12_row_88 : decode cX12_row 88 = .ok (.goto (-23), 3) := by decide +kernel
theorem dX12_row_91 : decode cX12_row 91 = .ok (.iload_n 3, 1) := by decide +kernel
theorem dX12_row_92 : decode cX12_row 92 = .ok (.ireturn, 1) := by decide +kernel
theorem dX12_set_0 : decode cX12_set 0 = .ok (.aload_n 0, 1) := by decide +kernel
theorem dX12_set_1 : decode cX12_set 1 = .ok (.iconst 0, 1) := by decide +kernel
theorem dX12_set_2 : decode cX12_set 2 = .ok (.putfield 44, 3) := by decide +kernel
theorem dX12_set_5 : decode cX12_set 5 = .ok (.iload_n 1, 1) := by decide +kernel
theorem dX12_set_6 : decode cX12_set 6 = .ok (.invokestatic 58, 3) := by decide +kernel
theorem dX12_set_9 : decode cX12_set 9 = .ok (.ifCond .ne 6, 3) := by decide +kernel
theorem dX12_set_12 : decode cX12_set 12 = .ok (.ldc 64, 2) := by decide +kernel
theorem dX12_set_14 : decode cX12_set 14 = .ok (.ireturn, 1) := by decide +kernel
theorem dX12_set_15 : decode cX12_set 15 = .ok (.aload_n 0, 1) := by decide +kernel
theorem dX12_set_16 : decode cX12_set 16 = .ok (.iconst 0, 1) := by decide +kernel
theorem dX12_set_17 : decode cX12_set 17 = .ok (.putfield 48, 3) := by decide +kernel
theorem dX12_set_20 : decode cX12_set 20 = .ok (.aload_n 0, 1) := by decide +kernel
theorem dX12_set_21 : decode cX12_set 21 = .ok (.getfield 7, 3) := by decide +kernel
theorem dX12_set_24 : decode cX12_set 24 = .ok (.iload_n 1, 1) := by decide +kernel
theorem dX12_set_25 : decode cX12_set 25 = .ok (.iaload, 1) := by decide +kernel
theorem dX12_set_26 : decode cX12_set 26 = .ok (.ifCond .ge 9, 3) := by decide +kernel
theorem dX12_set_29 : decode cX12_set 29 = .ok (.aload_n 0, 1) := by decide +kernel
theorem dX12_set_30 : decode cX12_set 30 = .ok (.iconst 1, 1) := by decide +kernel
theorem dX12_set_31 : decode cX12_set 31 = .ok (.invokevirtual 65, 3) := by decide +kernel
theorem dX12_set_34 : decode cX12_set 34 = .ok (.ireturn, 1) := by decide +kernel
theorem dX12_set_35 : decode cX12_set 35 = .ok (.iload_n 2, 1) := by decide +kernel
theorem dX12_set_36 : decode cX12_set 36 = .ok (.i2l, 1) := by decide +kernel
theorem dX12_set_37 : decode cX12_set 37 = .ok (.lconst 0, 1) := by decide +kernel
theorem dX12_set_38 : decode cX12_set 38 = .ok (.aload_n 0, 1) := by decide +kernel
theorem dX12_set_39 : decode cX12_set 39 = .ok (.getfield 13, 3) := by decide +kernel
theorem dX12_set_42 : decode cX12_set 42 = .ok (.iload_n 1, 1) := by decide +kernel
theorem dX12_set_43 : decode cX12_set 43 = .ok (.iaload, 1) := by decide +kernel
theorem dX12_set_44 : decode cX12_set 44 = .ok (.iconst 1, 1) := by decide +kernel
theorem dX12_set_45 : decode cX12_set 45 = .ok (.isub, 1) := by decide +kernel
theorem dX12_set_46 : decode cX12_set 46 = .ok (.i2l, 1) := by decide +kernel
theorem dX12_set_47 : decode cX12_set 47 = .ok (.invokestatic 54, 3) := by decide +kernel
theorem dX12_set_50 : decode cX12_set 50 = .ok (.ifCond .ne 9, 3) := by decide +kernel
theorem dX12_set_53 : decode cX12_set 53 = .ok (.aload_n 0, 1) := by decide +kernel
theorem dX12_set_54 : decode cX12_set 54 = .ok (.iconst 2, 1) := by decide +kernel
theorem dX12_set_55 : decode cX12_set 55 = .ok (.invokevirtual 65, 3) := by decide +kernel
theorem dX12_set_58 : decode cX12_set 58 = .ok (.ireturn, 1) := by decide +kernel
theorem dX12_set_59 : decode cX12_set 59 = .ok (.aload_n 0, 1) := by decide +kernel
theorem dX12_set_60 : decode cX12_set 60 = .ok (.getfield 16, 3) := by decide +kernel
theorem dX12_set_63 : decode cX12_set 63 = .ok (.bipush 40, 2) := by decide +kernel
theorem dX12_set_65 : decode cX12_set 65 = .ok (.iload_n 1, 1) := by decide +kernel
theorem dX12_set_66 : decode cX12_set 66 = .ok (.imul, 1) := by decide +kernel
theorem dX12_set_67 : decode cX12_set 67 = .ok (.iload_n 2, 1) := by decide +kernel
theorem dX12_set_68 : decode cX12_set 68 = .ok (.iadd, 1) := by decide +kernel
theorem dX12_set_69 : decode cX12_set 69 = .ok (.aload_n 0, 1) := by decide +kernel
theorem dX12_set_70 : decode cX12_set 70 = .ok (.getfield 7, 3) := by decide +kernel
theorem dX12_set_73 : decode cX12_set 73 = .ok (.iload_n 1, 1) := by decide +kernel
theorem dX12_set_74 : decode cX12_set 74 = .ok (.iaload, 1) := by decide +kernel
theorem dX12_set_75 : decode cX12_set 75 = .ok (.ifCond .ne 8, 3) := by decide +kernel
theorem dX12_set_78 : decode cX12_set 78 = .ok (.iload_n 3, 1) := by decide +kernel
theorem dX12_set_79 : decode cX12_set 79 = .ok (.i2b, 1) := by decide +kernel
theorem dX12_set_80 : decode cX12_set 80 = .ok (.goto 19, 3) := by decide +kernel
theorem dX12_set_83 : decode cX12_set 83 = .ok (.aload_n 0, 1) := by decide +kernel
theorem dX12_set_84 : decode cX12_set 84 = .ok (.getfield 7, 3) := by decide +kernel
theorem dX12_set_87 : decode cX12_set 87 = .ok (.iload_n 1, 1) := by decide +kernel
theorem dX12_set_88 : decode cX12_set 88 = .ok (.iaload, 1) := by decide +kernel
theorem dX12_set_89 : decode cX12_set 89 = .ok (.iconst 1, 1) := by decide +kernel
theorem dX12_set_90 : decode cX12_set 90 = .ok (.if_icmp .ne 8, 3) := by decide +kernel
theorem dX12_set_93 : decode cX12_set 93 = .ok (.iload_n 3, 1) := by decide +kernel
theorem dX12_set_94 : decode cX12_set 94 = .ok (.i2s, 1) := by decide +kernel
theorem dX12_set_95 : decode cX12_set 95 = .ok (.goto 4, 3) := by decide +kernel
theorem dX12_set_98 : decode cX12_set 98 = .ok (.iload_n 3, 1) := by decide +kernel
theorem dX12_set_99 : decode cX12_set 99 = .ok (.iastore, 1) := by decide +kernel
theorem dX12_set_100 : decode cX12_set 100 = .ok (.aload_n 0, 1) := by decide +kernel
theorem dX12_set_101 : decode cX12_set 101 = .ok (.getfield 16, 3) := by decide +kernel
theorem dX12_set_104 : decode cX12_set 104 = .ok (.bipush 40, 2) := by decide +kernel
theorem dX12_set_106 : decode cX12_set 106 = .ok (.iload_n 1, 1) := by decide +kernel
theorem dX12_set_107 : decode cX12_set 107 = .ok (.imul, 1) := by decide +kernel
theorem dX12_set_108 : decode cX12_set 108 = .ok (.iload_n 2, 1) := by decide +kernel
theorem dX12_set_109 : decode cX12_set 109 = .ok (.iadd, 1) := by decide +kernel
theorem dX12_set_110 : decode cX12_set 110 = .ok (.iaload, 1) := by decide +kernel
theorem dX12_set_111 : decode cX12_set 111 = .ok (.ireturn, 1) := by decide +kernel
theorem dX12_copy_0 : decode cX12_copy 0 = .ok (.aload_n 0, 1) := by decide +kernel
theorem dX12_copy_1 : decode cX12_copy 1 = .ok (.iconst 0, 1) := by decide +kernel
theorem dX12_copy_2 : decode cX12_copy 2 = .ok (.putfield 44, 3) := by decide +kernel
theorem dX12_copy_5 : decode cX12_copy 5 = .ok (.iload_n 1, 1) := by decide +kernel
theorem dX12_copy_6 : decode cX12_copy 6 = .ok (.invokestatic 58, 3) := by decide +kernel
theorem dX12_copy_9 : decode cX12_copy 9 = .ok (.ifCond .eq 10, 3) := by decide +kernel
theorem dX12_copy_12 : decode cX12_copy 12 = .ok (.iload_n 3, 1) := by decide +kernel
theorem dX12_copy_13 : decode cX12_copy 13 = .ok (.invokestatic 58, 3) := by decide +kernel
theorem dX12_copy_16 : decode cX12_copy 16 = .ok (.ifCond .ne 6, 3) := by decide +kernel
theorem dX12_copy_19 : decode cX12_copy 19 = .ok (.ldc 64, 2) := by decide +kernel
theorem dX12_copy_21 : decode cX12_copy 21 = .ok (.ireturn, 1) := by decide +kernel
theorem dX12_copy_22 : decode cX12_copy 22 = .ok (.aload_n 0, 1) := by decide +kernel
theorem dX12_copy_23 : decode cX12_copy 23 = .ok (.iconst 0, 1) := by decide +kernel
theorem dX12_copy_24 : decode cX12_copy 24 = .ok (.putfield 48, 3) := by decide +kernel
theorem dX12_copy_27 : decode cX12_copy 27 = .ok (.aload_n 0, 1) := by decide +kernel
theorem dX12_copy_28 : decode cX12_copy 28 = .ok (.getfield 7, 3) := by decide +kernel
theorem dX12_copy_31 : decode cX12_copy 31 = .ok (.iload_n 1, 1) := by decide +kernel
theorem dX12_copy_32 : decode cX12_copy 32 = .ok (.iaload, 1) := by decide +kernel
theorem dX12_copy_33 : decode cX12_copy 33 = .ok (.ifCond .lt 12, 3) := by decide +kernel
theorem dX12_copy_36 : decode cX12_copy 36 = .ok (.aload_n 0, 1) := by decide +kernel
theorem dX12_copy_37 : decode cX12_copy 37 = .ok (.getfield 7, 3) := by decide +kernel
theorem dX12_copy_40 : decode cX12_copy 40 = .ok (.iload_n 3, 1) := by decide +kernel
theorem dX12_copy_41 : decode cX12_copy 41 = .ok (.iaload, 1) := by decide +kernel
theorem dX12_copy_42 : decode cX12_copy 42 = .ok (.ifCond .ge 9, 3) := by decide +kernel
theorem dX12_copy_45 : decode cX12_copy 45 = .ok (.aload_n 0, 1) := by decide +kernel
theorem dX12_copy_46 : decode cX12_copy 46 = .ok (.iconst 1, 1) := by decide +kernel
theorem dX12_copy_47 : decode cX12_copy 47 = .ok (.invokevirtual 65, 3) := by decide +kernel
theorem dX12_copy_50 : decode cX12_copy 50 = .ok (.ireturn, 1) := by decide +kernel
theorem dX12_copy_51 : decode cX12_copy 51 = .ok (.aload_n 0, 1) := by decide +kernel
theorem dX12_copy_52 : decode cX12_copy 52 = .ok (.getfield 7, 3) := by decide +kernel
theorem dX12_copy_55 : decode cX12_copy 55 = .ok (.iload_n 1, 1) := by decide +kernel
theorem dX12_copy_56 : decode cX12_copy 56 = .ok (.iaload, 1) := by decide +kernel
theorem dX12_copy_57 : decode cX12_copy 57 = .ok (.aload_n 0, 1) := by decide +kernel
theorem dX12_copy_58 : decode cX12_copy 58 = .ok (.getfield 7, 3) := by decide +kernel
theorem dX12_copy_61 : decode cX12_copy 61 = .ok (.iload_n 3, 1) := by decide +kernel
theorem dX12_copy_62 : decode cX12_copy 62 = .ok (.iaload, 1) := by decide +kernel
theorem dX12_copy_63 : decode cX12_copy 63 = .ok (.if_icmp .eq 9, 3) := by decide +kernel
theorem dX12_copy_66 : decode cX12_copy 66 = .ok (.aload_n 0, 1) := by decide +kernel
theorem dX12_copy_67 : decode cX12_copy 67 = .ok (.iconst 5, 1) := by decide +kernel
theorem dX12_copy_68 : decode cX12_copy 68 = .ok (.invokevirtual 65, 3) := by decide +kernel
theorem dX12_copy_71 : decode cX12_copy 71 = .ok (.ireturn, 1) := by decide +kernel
theorem dX12_copy_72 : decode cX12_copy 72 = .ok (.iload_n 2, 1) := by decide +kernel
theorem dX12_copy_73 : decode cX12_copy 73 = .ok (.ifCond .lt 48, 3) := by decide +kernel
theorem dX12_copy_76 : decode cX12_copy 76 = .ok (.iload 4, 2) := by decide +kernel
theorem dX12_copy_78 : decode cX12_copy 78 = .ok (.ifCond .lt 43, 3) := by decide +kernel
theorem dX12_copy_81 : decode cX12_copy 81 = .ok (.iload 5, 2) := by decide +kernel
theorem dX12_copy_83 : decode cX12_copy 83 = .ok (.ifCond .lt 38, 3) := by decide +kernel
theorem dX12_copy_86 : decode cX12_copy 86 = .ok (.iload_n 2, 1) := by decide +kernel
theorem dX12_copy_87 : decode cX12_copy 87 = .ok (.i2l, 1) := by decide +kernel
theorem dX12_copy_88 : decode cX12_copy 88 = .ok (.iload 5, 2) := by decide +kernel
theorem dX12_copy_90 : decode cX12_copy 90 = .ok (.i2l, 1) := by decide +kernel
theorem dX12_copy_91 : decode cX12_copy 91 = .ok (.ladd, 1) := by decide +kernel
theorem dX12_copy_92 : decode cX12_copy 92 = .ok (.aload_n 0, 1) := by decide +kernel
theorem dX12_copy_93 : decode cX12_copy 93 = .ok (.getfield 13, 3) := by decide +kernel
theorem dX12_copy_96 : decode cX12_copy 96 = .ok (.iload_n 1, 1) := by decide +kernel
theorem dX12_copy_97 : decode cX12_copy 97 = .ok (.iaload, 1) := by decide +kernel
theorem dX12_copy_98 : decode cX12_copy 98 = .ok (.i2l, 1) := by decide +kernel
theorem dX12_copy_99 : decode cX12_copy 99 = .ok (.lcmp, 1) := by decide +kernel
theorem dX12_copy_100 : decode cX12_copy 100 = .ok (.ifCond .gt 21, 3) := by decide +kernel
theorem dX12_copy_103 : decode cX12_copy 103 = .ok (.iload 4, 2) := by decide +kernel
theorem dX12_copy_105 : decode cX12_copy 105 = .ok (.i2l, 1) := by decide +kernel
theorem dX12_copy_106 : decode cX12_copy 106 = .ok (.iload 5, 2) := by decide +kernel
theorem dX12_copy_108 : decode cX12_copy 108 = .ok (.i2l, 1) := by decide +kernel
theorem dX12_copy_109 : decode cX12_copy 109 = .ok (.ladd, 1) := by decide +kernel
theorem dX12_copy_110 : decode cX12_copy 110 = .ok (.aload_n 0, 1) := by decide +kernel
theorem dX12_copy_111 : decode cX12_copy 111 = .ok (.getfield 13, 3) := by decide +kernel
theorem dX12_copy_114 : decode cX12_copy 114 = .ok (.iload_n 3, 1) := by decide +kernel
theorem dX12_copy_115 : decode cX12_copy 115 = .ok (.iaload, 1) := by decide +kernel
theorem dX12_copy_116 : decode cX12_copy 116 = .ok (.i2l, 1) := by decide +kernel
theorem dX12_copy_117 : decode cX12_copy 117 = .ok (.lcmp, 1) := by decide +kernel
theorem dX12_copy_118 : decode cX12_copy 118 = .ok (.ifCond .le 9, 3) := by decide +kernel
theorem dX12_copy_121 : decode cX12_copy 121 = .ok (.aload_n 0, 1) := by decide +kernel
theorem dX12_copy_122 : decode cX12_copy 122 = .ok (.iconst 2, 1) := by decide +kernel
theorem dX12_copy_123 : decode cX12_copy 123 = .ok (.invokevirtual 65, 3) := by decide +kernel
theorem dX12_copy_126 : decode cX12_copy 126 = .ok (.ireturn, 1) := by decide +kernel
theorem dX12_copy_127 : decode cX12_copy 127 = .ok (.iload_n 2, 1) := by decide +kernel
theorem dX12_copy_128 : decode cX12_copy 128 = .ok (.iload 4, 2) := by decide +kernel
theorem dX12_copy_130 : decode cX12_copy 130 = .ok (.if_icmp .lt 7, 3) := by decide +kernel
theorem dX12_copy_133 : decode cX12_copy 133 = .ok (.iconst 1, 1) := by decide +kernel
theorem dX12_copy_134 : decode cX12_copy 134 = .ok (.goto 4, 3) := by decide +kernel
theorem dX12_copy_137 : decode cX12_copy 137 = .ok (.iconst 0, 1) := by decide +kernel
theorem dX12_copy_138 : decode cX12_copy 138 = .ok (.istore 6, 2) := by decide +kernel
theorem dX12_copy_140 : decode cX12_copy 140 = .ok (.iconst 0, 1) := by decide +kernel
theorem dX12_copy_141 : decode cX12_copy 141 = .ok (.istore 7, 2) := by decide +kernel
theorem dX12_copy_143 : decode cX12_copy 143 = .ok (.iload 7, 2) := by decide +kernel
theorem dX12_copy_145 : decode cX12_copy 145 = .ok (.iload 5, 2) := by decide +kernel
theorem dX12_copy_147 : decode cX12_copy 147 = .ok (.if_icmp .ge 57, 3) := by decide +kernel
theorem dX12_copy_150 : decode cX12_copy 150 = .ok (.iload 6, 2) := by decide +kernel
theorem dX12_copy_152 : decode cX12_copy 152 = .ok (.ifCond .eq 8, 3) := by decide +kernel
theorem dX12_copy_155 : decode cX12_copy 155 = .ok (.iload 7, 2) := by decide +kernel
theorem dX12_copy_157 : decode cX12_copy 157 = .ok (.goto 10, 3) := by decide +kernel
theorem dX12_copy_160 : decode cX12_copy 160 = .ok (.iload 5, 2) := by decide +kernel
theorem dX12_copy_162 : decode cX12_copy 162 = .ok (.iconst 1, 1) := by decide +kernel
theorem dX12_copy_163 : decode cX12_copy 163 = .ok (.isub, 1) := by decide +kernel
theorem dX12_copy_164 : decode cX12_copy 164 = .ok (.iload 7, 2) := by decide +kernel
theorem dX12_copy_166 : decode cX12_copy 166 = .ok (.isub, 1) := by decide +kernel
theorem dX12_copy_167 : decode cX12_copy 167 = .ok (.istore 8, 2) := by decide +kernel
theorem dX12_copy_169 : decode cX12_copy 169 = .ok (.aload_n 0, 1) := by decide +kernel
theorem dX12_copy_170 : decode cX12_copy 170 = .ok (.getfield 16, 3) := by decide +kernel
theorem dX12_copy_173 : decode cX12_copy 173 = .ok (.bipush 40, 2) := by decide +kernel
theorem dX12_copy_175 : decode cX12_copy 175 = .ok (.iload_n 3, 1) := by decide +kernel
theorem dX12_copy_176 : decode cX12_copy 176 = .ok (.imul, 1) := by decide +kernel
theorem dX12_copy_177 : decode cX12_copy 177 = .ok (.iload 4, 2) := by decide +kernel
theorem dX12_copy_179 : decode cX12_copy 179 = .ok (.iadd, 1) := by decide +kernel
theorem dX12_copy_180 : decode cX12_copy 180 = .ok (.iload 8, 2) := by decide +kernel
theorem dX12_copy_182 : decode cX12_copy 182 = .ok (.iadd, 1) := by decide +kernel
theorem dX12_copy_183 : decode cX12_copy 183 = .ok (.aload_n 0, 1) := by decide +kernel
theorem dX12_copy_184 : decode cX12_copy 184 = .ok (.getfield 16, 3) := by decide +kernel
theorem dX12_copy_187 : decode cX12_copy 187 = .ok (.bipush 40, 2) := by decide +kernel
theorem dX12_copy_189 : decode cX12_copy 189 = .ok (.iload_n 1, 1) := by decide +kernel
theorem dX12_copy_190 : decode cX12_copy 190 = .ok (.imul, 1) := by decide +kernel
theorem dX12_copy_191 : decode cX12_copy 191 = .ok (.iload_n 2, 1) := by decide +kernel
theorem dX12_copy_192 : decode cX12_copy 192 = .ok (.iadd, 1) := by decide +kernel
theorem dX12_copy_193 : decode cX12_copy 193 = .ok (.iload 8, 2) := by decide +kernel
theorem dX12_copy_195 : decode cX12_copy 195 = .ok (.iadd, 1) := by decide +kernel
theorem dX12_copy_196 : decode cX12_copy 196 = .ok (.iaload, 1) := by decide +kernel
theorem dX12_copy_197 : decode cX12_copy 197 = .ok (.iastore, 1) := by decide +kernel
theorem dX12_copy_198 : decode cX12_copy 198 = .ok (.iinc 7 1, 3) := by decide +kernel
theorem dX12_copy_201 : decode cX12_copy 201 = .ok (.goto (-58), 3) := by decide +kernel
theorem dX12_copy_204 : decode cX12_copy 204 = .ok (.iload 5, 2) := by decide +kernel
theorem dX12_copy_206 : decode cX12_copy 206 = .ok (.ireturn, 1) := by decide +kernel
theorem dX12_drop_0 : decode cX12_drop 0 = .ok (.aload_n 0, 1) := by decide +kernel
theorem dX12_drop_1 : decode cX12_drop 1 = .ok (.iconst 0, 1) := by decide +kernel
theorem dX12_drop_2 : decode cX12_drop 2 = .ok (.putfield 44, 3) := by decide +kernel
theorem dX12_drop_5 : decode cX12_drop 5 = .ok (.iload_n 1, 1) := by decide +kernel
theorem dX12_drop_6 : decode cX12_drop 6 = .ok (.invokestatic 58, 3) := by decide +kernel
theorem dX12_drop_9 : decode cX12_drop 9 = .ok (.ifCond .ne 6, 3) := by decide +kernel
theorem dX12_drop_12 : decode cX12_drop 12 = .ok (.ldc 64, 2) := by decide +kernel
theorem dX12_drop_14 : decode cX12_drop 14 = .ok (.ireturn, 1) := by decide +kernel
theorem dX12_drop_15 : decode cX12_drop 15 = .ok (.aload_n 0, 1) := by decide +kernel
theorem dX12_drop_16 : decode cX12_drop 16 = .ok (.iconst 0, 1) := by decide +kernel
theorem dX12_drop_17 : decode cX12_drop 17 = .ok (.putfield 48, 3) := by decide +kernel
theorem dX12_drop_20 : decode cX12_drop 20 = .ok (.aload_n 0, 1) := by decide +kernel
theorem dX12_drop_21 : decode cX12_drop 21 = .ok (.getfield 7, 3) := by decide +kernel
theorem dX12_drop_24 : decode cX12_drop 24 = .ok (.iload_n 1, 1) := by decide +kernel
theorem dX12_drop_25 : decode cX12_drop 25 = .ok (.iaload, 1) := by decide +kernel
theorem dX12_drop_26 : decode cX12_drop 26 = .ok (.ifCond .ge 9, 3) := by decide +kernel
theorem dX12_drop_29 : decode cX12_drop 29 = .ok (.aload_n 0, 1) := by decide +kernel
theorem dX12_drop_30 : decode cX12_drop 30 = .ok (.iconst 1, 1) := by decide +kernel
theorem dX12_drop_31 : decode cX12_drop 31 = .ok (.invokevirtual 65, 3) := by decide +kernel
theorem dX12_drop_34 : decode cX12_drop 34 = .ok (.ireturn, 1) := by decide +kernel
theorem dX12_drop_35 : decode cX12_drop 35 = .ok (.aload_n 0, 1) := by decide +kernel
theorem dX12_drop_36 : decode cX12_drop 36 = .ok (.getfield 7, 3) := by decide +kernel
theorem dX12_drop_39 : decode cX12_drop 39 = .ok (.iload_n 1, 1) := by decide +kernel
theorem dX12_drop_40 : decode cX12_drop 40 = .ok (.iconst (-1), 1) := by decide +kernel
theorem dX12_drop_41 : decode cX12_drop 41 = .ok (.iastore, 1) := by decide +kernel
theorem dX12_drop_42 : decode cX12_drop 42 = .ok (.aload_n 0, 1) := by decide +kernel
theorem dX12_drop_43 : decode cX12_drop 43 = .ok (.getfield 13, 3) := by decide +kernel
theorem dX12_drop_46 : decode cX12_drop 46 = .ok (.iload_n 1, 1) := by decide +kernel
theorem dX12_drop_47 : decode cX12_drop 47 = .ok (.iaload, 1) := by decide +kernel
theorem dX12_drop_48 : decode cX12_drop 48 = .ok (.ireturn, 1) := by decide +kernel
theorem dX12_feed_0 : decode cX12_feed 0 = .ok (.aload_n 0, 1) := by decide +kernel
theorem dX12_feed_1 : decode cX12_feed 1 = .ok (.iconst 0, 1) := by decide +kernel
theorem dX12_feed_2 : decode cX12_feed 2 = .ok (.putfield 44, 3) := by decide +kernel
theorem dX12_feed_5 : decode cX12_feed 5 = .ok (.iload_n 1, 1) := by decide +kernel
theorem dX12_feed_6 : decode cX12_feed 6 = .ok (.i2l, 1) := by decide +kernel
theorem dX12_feed_7 : decode cX12_feed 7 = .ok (.lconst 0, 1) := by decide +kernel
theorem dX12_feed_8 : decode cX12_feed 8 = .ok (.ldc2_w 69, 3) := by decide +kernel
theorem dX12_feed_11 : decode cX12_feed 11 = .ok (.invokestatic 54, 3) := by decide +kernel
theorem dX12_feed_14 : decode cX12_feed 14 = .ok (.ifCond .ne 6, 3) := by decide +kernel
theorem dX12_feed_17 : decode cX12_feed 17 = .ok (.ldc 64, 2) := by decide +kernel
theorem dX12_feed_19 : decode cX12_feed 19 = .ok (.ireturn, 1) := by decide +kernel
theorem dX12_feed_20 : decode cX12_feed 20 = .ok (.aload_n 0, 1) := by decide +kernel
theorem dX12_feed_21 : decode cX12_feed 21 = .ok (.getfield 71, 3) := by decide +kernel
theorem dX12_feed_24 : decode cX12_feed 24 = .ok (.bipush 120, 2) := by decide +kernel
theorem dX12_feed_26 : decode cX12_feed 26 = .ok (.if_icmp .ne 6, 3) := by decide +kernel
theorem dX12_feed_29 : decode cX12_feed 29 = .ok (.ldc 74, 2) := by decide +kernel
theorem dX12_feed_31 : decode cX12_feed 31 = .ok (.ireturn, 1) := by decide +kernel
theorem dX12_feed_32 : decode cX12_feed 32 = .ok (.aload_n 0, 1) := by decide +kernel
theorem dX12_feed_33 : decode cX12_feed 33 = .ok (.getfield 31, 3) := by decide +kernel
theorem dX12_feed_36 : decode cX12_feed 36 = .ok (.aload_n 0, 1) := by decide +kernel
theorem dX12_feed_37 : decode cX12_feed 37 = .ok (.getfield 71, 3) := by decide +kernel
theorem dX12_feed_40 : decode cX12_feed 40 = .ok (.iload_n 1, 1) := by decide +kernel
theorem dX12_feed_41 : decode cX12_feed 41 = .ok (.iastore, 1) := by decide +kernel
theorem dX12_feed_42 : decode cX12_feed 42 = .ok (.aload_n 0, 1) := by decide +kernel
theorem dX12_feed_43 : decode cX12_feed 43 = .ok (.dup, 1) := by decide +kernel
theorem dX12_feed_44 : decode cX12_feed 44 = .ok (.getfield 71, 3) := by decide +kernel
theorem dX12_feed_47 : decode cX12_feed 47 = .ok (.iconst 1, 1) := by decide +kernel
theorem dX12_feed_48 : decode cX12_feed 48 = .ok (.iadd, 1) := by decide +kernel
theorem dX12_feed_49 : decode cX12_feed 49 = .ok (.putfield 71, 3) := by decide +kernel
theorem dX12_feed_52 : decode cX12_feed 52 = .ok (.aload_n 0, 1) := by decide +kernel
theorem dX12_feed_53 : decode cX12_feed 53 = .ok (.getfield 71, 3) := by decide +kernel
theorem dX12_feed_56 : decode cX12_feed 56 = .ok (.ireturn, 1) := by decide +kernel
theorem dX12_bad_0 : decode cX12_bad 0 = .ok (.aload_n 0, 1) := by decide +kernel
theorem dX12_bad_1 : decode cX12_bad 1 = .ok (.getfield 75, 3) := by decide +kernel
theorem dX12_bad_4 : decode cX12_bad 4 = .ok (.ifCond .ne 16, 3) := by decide +kernel
theorem dX12_bad_7 : decode cX12_bad 7 = .ok (.aload_n 0, 1) := by decide +kernel
theorem dX12_bad_8 : decode cX12_bad 8 = .ok (.iload_n 1, 1) := by decide +kernel
theorem dX12_bad_9 : decode cX12_bad 9 = .ok (.putfield 75, 3) := by decide +kernel
theorem dX12_bad_12 : decode cX12_bad 12 = .ok (.aload_n 0, 1) := by decide +kernel
theorem dX12_bad_13 : decode cX12_bad 13 = .ok (.aload_n 0, 1) := by decide +kernel
theorem dX12_bad_14 : decode cX12_bad 14 = .ok (.getfield 78, 3) := by decide +kernel
theorem dX12_bad_17 : decode cX12_bad 17 = .ok (.putfield 81, 3) := by decide +kernel
theorem dX12_bad_20 : decode cX12_bad 20 = .ok (.return_, 1) := by decide +kernel
theorem dX12_nextToken_0 : decode cX12_nextToken 0 = .ok (.aload_n 0, 1) := by decide +kernel
theorem dX12_nextToken_1 : decode cX12_nextToken 1 = .ok (.aload_n 0, 1) := by decide +kernel
theorem dX12_nextToken_2 : decode cX12_nextToken 2 = .ok (.getfield 84, 3) := by decide +kernel
theorem dX12_nextToken_5 : decode cX12_nextToken 5 = .ok (.putfield 78, 3) := by decide +kernel
theorem dX12_nextToken_8 : decode cX12_nextToken 8 = .ok (.aload_n 0, 1) := by decide +kernel
theorem dX12_nextToken_9 : decode cX12_nextToken 9 = .ok (.aload_n 0, 1) := by decide +kernel
theorem dX12_nextToken_10 : decode cX12_nextToken 10 = .ok (.getfield 84, 3) := by decide +kernel
theorem dX12_nextToken_13 : decode cX12_nextToken 13 = .ok (.aload_n 0, 1) := by decide +kernel
theorem dX12_nextToken_14 : decode cX12_nextToken 14 = .ok (.getfield 71, 3) := by decide +kernel
theorem dX12_nextToken_17 : decode cX12_nextToken 17 = .ok (.if_icmp .ge 15, 3) := by decide +kernel
theorem dX12_nextToken_20 : decode cX12_nextToken 20 = .ok (.aload_n 0, 1) := by decide +kernel
theorem dX12_nextToken_21 : decode cX12_nextToken 21 = .ok (.getfield 31, 3) := by decide +kernel
theorem dX12_nextToken_24 : decode cX12_nextToken 24 = .ok (.aload_n 0, 1) := by decide +kernel
theorem dX12_nextToken_25 : decode cX12_nextToken 25 = .ok (.getfield 84, 3) := by decide +kernel
theorem dX12_nextToken_28 : decode cX12_nextToken 28 = .ok (.iaload, 1) := by decide +kernel
theorem dX12_nextToken_29 : decode cX12_nextToken 29 = .ok (.goto 5, 3) := by decide +kernel
theorem dX12_nextToken_32 : decode cX12_nextToken 32 = .ok (.ldc 87, 2) := by decide +kernel
theorem dX12_nextToken_34 : decode cX12_nextToken 34 = .ok (.putfield 88, 3) := by decide +kernel
theorem dX12_nextToken_37 : decode cX12_nextToken 37 = .ok (.aload_n 0, 1) := by decide +kernel
theorem dX12_nextToken_38 : decode cX12_nextToken 38 = .ok (.aload_n 0, 1) := by decide +kernel
theorem dX12_nextToken_39 : decode cX12_nextToken 39 = .ok (.getfield 84, 3) := by decide +kernel
theorem dX12_nextToken_42 : decode cX12_nextToken 42 = .ok (.aload_n 0, 1) := by decide +kernel
theorem dX12_nextToken_43 : decode cX12_nextToken 43 = .ok (.getfield 71, 3) := by decide +kernel
theorem dX12_nextToken_46 : decode cX12_nextToken 46 = .ok (.if_icmp .ne 7, 3) := by decide +kernel
theorem dX12_nextToken_49 : decode cX12_nextToken 49 = .ok (.iconst 1, 1) := by decide +kernel
theorem dX12_nextToken_50 : decode cX12_nextToken 50 = .ok (.goto 68, 3) := by decide +kernel
theorem dX12_nextToken_53 : decode cX12_nextToken 53 = .ok (.aload_n 0, 1) := by decide +kernel
theorem dX12_nextToken_54 : decode cX12_nextToken 54 = .ok (.getfield 88, 3) := by decide +kernel
theorem dX12_nextToken_57 : decode cX12_nextToken 57 = .ok (.i2l, 1) := by decide +kernel
theorem dX12_nextToken_58 : decode cX12_nextToken 58 = .ok (.ldc2_w 91, 3) := by decide +kernel
theorem dX12_nextToken_61 : decode cX12_nextToken 61 = .ok (.ldc2_w 93, 3) := by decide +kernel
theorem dX12_nextToken_64 : decode cX12_nextToken 64 = .ok (.invokestatic 54, 3) := by decide +kernel
theorem dX12_nextToken_67 : decode cX12_nextToken 67 = .ok (.ifCond .eq 7, 3) := by decide +kernel
theorem dX12_nextToken_70 : decode cX12_nextToken 70 = .ok (.iconst 2, 1) := by decide +kernel
theorem dX12_nextToken_71 : decode cX12_nextToken 71 = .ok (.goto 47, 3) := by decide +kernel
theorem dX12_nextToken_74 : decode cX12_nextToken 74 = .ok (.aload_n 0, 1) := by decide +kernel
theorem dX12_nextToken_75 : decode cX12_nextToken 75 = .ok (.getfield 88, 3) := by decide +kernel
theorem dX12_nextToken_78 : decode cX12_nextToken 78 = .ok (.i2l, 1) := by decide +kernel
theorem dX12_nextToken_79 : decode cX12_nextToken 79 = .ok (.ldc2_w 95, 3) := by decide +kernel
theorem dX12_nextToken_82 : decode cX12_nextToken 82 = .ok (.ldc2_w 97, 3) := by decide +kernel
theorem dX12_nextToken_85 : decode cX12_nextToken 85 = .ok (.invokestatic 54, 3) := by decide +kernel
theorem dX12_nextToken_88 : decode cX12_nextToken 88 = .ok (.ifCond .eq 7, 3) := by decide +kernel
theorem dX12_nextToken_91 : decode cX12_nextToken 91 = .ok (.iconst 3, 1) := by decide +kernel
theorem dX12_nextToken_92 : decode cX12_nextToken 92 = .ok (.goto 26, 3) := by decide +kernel
theorem dX12_nextToken_95 : decode cX12_nextToken 95 = .ok (.aload_n 0, 1) := by decide +kernel
theorem dX12_nextToken_96 : decode cX12_nextToken 96 = .ok (.getfield 88, 3) := by decide +kernel
theorem dX12_nextToken_99 : decode cX12_nextToken 99 = .ok (.bipush 44, 2) := by decide +kernel
theorem dX12_nextToken_101 : decode cX12_nextToken 101 = .ok (.if_icmp .eq 12, 3) := by decide +kernel
theorem dX12_nextToken_104 : decode cX12_nextToken 104 = .ok (.aload_n 0, 1) := by decide +kernel
theorem dX12_nextToken_105 : decode cX12_nextToken 105 = .ok (.getfield 88, 3) := by decide +kernel
theorem dX12_nextToken_108 : decode cX12_nextToken 108 = .ok (.bipush 59, 2) := by decide +kernel
theorem dX12_nextToken_110 : decode cX12_nextToken 110 = .ok (.if_icmp .ne 7, 3) := by decide +kernel
theorem dX12_nextToken_113 : decode cX12_nextToken 113 = .ok (.iconst 4, 1) := by decide +kernel
theorem dX12_nextToken_114 : decode cX12_nextToken 114 = .ok (.goto 4, 3) := by decide +kernel
theorem dX12_nextToken_117 : decode cX12_nextToken 117 = .ok (.iconst 0, 1) := by decide +kernel
theorem dX12_nextToken_118 : decode cX12_nextToken 118 = .ok (.putfield 99, 3) := by decide +kernel
theorem dX12_nextToken_121 : decode cX12_nextToken 121 = .ok (.aload_n 0, 1) := by decide +kernel
theorem dX12_nextToken_122 : decode cX12_nextToken 122 = .ok (.dup, 1) := by decide +kernel
theorem dX12_nextToken_123 : decode cX12_nextToken 123 = .ok (.getfield 84, 3) := by decide +kernel
theorem dX12_nextToken_126 : decode cX12_nextToken 126 = .ok (.aload_n 0, 1) := by decide +kernel
theorem dX12_nextToken_127 : decode cX12_nextToken 127 = .ok (.getfield 84, 3) := by decide +kernel
theorem dX12_nextToken_130 : decode cX12_nextToken 130 = .ok (.aload_n 0, 1) := by decide +kernel
theorem dX12_nextToken_131 : decode cX12_nextToken 131 = .ok (.getfield 71, 3) := by decide +kernel
theorem dX12_nextToken_134 : decode cX12_nextToken 134 = .ok (.if_icmp .ge 7, 3) := by decide +kernel
theorem dX12_nextToken_137 : decode cX12_nextToken 137 = .ok (.iconst 1, 1) := by decide +kernel
theorem dX12_nextToken_138 : decode cX12_nextToken 138 = .ok (.goto 4, 3) := by decide +kernel
theorem dX12_nextToken_141 : decode cX12_nextToken 141 = .ok (.iconst 0, 1) := by decide +kernel
theorem dX12_nextToken_142 : decode cX12_nextToken 142 = .ok (.iadd, 1) := by decide +kernel
theorem dX12_nextToken_143 : decode cX12_nextToken 143 = .ok (.putfield 84, 3) := by decide +kernel
theorem dX12_nextToken_146 : decode cX12_nextToken 146 = .ok (.aload_n 0, 1) := by decide +kernel
theorem dX12_nextToken_147 : decode cX12_nextToken 147 = .ok (.getfield 99, 3) := by decide +kernel
theorem dX12_nextToken_150 : decode cX12_nextToken 150 = .ok (.iconst 3, 1) := by decide +kernel
theorem dX12_nextToken_151 : decode cX12_nextToken 151 = .ok (.if_icmp .ne 126, 3) := by decide +kernel
theorem dX12_nextToken_154 : decode cX12_nextToken 154 = .ok (.aload_n 0, 1) := by decide +kernel
theorem dX12_nextToken_155 : decode cX12_nextToken 155 = .ok (.dup, 1) := by decide +kernel
theorem dX12_nextToken_156 : decode cX12_nextToken 156 = .ok (.getfield 88, 3) := by decide +kernel
theorem dX12_nextToken_159 : decode cX12_nextToken 159 = .ok (.bipush 48, 2) := by decide +kernel
theorem dX12_nextToken_161 : decode cX12_nextToken 161 = .ok (.isub, 1) := by decide +kernel
theorem dX12_nextToken_162 : decode cX12_nextToken 162 = .ok (.putfield 88, 3) := by decide +kernel
theorem dX12_nextToken_165 : decode cX12_nextToken 165 = .ok (.aload_n 0, 1) := by decide +kernel
theorem dX12_nextToken_166 : decode cX12_nextToken 166 = .ok (.getfield 84, 3) := by decide +kernel
theorem dX12_nextToken_169 : decode cX12_nextToken 169 = .ok (.aload_n 0, 1) := by decide +kernel
theorem dX12_nextToken_170 : decode cX12_nextToken 170 = .ok (.getfield 71, 3) := by decide +kernel
theorem dX12_nextToken_173 : decode cX12_nextToken 173 = .ok (.if_icmp .ge 82, 3) := by decide +kernel
theorem dX12_nextToken_176 : decode cX12_nextToken 176 = .ok (.aload_n 0, 1) := by decide +kernel
theorem dX12_nextToken_177 : decode cX12_nextToken 177 = .ok (.getfield 31, 3) := by decide +kernel
theorem dX12_nextToken_180 : decode cX12_nextToken 180 = .ok (.aload_n 0, 1) := by decide +kernel
theorem dX12_nextToken_181 : decode cX12_nextToken 181 = .ok (.getfield 84, 3) := by decide +kernel
theorem dX12_nextToken_184 : decode cX12_nextToken 184 = .ok (.iaload, 1) := by decide +kernel
theorem dX12_nextToken_185 : decode cX12_nextToken 185 = .ok (.i2l, 1) := by decide +kernel
theorem dX12_nextToken_186 : decode cX12_nextToken 186 = .ok (.ldc2_w 95, 3) := by decide +kernel
theorem dX12_nextToken_189 : decode cX12_nextToken 189 = .ok (.ldc2_w 97, 3) := by decide +kernel
theorem dX12_nextToken_192 : decode cX12_nextToken 192 = .ok (.invokestatic 54, 3) := by decide +kernel
theorem dX12_nextToken_195 : decode cX12_nextToken 195 = .ok (.ifCond .eq 60, 3) := by decide +kernel
theorem dX12_nextToken_198 : decode cX12_nextToken 198 = .ok (.aload_n 0, 1) := by decide +kernel
theorem dX12_nextToken_199 : decode cX12_nextToken 199 = .ok (.aload_n 0, 1) := by decide +kernel
theorem dX12_nextToken_200 : decode cX12_nextToken 200 = .ok (.getfield 84, 3) := by decide +kernel
theorem dX12_nextToken_203 : decode cX12_nextToken 203 = .ok (.aload_n 0, 1) := by decide +kernel
theorem dX12_nextToken_204 : decode cX12_nextToken 204 = .ok (.getfield 78, 3) := by decide +kernel
theorem dX12_nextToken_207 : decode cX12_nextToken 207 = .ok (.isub, 1) := by decide +kernel
theorem dX12_nextToken_208 : decode cX12_nextToken 208 = .ok (.iconst 2, 1) := by decide +kernel
theorem dX12_nextToken_209 : decode cX12_nextToken 209 = .ok (.if_icmp .ge 26, 3) := by decide +kernel
theorem dX12_nextToken_212 : decode cX12_nextToken 212 = .ok (.bipush 10, 2) := by decide +kernel
theorem dX12_nextToken_214 : decode cX12_nextToken 214 = .ok (.aload_n 0, 1) := by decide +kernel
theorem dX12_nextToken_215 : decode cX12_nextToken 215 = .ok (.getfield 88, 3) := by decide +kernel
theorem dX12_nextToken_218 : decode cX12_nextToken 218 = .ok (.imul, 1) := by decide +kernel
theorem dX12_nextToken_219 : decode cX12_nextToken 219 = .ok (.aload_n 0, 1) := by decide +kernel
theorem dX12_nextToken_220 : decode cX12_nextToken 220 = .ok (.getfield 31, 3) := by decide +kernel
theorem dX12_nextToken_223 : decode cX12_nextToken 223 = .ok (.aload_n 0, 1) := by decide +kernel
theorem dX12_nextToken_224 : decode cX12_nextToken 224 = .ok (.getfield 84, 3) := by decide +kernel
theorem dX12_nextToken_227 : decode cX12_nextToken 227 = .ok (.iaload, 1) := by decide +kernel
theorem dX12_nextToken_228 : decode cX12_nextToken 228 = .ok (.iadd, 1) := by decide +kernel
theorem dX12_nextToken_229 : decode cX12_nextToken 229 = .ok (.bipush 48, 2) := by decide +kernel
theorem dX12_nextToken_231 : decode cX12_nextToken 231 = .ok (.isub, 1) := by decide +kernel
theorem dX12_nextToken_232 : decode cX12_nextToken 232 = .ok (.goto 7, 3) := by decide +kernel
theorem dX12_nextToken_235 : decode cX12_nextToken 235 = .ok (.aload_n 0, 1) := by decide +kernel
theorem dX12_nextToken_236 : decode cX12_nextToken 236 = .ok (.getfield 88, 3) := by decide +kernel
theorem dX12_nextToken_239 : decode cX12_nextToken 239 = .ok (.putfield 88, 3) := by decide +kernel
theorem dX12_nextToken_242 : decode cX12_nextToken 242 = .ok (.aload_n 0, 1) := by decide +kernel
theorem dX12_nextToken_243 : decode cX12_nextToken 243 = .ok (.dup, 1) := by decide +kernel
theorem dX12_nextToken_244 : decode cX12_nextToken 244 = .ok (.getfield 84, 3) := by decide +kernel
theorem dX12_nextToken_247 : decode cX12_nextToken 247 = .ok (.iconst 1, 1) := by decide +kernel
theorem dX12_nextToken_248 : decode cX12_nextToken 248 = .ok (.iadd, 1) := by decide +kernel
theorem dX12_nextToken_249 : decode cX12_nextToken 249 = .ok (.putfield 84, 3) := by decide +kernel
theorem dX12_nextToken_252 : decode cX12_nextToken 252 = .ok (.goto (-87), 3) := by decide +kernel
theorem dX12_nextToken_255 : decode cX12_nextToken 255 = .ok (.aload_n 0, 1) := by decide +kernel
theorem dX12_nextToken_256 : decode cX12_nextToken 256 = .ok (.aload_n 0, 1) := by decide +kernel
theorem dX12_nextToken_257 : decode cX12_nextToken 257 = .ok (.getfield 84, 3) := by decide +kernel
theorem dX12_nextToken_260 : decode cX12_nextToken 260 = .ok (.aload_n 0, 1) := by decide +kernel
theorem dX12_nextToken_261 : decode cX12_nextToken 261 = .ok (.getfield 78, 3) := by decide +kernel
theorem dX12_nextToken_264 : decode cX12_nextToken 264 = .ok (.isub, 1) := by decide +kernel
theorem dX12_nextToken_265 : decode cX12_nextToken 265 = .ok (.iconst 2, 1) := by decide +kernel
theorem dX12_nextToken_266 : decode cX12_nextToken 266 = .ok (.if_icmp .le 7, 3) := by decide +kernel
theorem dX12_nextToken_269 : decode cX12_nextToken 269 = .ok (.iconst 0, 1) := by decide +kernel
theorem dX12_nextToken_270 : decode cX12_nextToken 270 = .ok (.goto 4, 3) := by decide +kernel
theorem dX12_nextToken_273 : decode cX12_nextToken 273 = .ok (.iconst 3, 1) := by decide +kernel
theorem dX12_nextToken_274 : decode cX12_nextToken 274 = .ok (.putfield 99, 3) := by decide +kernel
theorem dX12_nextToken_277 : decode cX12_nextToken 277 = .ok (.return_, 1) := by decide +kernel
theorem dX12_must_0 : decode cX12_must 0 = .ok (.iload_n 1, 1) := by decide +kernel
theorem dX12_must_1 : decode cX12_must 1 = .ok (.ifCond .ne 8, 3) := by decide +kernel
theorem dX12_must_4 : decode cX12_must 4 = .ok (.aload_n 0, 1) := by decide +kernel
theorem dX12_must_5 : decode cX12_must 5 = .ok (.iconst 1, 1) := by decide +kernel
theorem dX12_must_6 : decode cX12_must 6 = .ok (.invokevirtual 102, 3) := by decide +kernel
theorem dX12_must_9 : decode cX12_must 9 = .ok (.aload_n 0, 1) := by decide +kernel
theorem dX12_must_10 : decode cX12_must 10 = .ok (.getfield 75, 3) := by decide +kernel
theorem dX12_must_13 : decode cX12_must 13 = .ok (.ifCond .ne 7, 3) := by decide +kernel
theorem dX12_must_16 : decode cX12_must 16 = .ok (.aload_n 0, 1) := by decide +kernel
theorem dX12_must_17 : decode cX12_must 17 = .ok (.invokevirtual 106, 3) := by decide +kernel
theorem dX12_must_20 : decode cX12_must 20 = .ok (.return_, 1) := by decide +kernel
theorem dX12_isLetter_0 : decode cX12_isLetter 0 = .ok (.aload_n 0, 1) := by decide +kernel
theorem dX12_isLetter_1 : decode cX12_isLetter 1 = .ok (.getfield 75, 3) := by decide +kernel
theorem dX12_isLetter_4 : decode cX12_isLetter 4 = .ok (.ifCond .ne 23, 3) := by decide +kernel
theorem dX12_isLetter_7 : decode cX12_isLetter 7 = .ok (.aload_n 0, 1) := by decide +kernel
theorem dX12_isLetter_8 : decode cX12_isLetter 8 = .ok (.getfield 99, 3) := by decide +kernel
theorem dX12_isLetter_11 : decode cX12_isLetter 11 = .ok (.iconst 2, 1) := by decide +kernel
theorem dX12_isLetter_12 : decode cX12_isLetter 12 = .ok (.if_icmp .ne 15, 3) := by decide +kernel
theorem dX12_isLetter_15 : decode cX12_isLetter 15 = .ok (.aload_n 0, 1) := by decide +kernel
theorem dX12_isLetter_16 : decode cX12_isLetter 16 = .ok (.getfield 88, 3) := by decide +kernel
theorem dX12_isLetter_19 : decode cX12_isLetter 19 = .ok (.iload_n 1, 1) := by decide +kernel
theorem dX12_isLetter_20 : decode cX12_isLetter 20 = .ok (.if_icmp .ne 7, 3) := by decide +kernel
theorem dX12_isLetter_23 : decode cX12_isLetter 23 = .ok (.iconst 1, 1) := by decide +kernel
theorem dX12_isLetter_24 : decode cX12_isLetter 24 = .ok (.goto 4, 3) := by decide +kernel
theorem dX12_isLetter_27 : decode cX12_isLetter 27 = .ok (.iconst 0, 1) := by decide +kernel
theorem dX12_isLetter_28 : decode cX12_isLetter 28 = .ok (.ireturn, 1) := by decide +kernel
theorem dX12_number_0 : decode cX12_number 0 = .ok (.aload_n 0, 1) := by decide +kernel
theorem dX12_number_1 : decode cX12_number 1 = .ok (.getfield 75, 3) := by decide +kernel
theorem dX12_number_4 : decode cX12_number 4 = .ok (.ifCond .ne 16, 3) := by decide +kernel
theorem dX12_number_7 : decode cX12_number 7 = .ok (.aload_n 0, 1) := by decide +kernel
theorem dX12_number_8 : decode cX12_number 8 = .ok (.getfield 99, 3) := by decide +kernel
theorem dX12_number_11 : decode cX12_number 11 = .ok (.iconst 3, 1) := by decide +kernel
theorem dX12_number_12 : decode cX12_number 12 = .ok (.if_icmp .eq 8, 3) := by decide +kernel
theorem dX12_number_15 : decode cX12_number 15 = .ok (.aload_n 0, 1) := by decide +kernel
theorem dX12_number_16 : decode cX12_number 16 = .ok (.iconst 1, 1) := by decide +kernel
theorem dX12_number_17 : decode cX12_number 17 = .ok (.invokevirtual 102, 3) := by decide +kernel
theorem dX12_number_20 : decode cX12_number 20 = .ok (.aload_n 0, 1) := by decide +kernel
theorem dX12_number_21 : decode cX12_number 21 = .ok (.getfield 75, 3) := by decide +kernel
theorem dX12_number_24 : decode cX12_number 24 = .ok (.ifCond .ne 23, 3) := by decide +kernel
theorem dX12_number_27 : decode cX12_number 27 = .ok (.aload_n 0, 1) := by decide +kernel
theorem dX12_number_28 : decode cX12_number 28 = .ok (.getfield 88, 3) := by decide +kernel
theorem dX12_number_31 : decode cX12_number 31 = .ok (.i2l, 1) := by decide +kernel
theorem dX12_number_32 : decode cX12_number 32 = .ok (.iload_n 1, 1) := by decide +kernel
theorem dX12_number_33 : decode cX12_number 33 = .ok (.i2l, 1) := by decide +kernel
theorem dX12_number_34 : decode cX12_number 34 = .ok (.iload_n 2, 1) := by decide +kernel
theorem dX12_number_35 : decode cX12_number 35 = .ok (.i2l, 1) := by decide +kernel
theorem dX12_number_36 : decode cX12_number 36 = .ok (.invokestatic 54, 3) := by decide +kernel
theorem dX12_number_39 : decode cX12_number 39 = .ok (.ifCond .ne 8, 3) := by decide +kernel
theorem dX12_number_42 : decode cX12_number 42 = .ok (.aload_n 0, 1) := by decide +kernel
theorem dX12_number_43 : decode cX12_number 43 = .ok (.iconst 2, 1) := by decide +kernel
theorem dX12_number_44 : decode cX12_number 44 = .ok (.invokevirtual 102, 3) := by decide +kernel
theorem dX12_number_47 : decode cX12_number 47 = .ok (.aload_n 0, 1) := by decide +kernel
theorem dX12_number_48 : decode cX12_number 48 = .ok (.getfield 75, 3) := by decide +kernel
theorem dX12_number_51 : decode cX12_number 51 = .ok (.ifCond .ne 10, 3) := by decide +kernel
theorem dX12_number_54 : decode cX12_number 54 = .ok (.aload_n 0, 1) := by decide +kernel
theorem dX12_number_55 : decode cX12_number 55 = .ok (.getfield 88, 3) := by decide +kernel
theorem dX12_number_58 : decode cX12_number 58 = .ok (.goto 4, 3) := by decide +kernel
theorem dX12_number_61 : decode cX12_number 61 = .ok (.iload_n 1, 1) := by decide +kernel
theorem dX12_number_62 : decode cX12_number 62 = .ok (.istore_n 3, 1) := by decide +kernel
theorem dX12_number_63 : decode cX12_number 63 = .ok (.aload_n 0, 1) := by decide +kernel
theorem dX12_number_64 : decode cX12_number 64 = .ok (.iconst 1, 1) := by decide +kernel
theorem dX12_number_65 : decode cX12_number 65 = .ok (.invokevirtual 109, 3) := by decide +kernel
theorem dX12_number_68 : decode cX12_number 68 = .ok (.iload_n 3, 1) := by decide +kernel
theorem dX12_number_69 : decode cX12_number 69 = .ok (.ireturn, 1) := by decide +kernel
theorem dX12_mustSign_0 : decode cX12_mustSign 0 = .ok (.aload_n 0, 1) := by decide +kernel
theorem dX12_mustSign_1 : decode cX12_mustSign 1 = .ok (.aload_n 0, 1) := by decide +kernel
theorem dX12_mustSign_2 : decode cX12_mustSign 2 = .ok (.getfield 99, 3) := by decide +kernel
theorem dX12_mustSign_5 : decode cX12_mustSign 5 = .ok (.iconst 4, 1) := by decide +kernel
theorem dX12_mustSign_6 : decode cX12_mustSign 6 = .ok (.if_icmp .ne 15, 3) := by decide +kernel
theorem dX12_mustSign_9 : decode cX12_mustSign 9 = .ok (.aload_n 0, 1) := by decide +kernel
theorem dX12_mustSign_10 : decode cX12_mustSign 10 = .ok (.getfield 88, 3) := by decide +kernel
theorem dX12_mustSign_13 : decode cX12_mustSign 13 = .ok (.iload_n 1, 1) := by decide +kernel
theorem dX12_mustSign_14 : decode cX12_mustSign 14 = .ok (.if_icmp .ne 7, 3) := by decide +kernel
theorem dX12_mustSign_17 : decode cX12_mustSign 17 = .ok (.iconst 1, 1) := by decide +kernel
theorem dX12_mustSign_18 : decode cX12_mustSign 18 = .ok (.goto 4, 3) := by decide +kernel
theorem dX12_mustSign_21 : decode cX12_mustSign 21 = .ok (.iconst 0, 1) := by decide +kernel
theorem dX12_mustSign_22 : decode cX12_mustSign 22 = .ok (.invokevirtual 109, 3) := by decide +kernel
theorem dX12_mustSign_25 : decode cX12_mustSign 25 = .ok (.return_, 1) := by decide +kernel
theorem dX12_begin_0 : decode cX12_begin 0 = .ok (.aload_n 0, 1) := by decide +kernel
theorem dX12_begin_1 : decode cX12_begin 1 = .ok (.iconst 0, 1) := by decide +kernel
theorem dX12_begin_2 : decode cX12_begin 2 = .ok (.putfield 84, 3) := by decide +kernel
theorem dX12_begin_5 : decode cX12_begin 5 = .ok (.aload_n 0, 1) := by decide +kernel
theorem dX12_begin_6 : decode cX12_begin 6 = .ok (.iconst 0, 1) := by decide +kernel
theorem dX12_begin_7 : decode cX12_begin 7 = .ok (.putfield 75, 3) := by decide +kernel
theorem dX12_begin_10 : decode cX12_begin 10 = .ok (.aload_n 0, 1) := by decide +kernel
theorem dX12_begin_11 : decode cX12_begin 11 = .ok (.invokevirtual 106, 3) := by decide +kernel
theorem dX12_begin_14 : decode cX12_begin 14 = .ok (.return_, 1) := by decide +kernel
theorem dX12_failed_0 : decode cX12_failed 0 = .ok (.aload_n 0, 1) := by decide +kernel
theorem dX12_failed_1 : decode cX12_failed 1 = .ok (.getfield 75, 3) := by decide +kernel
theorem dX12_failed_4 : decode cX12_failed 4 = .ok (.ifCond .ne 16, 3) := by decide +kernel
theorem dX12_failed_7 : decode cX12_failed 7 = .ok (.aload_n 0, 1) := by decide +kernel
theorem dX12_failed_8 : decode cX12_failed 8 = .ok (.getfield 99, 3) := by decide +kernel
theorem dX12_failed_11 : decode cX12_failed 11 = .ok (.iconst 1, 1) := by decide +kernel
theorem dX12_failed_12 : decode cX12_failed 12 = .ok (.if_icmp .eq 8, 3) := by decide +kernel
theorem dX12_failed_15 : decode cX12_failed 15 = .ok (.aload_n 0, 1) := by decide +kernel
theorem dX12_failed_16 : decode cX12_failed 16 = .ok (.iconst 1, 1) := by decide +kernel
theorem dX12_failed_17 : decode cX12_failed 17 = .ok (.invokevirtual 102, 3) := by decide +kernel
theorem dX12_failed_20 : decode cX12_failed 20 = .ok (.aload_n 0, 1) := by decide +kernel
theorem dX12_failed_21 : decode cX12_failed 21 = .ok (.iconst 0, 1) := by decide +kernel
theorem dX12_failed_22 : decode cX12_failed 22 = .ok (.putfield 71, 3) := by decide +kernel
theorem dX12_failed_25 : decode cX12_failed 25 = .ok (.aload_n 0, 1) := by decide +kernel
theorem dX12_failed_26 : decode cX12_failed 26 = .ok (.aload_n 0, 1) := by decide +kernel
theorem dX12_failed_27 : decode cX12_failed 27 = .ok (.getfield 75, 3) := by decide +kernel
theorem dX12_failed_30 : decode cX12_failed 30 = .ok (.ifCond .le 10, 3) := by decide +kernel
theorem dX12_failed_33 : decode cX12_failed 33 = .ok (.aload_n 0, 1) := by decide +kernel
theorem dX12_failed_34 : decode cX12_failed 34 = .ok (.getfield 75, 3) := by decide +kernel
theorem dX12_failed_37 : decode cX12_failed 37 = .ok (.goto 7, 3) := by decide +kernel
theorem dX12_failed_40 : decode cX12_failed 40 = .ok (.aload_n 0, 1) := by decide +kernel
theorem dX12_failed_41 : decode cX12_failed 41 = .ok (.getfield 113, 3) := by decide +kernel
theorem dX12_failed_44 : decode cX12_failed 44 = .ok (.putfield 113, 3) := by decide +kernel
theorem dX12_failed_47 : decode cX12_failed 47 = .ok (.aload_n 0, 1) := by decide +kernel
theorem dX12_failed_48 : decode cX12_failed 48 = .ok (.getfield 75, 3) := by decide +kernel
theorem dX12_failed_51 : decode cX12_failed 51 = .ok (.ifCond .le 7, 3) := by decide +kernel
theorem dX12_failed_54 : decode cX12_failed 54 = .ok (.iconst 1, 1) := by decide +kernel
theorem dX12_failed_55 : decode cX12_failed 55 = .ok (.goto 4, 3) := by decide +kernel
theorem dX12_failed_58 : decode cX12_failed 58 = .ok (.iconst 0, 1) := by decide +kernel
theorem dX12_failed_59 : decode cX12_failed 59 = .ok (.ireturn, 1) := by decide +kernel
theorem dX12_fault_0 : decode cX12_fault 0 = .ok (.aload_n 0, 1) := by decide +kernel
theorem dX12_fault_1 : decode cX12_fault 1 = .ok (.iconst 0, 1) := by decide +kernel
theorem dX12_fault_2 : decode cX12_fault 2 = .ok (.putfield 44, 3) := by decide +kernel
theorem dX12_fault_5 : decode cX12_fault 5 = .ok (.aload_n 0, 1) := by decide +kernel
theorem dX12_fault_6 : decode cX12_fault 6 = .ok (.getfield 113, 3) := by decide +kernel
theorem dX12_fault_9 : decode cX12_fault 9 = .ok (.ireturn, 1) := by decide +kernel
theorem dX12_kindBy_0 : decode cX12_kindBy 0 = .ok (.iload_n 0, 1) := by decide +kernel
theorem dX12_kindBy_1 : decode cX12_kindBy 1 = .ok (.bipush 103, 2) := by decide +kernel
theorem dX12_kindBy_3 : decode cX12_kindBy 3 = .ok (.if_icmp .ne 7, 3) := by decide +kernel
theorem dX12_kindBy_6 : decode cX12_kindBy 6 = .ok (.iconst 1, 1) := by decide +kernel
theorem dX12_kindBy_7 : decode cX12_kindBy 7 = .ok (.goto 45, 3) := by decide +kernel
theorem dX12_kindBy_10 : decode cX12_kindBy 10 = .ok (.iload_n 0, 1) := by decide +kernel
theorem dX12_kindBy_11 : decode cX12_kindBy 11 = .ok (.bipush 115, 2) := by decide +kernel
theorem dX12_kindBy_13 : decode cX12_kindBy 13 = .ok (.if_icmp .ne 7, 3) := by decide +kernel
theorem dX12_kindBy_16 : decode cX12_kindBy 16 = .ok (.iconst 2, 1) := by decide +kernel
theorem dX12_kindBy_17 : decode cX12_kindBy 17 = .ok (.goto 35, 3) := by decide +kernel
theorem dX12_kindBy_20 : decode cX12_kindBy 20 = .ok (.iload_n 0, 1) := by decide +kernel
theorem dX12_kindBy_21 : decode cX12_kindBy 21 = .ok (.bipush 100, 2) := by decide +kernel
theorem dX12_kindBy_23 : decode cX12_kindBy 23 = .ok (.if_icmp .ne 7, 3) := by decide +kernel
theorem dX12_kindBy_26 : decode cX12_kindBy 26 = .ok (.iconst 3, 1) := by decide +kernel
theorem dX12_kindBy_27 : decode cX12_kindBy 27 = .ok (.goto 25, 3) := by decide +kernel
theorem dX12_kindBy_30 : decode cX12_kindBy 30 = .ok (.iload_n 0, 1) := by decide +kernel
theorem dX12_kindBy_31 : decode cX12_kindBy 31 = .ok (.bipush 99, 2) := by decide +kernel
theorem dX12_kindBy_33 : decode cX12_kindBy 33 = .ok (.if_icmp .ne 7, 3) := by decide +kernel
theorem dX12_kindBy_36 : decode cX12_kindBy 36 = .ok (.iconst 4, 1) := by decide +kernel
theorem dX12_kindBy_37 : decode cX12_kindBy 37 = .ok (.goto 15, 3) := by decide +kernel
theorem dX12_kindBy_40 : decode cX12_kindBy 40 = .ok (.iload_n 0, 1) := by decide +kernel
theorem dX12_kindBy_41 : decode cX12_kindBy 41 = .ok (.bipush 114, 2) := by decide +kernel
theorem dX12_kindBy_43 : decode cX12_kindBy 43 = .ok (.if_icmp .ne 7, 3) := by decide +kernel
theorem dX12_kindBy_46 : decode cX12_kindBy 46 = .ok (.iconst 5, 1) := by decide +kernel
theorem dX12_kindBy_47 : decode cX12_kindBy 47 = .ok (.goto 5, 3) := by decide +kernel
theorem dX12_kindBy_50 : decode cX12_kindBy 50 = .ok (.ldc 87, 2) := by decide +kernel
theorem dX12_kindBy_52 : decode cX12_kindBy 52 = .ok (.ireturn, 1) := by decide +kernel
theorem dX12_readCell_0 : decode cX12_readCell 0 = .ok (.iload_n 2, 1) := by decide +kernel
theorem dX12_readCell_1 : decode cX12_readCell 1 = .ok (.bipush 15, 2) := by decide +kernel
theorem dX12_readCell_3 : decode cX12_readCell 3 = .ok (.if_icmp .ne 8, 3) := by decide +kernel
theorem dX12_readCell_6 : decode cX12_readCell 6 = .ok (.aload_n 0, 1) := by decide +kernel
theorem dX12_readCell_7 : decode cX12_readCell 7 = .ok (.iconst 3, 1) := by decide +kernel
theorem dX12_readCell_8 : decode cX12_readCell 8 = .ok (.invokevirtual 102, 3) := by decide +kernel
theorem dX12_readCell_11 : decode cX12_readCell 11 = .ok (.aload_n 0, 1) := by decide +kernel
theorem dX12_readCell_12 : decode cX12_readCell 12 = .ok (.iconst 1, 1) := by decide +kernel
theorem dX12_readCell_13 : decode cX12_readCell 13 = .ok (.invokevirtual 109, 3) := by decide +kernel
theorem dX12_readCell_16 : decode cX12_readCell 16 = .ok (.aload_n 0, 1) := by decide +kernel
theorem dX12_readCell_17 : decode cX12_readCell 17 = .ok (.getfield 75, 3) := by decide +kernel
theorem dX12_readCell_20 : decode cX12_readCell 20 = .ok (.ifCond .ne 37, 3) := by decide +kernel
theorem dX12_readCell_23 : decode cX12_readCell 23 = .ok (.aload_n 0, 1) := by decide +kernel
theorem dX12_readCell_24 : decode cX12_readCell 24 = .ok (.getfield 99, 3) := by decide +kernel
theorem dX12_readCell_27 : decode cX12_readCell 27 = .ok (.iconst 3, 1) := by decide +kernel
theorem dX12_readCell_28 : decode cX12_readCell 28 = .ok (.if_icmp .ne 29, 3) := by decide +kernel
theorem dX12_readCell_31 : decode cX12_readCell 31 = .ok (.aload_n 0, 1) := by decide +kernel
theorem dX12_readCell_32 : decode cX12_readCell 32 = .ok (.getfield 88, 3) := by decide +kernel
theorem dX12_readCell_35 : decode cX12_readCell 35 = .ok (.bipush 15, 2) := by decide +kernel
theorem dX12_readCell_37 : decode cX12_readCell 37 = .ok (.if_icmp .ge 20, 3) := by decide +kernel
theorem dX12_readCell_40 : decode cX12_readCell 40 = .ok (.iload_n 1, 1) := by decide +kernel
theorem dX12_readCell_41 : decode cX12_readCell 41 = .ok (.aload_n 0, 1) := by decide +kernel
theorem dX12_readCell_42 : decode cX12_readCell 42 = .ok (.getfield 88, 3) := by decide +kernel
theorem dX12_readCell_45 : decode cX12_readCell 45 = .ok (.ishr, 1) := by decide +kernel
theorem dX12_readCell_46 : decode cX12_readCell 46 = .ok (.iconst 1, 1) := by decide +kernel
theorem dX12_readCell_47 : decode cX12_readCell 47 = .ok (.iand, 1) := by decide +kernel
theorem dX12_readCell_48 : decode cX12_readCell 48 = .ok (.iconst 1, 1) := by decide +kernel
theorem dX12_readCell_49 : decode cX12_readCell 49 = .ok (.if_icmp .ne 8, 3) := by decide +kernel
theorem dX12_readCell_52 : decode cX12_readCell 52 = .ok (.aload_n 0, 1) := by decide +kernel
theorem dX12_readCell_53 : decode cX12_readCell 53 = .ok (.iconst 2, 1) := by decide +kernel
theorem dX12_readCell_54 : decode cX12_readCell 54 = .ok (.invokevirtual 102, 3) := by decide +kernel
theorem dX12_readCell_57 : decode cX12_readCell 57 = .ok (.aload_n 0, 1) := by decide +kernel
theorem dX12_readCell_58 : decode cX12_readCell 58 = .ok (.iconst 0, 1) := by decide +kernel
theorem dX12_readCell_59 : decode cX12_readCell 59 = .ok (.bipush 14, 2) := by decide +kernel
theorem dX12_readCell_61 : decode cX12_readCell 61 = .ok (.invokevirtual 116, 3) := by decide +kernel
theorem dX12_readCell_64 : decode cX12_readCell 64 = .ok (.istore_n 3, 1) := by decide +kernel
theorem dX12_readCell_65 : decode cX12_readCell 65 = .ok (.aload_n 0, 1) := by decide +kernel
theorem dX12_readCell_66 : decode cX12_readCell 66 = .ok (.bipush 44, 2) := by decide +kernel
theorem dX12_readCell_68 : decode cX12_readCell 68 = .ok (.invokevirtual 120, 3) := by decide +kernel
theorem dX12_readCell_71 : decode cX12_readCell 71 = .ok (.aload_n 0, 1) := by decide +kernel
theorem dX12_readCell_72 : decode cX12_readCell 72 = .ok (.iconst 0, 1) := by decide +kernel
theorem dX12_readCell_73 : decode cX12_readCell 73 = .ok (.bipush 99, 2) := by decide +kernel
theorem dX12_readCell_75 : decode cX12_readCell 75 = .ok (.invokevirtual 116, 3) := by decide +kernel
theorem dX12_readCell_78 : decode cX12_readCell 78 = .ok (.istore 4, 2) := by decide +kernel
theorem dX12_readCell_80 : decode cX12_readCell 80 = .ok (.aload_n 0, 1) := by decide +kernel
theorem dX12_readCell_81 : decode cX12_readCell 81 = .ok (.bipush 59, 2) := by decide +kernel
theorem dX12_readCell_83 : decode cX12_readCell 83 = .ok (.invokevirtual 120, 3) := by decide +kernel
theorem dX12_readCell_86 : decode cX12_readCell 86 = .ok (.aload_n 0, 1) := by decide +kernel
theorem dX12_readCell_87 : decode cX12_readCell 87 = .ok (.getfield 75, 3) := by decide +kernel
theorem dX12_readCell_90 : decode cX12_readCell 90 = .ok (.ifCond .ne 19, 3) := by decide +kernel
theorem dX12_readCell_93 : decode cX12_readCell 93 = .ok (.aload_n 0, 1) := by decide +kernel
theorem dX12_readCell_94 : decode cX12_readCell 94 = .ok (.getfield 22, 3) := by decide +kernel
theorem dX12_readCell_97 : decode cX12_readCell 97 = .ok (.bipush 6, 2) := by decide +kernel
theorem dX12_readCell_99 : decode cX12_readCell 99 = .ok (.iload_n 3, 1) := by decide +kernel
theorem dX12_readCell_100 : decode cX12_readCell 100 = .ok (.iadd, 1) := by decide +kernel
theorem dX12_readCell_101 : decode cX12_readCell 101 = .ok (.iload 4, 2) := by decide +kernel
theorem dX12_readCell_103 : decode cX12_readCell 103 = .ok (.iastore, 1) := by decide +kernel
theorem dX12_readCell_104 : decode cX12_readCell 104 = .ok (.aload_n 0, 1) := by decide +kernel
theorem dX12_readCell_105 : decode cX12_readCell 105 = .ok (.iload_n 3, 1) := by decide +kernel
theorem dX12_readCell_106 : decode cX12_readCell 106 = .ok (.putfield 123, 3) := by decide +kernel
theorem dX12_readCell_109 : decode cX12_readCell 109 = .ok (.return_, 1) := by decide +kernel
theorem dX12_stepFrom_0 : decode cX12_stepFrom 0 = .ok (.iload_n 0, 1) := by decide +kernel
theorem dX12_stepFrom_1 : decode cX12_stepFrom 1 = .ok (.iconst 5, 1) := by decide +kernel
theorem dX12_stepFrom_2 : decode cX12_stepFrom 2 = .ok (.irem, 1) := by decide +kernel
theorem dX12_stepFrom_3 : decode cX12_stepFrom 3 = .ok (.istore_n 2, 1) := by decide +kernel
theorem dX12_stepFrom_4 : decode cX12_stepFrom 4 = .ok (.iload_n 1, 1) := by decide +kernel
theorem dX12_stepFrom_5 : decode cX12_stepFrom 5 = .ok (.bipush 101, 2) := by decide +kernel
theorem dX12_stepFrom_7 : decode cX12_stepFrom 7 = .ok (.if_icmp .ne 17, 3) := by decide +kernel
theorem dX12_stepFrom_10 : decode cX12_stepFrom 10 = .ok (.iload_n 2, 1) := by decide +kernel
theorem dX12_stepFrom_11 : decode cX12_stepFrom 11 = .ok (.iconst 4, 1) := by decide +kernel
theorem dX12_stepFrom_12 : decode cX12_stepFrom 12 = .ok (.if_icmp .ge 9, 3) := by decide +kernel
theorem dX12_stepFrom_15 : decode cX12_stepFrom 15 = .ok (.iload_n 0, 1) := by decide +kernel
theorem dX12_stepFrom_16 : decode cX12_stepFrom 16 = .ok (.iconst 1, 1) := by decide +kernel
theorem dX12_stepFrom_17 : decode cX12_stepFrom 17 = .ok (.iadd, 1) := by decide +kernel
theorem dX12_stepFrom_18 : decode cX12_stepFrom 18 = .ok (.goto 5, 3) := by decide +kernel
theorem dX12_stepFrom_21 : decode cX12_stepFrom 21 = .ok (.ldc 87, 2) := by decide +kernel
theorem dX12_stepFrom_23 : decode cX12_stepFrom 23 = .ok (.ireturn, 1) := by decide +kernel
theorem dX12_stepFrom_24 : decode cX12_stepFrom 24 = .ok (.iload_n 1, 1) := by decide +kernel
theorem dX12_stepFrom_25 : decode cX12_stepFrom 25 = .ok (.bipush 119, 2) := by decide +kernel
theorem dX12_stepFrom_27 : decode cX12_stepFrom 27 = .ok (.if_icmp .ne 16, 3) := by decide +kernel
theorem dX12_stepFrom_30 : decode cX12_stepFrom 30 = .ok (.iload_n 2, 1) := by decide +kernel
theorem dX12_stepFrom_31 : decode cX12_stepFrom 31 = .ok (.ifCond .le 9, 3) := by decide +kernel
theorem dX12_stepFrom_34 : decode cX12_stepFrom 34 = .ok (.iload_n 0, 1) := by decide +kernel
theorem dX12_stepFrom_35 : decode cX12_stepFrom 35 = .ok (.iconst 1, 1) := by decide +kernel
theorem dX12_stepFrom_36 : decode cX12_stepFrom 36 = .ok (.isub, 1) := by decide +kernel
theorem dX12_stepFrom_37 : decode cX12_stepFrom 37 = .ok (.goto 5, 3) := by decide +kernel
theorem dX12_stepFrom_40 : decode cX12_stepFrom 40 = .ok (.ldc 87, 2) := by decide +kernel
theorem dX12_stepFrom_42 : decode cX12_stepFrom 42 = .ok (.ireturn, 1) := by decide +kernel
theorem dX12_stepFrom_43 : decode cX12_stepFrom 43 = .ok (.iload_n 1, 1) := by decide +kernel
theorem dX12_stepFrom_44 : decode cX12_stepFrom 44 = .ok (.bipush 110, 2) := by decide +kernel
theorem dX12_stepFrom_46 : decode cX12_stepFrom 46 = .ok (.if_icmp .ne 17, 3) := by decide +kernel
theorem dX12_stepFrom_49 : decode cX12_stepFrom 49 = .ok (.iload_n 0, 1) := by decide +kernel
theorem dX12_stepFrom_50 : decode cX12_stepFrom 50 = .ok (.iconst 4, 1) := by decide +kernel
theorem dX12_stepFrom_51 : decode cX12_stepFrom 51 = .ok (.if_icmp .le 9, 3) := by decide +kernel
theorem dX12_stepFrom_54 : decode cX12_stepFrom 54 = .ok (.iload_n 0, 1) := by decide +kernel
theorem dX12_stepFrom_55 : decode cX12_stepFrom 55 = .ok (.iconst 5, 1) := by decide +kernel
theorem dX12_stepFrom_56 : decode cX12_stepFrom 56 = .ok (.isub, 1) := by decide +kernel
theorem dX12_stepFrom_57 : decode cX12_stepFrom 57 = .ok (.goto 5, 3) := by decide +kernel
theorem dX12_stepFrom_60 : decode cX12_stepFrom 60 = .ok (.ldc 87, 2) := by decide +kernel
theorem dX12_stepFrom_62 : decode cX12_stepFrom 62 = .ok (.ireturn, 1) := by decide +kernel
theorem dX12_stepFrom_63 : decode cX12_stepFrom 63 = .ok (.iload_n 1, 1) := by decide +kernel
theorem dX12_stepFrom_64 : decode cX12_stepFrom 64 = .ok (.bipush 98, 2) := by decide +kernel
theorem dX12_stepFrom_66 : decode cX12_stepFrom 66 = .ok (.if_icmp .ne 15, 3) := by decide +kernel
theorem dX12_stepFrom_69 : decode cX12_stepFrom 69 = .ok (.iload_n 0, 1) := by decide +kernel
theorem dX12_stepFrom_70 : decode cX12_stepFrom 70 = .ok (.bipush 10, 2) := by decide +kernel
theorem dX12_stepFrom_72 : decode cX12_stepFrom 72 = .ok (.if_icmp .ge 9, 3) := by decide +kernel
theorem dX12_stepFrom_75 : decode cX12_stepFrom 75 = .ok (.iload_n 0, 1) := by decide +kernel
theorem dX12_stepFrom_76 : decode cX12_stepFrom 76 = .ok (.iconst 5, 1) := by decide +kernel
theorem dX12_stepFrom_77 : decode cX12_stepFrom 77 = .ok (.iadd, 1) := by decide +kernel
theorem dX12_stepFrom_78 : decode cX12_stepFrom 78 = .ok (.goto 5, 3) := by decide +kernel
theorem dX12_stepFrom_81 : decode cX12_stepFrom 81 = .ok (.ldc 87, 2) := by decide +kernel
theorem dX12_stepFrom_83 : decode cX12_stepFrom 83 = .ok (.ireturn, 1) := by decide +kernel
theorem dX12_readPass_0 : decode cX12_readPass 0 = .ok (.aload_n 0, 1) := by decide +kernel
theorem dX12_readPass_1 : decode cX12_readPass 1 = .ok (.getfield 88, 3) := by decide +kernel
theorem dX12_readPass_4 : decode cX12_readPass 4 = .ok (.invokestatic 126, 3) := by decide +kernel
theorem dX12_readPass_7 : decode cX12_readPass 7 = .ok (.istore_n 1, 1) := by decide +kernel
theorem dX12_readPass_8 : decode cX12_readPass 8 = .ok (.aload_n 0, 1) := by decide +kernel
theorem dX12_readPass_9 : decode cX12_readPass 9 = .ok (.getfield 22, 3) := by decide +kernel
theorem dX12_readPass_12 : decode cX12_readPass 12 = .ok (.iconst 5, 1) := by decide +kernel
theorem dX12_readPass_13 : decode cX12_readPass 13 = .ok (.iaload, 1) := by decide +kernel
theorem dX12_readPass_14 : decode cX12_readPass 14 = .ok (.iconst 4, 1) := by decide +kernel
theorem dX12_readPass_15 : decode cX12_readPass 15 = .ok (.if_icmp .ne 8, 3) := by decide +kernel
theorem dX12_readPass_18 : decode cX12_readPass 18 = .ok (.aload_n 0, 1) := by decide +kernel
theorem dX12_readPass_19 : decode cX12_readPass 19 = .ok (.iconst 3, 1) := by decide +kernel
theorem dX12_readPass_20 : decode cX12_readPass 20 = .ok (.invokevirtual 102, 3) := by decide +kernel
theorem dX12_readPass_23 : decode cX12_readPass 23 = .ok (.aload_n 0, 1) := by decide +kernel
theorem dX12_readPass_24 : decode cX12_readPass 24 = .ok (.iconst 1, 1) := by decide +kernel
theorem dX12_readPass_25 : decode cX12_readPass 25 = .ok (.invokevirtual 109, 3) := by decide +kernel
theorem dX12_readPass_28 : decode cX12_readPass 28 = .ok (.aload_n 0, 1) := by decide +kernel
theorem dX12_readPass_29 : decode cX12_readPass 29 = .ok (.iconst 0, 1) := by decide +kernel
theorem dX12_readPass_30 : decode cX12_readPass 30 = .ok (.bipush 14, 2) := by decide +kernel
theorem dX12_readPass_32 : decode cX12_readPass 32 = .ok (.invokevirtual 116, 3) := by decide +kernel
theorem dX12_readPass_35 : decode cX12_readPass 35 = .ok (.istore_n 2, 1) := by decide +kernel
theorem dX12_readPass_36 : decode cX12_readPass 36 = .ok (.bipush 51, 2) := by decide +kernel
theorem dX12_readPass_38 : decode cX12_readPass 38 = .ok (.bipush 11, 2) := by decide +kernel
theorem dX12_readPass_40 : decode cX12_readPass 40 = .ok (.aload_n 0, 1) := by decide +kernel
theorem dX12_readPass_41 : decode cX12_readPass 41 = .ok (.getfield 22, 3) := by decide +kernel
theorem dX12_readPass_44 : decode cX12_readPass 44 = .ok (.iconst 5, 1) := by decide +kernel
theorem dX12_readPass_45 : decode cX12_readPass 45 = .ok (.iaload, 1) := by decide +kernel
theorem dX12_readPass_46 : decode cX12_readPass 46 = .ok (.iconst 3, 1) := by decide +kernel
theorem dX12_readPass_47 : decode cX12_readPass 47 = .ok (.iand, 1) := by decide +kernel
theorem dX12_readPass_48 : decode cX12_readPass 48 = .ok (.imul, 1) := by decide +kernel
theorem dX12_readPass_49 : decode cX12_readPass 49 = .ok (.iadd, 1) := by decide +kernel
theorem dX12_readPass_50 : decode cX12_readPass 50 = .ok (.istore_n 3, 1) := by decide +kernel
theorem dX12_readPass_51 : decode cX12_readPass 51 = .ok (.iconst 1, 1) := by decide +kernel
theorem dX12_readPass_52 : decode cX12_readPass 52 = .ok (.istore 4, 2) := by decide +kernel
theorem dX12_readPass_54 : decode cX12_readPass 54 = .ok (.aload_n 0, 1) := by decide +kernel
theorem dX12_readPass_55 : decode cX12_readPass 55 = .ok (.getfield 22, 3) := by decide +kernel
theorem dX12_readPass_58 : decode cX12_readPass 58 = .ok (.iload_n 3, 1) := by decide +kernel
theorem dX12_readPass_59 : decode cX12_readPass 59 = .ok (.iload_n 1, 1) := by decide +kernel
theorem dX12_readPass_60 : decode cX12_readPass 60 = .ok (.iastore, 1) := by decide +kernel
theorem dX12_readPass_61 : decode cX12_readPass 61 = .ok (.aload_n 0, 1) := by decide +kernel
theorem dX12_readPass_62 : decode cX12_readPass 62 = .ok (.getfield 22, 3) := by decide +kernel
theorem dX12_readPass_65 : decode cX12_readPass 65 = .ok (.iload_n 3, 1) := by decide +kernel
theorem dX12_readPass_66 : decode cX12_readPass 66 = .ok (.iconst 2, 1) := by decide +kernel
theorem dX12_readPass_67 : decode cX12_readPass 67 = .ok (.iadd, 1) := by decide +kernel
theorem dX12_readPass_68 : decode cX12_readPass 68 = .ok (.iload_n 2, 1) := by decide +kernel
theorem dX12_readPass_69 : decode cX12_readPass 69 = .ok (.iastore, 1) := by decide +kernel
theorem dX12_readPass_70 : decode cX12_readPass 70 = .ok (.aload_n 0, 1) := by decide +kernel
theorem dX12_readPass_71 : decode cX12_readPass 71 = .ok (.getfield 75, 3) := by decide +kernel
theorem dX12_readPass_74 : decode cX12_readPass 74 = .ok (.ifCond .ne 72, 3) := by decide +kernel
theorem dX12_readPass_77 : decode cX12_readPass 77 = .ok (.aload_n 0, 1) := by decide +kernel
theorem dX12_readPass_78 : decode cX12_readPass 78 = .ok (.getfield 99, 3) := by decide +kernel
theorem dX12_readPass_81 : decode cX12_readPass 81 = .ok (.iconst 2, 1) := by decide +kernel
theorem dX12_readPass_82 : decode cX12_readPass 82 = .ok (.if_icmp .ne 64, 3) := by decide +kernel
theorem dX12_readPass_85 : decode cX12_readPass 85 = .ok (.iload 4, 2) := by decide +kernel
theorem dX12_readPass_87 : decode cX12_readPass 87 = .ok (.bipush 9, 2) := by decide +kernel
theorem dX12_readPass_89 : decode cX12_readPass 89 = .ok (.if_icmp .ge 14, 3) := by decide +kernel
theorem dX12_readPass_92 : decode cX12_readPass 92 = .ok (.iload_n 2, 1) := by decide +kernel
theorem dX12_readPass_93 : decode cX12_readPass 93 = .ok (.aload_n 0, 1) := by decide +kernel
theorem dX12_readPass_94 : decode cX12_readPass 94 = .ok (.getfield 88, 3) := by decide +kernel
theorem dX12_readPass_97 : decode cX12_readPass 97 = .ok (.invokestatic 129, 3) := by decide +kernel
theorem dX12_readPass_100 : decode cX12_readPass 100 = .ok (.goto 5, 3) := by decide +kernel
theorem dX12_readPass_103 : decode cX12_readPass 103 = .ok (.ldc 87, 2) := by decide +kernel
theorem dX12_readPass_105 : decode cX12_readPass 105 = .ok (.istore_n 2, 1) := by decide +kernel
theorem dX12_readPass_106 : decode cX12_readPass 106 = .ok (.aload_n 0, 1) := by decide +kernel
theorem dX12_readPass_107 : decode cX12_readPass 107 = .ok (.iload_n 2, 1) := by decide +kernel
theorem dX12_readPass_108 : decode cX12_readPass 108 = .ok (.ldc 87, 2) := by decide +kernel
theorem dX12_readPass_110 : decode cX12_readPass 110 = .ok (.if_icmp .eq 7, 3) := by decide +kernel
theorem dX12_readPass_113 : decode cX12_readPass 113 = .ok (.iconst 1, 1) := by decide +kernel
theorem dX12_readPass_114 : decode cX12_readPass 114 = .ok (.goto 4, 3) := by decide +kernel
theorem dX12_readPass_117 : decode cX12_readPass 117 = .ok (.iconst 0, 1) := by decide +kernel
theorem dX12_readPass_118 : decode cX12_readPass 118 = .ok (.invokevirtual 109, 3) := by decide +kernel
theorem dX12_readPass_121 : decode cX12_readPass 121 = .ok (.aload_n 0, 1) := by decide +kernel
theorem dX12_readPass_122 : decode cX12_readPass 122 = .ok (.getfield 75, 3) := by decide +kernel
theorem dX12_readPass_125 : decode cX12_readPass 125 = .ok (.ifCond .ne (-55), 3) := by decide +kernel
theorem dX12_readPass_128 : decode cX12_readPass 128 = .ok (.aload_n 0, 1) := by decide +kernel
theorem dX12_readPass_129 : decode cX12_readPass 129 = .ok (.getfield 22, 3) := by decide +kernel
theorem dX12_readPass_132 : decode cX12_readPass 132 = .ok (.iload_n 3, 1) := by decide +kernel
theorem dX12_readPass_133 : decode cX12_readPass 133 = .ok (.iconst 2, 1) := by decide +kernel
theorem dX12_readPass_134 : decode cX12_readPass 134 = .ok (.iadd, 1) := by decide +kernel
theorem dX12_readPass_135 : decode cX12_readPass 135 = .ok (.iload 4, 2) := by decide +kernel
theorem dX12_readPass_137 : decode cX12_readPass 137 = .ok (.iadd, 1) := by decide +kernel
theorem dX12_readPass_138 : decode cX12_readPass 138 = .ok (.iload_n 2, 1) := by decide +kernel
theorem dX12_readPass_139 : decode cX12_readPass 139 = .ok (.iastore, 1) := by decide +kernel
theorem dX12_readPass_140 : decode cX12_readPass 140 = .ok (.iinc 4 1, 3) := by decide +kernel
theorem dX12_readPass_143 : decode cX12_readPass 143 = .ok (.goto (-73), 3) := by decide +kernel
theorem dX12_readPass_146 : decode cX12_readPass 146 = .ok (.aload_n 0, 1) := by decide +kernel
theorem dX12_readPass_147 : decode cX12_readPass 147 = .ok (.bipush 59, 2) := by decide +kernel
theorem dX12_readPass_149 : decode cX12_readPass 149 = .ok (.invokevirtual 120, 3) := by decide +kernel
theorem dX12_readPass_152 : decode cX12_readPass 152 = .ok (.aload_n 0, 1) := by decide +kernel
theorem dX12_readPass_153 : decode cX12_readPass 153 = .ok (.getfield 22, 3) := by decide +kernel
theorem dX12_readPass_156 : decode cX12_readPass 156 = .ok (.iload_n 3, 1) := by decide +kernel
theorem dX12_readPass_157 : decode cX12_readPass 157 = .ok (.iconst 1, 1) := by decide +kernel
theorem dX12_readPass_158 : decode cX12_readPass 158 = .ok (.iadd, 1) := by decide +kernel
theorem dX12_readPass_159 : decode cX12_readPass 159 = .ok (.iload 4, 2) := by decide +kernel
theorem dX12_readPass_161 : decode cX12_readPass 161 = .ok (.iastore, 1) := by decide +kernel
theorem dX12_readPass_162 : decode cX12_readPass 162 = .ok (.aload_n 0, 1) := by decide +kernel
theorem dX12_readPass_163 : decode cX12_readPass 163 = .ok (.getfield 22, 3) := by decide +kernel
theorem dX12_readPass_166 : decode cX12_readPass 166 = .ok (.iconst 5, 1) := by decide +kernel
theorem dX12_readPass_167 : decode cX12_readPass 167 = .ok (.dup2, 1) := by decide +kernel
theorem dX12_readPass_168 : decode cX12_readPass 168 = .ok (.iaload, 1) := by decide +kernel
theorem dX12_readPass_169 : decode cX12_readPass 169 = .ok (.aload_n 0, 1) := by decide +kernel
theorem dX12_readPass_170 : decode cX12_readPass 170 = .ok (.getfield 75, 3) := by decide +kernel
theorem dX12_readPass_173 : decode cX12_readPass 173 = .ok (.ifCond .ne 7, 3) := by decide +kernel
theorem dX12_readPass_176 : decode cX12_readPass 176 = .ok (.iconst 1, 1) := by decide +kernel
theorem dX12_readPass_177 : decode cX12_readPass 177 = .ok (.goto 4, 3) := by decide +kernel
theorem dX12_readPass_180 : decode cX12_readPass 180 = .ok (.iconst 0, 1) := by decide +kernel
theorem dX12_readPass_181 : decode cX12_readPass 181 = .ok (.iadd, 1) := by decide +kernel
theorem dX12_readPass_182 : decode cX12_readPass 182 = .ok (.iastore, 1) := by decide +kernel
theorem dX12_readPass_183 : decode cX12_readPass 183 = .ok (.return_, 1) := by decide +kernel
theorem dX12_table_0 : decode cX12_table 0 = .ok (.aload_n 0, 1) := by decide +kernel
theorem dX12_table_1 : decode cX12_table 1 = .ok (.iconst 0, 1) := by decide +kernel
theorem dX12_table_2 : decode cX12_table 2 = .ok (.putfield 44, 3) := by decide +kernel
theorem dX12_table_5 : decode cX12_table 5 = .ok (.aload_n 0, 1) := by decide +kernel
theorem dX12_table_6 : decode cX12_table 6 = .ok (.invokevirtual 132, 3) := by decide +kernel
theorem dX12_table_9 : decode cX12_table 9 = .ok (.iconst 0, 1) := by decide +kernel
theorem dX12_table_10 : decode cX12_table 10 = .ok (.istore_n 1, 1) := by decide +kernel
theorem dX12_table_11 : decode cX12_table 11 = .ok (.iload_n 1, 1) := by decide +kernel
theorem dX12_table_12 : decode cX12_table 12 = .ok (.bipush 95, 2) := by decide +kernel
theorem dX12_table_14 : decode cX12_table 14 = .ok (.if_icmp .ge 16, 3) := by decide +kernel
theorem dX12_table_17 : decode cX12_table 17 = .ok (.aload_n 0, 1) := by decide +kernel
theorem dX12_table_18 : decode cX12_table 18 = .ok (.getfield 22, 3) := by decide +kernel
theorem dX12_table_21 : decode cX12_table 21 = .ok (.iload_n 1, 1) := by decide +kernel
theorem dX12_table_22 : decode cX12_table 22 = .ok (.iconst 0, 1) := by decide +kernel
theorem dX12_table_23 : decode cX12_table 23 = .ok (.iastore, 1) := by decide +kernel
theorem dX12_table_24 : decode cX12_table 24 = .ok (.iinc 1 1, 3) := by decide +kernel
theorem dX12_table_27 : decode cX12_table 27 = .ok (.goto (-16), 3) := by decide +kernel
theorem dX12_table_30 : decode cX12_table 30 = .ok (.aload_n 0, 1) := by decide +kernel
theorem dX12_table_31 : decode cX12_table 31 = .ok (.getfield 22, 3) := by decide +kernel
theorem dX12_table_34 : decode cX12_table 34 = .ok (.iconst 0, 1) := by decide +kernel
theorem dX12_table_35 : decode cX12_table 35 = .ok (.iconst 1, 1) := by decide +kernel
theorem dX12_table_36 : decode cX12_table 36 = .ok (.iastore, 1) := by decide +kernel
theorem dX12_table_37 : decode cX12_table 37 = .ok (.aload_n 0, 1) := by decide +kernel
theorem dX12_table_38 : decode cX12_table 38 = .ok (.aload_n 0, 1) := by decide +kernel
theorem dX12_table_39 : decode cX12_table 39 = .ok (.bipush 116, 2) := by decide +kernel
theorem dX12_table_41 : decode cX12_table 41 = .ok (.invokevirtual 135, 3) := by decide +kernel
theorem dX12_table_44 : decode cX12_table 44 = .ok (.invokevirtual 109, 3) := by decide +kernel
theorem dX12_table_47 : decode cX12_table 47 = .ok (.aload_n 0, 1) := by decide +kernel
theorem dX12_table_48 : decode cX12_table 48 = .ok (.getfield 22, 3) := by decide +kernel
theorem dX12_table_51 : decode cX12_table 51 = .ok (.iconst 1, 1) := by decide +kernel
theorem dX12_table_52 : decode cX12_table 52 = .ok (.aload_n 0, 1) := by decide +kernel
theorem dX12_table_53 : decode cX12_table 53 = .ok (.iconst 0, 1) := by decide +kernel
theorem dX12_table_54 : decode cX12_table 54 = .ok (.bipush 9, 2) := by decide +kernel
theorem dX12_table_56 : decode cX12_table 56 = .ok (.invokevirtual 116, 3) := by decide +kernel
theorem dX12_table_59 : decode cX12_table 59 = .ok (.iastore, 1) := by decide +kernel
theorem dX12_table_60 : decode cX12_table 60 = .ok (.aload_n 0, 1) := by decide +kernel
theorem dX12_table_61 : decode cX12_table 61 = .ok (.bipush 44, 2) := by decide +kernel
theorem dX12_table_63 : decode cX12_table 63 = .ok (.invokevirtual 120, 3) := by decide +kernel
theorem dX12_table_66 : decode cX12_table 66 = .ok (.aload_n 0, 1) := by decide +kernel
theorem dX12_table_67 : decode cX12_table 67 = .ok (.getfield 22, 3) := by decide +kernel
theorem dX12_table_70 : decode cX12_table 70 = .ok (.iconst 3, 1) := by decide +kernel
theorem dX12_table_71 : decode cX12_table 71 = .ok (.aload_n 0, 1) := by decide +kernel
theorem dX12_table_72 : decode cX12_table 72 = .ok (.iconst 0, 1) := by decide +kernel
theorem dX12_table_73 : decode cX12_table 73 = .ok (.bipush 9, 2) := by decide +kernel
theorem dX12_table_75 : decode cX12_table 75 = .ok (.invokevirtual 116, 3) := by decide +kernel
theorem dX12_table_78 : decode cX12_table 78 = .ok (.iastore, 1) := by decide +kernel
theorem dX12_table_79 : decode cX12_table 79 = .ok (.aload_n 0, 1) := by decide +kernel
theorem dX12_table_80 : decode cX12_table 80 = .ok (.bipush 59, 2) := by decide +kernel
theorem dX12_table_82 : decode cX12_table 82 = .ok (.invokevirtual 120, 3) := by decide +kernel
theorem dX12_table_85 : decode cX12_table 85 = .ok (.iconst 0, 1) := by decide +kernel
theorem dX12_table_86 : decode cX12_table 86 = .ok (.istore_n 1, 1) := by decide +kernel
theorem dX12_table_87 : decode cX12_table 87 = .ok (.iconst 0, 1) := by decide +kernel
theorem dX12_table_88 : decode cX12_table 88 = .ok (.istore_n 2, 1) := by decide +kernel
theorem dX12_table_89 : decode cX12_table 89 = .ok (.aload_n 0, 1) := by decide +kernel
theorem dX12_table_90 : decode cX12_table 90 = .ok (.bipush 102, 2) := by decide +kernel
theorem dX12_table_92 : decode cX12_table 92 = .ok (.invokevirtual 135, 3) := by decide +kernel
theorem dX12_table_95 : decode cX12_table 95 = .ok (.ifCond .eq 24, 3) := by decide +kernel
theorem dX12_table_98 : decode cX12_table 98 = .ok (.aload_n 0, 1) := by decide +kernel
theorem dX12_table_99 : decode cX12_table 99 = .ok (.iload_n 1, 1) := by decide +kernel
theorem dX12_table_100 : decode cX12_table 100 = .ok (.iload_n 2, 1) := by decide +kernel
theorem dX12_table_101 : decode cX12_table 101 = .ok (.invokevirtual 138, 3) := by decide +kernel
theorem dX12_table_104 : decode cX12_table 104 = .ok (.iload_n 1, 1) := by decide +kernel
theorem dX12_table_105 : decode cX12_table 105 = .ok (.iconst 1, 1) := by decide +kernel
theorem dX12_table_106 : decode cX12_table 106 = .ok (.aload_n 0, 1) := by decide +kernel
theorem dX12_table_107 : decode cX12_table 107 = .ok (.getfield 123, 3) := by decide +kernel
theorem dX12_table_110 : decode cX12_table 110 = .ok (.ishl, 1) := by decide +kernel
theorem dX12_table_111 : decode cX12_table 111 = .ok (.ior, 1) := by decide +kernel
theorem dX12_table_112 : decode cX12_table 112 = .ok (.istore_n 1, 1) := by decide +kernel
theorem dX12_table_113 : decode cX12_table 113 = .ok (.iinc 2 1, 3) := by decide +kernel
theorem dX12_table_116 : decode cX12_table 116 = .ok (.goto (-27), 3) := by decide +kernel
theorem dX12_table_119 : decode cX12_table 119 = .ok (.aload_n 0, 1) := by decide +kernel
theorem dX12_table_120 : decode cX12_table 120 = .ok (.getfield 75, 3) := by decide +kernel
theorem dX12_table_123 : decode cX12_table 123 = .ok (.ifCond .ne 30, 3) := by decide +kernel
theorem dX12_table_126 : decode cX12_table 126 = .ok (.aload_n 0, 1) := by decide +kernel
theorem dX12_table_127 : decode cX12_table 127 = .ok (.getfield 99, 3) := by decide +kernel
theorem dX12_table_130 : decode cX12_table 130 = .ok (.iconst 2, 1) := by decide +kernel
theorem dX12_table_131 : decode cX12_table 131 = .ok (.if_icmp .ne 22, 3) := by decide +kernel
theorem dX12_table_134 : decode cX12_table 134 = .ok (.aload_n 0, 1) := by decide +kernel
theorem dX12_table_135 : decode cX12_table 135 = .ok (.getfield 88, 3) := by decide +kernel
theorem dX12_table_138 : decode cX12_table 138 = .ok (.invokestatic 126, 3) := by decide +kernel
theorem dX12_table_141 : decode cX12_table 141 = .ok (.ldc 87, 2) := by decide +kernel
theorem dX12_table_143 : decode cX12_table 143 = .ok (.if_icmp .eq 10, 3) := by decide +kernel
theorem dX12_table_146 : decode cX12_table 146 = .ok (.aload_n 0, 1) := by decide +kernel
theorem dX12_table_147 : decode cX12_table 147 = .ok (.invokevirtual 142, 3) := by decide +kernel
theorem dX12_table_150 : decode cX12_table 150 = .ok (.goto (-31), 3) := by decide +kernel
theorem dX12_table_153 : decode cX12_table 153 = .ok (.aload_n 0, 1) := by decide +kernel
theorem dX12_table_154 : decode cX12_table 154 = .ok (.invokevirtual 145, 3) := by decide +kernel
theorem dX12_table_157 : decode cX12_table 157 = .ok (.ifCond .eq 11, 3) := by decide +kernel
theorem dX12_table_160 : decode cX12_table 160 = .ok (.ldc 149, 2) := by decide +kernel
theorem dX12_table_162 : decode cX12_table 162 = .ok (.aload_n 0, 1) := by decide +kernel
theorem dX12_table_163 : decode cX12_table 163 = .ok (.getfield 81, 3) := by decide +kernel
theorem dX12_table_166 : decode cX12_table 166 = .ok (.isub, 1) := by decide +kernel
theorem dX12_table_167 : decode cX12_table 167 = .ok (.ireturn, 1) := by decide +kernel
theorem dX12_table_168 : decode cX12_table 168 = .ok (.aload_n 0, 1) := by decide +kernel
theorem dX12_table_169 : decode cX12_table 169 = .ok (.iconst 0, 1) := by decide +kernel
theorem dX12_table_170 : decode cX12_table 170 = .ok (.putfield 150, 3) := by decide +kernel
theorem dX12_table_173 : decode cX12_table 173 = .ok (.iconst 0, 1) := by decide +kernel
theorem dX12_table_174 : decode cX12_table 174 = .ok (.istore_n 3, 1) := by decide +kernel
theorem dX12_table_175 : decode cX12_table 175 = .ok (.iload_n 3, 1) := by decide +kernel
theorem dX12_table_176 : decode cX12_table 176 = .ok (.bipush 95, 2) := by decide +kernel
theorem dX12_table_178 : decode cX12_table 178 = .ok (.if_icmp .ge 21, 3) := by decide +kernel
theorem dX12_table_181 : decode cX12_table 181 = .ok (.aload_n 0, 1) := by decide +kernel
theorem dX12_table_182 : decode cX12_table 182 = .ok (.getfield 19, 3) := by decide +kernel
theorem dX12_table_185 : decode cX12_table 185 = .ok (.iload_n 3, 1) := by decide +kernel
theorem dX12_table_186 : decode cX12_table 186 = .ok (.aload_n 0, 1) := by decide +kernel
theorem dX12_table_187 : decode cX12_table 187 = .ok (.getfield 22, 3) := by decide +kernel
theorem dX12_table_190 : decode cX12_table 190 = .ok (.iload_n 3, 1) := by decide +kernel
theorem dX12_table_191 : decode cX12_table 191 = .ok (.iaload, 1) := by decide +kernel
theorem dX12_table_192 : decode cX12_table 192 = .ok (.iastore, 1) := by decide +kernel
theorem dX12_table_193 : decode cX12_table 193 = .ok (.iinc 3 1, 3) := by decide +kernel
theorem dX12_table_196 : decode cX12_table 196 = .ok (.goto (-21), 3) := by decide +kernel
theorem dX12_table_199 : decode cX12_table 199 = .ok (.aload_n 0, 1) := by decide +kernel
theorem dX12_table_200 : decode cX12_table 200 = .ok (.getfield 19, 3) := by decide +kernel
theorem dX12_table_203 : decode cX12_table 203 = .ok (.iconst 5, 1) := by decide +kernel
theorem dX12_table_204 : decode cX12_table 204 = .ok (.iaload, 1) := by decide +kernel
theorem dX12_table_205 : decode cX12_table 205 = .ok (.ireturn, 1) := by decide +kernel
theorem dX12_isThere_0 : decode cX12_isThere 0 = .ok (.aload_n 0, 1) := by decide +kernel
theorem dX12_isThere_1 : decode cX12_isThere 1 = .ok (.getfield 19, 3) := by decide +kernel
theorem dX12_isThere_4 : decode cX12_isThere 4 = .ok (.iconst 0, 1) := by decide +kernel
theorem dX12_isThere_5 : decode cX12_isThere 5 = .ok (.iaload, 1) := by decide +kernel
theorem dX12_isThere_6 : decode cX12_isThere 6 = .ok (.iconst 1, 1) := by decide +kernel
theorem dX12_isThere_7 : decode cX12_isThere 7 = .ok (.if_icmp .ne 7, 3) := by decide +kernel
theorem dX12_isThere_10 : decode cX12_isThere 10 = .ok (.iconst 1, 1) := by decide +kernel
theorem dX12_isThere_11 : decode cX12_isThere 11 = .ok (.goto 4, 3) := by decide +kernel
theorem dX12_isThere_14 : decode cX12_isThere 14 = .ok (.iconst 0, 1) := by decide +kernel
theorem dX12_isThere_15 : decode cX12_isThere 15 = .ok (.ireturn, 1) := by decide +kernel
theorem dX12_isPass_0 : decode cX12_isPass 0 = .ok (.iload_n 1, 1) := by decide +kernel
theorem dX12_isPass_1 : decode cX12_isPass 1 = .ok (.i2l, 1) := by decide +kernel
theorem dX12_isPass_2 : decode cX12_isPass 2 = .ok (.lconst 0, 1) := by decide +kernel
theorem dX12_isPass_3 : decode cX12_isPass 3 = .ok (.aload_n 0, 1) := by decide +kernel
theorem dX12_isPass_4 : decode cX12_isPass 4 = .ok (.getfield 19, 3) := by decide +kernel
theorem dX12_isPass_7 : decode cX12_isPass 7 = .ok (.iconst 5, 1) := by decide +kernel
theorem dX12_isPass_8 : decode cX12_isPass 8 = .ok (.iaload, 1) := by decide +kernel
theorem dX12_isPass_9 : decode cX12_isPass 9 = .ok (.iconst 1, 1) := by decide +kernel
theorem dX12_isPass_10 : decode cX12_isPass 10 = .ok (.isub, 1) := by decide +kernel
theorem dX12_isPass_11 : decode cX12_isPass 11 = .ok (.i2l, 1) := by decide +kernel
theorem dX12_isPass_12 : decode cX12_isPass 12 = .ok (.invokestatic 54, 3) := by decide +kernel
theorem dX12_isPass_15 : decode cX12_isPass 15 = .ok (.ireturn, 1) := by decide +kernel
theorem dX12_isCell_0 : decode cX12_isCell 0 = .ok (.iload_n 0, 1) := by decide +kernel
theorem dX12_isCell_1 : decode cX12_isCell 1 = .ok (.i2l, 1) := by decide +kernel
theorem dX12_isCell_2 : decode cX12_isCell 2 = .ok (.lconst 0, 1) := by decide +kernel
theorem dX12_isCell_3 : decode cX12_isCell 3 = .ok (.ldc2_w 153, 3) := by decide +kernel
theorem dX12_isCell_6 : decode cX12_isCell 6 = .ok (.invokestatic 54, 3) := by decide +kernel
theorem dX12_isCell_9 : decode cX12_isCell 9 = .ok (.ireturn, 1) := by decide +kernel
theorem dX12_areCells_0 : decode cX12_areCells 0 = .ok (.iload_n 0, 1) := by decide +kernel
theorem dX12_areCells_1 : decode cX12_areCells 1 = .ok (.i2l, 1) := by decide +kernel
theorem dX12_areCells_2 : decode cX12_areCells 2 = .ok (.lconst 0, 1) := by decide +kernel
theorem dX12_areCells_3 : decode cX12_areCells 3 = .ok (.ldc2_w 155, 3) := by decide +kernel
theorem dX12_areCells_6 : decode cX12_areCells 6 = .ok (.invokestatic 54, 3) := by decide +kernel
theorem dX12_areCells_9 : decode cX12_areCells 9 = .ok (.ireturn, 1) := by decide +kernel
theorem dX12_kindOf_0 : decode cX12_kindOf 0 = .ok (.aload_n 0, 1) := by decide +kernel
theorem dX12_kindOf_1 : decode cX12_kindOf 1 = .ok (.getfield 19, 3) := by decide +kernel
theorem dX12_kindOf_4 : decode cX12_kindOf 4 = .ok (.bipush 51, 2) := by decide +kernel
theorem dX12_kindOf_6 : decode cX12_kindOf 6 = .ok (.bipush 11, 2) := by decide +kernel
theorem dX12_kindOf_8 : decode cX12_kindOf 8 = .ok (.iload_n 1, 1) := by decide +kernel
theorem dX12_kindOf_9 : decode cX12_kindOf 9 = .ok (.imul, 1) := by decide +kernel
theorem dX12_kindOf_10 : decode cX12_kindOf 10 = .ok (.iadd, 1) := by decide +kernel
theorem dX12_kindOf_11 : decode cX12_kindOf 11 = .ok (.iaload, 1) := by decide +kernel
theorem dX12_kindOf_12 : decode cX12_kindOf 12 = .ok (.ireturn, 1) := by decide +kernel
theorem dX12_cellsOf_0 : decode cX12_cellsOf 0 = .ok (.aload_n 0, 1) := by decide +kernel
theorem dX12_cellsOf_1 : decode cX12_cellsOf 1 = .ok (.getfield 19, 3) := by decide +kernel
theorem dX12_cellsOf_4 : decode cX12_cellsOf 4 = .ok (.bipush 51, 2) := by decide +kernel
theorem dX12_cellsOf_6 : decode cX12_cellsOf 6 = .ok (.bipush 11, 2) := by decide +kernel
theorem dX12_cellsOf_8 : decode cX12_cellsOf 8 = .ok (.iload_n 1, 1) := by decide +kernel
theorem dX12_cellsOf_9 : decode cX12_cellsOf 9 = .ok (.imul, 1) := by decide +kernel
theorem dX12_cellsOf_10 : decode cX12_cellsOf 10 = .ok (.iadd, 1) := by decide +kernel
theorem dX12_cellsOf_11 : decode cX12_cellsOf 11 = .ok (.iconst 1, 1) := by decide +kernel
theorem dX12_cellsOf_12 : decode cX12_cellsOf 12 = .ok (.iadd, 1) := by decide +kernel
theorem dX12_cellsOf_13 : decode cX12_cellsOf 13 = .ok (.iaload, 1) := by decide +kernel
theorem dX12_cellsOf_14 : decode cX12_cellsOf 14 = .ok (.ireturn, 1) := by decide +kernel
theorem dX12_cellAt_0 : decode cX12_cellAt 0 = .ok (.aload_n 0, 1) := by decide +kernel
theorem dX12_cellAt_1 : decode cX12_cellAt 1 = .ok (.getfield 19, 3) := by decide +kernel
theorem dX12_cellAt_4 : decode cX12_cellAt 4 = .ok (.bipush 51, 2) := by decide +kernel
theorem dX12_cellAt_6 : decode cX12_cellAt 6 = .ok (.bipush 11, 2) := by decide +kernel
theorem dX12_cellAt_8 : decode cX12_cellAt 8 = .ok (.iload_n 1, 1) := by decide +kernel
theorem dX12_cellAt_9 : decode cX12_cellAt 9 = .ok (.imul, 1) := by decide +kernel
theorem dX12_cellAt_10 : decode cX12_cellAt 10 = .ok (.iadd, 1) := by decide +kernel
theorem dX12_cellAt_11 : decode cX12_cellAt 11 = .ok (.iconst 2, 1) := by decide +kernel
theorem dX12_cellAt_12 : decode cX12_cellAt 12 = .ok (.iadd, 1) := by decide +kernel
theorem dX12_cellAt_13 : decode cX12_cellAt 13 = .ok (.iload_n 2, 1) := by decide +kernel
theorem dX12_cellAt_14 : decode cX12_cellAt 14 = .ok (.iadd, 1) := by decide +kernel
theorem dX12_cellAt_15 : decode cX12_cellAt 15 = .ok (.iaload, 1) := by decide +kernel
theorem dX12_cellAt_16 : decode cX12_cellAt 16 = .ok (.ireturn, 1) := by decide +kernel
theorem dX12_overBy_0 : decode cX12_overBy 0 = .ok (.iconst 0, 1) := by decide +kernel
theorem dX12_overBy_1 : decode cX12_overBy 1 = .ok (.istore_n 2, 1) := by decide +kernel
theorem dX12_overBy_2 : decode cX12_overBy 2 = .ok (.iconst 0, 1) := by decide +kernel
theorem dX12_overBy_3 : decode cX12_overBy 3 = .ok (.istore_n 3, 1) := by decide +kernel
theorem dX12_overBy_4 : decode cX12_overBy 4 = .ok (.iload_n 3, 1) := by decide +kernel
theorem dX12_overBy_5 : decode cX12_overBy 5 = .ok (.aload_n 0, 1) := by decide +kernel
theorem dX12_overBy_6 : decode cX12_overBy 6 = .ok (.iload_n 1, 1) := by decide +kernel
theorem dX12_overBy_7 : decode cX12_overBy 7 = .ok (.invokevirtual 157, 3) := by decide +kernel
theorem dX12_overBy_10 : decode cX12_overBy 10 = .ok (.if_icmp .ge 20, 3) := by decide +kernel
theorem dX12_overBy_13 : decode cX12_overBy 13 = .ok (.iload_n 2, 1) := by decide +kernel
theorem dX12_overBy_14 : decode cX12_overBy 14 = .ok (.iconst 1, 1) := by decide +kernel
theorem dX12_overBy_15 : decode cX12_overBy 15 = .ok (.aload_n 0, 1) := by decide +kernel
theorem dX12_overBy_16 : decode cX12_overBy 16 = .ok (.iload_n 1, 1) := by decide +kernel
theorem dX12_overBy_17 : decode cX12_overBy 17 = .ok (.iload_n 3, 1) := by decide +kernel
theorem dX12_overBy_18 : decode cX12_overBy 18 = .ok (.invokevirtual 160, 3) := by decide +kernel
theorem dX12_overBy_21 : decode cX12_overBy 21 = .ok (.ishl, 1) := by decide +kernel
theorem dX12_overBy_22 : decode cX12_overBy 22 = .ok (.ior, 1) := by decide +kernel
theorem dX12_overBy_23 : decode cX12_overBy 23 = .ok (.istore_n 2, 1) := by decide +kernel
theorem dX12_overBy_24 : decode cX12_overBy 24 = .ok (.iinc 3 1, 3) := by decide +kernel
theorem dX12_overBy_27 : decode cX12_overBy 27 = .ok (.goto (-23), 3) := by decide +kernel
theorem dX12_overBy_30 : decode cX12_overBy 30 = .ok (.iload_n 2, 1) := by decide +kernel
theorem dX12_overBy_31 : decode cX12_overBy 31 = .ok (.ireturn, 1) := by decide +kernel
theorem dX12_lay_0 : decode cX12_lay 0 = .ok (.aload_n 0, 1) := by decide +kernel
theorem dX12_lay_1 : decode cX12_lay 1 = .ok (.bipush 6, 2) := by decide +kernel
theorem dX12_lay_3 : decode cX12_lay 3 = .ok (.iload_n 1, 1) := by decide +kernel
theorem dX12_lay_4 : decode cX12_lay 4 = .ok (.iadd, 1) := by decide +kernel
theorem dX12_lay_5 : decode cX12_lay 5 = .ok (.iaload, 1) := by decide +kernel
theorem dX12_lay_6 : decode cX12_lay 6 = .ok (.iload_n 2, 1) := by decide +kernel
theorem dX12_lay_7 : decode cX12_lay 7 = .ok (.iadd, 1) := by decide +kernel
theorem dX12_lay_8 : decode cX12_lay 8 = .ok (.sipush 999, 3) := by decide +kernel
theorem dX12_lay_11 : decode cX12_lay 11 = .ok (.if_icmp .le 16, 3) := by decide +kernel
theorem dX12_lay_14 : decode cX12_lay 14 = .ok (.sipush 999, 3) := by decide +kernel
theorem dX12_lay_17 : decode cX12_lay 17 = .ok (.aload_n 0, 1) := by decide +kernel
theorem dX12_lay_18 : decode cX12_lay 18 = .ok (.bipush 6, 2) := by decide +kernel
theorem dX12_lay_20 : decode cX12_lay 20 = .ok (.iload_n 1, 1) := by decide +kernel
theorem dX12_lay_21 : decode cX12_lay 21 = .ok (.iadd, 1) := by decide +kernel
theorem dX12_lay_22 : decode cX12_lay 22 = .ok (.iaload, 1) := by decide +kernel
theorem dX12_lay_23 : decode cX12_lay 23 = .ok (.isub, 1) := by decide +kernel
theorem dX12_lay_24 : decode cX12_lay 24 = .ok (.goto 4, 3) := by decide +kernel
theorem dX12_lay_27 : decode cX12_lay 27 = .ok (.iload_n 2, 1) := by decide +kernel
theorem dX12_lay_28 : decode cX12_lay 28 = .ok (.istore_n 3, 1) := by decide +kernel
theorem dX12_lay_29 : decode cX12_lay 29 = .ok (.aload_n 0, 1) := by decide +kernel
theorem dX12_lay_30 : decode cX12_lay 30 = .ok (.bipush 6, 2) := by decide +kernel
theorem dX12_lay_32 : decode cX12_lay 32 = .ok (.iload_n 1, 1) := by decide +kernel
theorem dX12_lay_33 : decode cX12_lay 33 = .ok (.iadd, 1) := by decide +kernel
theorem dX12_lay_34 : decode cX12_lay 34 = .ok (.dup2, 1) := by decide +kernel
theorem dX12_lay_35 : decode cX12_lay 35 = .ok (.iaload, 1) := by decide +kernel
theorem dX12_lay_36 : decode cX12_lay 36 = .ok (.iload_n 3, 1) := by decide +kernel
theorem dX12_lay_37 : decode cX12_lay 37 = .ok (.iadd, 1) := by decide +kernel
theorem dX12_lay_38 : decode cX12_lay 38 = .ok (.iastore, 1) := by decide +kernel
theorem dX12_lay_39 : decode cX12_lay 39 = .ok (.aload_n 0, 1) := by decide +kernel
theorem dX12_lay_40 : decode cX12_lay 40 = .ok (.bipush 21, 2) := by decide +kernel
theorem dX12_lay_42 : decode cX12_lay 42 = .ok (.iload_n 1, 1) := by decide +kernel
theorem dX12_lay_43 : decode cX12_lay 43 = .ok (.iadd, 1) := by decide +kernel
theorem dX12_lay_44 : decode cX12_lay 44 = .ok (.dup2, 1) := by decide +kernel
theorem dX12_lay_45 : decode cX12_lay 45 = .ok (.iaload, 1) := by decide +kernel
theorem dX12_lay_46 : decode cX12_lay 46 = .ok (.iload_n 3, 1) := by decide +kernel
theorem dX12_lay_47 : decode cX12_lay 47 = .ok (.iadd, 1) := by decide +kernel
theorem dX12_lay_48 : decode cX12_lay 48 = .ok (.iastore, 1) := by decide +kernel
theorem dX12_lay_49 : decode cX12_lay 49 = .ok (.aload_n 0, 1) := by decide +kernel
theorem dX12_lay_50 : decode cX12_lay 50 = .ok (.bipush 36, 2) := by decide +kernel
theorem dX12_lay_52 : decode cX12_lay 52 = .ok (.iload_n 1, 1) := by decide +kernel
theorem dX12_lay_53 : decode cX12_lay 53 = .ok (.iadd, 1) := by decide +kernel
theorem dX12_lay_54 : decode cX12_lay 54 = .ok (.iaload, 1) := by decide +kernel
theorem dX12_lay_55 : decode cX12_lay 55 = .ok (.aload_n 0, 1) := by decide +kernel
theorem dX12_lay_56 : decode cX12_lay 56 = .ok (.iconst 3, 1) := by decide +kernel
theorem dX12_lay_57 : decode cX12_lay 57 = .ok (.iaload, 1) := by decide +kernel
theorem dX12_lay_58 : decode cX12_lay 58 = .ok (.iconst 4, 1) := by decide +kernel
theorem dX12_lay_59 : decode cX12_lay 59 = .ok (.idiv, 1) := by decide +kernel
theorem dX12_lay_60 : decode cX12_lay 60 = .ok (.iadd, 1) := by decide +kernel
theorem dX12_lay_61 : decode cX12_lay 61 = .ok (.istore 4, 2) := by decide +kernel
theorem dX12_lay_63 : decode cX12_lay 63 = .ok (.aload_n 0, 1) := by decide +kernel
theorem dX12_lay_64 : decode cX12_lay 64 = .ok (.bipush 36, 2) := by decide +kernel
theorem dX12_lay_66 : decode cX12_lay 66 = .ok (.iload_n 1, 1) := by decide +kernel
theorem dX12_lay_67 : decode cX12_lay 67 = .ok (.iadd, 1) := by decide +kernel
theorem dX12_lay_68 : decode cX12_lay 68 = .ok (.iload 4, 2) := by decide +kernel
theorem dX12_lay_70 : decode cX12_lay 70 = .ok (.bipush 99, 2) := by decide +kernel
theorem dX12_lay_72 : decode cX12_lay 72 = .ok (.if_icmp .le 8, 3) := by decide +kernel
theorem dX12_lay_75 : decode cX12_lay 75 = .ok (.bipush 99, 2) := by decide +kernel
theorem dX12_lay_77 : decode cX12_lay 77 = .ok (.goto 5, 3) := by decide +kernel
theorem dX12_lay_80 : decode cX12_lay 80 = .ok (.iload 4, 2) := by decide +kernel
theorem dX12_lay_82 : decode cX12_lay 82 = .ok (.iastore, 1) := by decide +kernel
theorem dX12_lay_83 : decode cX12_lay 83 = .ok (.return_, 1) := by decide +kernel
theorem dX12_goOver_0 : decode cX12_goOver 0 = .ok (.aload_n 0, 1) := by decide +kernel
theorem dX12_goOver_1 : decode cX12_goOver 1 = .ok (.iconst 2, 1) := by decide +kernel
theorem dX12_goOver_2 : decode cX12_goOver 2 = .ok (.iaload, 1) := by decide +kernel
theorem dX12_goOver_3 : decode cX12_goOver 3 = .ok (.iconst 4, 1) := by decide +kernel
theorem dX12_goOver_4 : decode cX12_goOver 4 = .ok (.idiv, 1) := by decide +kernel
theorem dX12_goOver_5 : decode cX12_goOver 5 = .ok (.istore_n 3, 1) := by decide +kernel
theorem dX12_goOver_6 : decode cX12_goOver 6 = .ok (.iload_n 1, 1) := by decide +kernel
theorem dX12_goOver_7 : decode cX12_goOver 7 = .ok (.tableswitch 158 1 3 #[25, 34, 77], 25) := by decide +kernel
theorem dX12_goOver_32 : decode cX12_goOver 32 = .ok (.aload_n 0, 1) := by decide +kernel
theorem dX12_goOver_33 : decode cX12_goOver 33 = .ok (.iload_n 2, 1) := by decide +kernel
theorem dX12_goOver_34 : decode cX12_goOver 34 = .ok (.iload_n 3, 1) := by decide +kernel
theorem dX12_goOver_35 : decode cX12_goOver 35 = .ok (.invokestatic 163, 3) := by decide +kernel
theorem dX12_goOver_38 : decode cX12_goOver 38 = .ok (.goto 199, 3) := by decide +kernel
theorem dX12_goOver_41 : decode cX12_goOver 41 = .ok (.aload_n 0, 1) := by decide +kernel
theorem dX12_goOver_42 : decode cX12_goOver 42 = .ok (.bipush 21, 2) := by decide +kernel
theorem dX12_goOver_44 : decode cX12_goOver 44 = .ok (.iload_n 2, 1) := by decide +kernel
theorem dX12_goOver_45 : decode cX12_goOver 45 = .ok (.iadd, 1) := by decide +kernel
theorem dX12_goOver_46 : decode cX12_goOver 46 = .ok (.iaload, 1) := by decide +kernel
theorem dX12_goOver_47 : decode cX12_goOver 47 = .ok (.iconst 2, 1) := by decide +kernel
theorem dX12_goOver_48 : decode cX12_goOver 48 = .ok (.idiv, 1) := by decide +kernel
theorem dX12_goOver_49 : decode cX12_goOver 49 = .ok (.istore 4, 2) := by decide +kernel
theorem dX12_goOver_51 : decode cX12_goOver 51 = .ok (.aload_n 0, 1) := by decide +kernel
theorem dX12_goOver_52 : decode cX12_goOver 52 = .ok (.bipush 6, 2) := by decide +kernel
theorem dX12_goOver_54 : decode cX12_goOver 54 = .ok (.iload_n 2, 1) := by decide +kernel
theorem dX12_goOver_55 : decode cX12_goOver 55 = .ok (.iadd, 1) := by decide +kernel
theorem dX12_goOver_56 : decode cX12_goOver 56 = .ok (.dup2, 1) := by decide +kernel
theorem dX12_goOver_57 : decode cX12_goOver 57 = .ok (.iaload, 1) := by decide +kernel
theorem dX12_goOver_58 : decode cX12_goOver 58 = .ok (.iload 4, 2) := by decide +kernel
theorem dX12_goOver_60 : decode cX12_goOver 60 = .ok (.isub, 1) := by decide +kernel
theorem dX12_goOver_61 : decode cX12_goOver 61 = .ok (.iastore, 1) := by decide +kernel
theorem dX12_goOver_62 : decode cX12_goOver 62 = .ok (.aload_n 0, 1) := by decide +kernel
theorem dX12_goOver_63 : decode cX12_goOver 63 = .ok (.bipush 21, 2) := by decide +kernel
theorem dX12_goOver_65 : decode cX12_goOver 65 = .ok (.iload_n 2, 1) := by decide +kernel
theorem dX12_goOver_66 : decode cX12_goOver 66 = .ok (.iadd, 1) := by decide +kernel
theorem dX12_goOver_67 : decode cX12_goOver 67 = .ok (.dup2, 1) := by decide +kernel
theorem dX12_goOver_68 : decode cX12_goOver 68 = .ok (.iaload, 1) := by decide +kernel
theorem dX12_goOver_69 : decode cX12_goOver 69 = .ok (.iload 4, 2) := by decide +kernel
theorem dX12_goOver_71 : decode cX12_goOver 71 = .ok (.isub, 1) := by decide +kernel
theorem dX12_goOver_72 : decode cX12_goOver 72 = .ok (.iastore, 1) := by decide +kernel
theorem dX12_goOver_73 : decode cX12_goOver 73 = .ok (.aload_n 0, 1) := by decide +kernel
theorem dX12_goOver_74 : decode cX12_goOver 74 = .ok (.iload_n 2, 1) := by decide +kernel
theorem dX12_goOver_75 : decode cX12_goOver 75 = .ok (.iconst 2, 1) := by decide +kernel
theorem dX12_goOver_76 : decode cX12_goOver 76 = .ok (.iload_n 3, 1) := by decide +kernel
theorem dX12_goOver_77 : decode cX12_goOver 77 = .ok (.imul, 1) := by decide +kernel
theorem dX12_goOver_78 : decode cX12_goOver 78 = .ok (.invokestatic 163, 3) := by decide +kernel
theorem dX12_goOver_81 : decode cX12_goOver 81 = .ok (.goto 156, 3) := by decide +kernel
theorem dX12_goOver_84 : decode cX12_goOver 84 = .ok (.aload_n 0, 1) := by decide +kernel
theorem dX12_goOver_85 : decode cX12_goOver 85 = .ok (.iconst 2, 1) := by decide +kernel
theorem dX12_goOver_86 : decode cX12_goOver 86 = .ok (.iaload, 1) := by decide +kernel
theorem dX12_goOver_87 : decode cX12_goOver 87 = .ok (.ifCond .ne 67, 3) := by decide +kernel
theorem dX12_goOver_90 : decode cX12_goOver 90 = .ok (.aload_n 0, 1) := by decide +kernel
theorem dX12_goOver_91 : decode cX12_goOver 91 = .ok (.bipush 6, 2) := by decide +kernel
theorem dX12_goOver_93 : decode cX12_goOver 93 = .ok (.iload_n 2, 1) := by decide +kernel
theorem dX12_goOver_94 : decode cX12_goOver 94 = .ok (.iadd, 1) := by decide +kernel
theorem dX12_goOver_95 : decode cX12_goOver 95 = .ok (.aload_n 0, 1) := by decide +kernel
theorem dX12_goOver_96 : decode cX12_goOver 96 = .ok (.bipush 6, 2) := by decide +kernel
theorem dX12_goOver_98 : decode cX12_goOver 98 = .ok (.iload_n 2, 1) := by decide +kernel
theorem dX12_goOver_99 : decode cX12_goOver 99 = .ok (.iadd, 1) := by decide +kernel
theorem dX12_goOver_100 : decode cX12_goOver 100 = .ok (.iaload, 1) := by decide +kernel
theorem dX12_goOver_101 : decode cX12_goOver 101 = .ok (.iconst 2, 1) := by decide +kernel
theorem dX12_goOver_102 : decode cX12_goOver 102 = .ok (.if_icmp .ge 7, 3) := by decide +kernel
theorem dX12_goOver_105 : decode cX12_goOver 105 = .ok (.iconst 0, 1) := by decide +kernel
theorem dX12_goOver_106 : decode cX12_goOver 106 = .ok (.goto 11, 3) := by decide +kernel
theorem dX12_goOver_109 : decode cX12_goOver 109 = .ok (.aload_n 0, 1) := by decide +kernel
theorem dX12_goOver_110 : decode cX12_goOver 110 = .ok (.bipush 6, 2) := by decide +kernel
theorem dX12_goOver_112 : decode cX12_goOver 112 = .ok (.iload_n 2, 1) := by decide +kernel
theorem dX12_goOver_113 : decode cX12_goOver 113 = .ok (.iadd, 1) := by decide +kernel
theorem dX12_goOver_114 : decode cX12_goOver 114 = .ok (.iaload, 1) := by decide +kernel
theorem dX12_goOver_115 : decode cX12_goOver 115 = .ok (.iconst 2, 1) := by decide +kernel
theorem dX12_goOver_116 : decode cX12_goOver 116 = .ok (.isub, 1) := by decide +kernel
theorem dX12_goOver_117 : decode cX12_goOver 117 = .ok (.iastore, 1) := by decide +kernel
theorem dX12_goOver_118 : decode cX12_goOver 118 = .ok (.aload_n 0, 1) := by decide +kernel
theorem dX12_goOver_119 : decode cX12_goOver 119 = .ok (.bipush 21, 2) := by decide +kernel
theorem dX12_goOver_121 : decode cX12_goOver 121 = .ok (.iload_n 2, 1) := by decide +kernel
theorem dX12_goOver_122 : decode cX12_goOver 122 = .ok (.iadd, 1) := by decide +kernel
theorem dX12_goOver_123 : decode cX12_goOver 123 = .ok (.aload_n 0, 1) := by decide +kernel
theorem dX12_goOver_124 : decode cX12_goOver 124 = .ok (.bipush 21, 2) := by decide +kernel
theorem dX12_goOver_126 : decode cX12_goOver 126 = .ok (.iload_n 2, 1) := by decide +kernel
theorem dX12_goOver_127 : decode cX12_goOver 127 = .ok (.iadd, 1) := by decide +kernel
theorem dX12_goOver_128 : decode cX12_goOver 128 = .ok (.iaload, 1) := by decide +kernel
theorem dX12_goOver_129 : decode cX12_goOver 129 = .ok (.aload_n 0, 1) := by decide +kernel
theorem dX12_goOver_130 : decode cX12_goOver 130 = .ok (.bipush 6, 2) := by decide +kernel
theorem dX12_goOver_132 : decode cX12_goOver 132 = .ok (.iload_n 2, 1) := by decide +kernel
theorem dX12_goOver_133 : decode cX12_goOver 133 = .ok (.iadd, 1) := by decide +kernel
theorem dX12_goOver_134 : decode cX12_goOver 134 = .ok (.iaload, 1) := by decide +kernel
theorem dX12_goOver_135 : decode cX12_goOver 135 = .ok (.if_icmp .le 12, 3) := by decide +kernel
theorem dX12_goOver_138 : decode cX12_goOver 138 = .ok (.aload_n 0, 1) := by decide +kernel
theorem dX12_goOver_139 : decode cX12_goOver 139 = .ok (.bipush 6, 2) := by decide +kernel
theorem dX12_goOver_141 : decode cX12_goOver 141 = .ok (.iload_n 2, 1) := by decide +kernel
theorem dX12_goOver_142 : decode cX12_goOver 142 = .ok (.iadd, 1) := by decide +kernel
theorem dX12_goOver_143 : decode cX12_goOver 143 = .ok (.iaload, 1) := by decide +kernel
theorem dX12_goOver_144 : decode cX12_goOver 144 = .ok (.goto 9, 3) := by decide +kernel
theorem dX12_goOver_147 : decode cX12_goOver 147 = .ok (.aload_n 0, 1) := by decide +kernel
theorem dX12_goOver_148 : decode cX12_goOver 148 = .ok (.bipush 21, 2) := by decide +kernel
theorem dX12_goOver_150 : decode cX12_goOver 150 = .ok (.iload_n 2, 1) := by decide +kernel
theorem dX12_goOver_151 : decode cX12_goOver 151 = .ok (.iadd, 1) := by decide +kernel
theorem dX12_goOver_152 : decode cX12_goOver 152 = .ok (.iaload, 1) := by decide +kernel
theorem dX12_goOver_153 : decode cX12_goOver 153 = .ok (.iastore, 1) := by decide +kernel
theorem dX12_goOver_154 : decode cX12_goOver 154 = .ok (.aload_n 0, 1) := by decide +kernel
theorem dX12_goOver_155 : decode cX12_goOver 155 = .ok (.iload_n 2, 1) := by decide +kernel
theorem dX12_goOver_156 : decode cX12_goOver 156 = .ok (.iload_n 3, 1) := by decide +kernel
theorem dX12_goOver_157 : decode cX12_goOver 157 = .ok (.iconst 2, 1) := by decide +kernel
theorem dX12_goOver_158 : decode cX12_goOver 158 = .ok (.idiv, 1) := by decide +kernel
theorem dX12_goOver_159 : decode cX12_goOver 159 = .ok (.invokestatic 163, 3) := by decide +kernel
theorem dX12_goOver_162 : decode cX12_goOver 162 = .ok (.goto 75, 3) := by decide +kernel
theorem dX12_goOver_165 : decode cX12_goOver 165 = .ok (.iload_n 1, 1) := by decide +kernel
theorem dX12_goOver_166 : decode cX12_goOver 166 = .ok (.iconst 5, 1) := by decide +kernel
theorem dX12_goOver_167 : decode cX12_goOver 167 = .ok (.if_icmp .ne 8, 3) := by decide +kernel
theorem dX12_goOver_170 : decode cX12_goOver 170 = .ok (.bipush 8, 2) := by decide +kernel
theorem dX12_goOver_172 : decode cX12_goOver 172 = .ok (.goto 4, 3) := by decide +kernel
theorem dX12_goOver_175 : decode cX12_goOver 175 = .ok (.iconst 4, 1) := by decide +kernel
theorem dX12_goOver_176 : decode cX12_goOver 176 = .ok (.istore 5, 2) := by decide +kernel
theorem dX12_goOver_178 : decode cX12_goOver 178 = .ok (.aload_n 0, 1) := by decide +kernel
theorem dX12_goOver_179 : decode cX12_goOver 179 = .ok (.bipush 36, 2) := by decide +kernel
theorem dX12_goOver_181 : decode cX12_goOver 181 = .ok (.iload_n 2, 1) := by decide +kernel
theorem dX12_goOver_182 : decode cX12_goOver 182 = .ok (.iadd, 1) := by decide +kernel
theorem dX12_goOver_183 : decode cX12_goOver 183 = .ok (.aload_n 0, 1) := by decide +kernel
theorem dX12_goOver_184 : decode cX12_goOver 184 = .ok (.bipush 36, 2) := by decide +kernel
theorem dX12_goOver_186 : decode cX12_goOver 186 = .ok (.iload_n 2, 1) := by decide +kernel
theorem dX12_goOver_187 : decode cX12_goOver 187 = .ok (.iadd, 1) := by decide +kernel
theorem dX12_goOver_188 : decode cX12_goOver 188 = .ok (.iaload, 1) := by decide +kernel
theorem dX12_goOver_189 : decode cX12_goOver 189 = .ok (.iload 5, 2) := by decide +kernel
theorem dX12_goOver_191 : decode cX12_goOver 191 = .ok (.if_icmp .ge 7, 3) := by decide +kernel
theorem dX12_goOver_194 : decode cX12_goOver 194 = .ok (.iconst 0, 1) := by decide +kernel
theorem dX12_goOver_195 : decode cX12_goOver 195 = .ok (.goto 12, 3) := by decide +kernel
theorem dX12_goOver_198 : decode cX12_goOver 198 = .ok (.aload_n 0, 1) := by decide +kernel
theorem dX12_goOver_199 : decode cX12_goOver 199 = .ok (.bipush 36, 2) := by decide +kernel
theorem dX12_goOver_201 : decode cX12_goOver 201 = .ok (.iload_n 2, 1) := by decide +kernel
theorem dX12_goOver_202 : decode cX12_goOver 202 = .ok (.iadd, 1) := by decide +kernel
theorem dX12_goOver_203 : decode cX12_goOver 203 = .ok (.iaload, 1) := by decide +kernel
theorem dX12_goOver_204 : decode cX12_goOver 204 = .ok (.iload 5, 2) := by decide +kernel
theorem dX12_goOver_206 : decode cX12_goOver 206 = .ok (.isub, 1) := by decide +kernel
theorem dX12_goOver_207 : decode cX12_goOver 207 = .ok (.iastore, 1) := by decide +kernel
theorem dX12_goOver_208 : decode cX12_goOver 208 = .ok (.aload_n 0, 1) := by decide +kernel
theorem dX12_goOver_209 : decode cX12_goOver 209 = .ok (.bipush 21, 2) := by decide +kernel
theorem dX12_goOver_211 : decode cX12_goOver 211 = .ok (.iload_n 2, 1) := by decide +kernel
theorem dX12_goOver_212 : decode cX12_goOver 212 = .ok (.iadd, 1) := by decide +kernel
theorem dX12_goOver_213 : decode cX12_goOver 213 = .ok (.iaload, 1) := by decide +kernel
theorem dX12_goOver_214 : decode cX12_goOver 214 = .ok (.ifCond .le 23, 3) := by decide +kernel
theorem dX12_goOver_217 : decode cX12_goOver 217 = .ok (.aload_n 0, 1) := by decide +kernel
theorem dX12_goOver_218 : decode cX12_goOver 218 = .ok (.bipush 6, 2) := by decide +kernel
theorem dX12_goOver_220 : decode cX12_goOver 220 = .ok (.iload_n 2, 1) := by decide +kernel
theorem dX12_goOver_221 : decode cX12_goOver 221 = .ok (.iadd, 1) := by decide +kernel
theorem dX12_goOver_222 : decode cX12_goOver 222 = .ok (.dup2, 1) := by decide +kernel
theorem dX12_goOver_223 : decode cX12_goOver 223 = .ok (.iaload, 1) := by decide +kernel
theorem dX12_goOver_224 : decode cX12_goOver 224 = .ok (.iconst 1, 1) := by decide +kernel
theorem dX12_goOver_225 : decode cX12_goOver 225 = .ok (.isub, 1) := by decide +kernel
theorem dX12_goOver_226 : decode cX12_goOver 226 = .ok (.iastore, 1) := by decide +kernel
theorem dX12_goOver_227 : decode cX12_goOver 227 = .ok (.aload_n 0, 1) := by decide +kernel
theorem dX12_goOver_228 : decode cX12_goOver 228 = .ok (.bipush 21, 2) := by decide +kernel
theorem dX12_goOver_230 : decode cX12_goOver 230 = .ok (.iload_n 2, 1) := by decide +kernel
theorem dX12_goOver_231 : decode cX12_goOver 231 = .ok (.iadd, 1) := by decide +kernel
theorem dX12_goOver_232 : decode cX12_goOver 232 = .ok (.dup2, 1) := by decide +kernel
theorem dX12_goOver_233 : decode cX12_goOver 233 = .ok (.iaload, 1) := by decide +kernel
theorem dX12_goOver_234 : decode cX12_goOver 234 = .ok (.iconst 1, 1) := by decide +kernel
theorem dX12_goOver_235 : decode cX12_goOver 235 = .ok (.isub, 1) := by decide +kernel
theorem dX12_goOver_236 : decode cX12_goOver 236 = .ok (.iastore, 1) := by decide +kernel
theorem dX12_goOver_237 : decode cX12_goOver 237 = .ok (.aload_n 0, 1) := by decide +kernel
theorem dX12_goOver_238 : decode cX12_goOver 238 = .ok (.iconst 2, 1) := by decide +kernel
theorem dX12_goOver_239 : decode cX12_goOver 239 = .ok (.dup2, 1) := by decide +kernel
theorem dX12_goOver_240 : decode cX12_goOver 240 = .ok (.iaload, 1) := by decide +kernel
theorem dX12_goOver_241 : decode cX12_goOver 241 = .ok (.aload_n 0, 1) := by decide +kernel
theorem dX12_goOver_242 : decode cX12_goOver 242 = .ok (.iconst 2, 1) := by decide +kernel
theorem dX12_goOver_243 : decode cX12_goOver 243 = .ok (.iaload, 1) := by decide +kernel
theorem dX12_goOver_244 : decode cX12_goOver 244 = .ok (.ifCond .le 7, 3) := by decide +kernel
theorem dX12_goOver_247 : decode cX12_goOver 247 = .ok (.iconst 1, 1) := by decide +kernel
theorem dX12_goOver_248 : decode cX12_goOver 248 = .ok (.goto 4, 3) := by decide +kernel
theorem dX12_goOver_251 : decode cX12_goOver 251 = .ok (.iconst 0, 1) := by decide +kernel
theorem dX12_goOver_252 : decode cX12_goOver 252 = .ok (.isub, 1) := by decide +kernel
theorem dX12_goOver_253 : decode cX12_goOver 253 = .ok (.iastore, 1) := by decide +kernel
theorem dX12_goOver_254 : decode cX12_goOver 254 = .ok (.return_, 1) := by decide +kernel
theorem dX12_pass_0 : decode cX12_pass 0 = .ok (.iconst 0, 1) := by decide +kernel
theorem dX12_pass_1 : decode cX12_pass 1 = .ok (.istore_n 3, 1) := by decide +kernel
theorem dX12_pass_2 : decode cX12_pass 2 = .ok (.iload_n 3, 1) := by decide +kernel
theorem dX12_pass_3 : decode cX12_pass 3 = .ok (.aload_n 0, 1) := by decide +kernel
theorem dX12_pass_4 : decode cX12_pass 4 = .ok (.iload_n 2, 1) := by decide +kernel
theorem dX12_pass_5 : decode cX12_pass 5 = .ok (.invokevirtual 157, 3) := by decide +kernel
theorem dX12_pass_8 : decode cX12_pass 8 = .ok (.if_icmp .ge 24, 3) := by decide +kernel
theorem dX12_pass_11 : decode cX12_pass 11 = .ok (.aload_n 1, 1) := by decide +kernel
theorem dX12_pass_12 : decode cX12_pass 12 = .ok (.aload_n 0, 1) := by decide +kernel
theorem dX12_pass_13 : decode cX12_pass 13 = .ok (.iload_n 2, 1) := by decide +kernel
theorem dX12_pass_14 : decode cX12_pass 14 = .ok (.invokevirtual 167, 3) := by decide +kernel
theorem dX12_pass_17 : decode cX12_pass 17 = .ok (.aload_n 0, 1) := by decide +kernel
theorem dX12_pass_18 : decode cX12_pass 18 = .ok (.iload_n 2, 1) := by decide +kernel
theorem dX12_pass_19 : decode cX12_pass 19 = .ok (.iload_n 3, 1) := by decide +kernel
theorem dX12_pass_20 : decode cX12_pass 20 = .ok (.invokevirtual 160, 3) := by decide +kernel
theorem dX12_pass_23 : decode cX12_pass 23 = .ok (.invokestatic 170, 3) := by decide +kernel
theorem dX12_pass_26 : decode cX12_pass 26 = .ok (.iinc 3 1, 3) := by decide +kernel
theorem dX12_pass_29 : decode cX12_pass 29 = .ok (.goto (-27), 3) := by decide +kernel
theorem dX12_pass_32 : decode cX12_pass 32 = .ok (.return_, 1) := by decide +kernel
theorem dX12_allPasses_0 : decode cX12_allPasses 0 = .ok (.iconst 0, 1) := by decide +kernel
theorem dX12_allPasses_1 : decode cX12_allPasses 1 = .ok (.istore_n 2, 1) := by decide +kernel
theorem dX12_allPasses_2 : decode cX12_allPasses 2 = .ok (.iload_n 2, 1) := by decide +kernel
theorem dX12_allPasses_3 : decode cX12_allPasses 3 = .ok (.aload_n 0, 1) := by decide +kernel
theorem dX12_allPasses_4 : decode cX12_allPasses 4 = .ok (.getfield 19, 3) := by decide +kernel
theorem dX12_allPasses_7 : decode cX12_allPasses 7 = .ok (.iconst 5, 1) := by decide +kernel
theorem dX12_allPasses_8 : decode cX12_allPasses 8 = .ok (.iaload, 1) := by decide +kernel
theorem dX12_allPasses_9 : decode cX12_allPasses 9 = .ok (.if_icmp .ge 15, 3) := by decide +kernel
theorem dX12_allPasses_12 : decode cX12_allPasses 12 = .ok (.aload_n 0, 1) := by decide +kernel
theorem dX12_allPasses_13 : decode cX12_allPasses 13 = .ok (.aload_n 1, 1) := by decide +kernel
theorem dX12_allPasses_14 : decode cX12_allPasses 14 = .ok (.iload_n 2, 1) := by decide +kernel
theorem dX12_allPasses_15 : decode cX12_allPasses 15 = .ok (.invokevirtual 173, 3) := by decide +kernel
theorem dX12_allPasses_18 : decode cX12_allPasses 18 = .ok (.iinc 2 1, 3) := by decide +kernel
theorem dX12_allPasses_21 : decode cX12_allPasses 21 = .ok (.goto (-19), 3) := by decide +kernel
theorem dX12_allPasses_24 : decode cX12_allPasses 24 = .ok (.return_, 1) := by decide +kernel
theorem dX12_stands_0 : decode cX12_stands 0 = .ok (.aload_n 0, 1) := by decide +kernel
theorem dX12_stands_1 : decode cX12_stands 1 = .ok (.bipush 6, 2) := by decide +kernel
theorem dX12_stands_3 : decode cX12_stands 3 = .ok (.iload_n 1, 1) := by decide +kernel
theorem dX12_stands_4 : decode cX12_stands 4 = .ok (.iadd, 1) := by decide +kernel
theorem dX12_stands_5 : decode cX12_stands 5 = .ok (.aload_n 0, 1) := by decide +kernel
theorem dX12_stands_6 : decode cX12_stands 6 = .ok (.bipush 6, 2) := by decide +kernel
theorem dX12_stands_8 : decode cX12_stands 8 = .ok (.iload_n 1, 1) := by decide +kernel
theorem dX12_stands_9 : decode cX12_stands 9 = .ok (.iadd, 1) := by decide +kernel
theorem dX12_stands_10 : decode cX12_stands 10 = .ok (.iaload, 1) := by decide +kernel
theorem dX12_stands_11 : decode cX12_stands 11 = .ok (.bipush 10, 2) := by decide +kernel
theorem dX12_stands_13 : decode cX12_stands 13 = .ok (.if_icmp .ge 7, 3) := by decide +kernel
theorem dX12_stands_16 : decode cX12_stands 16 = .ok (.iconst 0, 1) := by decide +kernel
theorem dX12_stands_17 : decode cX12_stands 17 = .ok (.goto 12, 3) := by decide +kernel
theorem dX12_stands_20 : decode cX12_stands 20 = .ok (.aload_n 0, 1) := by decide +kernel
theorem dX12_stands_21 : decode cX12_stands 21 = .ok (.bipush 6, 2) := by decide +kernel
theorem dX12_stands_23 : decode cX12_stands 23 = .ok (.iload_n 1, 1) := by decide +kernel
theorem dX12_stands_24 : decode cX12_stands 24 = .ok (.iadd, 1) := by decide +kernel
theorem dX12_stands_25 : decode cX12_stands 25 = .ok (.iaload, 1) := by decide +kernel
theorem dX12_stands_26 : decode cX12_stands 26 = .ok (.bipush 10, 2) := by decide +kernel
theorem dX12_stands_28 : decode cX12_stands 28 = .ok (.isub, 1) := by decide +kernel
theorem dX12_stands_29 : decode cX12_stands 29 = .ok (.iastore, 1) := by decide +kernel
theorem dX12_stands_30 : decode cX12_stands 30 = .ok (.aload_n 0, 1) := by decide +kernel
theorem dX12_stands_31 : decode cX12_stands 31 = .ok (.bipush 21, 2) := by decide +kernel
theorem dX12_stands_33 : decode cX12_stands 33 = .ok (.iload_n 1, 1) := by decide +kernel
theorem dX12_stands_34 : decode cX12_stands 34 = .ok (.iadd, 1) := by decide +kernel
theorem dX12_stands_35 : decode cX12_stands 35 = .ok (.iconst 0, 1) := by decide +kernel
theorem dX12_stands_36 : decode cX12_stands 36 = .ok (.iastore, 1) := by decide +kernel
theorem dX12_stands_37 : decode cX12_stands 37 = .ok (.return_, 1) := by decide +kernel
theorem dX12_rests_0 : decode cX12_rests 0 = .ok (.iconst 0, 1) := by decide +kernel
theorem dX12_rests_1 : decode cX12_rests 1 = .ok (.istore_n 1, 1) := by decide +kernel
theorem dX12_rests_2 : decode cX12_rests 2 = .ok (.iload_n 1, 1) := by decide +kernel
theorem dX12_rests_3 : decode cX12_rests 3 = .ok (.bipush 15, 2) := by decide +kernel
theorem dX12_rests_5 : decode cX12_rests 5 = .ok (.if_icmp .ge 71, 3) := by decide +kernel
theorem dX12_rests_8 : decode cX12_rests 8 = .ok (.aload_n 0, 1) := by decide +kernel
theorem dX12_rests_9 : decode cX12_rests 9 = .ok (.bipush 6, 2) := by decide +kernel
theorem dX12_rests_11 : decode cX12_rests 11 = .ok (.iload_n 1, 1) := by decide +kernel
theorem dX12_rests_12 : decode cX12_rests 12 = .ok (.iadd, 1) := by decide +kernel
theorem dX12_rests_13 : decode cX12_rests 13 = .ok (.aload_n 0, 1) := by decide +kernel
theorem dX12_rests_14 : decode cX12_rests 14 = .ok (.bipush 6, 2) := by decide +kernel
theorem dX12_rests_16 : decode cX12_rests 16 = .ok (.iload_n 1, 1) := by decide +kernel
theorem dX12_rests_17 : decode cX12_rests 17 = .ok (.iadd, 1) := by decide +kernel
theorem dX12_rests_18 : decode cX12_rests 18 = .ok (.iaload, 1) := by decide +kernel
theorem dX12_rests_19 : decode cX12_rests 19 = .ok (.aload_n 0, 1) := by decide +kernel
theorem dX12_rests_20 : decode cX12_rests 20 = .ok (.iconst 1, 1) := by decide +kernel
theorem dX12_rests_21 : decode cX12_rests 21 = .ok (.iaload, 1) := by decide +kernel
theorem dX12_rests_22 : decode cX12_rests 22 = .ok (.if_icmp .ge 7, 3) := by decide +kernel
theorem dX12_rests_25 : decode cX12_rests 25 = .ok (.iconst 0, 1) := by decide +kernel
theorem dX12_rests_26 : decode cX12_rests 26 = .ok (.goto 13, 3) := by decide +kernel
theorem dX12_rests_29 : decode cX12_rests 29 = .ok (.aload_n 0, 1) := by decide +kernel
theorem dX12_rests_30 : decode cX12_rests 30 = .ok (.bipush 6, 2) := by decide +kernel
theorem dX12_rests_32 : decode cX12_rests 32 = .ok (.iload_n 1, 1) := by decide +kernel
theorem dX12_rests_33 : decode cX12_rests 33 = .ok (.iadd, 1) := by decide +kernel
theorem dX12_rests_34 : decode cX12_rests 34 = .ok (.iaload, 1) := by decide +kernel
theorem dX12_rests_35 : decode cX12_rests 35 = .ok (.aload_n 0, 1) := by decide +kernel
theorem dX12_rests_36 : decode cX12_rests 36 = .ok (.iconst 1, 1) := by decide +kernel
theorem dX12_rests_37 : decode cX12_rests 37 = .ok (.iaload, 1) := by decide +kernel
theorem dX12_rests_38 : decode cX12_rests 38 = .ok (.isub, 1) := by decide +kernel
theorem dX12_rests_39 : decode cX12_rests 39 = .ok (.iastore, 1) := by decide +kernel
theorem dX12_rests_40 : decode cX12_rests 40 = .ok (.aload_n 0, 1) := by decide +kernel
theorem dX12_rests_41 : decode cX12_rests 41 = .ok (.bipush 21, 2) := by decide +kernel
theorem dX12_rests_43 : decode cX12_rests 43 = .ok (.iload_n 1, 1) := by decide +kernel
theorem dX12_rests_44 : decode cX12_rests 44 = .ok (.iadd, 1) := by decide +kernel
theorem dX12_rests_45 : decode cX12_rests 45 = .ok (.iconst 0, 1) := by decide +kernel
theorem dX12_rests_46 : decode cX12_rests 46 = .ok (.iastore, 1) := by decide +kernel
theorem dX12_rests_47 : decode cX12_rests 47 = .ok (.aload_n 0, 1) := by decide +kernel
theorem dX12_rests_48 : decode cX12_rests 48 = .ok (.bipush 36, 2) := by decide +kernel
theorem dX12_rests_50 : decode cX12_rests 50 = .ok (.iload_n 1, 1) := by decide +kernel
theorem dX12_rests_51 : decode cX12_rests 51 = .ok (.iadd, 1) := by decide +kernel
theorem dX12_rests_52 : decode cX12_rests 52 = .ok (.dup2, 1) := by decide +kernel
theorem dX12_rests_53 : decode cX12_rests 53 = .ok (.iaload, 1) := by decide +kernel
theorem dX12_rests_54 : decode cX12_rests 54 = .ok (.aload_n 0, 1) := by decide +kernel
theorem dX12_rests_55 : decode cX12_rests 55 = .ok (.bipush 36, 2) := by decide +kernel
theorem dX12_rests_57 : decode cX12_rests 57 = .ok (.iload_n 1, 1) := by decide +kernel
theorem dX12_rests_58 : decode cX12_rests 58 = .ok (.iadd, 1) := by decide +kernel
theorem dX12_rests_59 : decode cX12_rests 59 = .ok (.iaload, 1) := by decide +kernel
theorem dX12_rests_60 : decode cX12_rests 60 = .ok (.ifCond .le 7, 3) := by decide +kernel
theorem dX12_rests_63 : decode cX12_rests 63 = .ok (.iconst 1, 1) := by decide +kernel
theorem dX12_rests_64 : decode cX12_rests 64 = .ok (.goto 4, 3) := by decide +kernel
theorem dX12_rests_67 : decode cX12_rests 67 = .ok (.iconst 0, 1) := by decide +kernel
theorem dX12_rests_68 : decode cX12_rests 68 = .ok (.isub, 1) := by decide +kernel
theorem dX12_rests_69 : decode cX12_rests 69 = .ok (.iastore, 1) := by decide +kernel
theorem dX12_rests_70 : decode cX12_rests 70 = .ok (.iinc 1 1, 3) := by decide +kernel
theorem dX12_rests_73 : decode cX12_rests 73 = .ok (.goto (-71), 3) := by decide +kernel
theorem dX12_rests_76 : decode cX12_rests 76 = .ok (.return_, 1) := by decide +kernel
theorem dX12_filmOf_0 : decode cX12_filmOf 0 = .ok (.iconst 0, 1) := by decide +kernel
theorem dX12_filmOf_1 : decode cX12_filmOf 1 = .ok (.istore_n 1, 1) := by decide +kernel
theorem dX12_filmOf_2 : decode cX12_filmOf 2 = .ok (.iconst 0, 1) := by decide +kernel
theorem dX12_filmOf_3 : decode cX12_filmOf 3 = .ok (.istore_n 2, 1) := by decide +kernel
theorem dX12_filmOf_4 : decode cX12_filmOf 4 = .ok (.iload_n 2, 1) := by decide +kernel
theorem dX12_filmOf_5 : decode cX12_filmOf 5 = .ok (.bipush 15, 2) := by decide +kernel
theorem dX12_filmOf_7 : decode cX12_filmOf 7 = .ok (.if_icmp .ge 18, 3) := by decide +kernel
theorem dX12_filmOf_10 : decode cX12_filmOf 10 = .ok (.iload_n 1, 1) := by decide +kernel
theorem dX12_filmOf_11 : decode cX12_filmOf 11 = .ok (.aload_n 0, 1) := by decide +kernel
theorem dX12_filmOf_12 : decode cX12_filmOf 12 = .ok (.bipush 6, 2) := by decide +kernel
theorem dX12_filmOf_14 : decode cX12_filmOf 14 = .ok (.iload_n 2, 1) := by decide +kernel
theorem dX12_filmOf_15 : decode cX12_filmOf 15 = .ok (.iadd, 1) := by decide +kernel
theorem dX12_filmOf_16 : decode cX12_filmOf 16 = .ok (.iaload, 1) := by decide +kernel
theorem dX12_filmOf_17 : decode cX12_filmOf 17 = .ok (.iadd, 1) := by decide +kernel
theorem dX12_filmOf_18 : decode cX12_filmOf 18 = .ok (.istore_n 1, 1) := by decide +kernel
theorem dX12_filmOf_19 : decode cX12_filmOf 19 = .ok (.iinc 2 1, 3) := by decide +kernel
theorem dX12_filmOf_22 : decode cX12_filmOf 22 = .ok (.goto (-18), 3) := by decide +kernel
theorem dX12_filmOf_25 : decode cX12_filmOf 25 = .ok (.iload_n 1, 1) := by decide +kernel
theorem dX12_filmOf_26 : decode cX12_filmOf 26 = .ok (.ireturn, 1) := by decide +kernel
theorem dX12_unevenOf_0 : decode cX12_unevenOf 0 = .ok (.iconst 0, 1) := by decide +kernel
theorem dX12_unevenOf_1 : decode cX12_unevenOf 1 = .ok (.istore_n 1, 1) := by decide +kernel
theorem dX12_unevenOf_2 : decode cX12_unevenOf 2 = .ok (.sipush 999, 3) := by decide +kernel
theorem dX12_unevenOf_5 : decode cX12_unevenOf 5 = .ok (.istore_n 2, 1) := by decide +kernel
theorem dX12_unevenOf_6 : decode cX12_unevenOf 6 = .ok (.iconst 0, 1) := by decide +kernel
theorem dX12_unevenOf_7 : decode cX12_unevenOf 7 = .ok (.istore_n 3, 1) := by decide +kernel
theorem dX12_unevenOf_8 : decode cX12_unevenOf 8 = .ok (.iload_n 3, 1) := by decide +kernel
theorem dX12_unevenOf_9 : decode cX12_unevenOf 9 = .ok (.bipush 15, 2) := by decide +kernel
theorem dX12_unevenOf_11 : decode cX12_unevenOf 11 = .ok (.if_icmp .ge 51, 3) := by decide +kernel
theorem dX12_unevenOf_14 : decode cX12_unevenOf 14 = .ok (.aload_n 0, 1) := by decide +kernel
theorem dX12_unevenOf_15 : decode cX12_unevenOf 15 = .ok (.bipush 6, 2) := by decide +kernel
theorem dX12_unevenOf_17 : decode cX12_unevenOf 17 = .ok (.iload_n 3, 1) := by decide +kernel
theorem dX12_unevenOf_18 : decode cX12_unevenOf 18 = .ok (.iadd, 1) := by decide +kernel
theorem dX12_unevenOf_19 : decode cX12_unevenOf 19 = .ok (.iaload, 1) := by decide +kernel
theorem dX12_unevenOf_20 : decode cX12_unevenOf 20 = .ok (.iload_n 1, 1) := by decide +kernel
theorem dX12_unevenOf_21 : decode cX12_unevenOf 21 = .ok (.if_icmp .le 12, 3) := by decide +kernel
theorem dX12_unevenOf_24 : decode cX12_unevenOf 24 = .ok (.aload_n 0, 1) := by decide +kernel
theorem dX12_unevenOf_25 : decode cX12_unevenOf 25 = .ok (.bipush 6, 2) := by decide +kernel
theorem dX12_unevenOf_27 : decode cX12_unevenOf 27 = .ok (.iload_n 3, 1) := by decide +kernel
theorem dX12_unevenOf_28 : decode cX12_unevenOf 28 = .ok (.iadd, 1) := by decide +kernel
theorem dX12_unevenOf_29 : decode cX12_unevenOf 29 = .ok (.iaload, 1) := by decide +kernel
theorem dX12_unevenOf_30 : decode cX12_unevenOf 30 = .ok (.goto 4, 3) := by decide +kernel
theorem dX12_unevenOf_33 : decode cX12_unevenOf 33 = .ok (.iload_n 1, 1) := by decide +kernel
theorem dX12_unevenOf_34 : decode cX12_unevenOf 34 = .ok (.istore_n 1, 1) := by decide +kernel
theorem dX12_unevenOf_35 : decode cX12_unevenOf 35 = .ok (.aload_n 0, 1) := by decide +kernel
theorem dX12_unevenOf_36 : decode cX12_unevenOf 36 = .ok (.bipush 6, 2) := by decide +kernel
theorem dX12_unevenOf_38 : decode cX12_unevenOf 38 = .ok (.iload_n 3, 1) := by decide +kernel
theorem dX12_unevenOf_39 : decode cX12_unevenOf 39 = .ok (.iadd, 1) := by decide +kernel
theorem dX12_unevenOf_40 : decode cX12_unevenOf 40 = .ok (.iaload, 1) := by decide +kernel
theorem dX12_unevenOf_41 : decode cX12_unevenOf 41 = .ok (.iload_n 2, 1) := by decide +kernel
theorem dX12_unevenOf_42 : decode cX12_unevenOf 42 = .ok (.if_icmp .ge 12, 3) := by decide +kernel
theorem dX12_unevenOf_45 : decode cX12_unevenOf 45 = .ok (.aload_n 0, 1) := by decide +kernel
theorem dX12_unevenOf_46 : decode cX12_unevenOf 46 = .ok (.bipush 6, 2) := by decide +kernel
theorem dX12_unevenOf_48 : decode cX12_unevenOf 48 = .ok (.iload_n 3, 1) := by decide +kernel
theorem dX12_unevenOf_49 : decode cX12_unevenOf 49 = .ok (.iadd, 1) := by decide +kernel
theorem dX12_unevenOf_50 : decode cX12_unevenOf 50 = .ok (.iaload, 1) := by decide +kernel
theorem dX12_unevenOf_51 : decode cX12_unevenOf 51 = .ok (.goto 4, 3) := by decide +kernel
theorem dX12_unevenOf_54 : decode cX12_unevenOf 54 = .ok (.iload_n 2, 1) := by decide +kernel
theorem dX12_unevenOf_55 : decode cX12_unevenOf 55 = .ok (.istore_n 2, 1) := by decide +kernel
theorem dX12_unevenOf_56 : decode cX12_unevenOf 56 = .ok (.iinc 3 1, 3) := by decide +kernel
theorem dX12_unevenOf_59 : decode cX12_unevenOf 59 = .ok (.goto (-51), 3) := by decide +kernel
theorem dX12_unevenOf_62 : decode cX12_unevenOf 62 = .ok (.iload_n 1, 1) := by decide +kernel
theorem dX12_unevenOf_63 : decode cX12_unevenOf 63 = .ok (.iload_n 2, 1) := by decide +kernel
theorem dX12_unevenOf_64 : decode cX12_unevenOf 64 = .ok (.isub, 1) := by decide +kernel
theorem dX12_unevenOf_65 : decode cX12_unevenOf 65 = .ok (.ireturn, 1) := by decide +kernel
theorem dX12_layThen_0 : decode cX12_layThen 0 = .ok (.iconst 0, 1) := by decide +kernel
theorem dX12_layThen_1 : decode cX12_layThen 1 = .ok (.istore_n 1, 1) := by decide +kernel
theorem dX12_layThen_2 : decode cX12_layThen 2 = .ok (.iload_n 1, 1) := by decide +kernel
theorem dX12_layThen_3 : decode cX12_layThen 3 = .ok (.bipush 95, 2) := by decide +kernel
theorem dX12_layThen_5 : decode cX12_layThen 5 = .ok (.if_icmp .ge 21, 3) := by decide +kernel
theorem dX12_layThen_8 : decode cX12_layThen 8 = .ok (.aload_n 0, 1) := by decide +kernel
theorem dX12_layThen_9 : decode cX12_layThen 9 = .ok (.getfield 25, 3) := by decide +kernel
theorem dX12_layThen_12 : decode cX12_layThen 12 = .ok (.iload_n 1, 1) := by decide +kernel
theorem dX12_layThen_13 : decode cX12_layThen 13 = .ok (.aload_n 0, 1) := by decide +kernel
theorem dX12_layThen_14 : decode cX12_layThen 14 = .ok (.getfield 19, 3) := by decide +kernel
theorem dX12_layThen_17 : decode cX12_layThen 17 = .ok (.iload_n 1, 1) := by decide +kernel
theorem dX12_layThen_18 : decode cX12_layThen 18 = .ok (.iaload, 1) := by decide +kernel
theorem dX12_layThen_19 : decode cX12_layThen 19 = .ok (.iastore, 1) := by decide +kernel
theorem dX12_layThen_20 : decode cX12_layThen 20 = .ok (.iinc 1 1, 3) := by decide +kernel
theorem dX12_layThen_23 : decode cX12_layThen 23 = .ok (.goto (-21), 3) := by decide +kernel
theorem dX12_layThen_26 : decode cX12_layThen 26 = .ok (.return_, 1) := by decide +kernel
theorem dX12_keep_0 : decode cX12_keep 0 = .ok (.aload_n 0, 1) := by decide +kernel
theorem dX12_keep_1 : decode cX12_keep 1 = .ok (.getfield 150, 3) := by decide +kernel
theorem dX12_keep_4 : decode cX12_keep 4 = .ok (.bipush 24, 2) := by decide +kernel
theorem dX12_keep_6 : decode cX12_keep 6 = .ok (.if_icmp .ne 43, 3) := by decide +kernel
theorem dX12_keep_9 : decode cX12_keep 9 = .ok (.iconst 0, 1) := by decide +kernel
theorem dX12_keep_10 : decode cX12_keep 10 = .ok (.istore_n 1, 1) := by decide +kernel
theorem dX12_keep_11 : decode cX12_keep 11 = .ok (.iload_n 1, 1) := by decide +kernel
theorem dX12_keep_12 : decode cX12_keep 12 = .ok (.sipush 2185, 3) := by decide +kernel
theorem dX12_keep_15 : decode cX12_keep 15 = .ok (.if_icmp .ge 24, 3) := by decide +kernel
theorem dX12_keep_18 : decode cX12_keep 18 = .ok (.aload_n 0, 1) := by decide +kernel
theorem dX12_keep_19 : decode cX12_keep 19 = .ok (.getfield 28, 3) := by decide +kernel
theorem dX12_keep_22 : decode cX12_keep 22 = .ok (.iload_n 1, 1) := by decide +kernel
theorem dX12_keep_23 : decode cX12_keep 23 = .ok (.aload_n 0, 1) := by decide +kernel
theorem dX12_keep_24 : decode cX12_keep 24 = .ok (.getfield 28, 3) := by decide +kernel
theorem dX12_keep_27 : decode cX12_keep 27 = .ok (.iload_n 1, 1) := by decide +kernel
theorem dX12_keep_28 : decode cX12_keep 28 = .ok (.bipush 95, 2) := by decide +kernel
theorem dX12_keep_30 : decode cX12_keep 30 = .ok (.iadd, 1) := by decide +kernel
theorem dX12_keep_31 : decode cX12_keep 31 = .ok (.iaload, 1) := by decide +kernel
theorem dX12_keep_32 : decode cX12_keep 32 = .ok (.iastore, 1) := by decide +kernel
theorem dX12_keep_33 : decode cX12_keep 33 = .ok (.iinc 1 1, 3) := by decide +kernel
theorem dX12_keep_36 : decode cX12_keep 36 = .ok (.goto (-25), 3) := by decide +kernel
theorem dX12_keep_39 : decode cX12_keep 39 = .ok (.aload_n 0, 1) := by decide +kernel
theorem dX12_keep_40 : decode cX12_keep 40 = .ok (.dup, 1) := by decide +kernel
theorem dX12_keep_41 : decode cX12_keep 41 = .ok (.getfield 150, 3) := by decide +kernel
theorem dX12_keep_44 : decode cX12_keep 44 = .ok (.iconst 1, 1) := by decide +kernel
theorem dX12_keep_45 : decode cX12_keep 45 = .ok (.isub, 1) := by decide +kernel
theorem dX12_keep_46 : decode cX12_keep 46 = .ok (.putfield 150, 3) := by decide +kernel
theorem dX12_keep_49 : decode cX12_keep 49 = .ok (.iconst 0, 1) := by decide +kernel
theorem dX12_keep_50 : decode cX12_keep 50 = .ok (.istore_n 1, 1) := by decide +kernel
theorem dX12_keep_51 : decode cX12_keep 51 = .ok (.iload_n 1, 1) := by decide +kernel
theorem dX12_keep_52 : decode cX12_keep 52 = .ok (.bipush 95, 2) := by decide +kernel
theorem dX12_keep_54 : decode cX12_keep 54 = .ok (.if_icmp .ge 29, 3) := by decide +kernel
theorem dX12_keep_57 : decode cX12_keep 57 = .ok (.aload_n 0, 1) := by decide +kernel
theorem dX12_keep_58 : decode cX12_keep 58 = .ok (.getfield 28, 3) := by decide +kernel
theorem dX12_keep_61 : decode cX12_keep 61 = .ok (.bipush 95, 2) := by decide +kernel
theorem dX12_keep_63 : decode cX12_keep 63 = .ok (.aload_n 0, 1) := by decide +kernel
theorem dX12_keep_64 : decode cX12_keep 64 = .ok (.getfield 150, 3) := by decide +kernel
theorem dX12_keep_67 : decode cX12_keep 67 = .ok (.imul, 1) := by decide +kernel
theorem dX12_keep_68 : decode cX12_keep 68 = .ok (.iload_n 1, 1) := by decide +kernel
theorem dX12_keep_69 : decode cX12_keep 69 = .ok (.iadd, 1) := by decide +kernel
theorem dX12_keep_70 : decode cX12_keep 70 = .ok (.aload_n 0, 1) := by decide +kernel
theorem dX12_keep_71 : decode cX12_keep 71 = .ok (.getfield 19, 3) := by decide +kernel
theorem dX12_keep_74 : decode cX12_keep 74 = .ok (.iload_n 1, 1) := by decide +kernel
theorem dX12_keep_75 : decode cX12_keep 75 = .ok (.iaload, 1) := by decide +kernel
theorem dX12_keep_76 : decode cX12_keep 76 = .ok (.iastore, 1) := by decide +kernel
theorem dX12_keep_77 : decode cX12_keep 77 = .ok (.iinc 1 1, 3) := by decide +kernel
theorem dX12_keep_80 : decode cX12_keep 80 = .ok (.goto (-29), 3) := by decide +kernel
theorem dX12_keep_83 : decode cX12_keep 83 = .ok (.aload_n 0, 1) := by decide +kernel
theorem dX12_keep_84 : decode cX12_keep 84 = .ok (.dup, 1) := by decide +kernel
theorem dX12_keep_85 : decode cX12_keep 85 = .ok (.getfield 150, 3) := by decide +kernel
theorem dX12_keep_88 : decode cX12_keep 88 = .ok (.iconst 1, 1) := by decide +kernel
theorem dX12_keep_89 : decode cX12_keep 89 = .ok (.iadd, 1) := by decide +kernel
theorem dX12_keep_90 : decode cX12_keep 90 = .ok (.putfield 150, 3) := by decide +kernel
theorem dX12_keep_93 : decode cX12_keep 93 = .ok (.return_, 1) := by decide +kernel
theorem dX12_atMost_0 : decode cX12_atMost 0 = .ok (.iload_n 0, 1) := by decide +kernel
theorem dX12_atMost_1 : decode cX12_atMost 1 = .ok (.iload_n 1, 1) := by decide +kernel
theorem dX12_atMost_2 : decode cX12_atMost 2 = .ok (.if_icmp .le 7, 3) := by decide +kernel
theorem dX12_atMost_5 : decode cX12_atMost 5 = .ok (.iload_n 1, 1) := by decide +kernel
theorem dX12_atMost_6 : decode cX12_atMost 6 = .ok (.goto 4, 3) := by decide +kernel
theorem dX12_atMost_9 : decode cX12_atMost 9 = .ok (.iload_n 0, 1) := by decide +kernel
theorem dX12_atMost_10 : decode cX12_atMost 10 = .ok (.ireturn, 1) := by decide +kernel
theorem dX12_charge_0 : decode cX12_charge 0 = .ok (.aload_n 0, 1) := by decide +kernel
theorem dX12_charge_1 : decode cX12_charge 1 = .ok (.iconst 0, 1) := by decide +kernel
theorem dX12_charge_2 : decode cX12_charge 2 = .ok (.putfield 44, 3) := by decide +kernel
theorem dX12_charge_5 : decode cX12_charge 5 = .ok (.aload_n 0, 1) := by decide +kernel
theorem dX12_charge_6 : decode cX12_charge 6 = .ok (.invokevirtual 177, 3) := by decide +kernel
theorem dX12_charge_9 : decode cX12_charge 9 = .ok (.ifCond .ne 6, 3) := by decide +kernel
theorem dX12_charge_12 : decode cX12_charge 12 = .ok (.ldc 180, 2) := by decide +kernel
theorem dX12_charge_14 : decode cX12_charge 14 = .ok (.ireturn, 1) := by decide +kernel
theorem dX12_charge_15 : decode cX12_charge 15 = .ok (.iload_n 1, 1) := by decide +kernel
theorem dX12_charge_16 : decode cX12_charge 16 = .ok (.i2l, 1) := by decide +kernel
theorem dX12_charge_17 : decode cX12_charge 17 = .ok (.lconst 0, 1) := by decide +kernel
theorem dX12_charge_18 : decode cX12_charge 18 = .ok (.ldc2_w 181, 3) := by decide +kernel
theorem dX12_charge_21 : decode cX12_charge 21 = .ok (.invokestatic 54, 3) := by decide +kernel
theorem dX12_charge_24 : decode cX12_charge 24 = .ok (.ifCond .eq 15, 3) := by decide +kernel
theorem dX12_charge_27 : decode cX12_charge 27 = .ok (.iload_n 2, 1) := by decide +kernel
theorem dX12_charge_28 : decode cX12_charge 28 = .ok (.i2l, 1) := by decide +kernel
theorem dX12_charge_29 : decode cX12_charge 29 = .ok (.lconst 0, 1) := by decide +kernel
theorem dX12_charge_30 : decode cX12_charge 30 = .ok (.ldc2_w 181, 3) := by decide +kernel
theorem dX12_charge_33 : decode cX12_charge 33 = .ok (.invokestatic 54, 3) := by decide +kernel
theorem dX12_charge_36 : decode cX12_charge 36 = .ok (.ifCond .ne 6, 3) := by decide +kernel
theorem dX12_charge_39 : decode cX12_charge 39 = .ok (.ldc 64, 2) := by decide +kernel
theorem dX12_charge_41 : decode cX12_charge 41 = .ok (.ireturn, 1) := by decide +kernel
theorem dX12_charge_42 : decode cX12_charge 42 = .ok (.aload_n 0, 1) := by decide +kernel
theorem dX12_charge_43 : decode cX12_charge 43 = .ok (.invokevirtual 183, 3) := by decide +kernel
theorem dX12_charge_46 : decode cX12_charge 46 = .ok (.aload_n 0, 1) := by decide +kernel
theorem dX12_charge_47 : decode cX12_charge 47 = .ok (.getfield 19, 3) := by decide +kernel
theorem dX12_charge_50 : decode cX12_charge 50 = .ok (.iconst 2, 1) := by decide +kernel
theorem dX12_charge_51 : decode cX12_charge 51 = .ok (.iaload, 1) := by decide +kernel
theorem dX12_charge_52 : decode cX12_charge 52 = .ok (.iload_n 1, 1) := by decide +kernel
theorem dX12_charge_53 : decode cX12_charge 53 = .ok (.iadd, 1) := by decide +kernel
theorem dX12_charge_54 : decode cX12_charge 54 = .ok (.bipush 99, 2) := by decide +kernel
theorem dX12_charge_56 : decode cX12_charge 56 = .ok (.invokestatic 186, 3) := by decide +kernel
theorem dX12_charge_59 : decode cX12_charge 59 = .ok (.istore_n 3, 1) := by decide +kernel
theorem dX12_charge_60 : decode cX12_charge 60 = .ok (.aload_n 0, 1) := by decide +kernel
theorem dX12_charge_61 : decode cX12_charge 61 = .ok (.getfield 19, 3) := by decide +kernel
theorem dX12_charge_64 : decode cX12_charge 64 = .ok (.iconst 4, 1) := by decide +kernel
theorem dX12_charge_65 : decode cX12_charge 65 = .ok (.dup2, 1) := by decide +kernel
theorem dX12_charge_66 : decode cX12_charge 66 = .ok (.iaload, 1) := by decide +kernel
theorem dX12_charge_67 : decode cX12_charge 67 = .ok (.iload_n 3, 1) := by decide +kernel
theorem dX12_charge_68 : decode cX12_charge 68 = .ok (.aload_n 0, 1) := by decide +kernel
theorem dX12_charge_69 : decode cX12_charge 69 = .ok (.getfield 19, 3) := by decide +kernel
theorem dX12_charge_72 : decode cX12_charge 72 = .ok (.iconst 2, 1) := by decide +kernel
theorem dX12_charge_73 : decode cX12_charge 73 = .ok (.iaload, 1) := by decide +kernel
theorem dX12_charge_74 : decode cX12_charge 74 = .ok (.isub, 1) := by decide +kernel
theorem dX12_charge_75 : decode cX12_charge 75 = .ok (.iadd, 1) := by decide +kernel
theorem dX12_charge_76 : decode cX12_charge 76 = .ok (.iastore, 1) := by decide +kernel
theorem dX12_charge_77 : decode cX12_charge 77 = .ok (.aload_n 0, 1) := by decide +kernel
theorem dX12_charge_78 : decode cX12_charge 78 = .ok (.getfield 19, 3) := by decide +kernel
theorem dX12_charge_81 : decode cX12_charge 81 = .ok (.iconst 2, 1) := by decide +kernel
theorem dX12_charge_82 : decode cX12_charge 82 = .ok (.iload_n 3, 1) := by decide +kernel
theorem dX12_charge_83 : decode cX12_charge 83 = .ok (.iastore, 1) := by decide +kernel
theorem dX12_charge_84 : decode cX12_charge 84 = .ok (.aload_n 0, 1) := by decide +kernel
theorem dX12_charge_85 : decode cX12_charge 85 = .ok (.getfield 19, 3) := by decide +kernel
theorem dX12_charge_88 : decode cX12_charge 88 = .ok (.iconst 3, 1) := by decide +kernel
theorem dX12_charge_89 : decode cX12_charge 89 = .ok (.aload_n 0, 1) := by decide +kernel
theorem dX12_charge_90 : decode cX12_charge 90 = .ok (.getfield 19, 3) := by decide +kernel
theorem dX12_charge_93 : decode cX12_charge 93 = .ok (.iconst 3, 1) := by decide +kernel
theorem dX12_charge_94 : decode cX12_charge 94 = .ok (.iaload, 1) := by decide +kernel
theorem dX12_charge_95 : decode cX12_charge 95 = .ok (.iload_n 2, 1) := by decide +kernel
theorem dX12_charge_96 : decode cX12_charge 96 = .ok (.iadd, 1) := by decide +kernel
theorem dX12_charge_97 : decode cX12_charge 97 = .ok (.bipush 99, 2) := by decide +kernel
theorem dX12_charge_99 : decode cX12_charge 99 = .ok (.invokestatic 186, 3) := by decide +kernel
theorem dX12_charge_102 : decode cX12_charge 102 = .ok (.iastore, 1) := by decide +kernel
theorem dX12_charge_103 : decode cX12_charge 103 = .ok (.iload_n 3, 1) := by decide +kernel
theorem dX12_charge_104 : decode cX12_charge 104 = .ok (.ireturn, 1) := by decide +kernel
theorem dX12_make_0 : decode cX12_make 0 = .ok (.aload_n 0, 1) := by decide +kernel
theorem dX12_make_1 : decode cX12_make 1 = .ok (.iconst 0, 1) := by decide +kernel
theorem dX12_make_2 : decode cX12_make 2 = .ok (.putfield 44, 3) := by decide +kernel
theorem dX12_make_5 : decode cX12_make 5 = .ok (.aload_n 0, 1) := by decide +kernel
theorem dX12_make_6 : decode cX12_make 6 = .ok (.iload_n 1, 1) := by decide +kernel
theorem dX12_make_7 : decode cX12_make 7 = .ok (.invokevirtual 189, 3) := by decide +kernel
theorem dX12_make_10 : decode cX12_make 10 = .ok (.ifCond .ne 6, 3) := by decide +kernel
theorem dX12_make_13 : decode cX12_make 13 = .ok (.ldc 64, 2) := by decide +kernel
theorem dX12_make_15 : decode cX12_make 15 = .ok (.ireturn, 1) := by decide +kernel
theorem dX12_make_16 : decode cX12_make 16 = .ok (.aload_n 0, 1) := by decide +kernel
theorem dX12_make_17 : decode cX12_make 17 = .ok (.invokevirtual 183, 3) := by decide +kernel
theorem dX12_make_20 : decode cX12_make 20 = .ok (.aload_n 0, 1) := by decide +kernel
theorem dX12_make_21 : decode cX12_make 21 = .ok (.aload_n 0, 1) := by decide +kernel
theorem dX12_make_22 : decode cX12_make 22 = .ok (.getfield 19, 3) := by decide +kernel
theorem dX12_make_25 : decode cX12_make 25 = .ok (.iload_n 1, 1) := by decide +kernel
theorem dX12_make_26 : decode cX12_make 26 = .ok (.invokevirtual 173, 3) := by decide +kernel
theorem dX12_make_29 : decode cX12_make 29 = .ok (.aload_n 0, 1) := by decide +kernel
theorem dX12_make_30 : decode cX12_make 30 = .ok (.getfield 19, 3) := by decide +kernel
theorem dX12_make_33 : decode cX12_make 33 = .ok (.iconst 2, 1) := by decide +kernel
theorem dX12_make_34 : decode cX12_make 34 = .ok (.iaload, 1) := by decide +kernel
theorem dX12_make_35 : decode cX12_make 35 = .ok (.ireturn, 1) := by decide +kernel
theorem dX12_stand_0 : decode cX12_stand 0 = .ok (.aload_n 0, 1) := by decide +kernel
theorem dX12_stand_1 : decode cX12_stand 1 = .ok (.iconst 0, 1) := by decide +kernel
theorem dX12_stand_2 : decode cX12_stand 2 = .ok (.putfield 44, 3) := by decide +kernel
theorem dX12_stand_5 : decode cX12_stand 5 = .ok (.aload_n 0, 1) := by decide +kernel
theorem dX12_stand_6 : decode cX12_stand 6 = .ok (.invokevirtual 177, 3) := by decide +kernel
theorem dX12_stand_9 : decode cX12_stand 9 = .ok (.ifCond .ne 6, 3) := by decide +kernel
theorem dX12_stand_12 : decode cX12_stand 12 = .ok (.ldc 180, 2) := by decide +kernel
theorem dX12_stand_14 : decode cX12_stand 14 = .ok (.ireturn, 1) := by decide +kernel
theorem dX12_stand_15 : decode cX12_stand 15 = .ok (.iload_n 1, 1) := by decide +kernel
theorem dX12_stand_16 : decode cX12_stand 16 = .ok (.invokestatic 192, 3) := by decide +kernel
theorem dX12_stand_19 : decode cX12_stand 19 = .ok (.ifCond .ne 6, 3) := by decide +kernel
theorem dX12_stand_22 : decode cX12_stand 22 = .ok (.ldc 64, 2) := by decide +kernel
theorem dX12_stand_24 : decode cX12_stand 24 = .ok (.ireturn, 1) := by decide +kernel
theorem dX12_stand_25 : decode cX12_stand 25 = .ok (.aload_n 0, 1) := by decide +kernel
theorem dX12_stand_26 : decode cX12_stand 26 = .ok (.invokevirtual 183, 3) := by decide +kernel
theorem dX12_stand_29 : decode cX12_stand 29 = .ok (.aload_n 0, 1) := by decide +kernel
theorem dX12_stand_30 : decode cX12_stand 30 = .ok (.getfield 19, 3) := by decide +kernel
theorem dX12_stand_33 : decode cX12_stand 33 = .ok (.iload_n 1, 1) := by decide +kernel
theorem dX12_stand_34 : decode cX12_stand 34 = .ok (.invokestatic 195, 3) := by decide +kernel
theorem dX12_stand_37 : decode cX12_stand 37 = .ok (.aload_n 0, 1) := by decide +kernel
theorem dX12_stand_38 : decode cX12_stand 38 = .ok (.getfield 19, 3) := by decide +kernel
theorem dX12_stand_41 : decode cX12_stand 41 = .ok (.bipush 6, 2) := by decide +kernel
theorem dX12_stand_43 : decode cX12_stand 43 = .ok (.iload_n 1, 1) := by decide +kernel
theorem dX12_stand_44 : decode cX12_stand 44 = .ok (.iadd, 1) := by decide +kernel
theorem dX12_stand_45 : decode cX12_stand 45 = .ok (.iaload, 1) := by decide +kernel
theorem dX12_stand_46 : decode cX12_stand 46 = .ok (.ireturn, 1) := by decide +kernel
theorem dX12_rest_0 : decode cX12_rest 0 = .ok (.aload_n 0, 1) := by decide +kernel
theorem dX12_rest_1 : decode cX12_rest 1 = .ok (.iconst 0, 1) := by decide +kernel
theorem dX12_rest_2 : decode cX12_rest 2 = .ok (.putfield 44, 3) := by decide +kernel
theorem dX12_rest_5 : decode cX12_rest 5 = .ok (.aload_n 0, 1) := by decide +kernel
theorem dX12_rest_6 : decode cX12_rest 6 = .ok (.invokevirtual 177, 3) := by decide +kernel
theorem dX12_rest_9 : decode cX12_rest 9 = .ok (.ifCond .ne 6, 3) := by decide +kernel
theorem dX12_rest_12 : decode cX12_rest 12 = .ok (.ldc 180, 2) := by decide +kernel
theorem dX12_rest_14 : decode cX12_rest 14 = .ok (.ireturn, 1) := by decide +kernel
theorem dX12_rest_15 : decode cX12_rest 15 = .ok (.aload_n 0, 1) := by decide +kernel
theorem dX12_rest_16 : decode cX12_rest 16 = .ok (.invokevirtual 183, 3) := by decide +kernel
theorem dX12_rest_19 : decode cX12_rest 19 = .ok (.aload_n 0, 1) := by decide +kernel
theorem dX12_rest_20 : decode cX12_rest 20 = .ok (.getfield 19, 3) := by decide +kernel
theorem dX12_rest_23 : decode cX12_rest 23 = .ok (.invokestatic 198, 3) := by decide +kernel
theorem dX12_rest_26 : decode cX12_rest 26 = .ok (.aload_n 0, 1) := by decide +kernel
theorem dX12_rest_27 : decode cX12_rest 27 = .ok (.getfield 19, 3) := by decide +kernel
theorem dX12_rest_30 : decode cX12_rest 30 = .ok (.invokestatic 202, 3) := by decide +kernel
theorem dX12_rest_33 : decode cX12_rest 33 = .ok (.ireturn, 1) := by decide +kernel
theorem dX12_undo_0 : decode cX12_undo 0 = .ok (.aload_n 0, 1) := by decide +kernel
theorem dX12_undo_1 : decode cX12_undo 1 = .ok (.iconst 0, 1) := by decide +kernel
theorem dX12_undo_2 : decode cX12_undo 2 = .ok (.putfield 44, 3) := by decide +kernel
theorem dX12_undo_5 : decode cX12_undo 5 = .ok (.aload_n 0, 1) := by decide +kernel
theorem dX12_undo_6 : decode cX12_undo 6 = .ok (.getfield 150, 3) := by decide +kernel
theorem dX12_undo_9 : decode cX12_undo 9 = .ok (.ifCond .ne 6, 3) := by decide +kernel
theorem dX12_undo_12 : decode cX12_undo 12 = .ok (.ldc 180, 2) := by decide +kernel
theorem dX12_undo_14 : decode cX12_undo 14 = .ok (.ireturn, 1) := by decide +kernel
theorem dX12_undo_15 : decode cX12_undo 15 = .ok (.aload_n 0, 1) := by decide +kernel
theorem dX12_undo_16 : decode cX12_undo 16 = .ok (.dup, 1) := by decide +kernel
theorem dX12_undo_17 : decode cX12_undo 17 = .ok (.getfield 150, 3) := by decide +kernel
theorem dX12_undo_20 : decode cX12_undo 20 = .ok (.iconst 1, 1) := by decide +kernel
theorem dX12_undo_21 : decode cX12_undo 21 = .ok (.isub, 1) := by decide +kernel
theorem dX12_undo_22 : decode cX12_undo 22 = .ok (.putfield 150, 3) := by decide +kernel
theorem dX12_undo_25 : decode cX12_undo 25 = .ok (.iconst 0, 1) := by decide +kernel
theorem dX12_undo_26 : decode cX12_undo 26 = .ok (.istore_n 1, 1) := by decide +kernel
theorem dX12_undo_27 : decode cX12_undo 27 = .ok (.iload_n 1, 1) := by decide +kernel
theorem dX12_undo_28 : decode cX12_undo 28 = .ok (.bipush 95, 2) := by decide +kernel
theorem dX12_undo_30 : decode cX12_undo 30 = .ok (.if_icmp .ge 29, 3) := by decide +kernel
theorem dX12_undo_33 : decode cX12_undo 33 = .ok (.aload_n 0, 1) := by decide +kernel
theorem dX12_undo_34 : decode cX12_undo 34 = .ok (.getfield 19, 3) := by decide +kernel
theorem dX12_undo_37 : decode cX12_undo 37 = .ok (.iload_n 1, 1) := by decide +kernel
theorem dX12_undo_38 : decode cX12_undo 38 = .ok (.aload_n 0, 1) := by decide +kernel
theorem dX12_undo_39 : decode cX12_undo 39 = .ok (.getfield 28, 3) := by decide +kernel
theorem dX12_undo_42 : decode cX12_undo 42 = .ok (.bipush 95, 2) := by decide +kernel
theorem dX12_undo_44 : decode cX12_undo 44 = .ok (.aload_n 0, 1) := by decide +kernel
theorem dX12_undo_45 : decode cX12_undo 45 = .ok (.getfield 150, 3) := by decide +kernel
theorem dX12_undo_48 : decode cX12_undo 48 = .ok (.imul, 1) := by decide +kernel
theorem dX12_undo_49 : decode cX12_undo 49 = .ok (.iload_n 1, 1) := by decide +kernel
theorem dX12_undo_50 : decode cX12_undo 50 = .ok (.iadd, 1) := by decide +kernel
theorem dX12_undo_51 : decode cX12_undo 51 = .ok (.iaload, 1) := by decide +kernel
theorem dX12_undo_52 : decode cX12_undo 52 = .ok (.iastore, 1) := by decide +kernel
theorem dX12_undo_53 : decode cX12_undo 53 = .ok (.iinc 1 1, 3) := by decide +kernel
theorem dX12_undo_56 : decode cX12_undo 56 = .ok (.goto (-29), 3) := by decide +kernel
theorem dX12_undo_59 : decode cX12_undo 59 = .ok (.aload_n 0, 1) := by decide +kernel
theorem dX12_undo_60 : decode cX12_undo 60 = .ok (.getfield 150, 3) := by decide +kernel
theorem dX12_undo_63 : decode cX12_undo 63 = .ok (.ireturn, 1) := by decide +kernel
theorem dX12_cell_0 : decode cX12_cell 0 = .ok (.aload_n 0, 1) := by decide +kernel
theorem dX12_cell_1 : decode cX12_cell 1 = .ok (.iconst 0, 1) := by decide +kernel
theorem dX12_cell_2 : decode cX12_cell 2 = .ok (.putfield 44, 3) := by decide +kernel
theorem dX12_cell_5 : decode cX12_cell 5 = .ok (.aload_n 0, 1) := by decide +kernel
theorem dX12_cell_6 : decode cX12_cell 6 = .ok (.invokevirtual 177, 3) := by decide +kernel
theorem dX12_cell_9 : decode cX12_cell 9 = .ok (.ifCond .ne 6, 3) := by decide +kernel
theorem dX12_cell_12 : decode cX12_cell 12 = .ok (.ldc 180, 2) := by decide +kernel
theorem dX12_cell_14 : decode cX12_cell 14 = .ok (.ireturn, 1) := by decide +kernel
theorem dX12_cell_15 : decode cX12_cell 15 = .ok (.iload_n 1, 1) := by decide +kernel
theorem dX12_cell_16 : decode cX12_cell 16 = .ok (.invokestatic 192, 3) := by decide +kernel
theorem dX12_cell_19 : decode cX12_cell 19 = .ok (.ifCond .eq 15, 3) := by decide +kernel
theorem dX12_cell_22 : decode cX12_cell 22 = .ok (.iload_n 2, 1) := by decide +kernel
theorem dX12_cell_23 : decode cX12_cell 23 = .ok (.i2l, 1) := by decide +kernel
theorem dX12_cell_24 : decode cX12_cell 24 = .ok (.lconst 0, 1) := by decide +kernel
theorem dX12_cell_25 : decode cX12_cell 25 = .ok (.ldc2_w 206, 3) := by decide +kernel
theorem dX12_cell_28 : decode cX12_cell 28 = .ok (.invokestatic 54, 3) := by decide +kernel
theorem dX12_cell_31 : decode cX12_cell 31 = .ok (.ifCond .ne 6, 3) := by decide +kernel
theorem dX12_cell_34 : decode cX12_cell 34 = .ok (.ldc 64, 2) := by decide +kernel
theorem dX12_cell_36 : decode cX12_cell 36 = .ok (.ireturn, 1) := by decide +kernel
theorem dX12_cell_37 : decode cX12_cell 37 = .ok (.iconst 0, 1) := by decide +kernel
theorem dX12_cell_38 : decode cX12_cell 38 = .ok (.istore_n 3, 1) := by decide +kernel
theorem dX12_cell_39 : decode cX12_cell 39 = .ok (.iconst 0, 1) := by decide +kernel
theorem dX12_cell_40 : decode cX12_cell 40 = .ok (.istore 4, 2) := by decide +kernel
theorem dX12_cell_42 : decode cX12_cell 42 = .ok (.iload 4, 2) := by decide +kernel
theorem dX12_cell_44 : decode cX12_cell 44 = .ok (.aload_n 0, 1) := by decide +kernel
theorem dX12_cell_45 : decode cX12_cell 45 = .ok (.getfield 19, 3) := by decide +kernel
theorem dX12_cell_48 : decode cX12_cell 48 = .ok (.iconst 5, 1) := by decide +kernel
theorem dX12_cell_49 : decode cX12_cell 49 = .ok (.iaload, 1) := by decide +kernel
theorem dX12_cell_50 : decode cX12_cell 50 = .ok (.if_icmp .ge 25, 3) := by decide +kernel
theorem dX12_cell_53 : decode cX12_cell 53 = .ok (.iload_n 3, 1) := by decide +kernel
theorem dX12_cell_54 : decode cX12_cell 54 = .ok (.aload_n 0, 1) := by decide +kernel
theorem dX12_cell_55 : decode cX12_cell 55 = .ok (.iload 4, 2) := by decide +kernel
theorem dX12_cell_57 : decode cX12_cell 57 = .ok (.invokevirtual 208, 3) := by decide +kernel
theorem dX12_cell_60 : decode cX12_cell 60 = .ok (.iload_n 1, 1) := by decide +kernel
theorem dX12_cell_61 : decode cX12_cell 61 = .ok (.ishr, 1) := by decide +kernel
theorem dX12_cell_62 : decode cX12_cell 62 = .ok (.iconst 1, 1) := by decide +kernel
theorem dX12_cell_63 : decode cX12_cell 63 = .ok (.iand, 1) := by decide +kernel
theorem dX12_cell_64 : decode cX12_cell 64 = .ok (.iload 4, 2) := by decide +kernel
theorem dX12_cell_66 : decode cX12_cell 66 = .ok (.ishl, 1) := by decide +kernel
theorem dX12_cell_67 : decode cX12_cell 67 = .ok (.ior, 1) := by decide +kernel
theorem dX12_cell_68 : decode cX12_cell 68 = .ok (.istore_n 3, 1) := by decide +kernel
theorem dX12_cell_69 : decode cX12_cell 69 = .ok (.iinc 4 1, 3) := by decide +kernel
theorem dX12_cell_72 : decode cX12_cell 72 = .ok (.goto (-30), 3) := by decide +kernel
theorem dX12_cell_75 : decode cX12_cell 75 = .ok (.iload_n 2, 1) := by decide +kernel
theorem dX12_cell_76 : decode cX12_cell 76 = .ok (.ifCond .ne 15, 3) := by decide +kernel
theorem dX12_cell_79 : decode cX12_cell 79 = .ok (.aload_n 0, 1) := by decide +kernel
theorem dX12_cell_80 : decode cX12_cell 80 = .ok (.getfield 19, 3) := by decide +kernel
theorem dX12_cell_83 : decode cX12_cell 83 = .ok (.bipush 6, 2) := by decide +kernel
theorem dX12_cell_85 : decode cX12_cell 85 = .ok (.iload_n 1, 1) := by decide +kernel
theorem dX12_cell_86 : decode cX12_cell 86 = .ok (.iadd, 1) := by decide +kernel
theorem dX12_cell_87 : decode cX12_cell 87 = .ok (.iaload, 1) := by decide +kernel
theorem dX12_cell_88 : decode cX12_cell 88 = .ok (.goto 38, 3) := by decide +kernel
theorem dX12_cell_91 : decode cX12_cell 91 = .ok (.iload_n 2, 1) := by decide +kernel
theorem dX12_cell_92 : decode cX12_cell 92 = .ok (.iconst 1, 1) := by decide +kernel
theorem dX12_cell_93 : decode cX12_cell 93 = .ok (.if_icmp .ne 15, 3) := by decide +kernel
theorem dX12_cell_96 : decode cX12_cell 96 = .ok (.aload_n 0, 1) := by decide +kernel
theorem dX12_cell_97 : decode cX12_cell 97 = .ok (.getfield 19, 3) := by decide +kernel
theorem dX12_cell_100 : decode cX12_cell 100 = .ok (.bipush 21, 2) := by decide +kernel
theorem dX12_cell_102 : decode cX12_cell 102 = .ok (.iload_n 1, 1) := by decide +kernel
theorem dX12_cell_103 : decode cX12_cell 103 = .ok (.iadd, 1) := by decide +kernel
theorem dX12_cell_104 : decode cX12_cell 104 = .ok (.iaload, 1) := by decide +kernel
theorem dX12_cell_105 : decode cX12_cell 105 = .ok (.goto 21, 3) := by decide +kernel
theorem dX12_cell_108 : decode cX12_cell 108 = .ok (.iload_n 2, 1) := by decide +kernel
theorem dX12_cell_109 : decode cX12_cell 109 = .ok (.iconst 2, 1) := by decide +kernel
theorem dX12_cell_110 : decode cX12_cell 110 = .ok (.if_icmp .ne 15, 3) := by decide +kernel
theorem dX12_cell_113 : decode cX12_cell 113 = .ok (.aload_n 0, 1) := by decide +kernel
theorem dX12_cell_114 : decode cX12_cell 114 = .ok (.getfield 19, 3) := by decide +kernel
theorem dX12_cell_117 : decode cX12_cell 117 = .ok (.bipush 36, 2) := by decide +kernel
theorem dX12_cell_119 : decode cX12_cell 119 = .ok (.iload_n 1, 1) := by decide +kernel
theorem dX12_cell_120 : decode cX12_cell 120 = .ok (.iadd, 1) := by decide +kernel
theorem dX12_cell_121 : decode cX12_cell 121 = .ok (.iaload, 1) := by decide +kernel
theorem dX12_cell_122 : decode cX12_cell 122 = .ok (.goto 4, 3) := by decide +kernel
theorem dX12_cell_125 : decode cX12_cell 125 = .ok (.iload_n 3, 1) := by decide +kernel
theorem dX12_cell_126 : decode cX12_cell 126 = .ok (.ireturn, 1) := by decide +kernel
theorem dX12_path_0 : decode cX12_path 0 = .ok (.aload_n 0, 1) := by decide +kernel
theorem dX12_path_1 : decode cX12_path 1 = .ok (.iconst 0, 1) := by decide +kernel
theorem dX12_path_2 : decode cX12_path 2 = .ok (.putfield 44, 3) := by decide +kernel
theorem dX12_path_5 : decode cX12_path 5 = .ok (.aload_n 0, 1) := by decide +kernel
theorem dX12_path_6 : decode cX12_path 6 = .ok (.iload_n 1, 1) := by decide +kernel
theorem dX12_path_7 : decode cX12_path 7 = .ok (.invokevirtual 189, 3) := by decide +kernel
theorem dX12_path_10 : decode cX12_path 10 = .ok (.ifCond .eq 8, 3) := by decide +kernel
theorem dX12_path_13 : decode cX12_path 13 = .ok (.iload_n 2, 1) := by decide +kernel
theorem dX12_path_14 : decode cX12_path 14 = .ok (.iconst (-1), 1) := by decide +kernel
theorem dX12_path_15 : decode cX12_path 15 = .ok (.if_icmp .ge 6, 3) := by decide +kernel
theorem dX12_path_18 : decode cX12_path 18 = .ok (.ldc 64, 2) := by decide +kernel
theorem dX12_path_20 : decode cX12_path 20 = .ok (.ireturn, 1) := by decide +kernel
theorem dX12_path_21 : decode cX12_path 21 = .ok (.iload_n 2, 1) := by decide +kernel
theorem dX12_path_22 : decode cX12_path 22 = .ok (.iconst (-1), 1) := by decide +kernel
theorem dX12_path_23 : decode cX12_path 23 = .ok (.if_icmp .ne 11, 3) := by decide +kernel
theorem dX12_path_26 : decode cX12_path 26 = .ok (.aload_n 0, 1) := by decide +kernel
theorem dX12_path_27 : decode cX12_path 27 = .ok (.iload_n 1, 1) := by decide +kernel
theorem dX12_path_28 : decode cX12_path 28 = .ok (.invokevirtual 157, 3) := by decide +kernel
theorem dX12_path_31 : decode cX12_path 31 = .ok (.goto 23, 3) := by decide +kernel
theorem dX12_path_34 : decode cX12_path 34 = .ok (.iload_n 2, 1) := by decide +kernel
theorem dX12_path_35 : decode cX12_path 35 = .ok (.aload_n 0, 1) := by decide +kernel
theorem dX12_path_36 : decode cX12_path 36 = .ok (.iload_n 1, 1) := by decide +kernel
theorem dX12_path_37 : decode cX12_path 37 = .ok (.invokevirtual 157, 3) := by decide +kernel
theorem dX12_path_40 : decode cX12_path 40 = .ok (.if_icmp .ge 12, 3) := by decide +kernel
theorem dX12_path_43 : decode cX12_path 43 = .ok (.aload_n 0, 1) := by decide +kernel
theorem dX12_path_44 : decode cX12_path 44 = .ok (.iload_n 1, 1) := by decide +kernel
theorem dX12_path_45 : decode cX12_path 45 = .ok (.iload_n 2, 1) := by decide +kernel
theorem dX12_path_46 : decode cX12_path 46 = .ok (.invokevirtual 160, 3) := by decide +kernel
theorem dX12_path_49 : decode cX12_path 49 = .ok (.goto 5, 3) := by decide +kernel
theorem dX12_path_52 : decode cX12_path 52 = .ok (.ldc 87, 2) := by decide +kernel
theorem dX12_path_54 : decode cX12_path 54 = .ok (.ireturn, 1) := by decide +kernel
theorem dX12_pad_0 : decode cX12_pad 0 = .ok (.aload_n 0, 1) := by decide +kernel
theorem dX12_pad_1 : decode cX12_pad 1 = .ok (.iconst 0, 1) := by decide +kernel
theorem dX12_pad_2 : decode cX12_pad 2 = .ok (.putfield 44, 3) := by decide +kernel
theorem dX12_pad_5 : decode cX12_pad 5 = .ok (.aload_n 0, 1) := by decide +kernel
theorem dX12_pad_6 : decode cX12_pad 6 = .ok (.invokevirtual 177, 3) := by decide +kernel
theorem dX12_pad_9 : decode cX12_pad 9 = .ok (.ifCond .ne 6, 3) := by decide +kernel
theorem dX12_pad_12 : decode cX12_pad 12 = .ok (.ldc 180, 2) := by decide +kernel
theorem dX12_pad_14 : decode cX12_pad 14 = .ok (.ireturn, 1) := by decide +kernel
theorem dX12_pad_15 : decode cX12_pad 15 = .ok (.iload_n 1, 1) := by decide +kernel
theorem dX12_pad_16 : decode cX12_pad 16 = .ok (.i2l, 1) := by decide +kernel
theorem dX12_pad_17 : decode cX12_pad 17 = .ok (.lconst 0, 1) := by decide +kernel
theorem dX12_pad_18 : decode cX12_pad 18 = .ok (.ldc2_w 62, 3) := by decide +kernel
theorem dX12_pad_21 : decode cX12_pad 21 = .ok (.invokestatic 54, 3) := by decide +kernel
theorem dX12_pad_24 : decode cX12_pad 24 = .ok (.ifCond .eq 14, 3) := by decide +kernel
theorem dX12_pad_27 : decode cX12_pad 27 = .ok (.aload_n 0, 1) := by decide +kernel
theorem dX12_pad_28 : decode cX12_pad 28 = .ok (.getfield 19, 3) := by decide +kernel
theorem dX12_pad_31 : decode cX12_pad 31 = .ok (.iconst 2, 1) := by decide +kernel
theorem dX12_pad_32 : decode cX12_pad 32 = .ok (.iload_n 1, 1) := by decide +kernel
theorem dX12_pad_33 : decode cX12_pad 33 = .ok (.iadd, 1) := by decide +kernel
theorem dX12_pad_34 : decode cX12_pad 34 = .ok (.iaload, 1) := by decide +kernel
theorem dX12_pad_35 : decode cX12_pad 35 = .ok (.goto 5, 3) := by decide +kernel
theorem dX12_pad_38 : decode cX12_pad 38 = .ok (.ldc 64, 2) := by decide +kernel
theorem dX12_pad_40 : decode cX12_pad 40 = .ok (.ireturn, 1) := by decide +kernel
theorem dX12_layAhead_0 : decode cX12_layAhead 0 = .ok (.aload_n 0, 1) := by decide +kernel
theorem dX12_layAhead_1 : decode cX12_layAhead 1 = .ok (.invokevirtual 211, 3) := by decide +kernel
theorem dX12_layAhead_4 : decode cX12_layAhead 4 = .ok (.iconst 0, 1) := by decide +kernel
theorem dX12_layAhead_5 : decode cX12_layAhead 5 = .ok (.istore_n 2, 1) := by decide +kernel
theorem dX12_layAhead_6 : decode cX12_layAhead 6 = .ok (.iload_n 2, 1) := by decide +kernel
theorem dX12_layAhead_7 : decode cX12_layAhead 7 = .ok (.iload_n 1, 1) := by decide +kernel
theorem dX12_layAhead_8 : decode cX12_layAhead 8 = .ok (.if_icmp .ge 17, 3) := by decide +kernel
theorem dX12_layAhead_11 : decode cX12_layAhead 11 = .ok (.aload_n 0, 1) := by decide +kernel
theorem dX12_layAhead_12 : decode cX12_layAhead 12 = .ok (.aload_n 0, 1) := by decide +kernel
theorem dX12_layAhead_13 : decode cX12_layAhead 13 = .ok (.getfield 25, 3) := by decide +kernel
theorem dX12_layAhead_16 : decode cX12_layAhead 16 = .ok (.invokevirtual 214, 3) := by decide +kernel
theorem dX12_layAhead_19 : decode cX12_layAhead 19 = .ok (.iinc 2 1, 3) := by decide +kernel
theorem dX12_layAhead_22 : decode cX12_layAhead 22 = .ok (.goto (-16), 3) := by decide +kernel
theorem dX12_layAhead_25 : decode cX12_layAhead 25 = .ok (.return_, 1) := by decide +kernel
theorem dX12_ahead_0 : decode cX12_ahead 0 = .ok (.aload_n 0, 1) := by decide +kernel
theorem dX12_ahead_1 : decode cX12_ahead 1 = .ok (.iconst 0, 1) := by decide +kernel
theorem dX12_ahead_2 : decode cX12_ahead 2 = .ok (.putfield 44, 3) := by decide +kernel
theorem dX12_ahead_5 : decode cX12_ahead 5 = .ok (.aload_n 0, 1) := by decide +kernel
theorem dX12_ahead_6 : decode cX12_ahead 6 = .ok (.invokevirtual 177, 3) := by decide +kernel
theorem dX12_ahead_9 : decode cX12_ahead 9 = .ok (.ifCond .ne 6, 3) := by decide +kernel
theorem dX12_ahead_12 : decode cX12_ahead 12 = .ok (.ldc 180, 2) := by decide +kernel
theorem dX12_ahead_14 : decode cX12_ahead 14 = .ok (.ireturn, 1) := by decide +kernel
theorem dX12_ahead_15 : decode cX12_ahead 15 = .ok (.iload_n 1, 1) := by decide +kernel
theorem dX12_ahead_16 : decode cX12_ahead 16 = .ok (.i2l, 1) := by decide +kernel
theorem dX12_ahead_17 : decode cX12_ahead 17 = .ok (.lconst 0, 1) := by decide +kernel
theorem dX12_ahead_18 : decode cX12_ahead 18 = .ok (.ldc2_w 217, 3) := by decide +kernel
theorem dX12_ahead_21 : decode cX12_ahead 21 = .ok (.invokestatic 54, 3) := by decide +kernel
theorem dX12_ahead_24 : decode cX12_ahead 24 = .ok (.ifCond .eq 20, 3) := by decide +kernel
theorem dX12_ahead_27 : decode cX12_ahead 27 = .ok (.iload_n 2, 1) := by decide +kernel
theorem dX12_ahead_28 : decode cX12_ahead 28 = .ok (.invokestatic 192, 3) := by decide +kernel
theorem dX12_ahead_31 : decode cX12_ahead 31 = .ok (.ifCond .eq 13, 3) := by decide +kernel
theorem dX12_ahead_34 : decode cX12_ahead 34 = .ok (.iload_n 3, 1) := by decide +kernel
theorem dX12_ahead_35 : decode cX12_ahead 35 = .ok (.i2l, 1) := by decide +kernel
theorem dX12_ahead_36 : decode cX12_ahead 36 = .ok (.lconst 0, 1) := by decide +kernel
theorem dX12_ahead_37 : decode cX12_ahead 37 = .ok (.lconst 1, 1) := by decide +kernel
theorem dX12_ahead_38 : decode cX12_ahead 38 = .ok (.invokestatic 54, 3) := by decide +kernel
theorem dX12_ahead_41 : decode cX12_ahead 41 = .ok (.ifCond .ne 6, 3) := by decide +kernel
theorem dX12_ahead_44 : decode cX12_ahead 44 = .ok (.ldc 64, 2) := by decide +kernel
theorem dX12_ahead_46 : decode cX12_ahead 46 = .ok (.ireturn, 1) := by decide +kernel
theorem dX12_ahead_47 : decode cX12_ahead 47 = .ok (.aload_n 0, 1) := by decide +kernel
theorem dX12_ahead_48 : decode cX12_ahead 48 = .ok (.iload_n 1, 1) := by decide +kernel
theorem dX12_ahead_49 : decode cX12_ahead 49 = .ok (.invokevirtual 219, 3) := by decide +kernel
theorem dX12_ahead_52 : decode cX12_ahead 52 = .ok (.iload_n 3, 1) := by decide +kernel
theorem dX12_ahead_53 : decode cX12_ahead 53 = .ok (.ifCond .ne 15, 3) := by decide +kernel
theorem dX12_ahead_56 : decode cX12_ahead 56 = .ok (.aload_n 0, 1) := by decide +kernel
theorem dX12_ahead_57 : decode cX12_ahead 57 = .ok (.getfield 25, 3) := by decide +kernel
theorem dX12_ahead_60 : decode cX12_ahead 60 = .ok (.bipush 6, 2) := by decide +kernel
theorem dX12_ahead_62 : decode cX12_ahead 62 = .ok (.iload_n 2, 1) := by decide +kernel
theorem dX12_ahead_63 : decode cX12_ahead 63 = .ok (.iadd, 1) := by decide +kernel
theorem dX12_ahead_64 : decode cX12_ahead 64 = .ok (.iaload, 1) := by decide +kernel
theorem dX12_ahead_65 : decode cX12_ahead 65 = .ok (.goto 12, 3) := by decide +kernel
theorem dX12_ahead_68 : decode cX12_ahead 68 = .ok (.aload_n 0, 1) := by decide +kernel
theorem dX12_ahead_69 : decode cX12_ahead 69 = .ok (.getfield 25, 3) := by decide +kernel
theorem dX12_ahead_72 : decode cX12_ahead 72 = .ok (.bipush 36, 2) := by decide +kernel
theorem dX12_ahead_74 : decode cX12_ahead 74 = .ok (.iload_n 2, 1) := by decide +kernel
theorem dX12_ahead_75 : decode cX12_ahead 75 = .ok (.iadd, 1) := by decide +kernel
theorem dX12_ahead_76 : decode cX12_ahead 76 = .ok (.iaload, 1) := by decide +kernel
theorem dX12_ahead_77 : decode cX12_ahead 77 = .ok (.ireturn, 1) := by decide +kernel
theorem dX12_uneven_0 : decode cX12_uneven 0 = .ok (.aload_n 0, 1) := by decide +kernel
theorem dX12_uneven_1 : decode cX12_uneven 1 = .ok (.iconst 0, 1) := by decide +kernel
theorem dX12_uneven_2 : decode cX12_uneven 2 = .ok (.putfield 44, 3) := by decide +kernel
theorem dX12_uneven_5 : decode cX12_uneven 5 = .ok (.aload_n 0, 1) := by decide +kernel
theorem dX12_uneven_6 : decode cX12_uneven 6 = .ok (.invokevirtual 177, 3) := by decide +kernel
theorem dX12_uneven_9 : decode cX12_uneven 9 = .ok (.ifCond .ne 6, 3) := by decide +kernel
theorem dX12_uneven_12 : decode cX12_uneven 12 = .ok (.ldc 180, 2) := by decide +kernel
theorem dX12_uneven_14 : decode cX12_uneven 14 = .ok (.ireturn, 1) := by decide +kernel
theorem dX12_uneven_15 : decode cX12_uneven 15 = .ok (.iload_n 1, 1) := by decide +kernel
theorem dX12_uneven_16 : decode cX12_uneven 16 = .ok (.i2l, 1) := by decide +kernel
theorem dX12_uneven_17 : decode cX12_uneven 17 = .ok (.lconst 0, 1) := by decide +kernel
theorem dX12_uneven_18 : decode cX12_uneven 18 = .ok (.ldc2_w 217, 3) := by decide +kernel
theorem dX12_uneven_21 : decode cX12_uneven 21 = .ok (.invokestatic 54, 3) := by decide +kernel
theorem dX12_uneven_24 : decode cX12_uneven 24 = .ok (.ifCond .ne 6, 3) := by decide +kernel
theorem dX12_uneven_27 : decode cX12_uneven 27 = .ok (.ldc 64, 2) := by decide +kernel
theorem dX12_uneven_29 : decode cX12_uneven 29 = .ok (.ireturn, 1) := by decide +kernel
theorem dX12_uneven_30 : decode cX12_uneven 30 = .ok (.aload_n 0, 1) := by decide +kernel
theorem dX12_uneven_31 : decode cX12_uneven 31 = .ok (.iload_n 1, 1) := by decide +kernel
theorem dX12_uneven_32 : decode cX12_uneven 32 = .ok (.invokevirtual 219, 3) := by decide +kernel
theorem dX12_uneven_35 : decode cX12_uneven 35 = .ok (.aload_n 0, 1) := by decide +kernel
theorem dX12_uneven_36 : decode cX12_uneven 36 = .ok (.getfield 25, 3) := by decide +kernel
theorem dX12_uneven_39 : decode cX12_uneven 39 = .ok (.invokestatic 222, 3) := by decide +kernel
theorem dX12_uneven_42 : decode cX12_uneven 42 = .ok (.ireturn, 1) := by decide +kernel
theorem dX12_placed_0 : decode cX12_placed 0 = .ok (.iload_n 1, 1) := by decide +kernel
theorem dX12_placed_1 : decode cX12_placed 1 = .ok (.iconst 2, 1) := by decide +kernel
theorem dX12_placed_2 : decode cX12_placed 2 = .ok (.aload_n 0, 1) := by decide +kernel
theorem dX12_placed_3 : decode cX12_placed 3 = .ok (.getfield 19, 3) := by decide +kernel
theorem dX12_placed_6 : decode cX12_placed 6 = .ok (.iconst 5, 1) := by decide +kernel
theorem dX12_placed_7 : decode cX12_placed 7 = .ok (.iaload, 1) := by decide +kernel
theorem dX12_placed_8 : decode cX12_placed 8 = .ok (.iconst 1, 1) := by decide +kernel
theorem dX12_placed_9 : decode cX12_placed 9 = .ok (.isub, 1) := by decide +kernel
theorem dX12_placed_10 : decode cX12_placed 10 = .ok (.iload_n 2, 1) := by decide +kernel
theorem dX12_placed_11 : decode cX12_placed 11 = .ok (.isub, 1) := by decide +kernel
theorem dX12_placed_12 : decode cX12_placed 12 = .ok (.imul, 1) := by decide +kernel
theorem dX12_placed_13 : decode cX12_placed 13 = .ok (.ishr, 1) := by decide +kernel
theorem dX12_placed_14 : decode cX12_placed 14 = .ok (.iconst 3, 1) := by decide +kernel
theorem dX12_placed_15 : decode cX12_placed 15 = .ok (.iand, 1) := by decide +kernel
theorem dX12_placed_16 : decode cX12_placed 16 = .ok (.ireturn, 1) := by decide +kernel
theorem dX12_isOrder_0 : decode cX12_isOrder 0 = .ok (.iconst 0, 1) := by decide +kernel
theorem dX12_isOrder_1 : decode cX12_isOrder 1 = .ok (.istore_n 2, 1) := by decide +kernel
theorem dX12_isOrder_2 : decode cX12_isOrder 2 = .ok (.iconst 0, 1) := by decide +kernel
theorem dX12_isOrder_3 : decode cX12_isOrder 3 = .ok (.istore_n 3, 1) := by decide +kernel
theorem dX12_isOrder_4 : decode cX12_isOrder 4 = .ok (.iload_n 3, 1) := by decide +kernel
theorem dX12_isOrder_5 : decode cX12_isOrder 5 = .ok (.aload_n 0, 1) := by decide +kernel
theorem dX12_isOrder_6 : decode cX12_isOrder 6 = .ok (.getfield 19, 3) := by decide +kernel
theorem dX12_isOrder_9 : decode cX12_isOrder 9 = .ok (.iconst 5, 1) := by decide +kernel
theorem dX12_isOrder_10 : decode cX12_isOrder 10 = .ok (.iaload, 1) := by decide +kernel
theorem dX12_isOrder_11 : decode cX12_isOrder 11 = .ok (.if_icmp .ge 20, 3) := by decide +kernel
theorem dX12_isOrder_14 : decode cX12_isOrder 14 = .ok (.iload_n 2, 1) := by decide +kernel
theorem dX12_isOrder_15 : decode cX12_isOrder 15 = .ok (.iconst 1, 1) := by decide +kernel
theorem dX12_isOrder_16 : decode cX12_isOrder 16 = .ok (.aload_n 0, 1) := by decide +kernel
theorem dX12_isOrder_17 : decode cX12_isOrder 17 = .ok (.iload_n 1, 1) := by decide +kernel
theorem dX12_isOrder_18 : decode cX12_isOrder 18 = .ok (.iload_n 3, 1) := by decide +kernel
theorem dX12_isOrder_19 : decode cX12_isOrder 19 = .ok (.invokevirtual 225, 3) := by decide +kernel
theorem dX12_isOrder_22 : decode cX12_isOrder 22 = .ok (.ishl, 1) := by decide +kernel
theorem dX12_isOrder_23 : decode cX12_isOrder 23 = .ok (.ior, 1) := by decide +kernel
theorem dX12_isOrder_24 : decode cX12_isOrder 24 = .ok (.istore_n 2, 1) := by decide +kernel
theorem dX12_isOrder_25 : decode cX12_isOrder 25 = .ok (.iinc 3 1, 3) := by decide +kernel
theorem dX12_isOrder_28 : decode cX12_isOrder 28 = .ok (.goto (-24), 3) := by decide +kernel
theorem dX12_isOrder_31 : decode cX12_isOrder 31 = .ok (.iload_n 2, 1) := by decide +kernel
theorem dX12_isOrder_32 : decode cX12_isOrder 32 = .ok (.iconst 1, 1) := by decide +kernel
theorem dX12_isOrder_33 : decode cX12_isOrder 33 = .ok (.aload_n 0, 1) := by decide +kernel
theorem dX12_isOrder_34 : decode cX12_isOrder 34 = .ok (.getfield 19, 3) := by decide +kernel
theorem dX12_isOrder_37 : decode cX12_isOrder 37 = .ok (.iconst 5, 1) := by decide +kernel
theorem dX12_isOrder_38 : decode cX12_isOrder 38 = .ok (.iaload, 1) := by decide +kernel
theorem dX12_isOrder_39 : decode cX12_isOrder 39 = .ok (.ishl, 1) := by decide +kernel
theorem dX12_isOrder_40 : decode cX12_isOrder 40 = .ok (.iconst 1, 1) := by decide +kernel
theorem dX12_isOrder_41 : decode cX12_isOrder 41 = .ok (.isub, 1) := by decide +kernel
theorem dX12_isOrder_42 : decode cX12_isOrder 42 = .ok (.if_icmp .ne 7, 3) := by decide +kernel
theorem dX12_isOrder_45 : decode cX12_isOrder 45 = .ok (.iconst 1, 1) := by decide +kernel
theorem dX12_isOrder_46 : decode cX12_isOrder 46 = .ok (.goto 4, 3) := by decide +kernel
theorem dX12_isOrder_49 : decode cX12_isOrder 49 = .ok (.iconst 0, 1) := by decide +kernel
theorem dX12_isOrder_50 : decode cX12_isOrder 50 = .ok (.ireturn, 1) := by decide +kernel
theorem dX12_order_0 : decode cX12_order 0 = .ok (.aload_n 0, 1) := by decide +kernel
theorem dX12_order_1 : decode cX12_order 1 = .ok (.iconst 0, 1) := by decide +kernel
theorem dX12_order_2 : decode cX12_order 2 = .ok (.putfield 44, 3) := by decide +kernel
theorem dX12_order_5 : decode cX12_order 5 = .ok (.aload_n 0, 1) := by decide +kernel
theorem dX12_order_6 : decode cX12_order 6 = .ok (.invokevirtual 177, 3) := by decide +kernel
theorem dX12_order_9 : decode cX12_order 9 = .ok (.ifCond .ne 6, 3) := by decide +kernel
theorem dX12_order_12 : decode cX12_order 12 = .ok (.ldc 180, 2) := by decide +kernel
theorem dX12_order_14 : decode cX12_order 14 = .ok (.ireturn, 1) := by decide +kernel
theorem dX12_order_15 : decode cX12_order 15 = .ok (.iload_n 1, 1) := by decide +kernel
theorem dX12_order_16 : decode cX12_order 16 = .ok (.i2l, 1) := by decide +kernel
theorem dX12_order_17 : decode cX12_order 17 = .ok (.ldc2_w 228, 3) := by decide +kernel
theorem dX12_order_20 : decode cX12_order 20 = .ok (.ldc2_w 206, 3) := by decide +kernel
theorem dX12_order_23 : decode cX12_order 23 = .ok (.invokestatic 54, 3) := by decide +kernel
theorem dX12_order_26 : decode cX12_order 26 = .ok (.ifCond .ne 6, 3) := by decide +kernel
theorem dX12_order_29 : decode cX12_order 29 = .ok (.ldc 64, 2) := by decide +kernel
theorem dX12_order_31 : decode cX12_order 31 = .ok (.ireturn, 1) := by decide +kernel
theorem dX12_order_32 : decode cX12_order 32 = .ok (.ldc 87, 2) := by decide +kernel
theorem dX12_order_34 : decode cX12_order 34 = .ok (.istore_n 2, 1) := by decide +kernel
theorem dX12_order_35 : decode cX12_order 35 = .ok (.iconst 0, 1) := by decide +kernel
theorem dX12_order_36 : decode cX12_order 36 = .ok (.istore_n 3, 1) := by decide +kernel
theorem dX12_order_37 : decode cX12_order 37 = .ok (.iconst 0, 1) := by decide +kernel
theorem dX12_order_38 : decode cX12_order 38 = .ok (.istore 4, 2) := by decide +kernel
theorem dX12_order_40 : decode cX12_order 40 = .ok (.iload 4, 2) := by decide +kernel
theorem dX12_order_42 : decode cX12_order 42 = .ok (.iconst 1, 1) := by decide +kernel
theorem dX12_order_43 : decode cX12_order 43 = .ok (.iconst 2, 1) := by decide +kernel
theorem dX12_order_44 : decode cX12_order 44 = .ok (.aload_n 0, 1) := by decide +kernel
theorem dX12_order_45 : decode cX12_order 45 = .ok (.getfield 19, 3) := by decide +kernel
theorem dX12_order_48 : decode cX12_order 48 = .ok (.iconst 5, 1) := by decide +kernel
theorem dX12_order_49 : decode cX12_order 49 = .ok (.iaload, 1) := by decide +kernel
theorem dX12_order_50 : decode cX12_order 50 = .ok (.imul, 1) := by decide +kernel
theorem dX12_order_51 : decode cX12_order 51 = .ok (.ishl, 1) := by decide +kernel
theorem dX12_order_52 : decode cX12_order 52 = .ok (.if_icmp .ge 110, 3) := by decide +kernel
theorem dX12_order_55 : decode cX12_order 55 = .ok (.aload_n 0, 1) := by decide +kernel
theorem dX12_order_56 : decode cX12_order 56 = .ok (.iload 4, 2) := by decide +kernel
theorem dX12_order_58 : decode cX12_order 58 = .ok (.invokevirtual 230, 3) := by decide +kernel
theorem dX12_order_61 : decode cX12_order 61 = .ok (.ifCond .eq 95, 3) := by decide +kernel
theorem dX12_order_64 : decode cX12_order 64 = .ok (.aload_n 0, 1) := by decide +kernel
theorem dX12_order_65 : decode cX12_order 65 = .ok (.invokevirtual 211, 3) := by decide +kernel
theorem dX12_order_68 : decode cX12_order 68 = .ok (.iconst 0, 1) := by decide +kernel
theorem dX12_order_69 : decode cX12_order 69 = .ok (.istore 5, 2) := by decide +kernel
theorem dX12_order_71 : decode cX12_order 71 = .ok (.iload 5, 2) := by decide +kernel
theorem dX12_order_73 : decode cX12_order 73 = .ok (.aload_n 0, 1) := by decide +kernel
theorem dX12_order_74 : decode cX12_order 74 = .ok (.getfield 19, 3) := by decide +kernel
theorem dX12_order_77 : decode cX12_order 77 = .ok (.iconst 5, 1) := by decide +kernel
theorem dX12_order_78 : decode cX12_order 78 = .ok (.iaload, 1) := by decide +kernel
theorem dX12_order_79 : decode cX12_order 79 = .ok (.if_icmp .ge 25, 3) := by decide +kernel
theorem dX12_order_82 : decode cX12_order 82 = .ok (.aload_n 0, 1) := by decide +kernel
theorem dX12_order_83 : decode cX12_order 83 = .ok (.aload_n 0, 1) := by decide +kernel
theorem dX12_order_84 : decode cX12_order 84 = .ok (.getfield 25, 3) := by decide +kernel
theorem dX12_order_87 : decode cX12_order 87 = .ok (.aload_n 0, 1) := by decide +kernel
theorem dX12_order_88 : decode cX12_order 88 = .ok (.iload 4, 2) := by decide +kernel
theorem dX12_order_90 : decode cX12_order 90 = .ok (.iload 5, 2) := by decide +kernel
theorem dX12_order_92 : decode cX12_order 92 = .ok (.invokevirtual 225, 3) := by decide +kernel
theorem dX12_order_95 : decode cX12_order 95 = .ok (.invokevirtual 173, 3) := by decide +kernel
theorem dX12_order_98 : decode cX12_order 98 = .ok (.iinc 5 1, 3) := by decide +kernel
theorem dX12_order_101 : decode cX12_order 101 = .ok (.goto (-30), 3) := by decide +kernel
theorem dX12_order_104 : decode cX12_order 104 = .ok (.aload_n 0, 1) := by decide +kernel
theorem dX12_order_105 : decode cX12_order 105 = .ok (.getfield 25, 3) := by decide +kernel
theorem dX12_order_108 : decode cX12_order 108 = .ok (.invokestatic 222, 3) := by decide +kernel
theorem dX12_order_111 : decode cX12_order 111 = .ok (.istore 5, 2) := by decide +kernel
theorem dX12_order_113 : decode cX12_order 113 = .ok (.iload_n 2, 1) := by decide +kernel
theorem dX12_order_114 : decode cX12_order 114 = .ok (.ldc 87, 2) := by decide +kernel
theorem dX12_order_116 : decode cX12_order 116 = .ok (.if_icmp .eq 9, 3) := by decide +kernel
theorem dX12_order_119 : decode cX12_order 119 = .ok (.iload 5, 2) := by decide +kernel
theorem dX12_order_121 : decode cX12_order 121 = .ok (.iload_n 3, 1) := by decide +kernel
theorem dX12_order_122 : decode cX12_order 122 = .ok (.if_icmp .ge 7, 3) := by decide +kernel
theorem dX12_order_125 : decode cX12_order 125 = .ok (.iconst 1, 1) := by decide +kernel
theorem dX12_order_126 : decode cX12_order 126 = .ok (.goto 4, 3) := by decide +kernel
theorem dX12_order_129 : decode cX12_order 129 = .ok (.iconst 0, 1) := by decide +kernel
theorem dX12_order_130 : decode cX12_order 130 = .ok (.istore 6, 2) := by decide +kernel
theorem dX12_order_132 : decode cX12_order 132 = .ok (.iload 6, 2) := by decide +kernel
theorem dX12_order_134 : decode cX12_order 134 = .ok (.ifCond .eq 8, 3) := by decide +kernel
theorem dX12_order_137 : decode cX12_order 137 = .ok (.iload 4, 2) := by decide +kernel
theorem dX12_order_139 : decode cX12_order 139 = .ok (.goto 4, 3) := by decide +kernel
theorem dX12_order_142 : decode cX12_order 142 = .ok (.iload_n 2, 1) := by decide +kernel
theorem dX12_order_143 : decode cX12_order 143 = .ok (.istore_n 2, 1) := by decide +kernel
theorem dX12_order_144 : decode cX12_order 144 = .ok (.iload 6, 2) := by decide +kernel
theorem dX12_order_146 : decode cX12_order 146 = .ok (.ifCond .eq 8, 3) := by decide +kernel
theorem dX12_order_149 : decode cX12_order 149 = .ok (.iload 5, 2) := by decide +kernel
theorem dX12_order_151 : decode cX12_order 151 = .ok (.goto 4, 3) := by decide +kernel
theorem dX12_order_154 : decode cX12_order 154 = .ok (.iload_n 3, 1) := by decide +kernel
theorem dX12_order_155 : decode cX12_order 155 = .ok (.istore_n 3, 1) := by decide +kernel
theorem dX12_order_156 : decode cX12_order 156 = .ok (.iinc 4 1, 3) := by decide +kernel
theorem dX12_order_159 : decode cX12_order 159 = .ok (.goto (-119), 3) := by decide +kernel
theorem dX12_order_162 : decode cX12_order 162 = .ok (.iload_n 1, 1) := by decide +kernel
theorem dX12_order_163 : decode cX12_order 163 = .ok (.ifCond .ge 7, 3) := by decide +kernel
theorem dX12_order_166 : decode cX12_order 166 = .ok (.iload_n 3, 1) := by decide +kernel
theorem dX12_order_167 : decode cX12_order 167 = .ok (.goto 24, 3) := by decide +kernel
theorem dX12_order_170 : decode cX12_order 170 = .ok (.iload_n 1, 1) := by decide +kernel
theorem dX12_order_171 : decode cX12_order 171 = .ok (.aload_n 0, 1) := by decide +kernel
theorem dX12_order_172 : decode cX12_order 172 = .ok (.getfield 19, 3) := by decide +kernel
theorem dX12_order_175 : decode cX12_order 175 = .ok (.iconst 5, 1) := by decide +kernel
theorem dX12_order_176 : decode cX12_order 176 = .ok (.iaload, 1) := by decide +kernel
theorem dX12_order_177 : decode cX12_order 177 = .ok (.if_icmp .ge 12, 3) := by decide +kernel
theorem dX12_order_180 : decode cX12_order 180 = .ok (.aload_n 0, 1) := by decide +kernel
theorem dX12_order_181 : decode cX12_order 181 = .ok (.iload_n 2, 1) := by decide +kernel
theorem dX12_order_182 : decode cX12_order 182 = .ok (.iload_n 1, 1) := by decide +kernel
theorem dX12_order_183 : decode cX12_order 183 = .ok (.invokevirtual 225, 3) := by decide +kernel
theorem dX12_order_186 : decode cX12_order 186 = .ok (.goto 5, 3) := by decide +kernel
theorem dX12_order_189 : decode cX12_order 189 = .ok (.ldc 87, 2) := by decide +kernel
theorem dX12_order_191 : decode cX12_order 191 = .ok (.ireturn, 1) := by decide +kernel
theorem dX12_overAll_0 : decode cX12_overAll 0 = .ok (.iconst 0, 1) := by decide +kernel
theorem dX12_overAll_1 : decode cX12_overAll 1 = .ok (.istore_n 1, 1) := by decide +kernel
theorem dX12_overAll_2 : decode cX12_overAll 2 = .ok (.iconst 0, 1) := by decide +kernel
theorem dX12_overAll_3 : decode cX12_overAll 3 = .ok (.istore_n 2, 1) := by decide +kernel
theorem dX12_overAll_4 : decode cX12_overAll 4 = .ok (.iload_n 2, 1) := by decide +kernel
theorem dX12_overAll_5 : decode cX12_overAll 5 = .ok (.aload_n 0, 1) := by decide +kernel
theorem dX12_overAll_6 : decode cX12_overAll 6 = .ok (.getfield 19, 3) := by decide +kernel
theorem dX12_overAll_9 : decode cX12_overAll 9 = .ok (.iconst 5, 1) := by decide +kernel
theorem dX12_overAll_10 : decode cX12_overAll 10 = .ok (.iaload, 1) := by decide +kernel
theorem dX12_overAll_11 : decode cX12_overAll 11 = .ok (.if_icmp .ge 17, 3) := by decide +kernel
theorem dX12_overAll_14 : decode cX12_overAll 14 = .ok (.iload_n 1, 1) := by decide +kernel
theorem dX12_overAll_15 : decode cX12_overAll 15 = .ok (.aload_n 0, 1) := by decide +kernel
theorem dX12_overAll_16 : decode cX12_overAll 16 = .ok (.iload_n 2, 1) := by decide +kernel
theorem dX12_overAll_17 : decode cX12_overAll 17 = .ok (.invokevirtual 208, 3) := by decide +kernel
theorem dX12_overAll_20 : decode cX12_overAll 20 = .ok (.ior, 1) := by decide +kernel
theorem dX12_overAll_21 : decode cX12_overAll 21 = .ok (.istore_n 1, 1) := by decide +kernel
theorem dX12_overAll_22 : decode cX12_overAll 22 = .ok (.iinc 2 1, 3) := by decide +kernel
theorem dX12_overAll_25 : decode cX12_overAll 25 = .ok (.goto (-21), 3) := by decide +kernel
theorem dX12_overAll_28 : decode cX12_overAll 28 = .ok (.iload_n 1, 1) := by decide +kernel
theorem dX12_overAll_29 : decode cX12_overAll 29 = .ok (.ireturn, 1) := by decide +kernel
theorem dX12_enough_0 : decode cX12_enough 0 = .ok (.aload_n 0, 1) := by decide +kernel
theorem dX12_enough_1 : decode cX12_enough 1 = .ok (.iconst 0, 1) := by decide +kernel
theorem dX12_enough_2 : decode cX12_enough 2 = .ok (.putfield 44, 3) := by decide +kernel
theorem dX12_enough_5 : decode cX12_enough 5 = .ok (.aload_n 0, 1) := by decide +kernel
theorem dX12_enough_6 : decode cX12_enough 6 = .ok (.invokevirtual 177, 3) := by decide +kernel
theorem dX12_enough_9 : decode cX12_enough 9 = .ok (.ifCond .ne 6, 3) := by decide +kernel
theorem dX12_enough_12 : decode cX12_enough 12 = .ok (.ldc 180, 2) := by decide +kernel
theorem dX12_enough_14 : decode cX12_enough 14 = .ok (.ireturn, 1) := by decide +kernel
theorem dX12_enough_15 : decode cX12_enough 15 = .ok (.iload_n 1, 1) := by decide +kernel
theorem dX12_enough_16 : decode cX12_enough 16 = .ok (.i2l, 1) := by decide +kernel
theorem dX12_enough_17 : decode cX12_enough 17 = .ok (.lconst 1, 1) := by decide +kernel
theorem dX12_enough_18 : decode cX12_enough 18 = .ok (.ldc2_w 233, 3) := by decide +kernel
theorem dX12_enough_21 : decode cX12_enough 21 = .ok (.invokestatic 54, 3) := by decide +kernel
theorem dX12_enough_24 : decode cX12_enough 24 = .ok (.ifCond .ne 6, 3) := by decide +kernel
theorem dX12_enough_27 : decode cX12_enough 27 = .ok (.ldc 64, 2) := by decide +kernel
theorem dX12_enough_29 : decode cX12_enough 29 = .ok (.ireturn, 1) := by decide +kernel
theorem dX12_enough_30 : decode cX12_enough 30 = .ok (.aload_n 0, 1) := by decide +kernel
theorem dX12_enough_31 : decode cX12_enough 31 = .ok (.invokevirtual 235, 3) := by decide +kernel
theorem dX12_enough_34 : decode cX12_enough 34 = .ok (.istore_n 2, 1) := by decide +kernel
theorem dX12_enough_35 : decode cX12_enough 35 = .ok (.aload_n 0, 1) := by decide +kernel
theorem dX12_enough_36 : decode cX12_enough 36 = .ok (.invokevirtual 211, 3) := by decide +kernel
theorem dX12_enough_39 : decode cX12_enough 39 = .ok (.iconst 0, 1) := by decide +kernel
theorem dX12_enough_40 : decode cX12_enough 40 = .ok (.istore_n 3, 1) := by decide +kernel
theorem dX12_enough_41 : decode cX12_enough 41 = .ok (.iload_n 3, 1) := by decide +kernel
theorem dX12_enough_42 : decode cX12_enough 42 = .ok (.bipush 40, 2) := by decide +kernel
theorem dX12_enough_44 : decode cX12_enough 44 = .ok (.if_icmp .gt 78, 3) := by decide +kernel
theorem dX12_enough_47 : decode cX12_enough 47 = .ok (.iconst 1, 1) := by decide +kernel
theorem dX12_enough_48 : decode cX12_enough 48 = .ok (.istore 4, 2) := by decide +kernel
theorem dX12_enough_50 : decode cX12_enough 50 = .ok (.iconst 0, 1) := by decide +kernel
theorem dX12_enough_51 : decode cX12_enough 51 = .ok (.istore 5, 2) := by decide +kernel
theorem dX12_enough_53 : decode cX12_enough 53 = .ok (.iload 5, 2) := by decide +kernel
theorem dX12_enough_55 : decode cX12_enough 55 = .ok (.bipush 15, 2) := by decide +kernel
theorem dX12_enough_57 : decode cX12_enough 57 = .ok (.if_icmp .ge 44, 3) := by decide +kernel
theorem dX12_enough_60 : decode cX12_enough 60 = .ok (.iload 4, 2) := by decide +kernel
theorem dX12_enough_62 : decode cX12_enough 62 = .ok (.ifCond .eq 30, 3) := by decide +kernel
theorem dX12_enough_65 : decode cX12_enough 65 = .ok (.iload_n 2, 1) := by decide +kernel
theorem dX12_enough_66 : decode cX12_enough 66 = .ok (.iload 5, 2) := by decide +kernel
theorem dX12_enough_68 : decode cX12_enough 68 = .ok (.ishr, 1) := by decide +kernel
theorem dX12_enough_69 : decode cX12_enough 69 = .ok (.iconst 1, 1) := by decide +kernel
theorem dX12_enough_70 : decode cX12_enough 70 = .ok (.iand, 1) := by decide +kernel
theorem dX12_enough_71 : decode cX12_enough 71 = .ok (.ifCond .eq 17, 3) := by decide +kernel
theorem dX12_enough_74 : decode cX12_enough 74 = .ok (.aload_n 0, 1) := by decide +kernel
theorem dX12_enough_75 : decode cX12_enough 75 = .ok (.getfield 25, 3) := by decide +kernel
theorem dX12_enough_78 : decode cX12_enough 78 = .ok (.bipush 6, 2) := by decide +kernel
theorem dX12_enough_80 : decode cX12_enough 80 = .ok (.iload 5, 2) := by decide +kernel
theorem dX12_enough_82 : decode cX12_enough 82 = .ok (.iadd, 1) := by decide +kernel
theorem dX12_enough_83 : decode cX12_enough 83 = .ok (.iaload, 1) := by decide +kernel
theorem dX12_enough_84 : decode cX12_enough 84 = .ok (.iload_n 1, 1) := by decide +kernel
theorem dX12_enough_85 : decode cX12_enough 85 = .ok (.if_icmp .lt 7, 3) := by decide +kernel
theorem dX12_enough_88 : decode cX12_enough 88 = .ok (.iconst 1, 1) := by decide +kernel
theorem dX12_enough_89 : decode cX12_enough 89 = .ok (.goto 4, 3) := by decide +kernel
theorem dX12_enough_92 : decode cX12_enough 92 = .ok (.iconst 0, 1) := by decide +kernel
theorem dX12_enough_93 : decode cX12_enough 93 = .ok (.istore 4, 2) := by decide +kernel
theorem dX12_enough_95 : decode cX12_enough 95 = .ok (.iinc 5 1, 3) := by decide +kernel
theorem dX12_enough_98 : decode cX12_enough 98 = .ok (.goto (-45), 3) := by decide +kernel
theorem dX12_enough_101 : decode cX12_enough 101 = .ok (.iload 4, 2) := by decide +kernel
theorem dX12_enough_103 : decode cX12_enough 103 = .ok (.ifCond .eq 5, 3) := by decide +kernel
theorem dX12_enough_106 : decode cX12_enough 106 = .ok (.iload_n 3, 1) := by decide +kernel
theorem dX12_enough_107 : decode cX12_enough 107 = .ok (.ireturn, 1) := by decide +kernel
theorem dX12_enough_108 : decode cX12_enough 108 = .ok (.aload_n 0, 1) := by decide +kernel
theorem dX12_enough_109 : decode cX12_enough 109 = .ok (.aload_n 0, 1) := by decide +kernel
theorem dX12_enough_110 : decode cX12_enough 110 = .ok (.getfield 25, 3) := by decide +kernel
theorem dX12_enough_113 : decode cX12_enough 113 = .ok (.invokevirtual 214, 3) := by decide +kernel
theorem dX12_enough_116 : decode cX12_enough 116 = .ok (.iinc 3 1, 3) := by decide +kernel
theorem dX12_enough_119 : decode cX12_enough 119 = .ok (.goto (-78), 3) := by decide +kernel
theorem dX12_enough_122 : decode cX12_enough 122 = .ok (.ldc 87, 2) := by decide +kernel
theorem dX12_enough_124 : decode cX12_enough 124 = .ok (.ireturn, 1) := by decide +kernel
theorem dX12_wetFor_0 : decode cX12_wetFor 0 = .ok (.aload_n 0, 1) := by decide +kernel
theorem dX12_wetFor_1 : decode cX12_wetFor 1 = .ok (.iconst 0, 1) := by decide +kernel
theorem dX12_wetFor_2 : decode cX12_wetFor 2 = .ok (.putfield 44, 3) := by decide +kernel
theorem dX12_wetFor_5 : decode cX12_wetFor 5 = .ok (.aload_n 0, 1) := by decide +kernel
theorem dX12_wetFor_6 : decode cX12_wetFor 6 = .ok (.iload_n 1, 1) := by decide +kernel
theorem dX12_wetFor_7 : decode cX12_wetFor 7 = .ok (.invokevirtual 189, 3) := by decide +kernel
theorem dX12_wetFor_10 : decode cX12_wetFor 10 = .ok (.ifCond .eq 15, 3) := by decide +kernel
theorem dX12_wetFor_13 : decode cX12_wetFor 13 = .ok (.iload_n 2, 1) := by decide +kernel
theorem dX12_wetFor_14 : decode cX12_wetFor 14 = .ok (.i2l, 1) := by decide +kernel
theorem dX12_wetFor_15 : decode cX12_wetFor 15 = .ok (.lconst 0, 1) := by decide +kernel
theorem dX12_wetFor_16 : decode cX12_wetFor 16 = .ok (.ldc2_w 181, 3) := by decide +kernel
theorem dX12_wetFor_19 : decode cX12_wetFor 19 = .ok (.invokestatic 54, 3) := by decide +kernel
theorem dX12_wetFor_22 : decode cX12_wetFor 22 = .ok (.ifCond .ne 6, 3) := by decide +kernel
theorem dX12_wetFor_25 : decode cX12_wetFor 25 = .ok (.ldc 64, 2) := by decide +kernel
theorem dX12_wetFor_27 : decode cX12_wetFor 27 = .ok (.ireturn, 1) := by decide +kernel
theorem dX12_wetFor_28 : decode cX12_wetFor 28 = .ok (.iconst 0, 1) := by decide +kernel
theorem dX12_wetFor_29 : decode cX12_wetFor 29 = .ok (.istore_n 3, 1) := by decide +kernel
theorem dX12_wetFor_30 : decode cX12_wetFor 30 = .ok (.iload_n 3, 1) := by decide +kernel
theorem dX12_wetFor_31 : decode cX12_wetFor 31 = .ok (.bipush 100, 2) := by decide +kernel
theorem dX12_wetFor_33 : decode cX12_wetFor 33 = .ok (.if_icmp .ge 104, 3) := by decide +kernel
theorem dX12_wetFor_36 : decode cX12_wetFor 36 = .ok (.aload_n 0, 1) := by decide +kernel
theorem dX12_wetFor_37 : decode cX12_wetFor 37 = .ok (.invokevirtual 211, 3) := by decide +kernel
theorem dX12_wetFor_40 : decode cX12_wetFor 40 = .ok (.aload_n 0, 1) := by decide +kernel
theorem dX12_wetFor_41 : decode cX12_wetFor 41 = .ok (.getfield 25, 3) := by decide +kernel
theorem dX12_wetFor_44 : decode cX12_wetFor 44 = .ok (.iconst 2, 1) := by decide +kernel
theorem dX12_wetFor_45 : decode cX12_wetFor 45 = .ok (.iload_n 3, 1) := by decide +kernel
theorem dX12_wetFor_46 : decode cX12_wetFor 46 = .ok (.iastore, 1) := by decide +kernel
theorem dX12_wetFor_47 : decode cX12_wetFor 47 = .ok (.aload_n 0, 1) := by decide +kernel
theorem dX12_wetFor_48 : decode cX12_wetFor 48 = .ok (.aload_n 0, 1) := by decide +kernel
theorem dX12_wetFor_49 : decode cX12_wetFor 49 = .ok (.getfield 25, 3) := by decide +kernel
theorem dX12_wetFor_52 : decode cX12_wetFor 52 = .ok (.iload_n 1, 1) := by decide +kernel
theorem dX12_wetFor_53 : decode cX12_wetFor 53 = .ok (.invokevirtual 173, 3) := by decide +kernel
theorem dX12_wetFor_56 : decode cX12_wetFor 56 = .ok (.iconst 1, 1) := by decide +kernel
theorem dX12_wetFor_57 : decode cX12_wetFor 57 = .ok (.istore 4, 2) := by decide +kernel
theorem dX12_wetFor_59 : decode cX12_wetFor 59 = .ok (.iconst 0, 1) := by decide +kernel
theorem dX12_wetFor_60 : decode cX12_wetFor 60 = .ok (.istore 5, 2) := by decide +kernel
theorem dX12_wetFor_62 : decode cX12_wetFor 62 = .ok (.iload 5, 2) := by decide +kernel
theorem dX12_wetFor_64 : decode cX12_wetFor 64 = .ok (.aload_n 0, 1) := by decide +kernel
theorem dX12_wetFor_65 : decode cX12_wetFor 65 = .ok (.iload_n 1, 1) := by decide +kernel
theorem dX12_wetFor_66 : decode cX12_wetFor 66 = .ok (.invokevirtual 157, 3) := by decide +kernel
theorem dX12_wetFor_69 : decode cX12_wetFor 69 = .ok (.if_icmp .ge 55, 3) := by decide +kernel
theorem dX12_wetFor_72 : decode cX12_wetFor 72 = .ok (.aload_n 0, 1) := by decide +kernel
theorem dX12_wetFor_73 : decode cX12_wetFor 73 = .ok (.iload_n 1, 1) := by decide +kernel
theorem dX12_wetFor_74 : decode cX12_wetFor 74 = .ok (.iload 5, 2) := by decide +kernel
theorem dX12_wetFor_76 : decode cX12_wetFor 76 = .ok (.invokevirtual 160, 3) := by decide +kernel
theorem dX12_wetFor_79 : decode cX12_wetFor 79 = .ok (.istore 6, 2) := by decide +kernel
theorem dX12_wetFor_81 : decode cX12_wetFor 81 = .ok (.iload 4, 2) := by decide +kernel
theorem dX12_wetFor_83 : decode cX12_wetFor 83 = .ok (.ifCond .eq 32, 3) := by decide +kernel
theorem dX12_wetFor_86 : decode cX12_wetFor 86 = .ok (.aload_n 0, 1) := by decide +kernel
theorem dX12_wetFor_87 : decode cX12_wetFor 87 = .ok (.getfield 25, 3) := by decide +kernel
theorem dX12_wetFor_90 : decode cX12_wetFor 90 = .ok (.bipush 6, 2) := by decide +kernel
theorem dX12_wetFor_92 : decode cX12_wetFor 92 = .ok (.iload 6, 2) := by decide +kernel
theorem dX12_wetFor_94 : decode cX12_wetFor 94 = .ok (.iadd, 1) := by decide +kernel
theorem dX12_wetFor_95 : decode cX12_wetFor 95 = .ok (.iaload, 1) := by decide +kernel
theorem dX12_wetFor_96 : decode cX12_wetFor 96 = .ok (.aload_n 0, 1) := by decide +kernel
theorem dX12_wetFor_97 : decode cX12_wetFor 97 = .ok (.getfield 19, 3) := by decide +kernel
theorem dX12_wetFor_100 : decode cX12_wetFor 100 = .ok (.bipush 6, 2) := by decide +kernel
theorem dX12_wetFor_102 : decode cX12_wetFor 102 = .ok (.iload 6, 2) := by decide +kernel
theorem dX12_wetFor_104 : decode cX12_wetFor 104 = .ok (.iadd, 1) := by decide +kernel
theorem dX12_wetFor_105 : decode cX12_wetFor 105 = .ok (.iaload, 1) := by decide +kernel
theorem dX12_wetFor_106 : decode cX12_wetFor 106 = .ok (.isub, 1) := by decide +kernel
theorem dX12_wetFor_107 : decode cX12_wetFor 107 = .ok (.iload_n 2, 1) := by decide +kernel
theorem dX12_wetFor_108 : decode cX12_wetFor 108 = .ok (.if_icmp .lt 7, 3) := by decide +kernel
theorem dX12_wetFor_111 : decode cX12_wetFor 111 = .ok (.iconst 1, 1) := by decide +kernel
theorem dX12_wetFor_112 : decode cX12_wetFor 112 = .ok (.goto 4, 3) := by decide +kernel
theorem dX12_wetFor_115 : decode cX12_wetFor 115 = .ok (.iconst 0, 1) := by decide +kernel
theorem dX12_wetFor_116 : decode cX12_wetFor 116 = .ok (.istore 4, 2) := by decide +kernel
theorem dX12_wetFor_118 : decode cX12_wetFor 118 = .ok (.iinc 5 1, 3) := by decide +kernel
theorem dX12_wetFor_121 : decode cX12_wetFor 121 = .ok (.goto (-59), 3) := by decide +kernel
theorem dX12_wetFor_124 : decode cX12_wetFor 124 = .ok (.iload 4, 2) := by decide +kernel
theorem dX12_wetFor_126 : decode cX12_wetFor 126 = .ok (.ifCond .eq 5, 3) := by decide +kernel
theorem dX12_wetFor_129 : decode cX12_wetFor 129 = .ok (.iload_n 3, 1) := by decide +kernel
theorem dX12_wetFor_130 : decode cX12_wetFor 130 = .ok (.ireturn, 1) := by decide +kernel
theorem dX12_wetFor_131 : decode cX12_wetFor 131 = .ok (.iinc 3 1, 3) := by decide +kernel
theorem dX12_wetFor_134 : decode cX12_wetFor 134 = .ok (.goto (-104), 3) := by decide +kernel
theorem dX12_wetFor_137 : decode cX12_wetFor 137 = .ok (.ldc 87, 2) := by decide +kernel
theorem dX12_wetFor_139 : decode cX12_wetFor 139 = .ok (.ireturn, 1) := by decide +kernel
theorem dX12_bits_0 : decode cX12_bits 0 = .ok (.iconst 0, 1) := by decide +kernel
theorem dX12_bits_1 : decode cX12_bits 1 = .ok (.istore_n 1, 1) := by decide +kernel
theorem dX12_bits_2 : decode cX12_bits 2 = .ok (.iconst 0, 1) := by decide +kernel
theorem dX12_bits_3 : decode cX12_bits 3 = .ok (.istore_n 2, 1) := by decide +kernel
theorem dX12_bits_4 : decode cX12_bits 4 = .ok (.iload_n 2, 1) := by decide +kernel
theorem dX12_bits_5 : decode cX12_bits 5 = .ok (.bipush 15, 2) := by decide +kernel
theorem dX12_bits_7 : decode cX12_bits 7 = .ok (.if_icmp .ge 17, 3) := by decide +kernel
theorem dX12_bits_10 : decode cX12_bits 10 = .ok (.iload_n 1, 1) := by decide +kernel
theorem dX12_bits_11 : decode cX12_bits 11 = .ok (.iload_n 0, 1) := by decide +kernel
theorem dX12_bits_12 : decode cX12_bits 12 = .ok (.iload_n 2, 1) := by decide +kernel
theorem dX12_bits_13 : decode cX12_bits 13 = .ok (.ishr, 1) := by decide +kernel
theorem dX12_bits_14 : decode cX12_bits 14 = .ok (.iconst 1, 1) := by decide +kernel
theorem dX12_bits_15 : decode cX12_bits 15 = .ok (.iand, 1) := by decide +kernel
theorem dX12_bits_16 : decode cX12_bits 16 = .ok (.iadd, 1) := by decide +kernel
theorem dX12_bits_17 : decode cX12_bits 17 = .ok (.istore_n 1, 1) := by decide +kernel
theorem dX12_bits_18 : decode cX12_bits 18 = .ok (.iinc 2 1, 3) := by decide +kernel
theorem dX12_bits_21 : decode cX12_bits 21 = .ok (.goto (-17), 3) := by decide +kernel
theorem dX12_bits_24 : decode cX12_bits 24 = .ok (.iload_n 1, 1) := by decide +kernel
theorem dX12_bits_25 : decode cX12_bits 25 = .ok (.ireturn, 1) := by decide +kernel
theorem dX12_over_0 : decode cX12_over 0 = .ok (.aload_n 0, 1) := by decide +kernel
theorem dX12_over_1 : decode cX12_over 1 = .ok (.iconst 0, 1) := by decide +kernel
theorem dX12_over_2 : decode cX12_over 2 = .ok (.putfield 44, 3) := by decide +kernel
theorem dX12_over_5 : decode cX12_over 5 = .ok (.aload_n 0, 1) := by decide +kernel
theorem dX12_over_6 : decode cX12_over 6 = .ok (.invokevirtual 177, 3) := by decide +kernel
theorem dX12_over_9 : decode cX12_over 9 = .ok (.ifCond .ne 6, 3) := by decide +kernel
theorem dX12_over_12 : decode cX12_over 12 = .ok (.ldc 180, 2) := by decide +kernel
theorem dX12_over_14 : decode cX12_over 14 = .ok (.ireturn, 1) := by decide +kernel
theorem dX12_over_15 : decode cX12_over 15 = .ok (.iload_n 1, 1) := by decide +kernel
theorem dX12_over_16 : decode cX12_over 16 = .ok (.invokestatic 239, 3) := by decide +kernel
theorem dX12_over_19 : decode cX12_over 19 = .ok (.ifCond .eq 13, 3) := by decide +kernel
theorem dX12_over_22 : decode cX12_over 22 = .ok (.iload_n 2, 1) := by decide +kernel
theorem dX12_over_23 : decode cX12_over 23 = .ok (.i2l, 1) := by decide +kernel
theorem dX12_over_24 : decode cX12_over 24 = .ok (.lconst 0, 1) := by decide +kernel
theorem dX12_over_25 : decode cX12_over 25 = .ok (.lconst 1, 1) := by decide +kernel
theorem dX12_over_26 : decode cX12_over 26 = .ok (.invokestatic 54, 3) := by decide +kernel
theorem dX12_over_29 : decode cX12_over 29 = .ok (.ifCond .ne 6, 3) := by decide +kernel
theorem dX12_over_32 : decode cX12_over 32 = .ok (.ldc 64, 2) := by decide +kernel
theorem dX12_over_34 : decode cX12_over 34 = .ok (.ireturn, 1) := by decide +kernel
theorem dX12_over_35 : decode cX12_over 35 = .ok (.ldc 87, 2) := by decide +kernel
theorem dX12_over_37 : decode cX12_over 37 = .ok (.istore_n 3, 1) := by decide +kernel
theorem dX12_over_38 : decode cX12_over 38 = .ok (.iconst 0, 1) := by decide +kernel
theorem dX12_over_39 : decode cX12_over 39 = .ok (.istore 4, 2) := by decide +kernel
theorem dX12_over_41 : decode cX12_over 41 = .ok (.iload 4, 2) := by decide +kernel
theorem dX12_over_43 : decode cX12_over 43 = .ok (.iconst 1, 1) := by decide +kernel
theorem dX12_over_44 : decode cX12_over 44 = .ok (.aload_n 0, 1) := by decide +kernel
theorem dX12_over_45 : decode cX12_over 45 = .ok (.getfield 19, 3) := by decide +kernel
theorem dX12_over_48 : decode cX12_over 48 = .ok (.iconst 5, 1) := by decide +kernel
theorem dX12_over_49 : decode cX12_over 49 = .ok (.iaload, 1) := by decide +kernel
theorem dX12_over_50 : decode cX12_over 50 = .ok (.ishl, 1) := by decide +kernel
theorem dX12_over_51 : decode cX12_over 51 = .ok (.if_icmp .ge 90, 3) := by decide +kernel
theorem dX12_over_54 : decode cX12_over 54 = .ok (.iload_n 1, 1) := by decide +kernel
theorem dX12_over_55 : decode cX12_over 55 = .ok (.istore 5, 2) := by decide +kernel
theorem dX12_over_57 : decode cX12_over 57 = .ok (.iconst 0, 1) := by decide +kernel
theorem dX12_over_58 : decode cX12_over 58 = .ok (.istore 6, 2) := by decide +kernel
theorem dX12_over_60 : decode cX12_over 60 = .ok (.iload 6, 2) := by decide +kernel
theorem dX12_over_62 : decode cX12_over 62 = .ok (.aload_n 0, 1) := by decide +kernel
theorem dX12_over_63 : decode cX12_over 63 = .ok (.getfield 19, 3) := by decide +kernel
theorem dX12_over_66 : decode cX12_over 66 = .ok (.iconst 5, 1) := by decide +kernel
theorem dX12_over_67 : decode cX12_over 67 = .ok (.iaload, 1) := by decide +kernel
theorem dX12_over_68 : decode cX12_over 68 = .ok (.if_icmp .ge 37, 3) := by decide +kernel
theorem dX12_over_71 : decode cX12_over 71 = .ok (.iload 5, 2) := by decide +kernel
theorem dX12_over_73 : decode cX12_over 73 = .ok (.iload 4, 2) := by decide +kernel
theorem dX12_over_75 : decode cX12_over 75 = .ok (.iload 6, 2) := by decide +kernel
theorem dX12_over_77 : decode cX12_over 77 = .ok (.ishr, 1) := by decide +kernel
theorem dX12_over_78 : decode cX12_over 78 = .ok (.iconst 1, 1) := by decide +kernel
theorem dX12_over_79 : decode cX12_over 79 = .ok (.iand, 1) := by decide +kernel
theorem dX12_over_80 : decode cX12_over 80 = .ok (.iconst 1, 1) := by decide +kernel
theorem dX12_over_81 : decode cX12_over 81 = .ok (.if_icmp .ne 14, 3) := by decide +kernel
theorem dX12_over_84 : decode cX12_over 84 = .ok (.aload_n 0, 1) := by decide +kernel
theorem dX12_over_85 : decode cX12_over 85 = .ok (.iload 6, 2) := by decide +kernel
theorem dX12_over_87 : decode cX12_over 87 = .ok (.invokevirtual 208, 3) := by decide +kernel
theorem dX12_over_90 : decode cX12_over 90 = .ok (.iconst (-1), 1) := by decide +kernel
theorem dX12_over_91 : decode cX12_over 91 = .ok (.ixor, 1) := by decide +kernel
theorem dX12_over_92 : decode cX12_over 92 = .ok (.goto 4, 3) := by decide +kernel
theorem dX12_over_95 : decode cX12_over 95 = .ok (.iconst (-1), 1) := by decide +kernel
theorem dX12_over_96 : decode cX12_over 96 = .ok (.iand, 1) := by decide +kernel
theorem dX12_over_97 : decode cX12_over 97 = .ok (.istore 5, 2) := by decide +kernel
theorem dX12_over_99 : decode cX12_over 99 = .ok (.iinc 6 1, 3) := by decide +kernel
theorem dX12_over_102 : decode cX12_over 102 = .ok (.goto (-42), 3) := by decide +kernel
theorem dX12_over_105 : decode cX12_over 105 = .ok (.iload 5, 2) := by decide +kernel
theorem dX12_over_107 : decode cX12_over 107 = .ok (.ifCond .ne 26, 3) := by decide +kernel
theorem dX12_over_110 : decode cX12_over 110 = .ok (.iload_n 3, 1) := by decide +kernel
theorem dX12_over_111 : decode cX12_over 111 = .ok (.ldc 87, 2) := by decide +kernel
theorem dX12_over_113 : decode cX12_over 113 = .ok (.if_icmp .eq 15, 3) := by decide +kernel
theorem dX12_over_116 : decode cX12_over 116 = .ok (.iload 4, 2) := by decide +kernel
theorem dX12_over_118 : decode cX12_over 118 = .ok (.invokestatic 242, 3) := by decide +kernel
theorem dX12_over_121 : decode cX12_over 121 = .ok (.iload_n 3, 1) := by decide +kernel
theorem dX12_over_122 : decode cX12_over 122 = .ok (.invokestatic 242, 3) := by decide +kernel
theorem dX12_over_125 : decode cX12_over 125 = .ok (.if_icmp .ge 8, 3) := by decide +kernel
theorem dX12_over_128 : decode cX12_over 128 = .ok (.iload 4, 2) := by decide +kernel
theorem dX12_over_130 : decode cX12_over 130 = .ok (.goto 4, 3) := by decide +kernel
theorem dX12_over_133 : decode cX12_over 133 = .ok (.iload_n 3, 1) := by decide +kernel
theorem dX12_over_134 : decode cX12_over 134 = .ok (.istore_n 3, 1) := by decide +kernel
theorem dX12_over_135 : decode cX12_over 135 = .ok (.iinc 4 1, 3) := by decide +kernel
theorem dX12_over_138 : decode cX12_over 138 = .ok (.goto (-97), 3) := by decide +kernel
theorem dX12_over_141 : decode cX12_over 141 = .ok (.iload_n 3, 1) := by decide +kernel
theorem dX12_over_142 : decode cX12_over 142 = .ok (.ldc 87, 2) := by decide +kernel
theorem dX12_over_144 : decode cX12_over 144 = .ok (.if_icmp .eq 8, 3) := by decide +kernel
theorem dX12_over_147 : decode cX12_over 147 = .ok (.iload_n 2, 1) := by decide +kernel
theorem dX12_over_148 : decode cX12_over 148 = .ok (.iconst 1, 1) := by decide +kernel
theorem dX12_over_149 : decode cX12_over 149 = .ok (.if_icmp .ne 7, 3) := by decide +kernel
theorem dX12_over_152 : decode cX12_over 152 = .ok (.iload_n 3, 1) := by decide +kernel
theorem dX12_over_153 : decode cX12_over 153 = .ok (.goto 7, 3) := by decide +kernel
theorem dX12_over_156 : decode cX12_over 156 = .ok (.iload_n 3, 1) := by decide +kernel
theorem dX12_over_157 : decode cX12_over 157 = .ok (.invokestatic 242, 3) := by decide +kernel
theorem dX12_over_160 : decode cX12_over 160 = .ok (.ireturn, 1) := by decide +kernel
theorem dX12_goOn_0 : decode cX12_goOn 0 = .ok (.aload_n 0, 1) := by decide +kernel
theorem dX12_goOn_1 : decode cX12_goOn 1 = .ok (.iconst 0, 1) := by decide +kernel
theorem dX12_goOn_2 : decode cX12_goOn 2 = .ok (.putfield 44, 3) := by decide +kernel
theorem dX12_goOn_5 : decode cX12_goOn 5 = .ok (.aload_n 0, 1) := by decide +kernel
theorem dX12_goOn_6 : decode cX12_goOn 6 = .ok (.invokevirtual 177, 3) := by decide +kernel
theorem dX12_goOn_9 : decode cX12_goOn 9 = .ok (.ifCond .ne 6, 3) := by decide +kernel
theorem dX12_goOn_12 : decode cX12_goOn 12 = .ok (.ldc 180, 2) := by decide +kernel
theorem dX12_goOn_14 : decode cX12_goOn 14 = .ok (.ireturn, 1) := by decide +kernel
theorem dX12_goOn_15 : decode cX12_goOn 15 = .ok (.aload_n 0, 1) := by decide +kernel
theorem dX12_goOn_16 : decode cX12_goOn 16 = .ok (.invokevirtual 211, 3) := by decide +kernel
theorem dX12_goOn_19 : decode cX12_goOn 19 = .ok (.aload_n 0, 1) := by decide +kernel
theorem dX12_goOn_20 : decode cX12_goOn 20 = .ok (.getfield 25, 3) := by decide +kernel
theorem dX12_goOn_23 : decode cX12_goOn 23 = .ok (.invokestatic 198, 3) := by decide +kernel
theorem dX12_goOn_26 : decode cX12_goOn 26 = .ok (.aload_n 0, 1) := by decide +kernel
theorem dX12_goOn_27 : decode cX12_goOn 27 = .ok (.aload_n 0, 1) := by decide +kernel
theorem dX12_goOn_28 : decode cX12_goOn 28 = .ok (.getfield 25, 3) := by decide +kernel
theorem dX12_goOn_31 : decode cX12_goOn 31 = .ok (.invokevirtual 214, 3) := by decide +kernel
theorem dX12_goOn_34 : decode cX12_goOn 34 = .ok (.aload_n 0, 1) := by decide +kernel
theorem dX12_goOn_35 : decode cX12_goOn 35 = .ok (.getfield 25, 3) := by decide +kernel
theorem dX12_goOn_38 : decode cX12_goOn 38 = .ok (.invokestatic 202, 3) := by decide +kernel
theorem dX12_goOn_41 : decode cX12_goOn 41 = .ok (.istore_n 1, 1) := by decide +kernel
theorem dX12_goOn_42 : decode cX12_goOn 42 = .ok (.aload_n 0, 1) := by decide +kernel
theorem dX12_goOn_43 : decode cX12_goOn 43 = .ok (.iconst 1, 1) := by decide +kernel
theorem dX12_goOn_44 : decode cX12_goOn 44 = .ok (.invokevirtual 219, 3) := by decide +kernel
theorem dX12_goOn_47 : decode cX12_goOn 47 = .ok (.aload_n 0, 1) := by decide +kernel
theorem dX12_goOn_48 : decode cX12_goOn 48 = .ok (.getfield 25, 3) := by decide +kernel
theorem dX12_goOn_51 : decode cX12_goOn 51 = .ok (.invokestatic 202, 3) := by decide +kernel
theorem dX12_goOn_54 : decode cX12_goOn 54 = .ok (.iload_n 1, 1) := by decide +kernel
theorem dX12_goOn_55 : decode cX12_goOn 55 = .ok (.isub, 1) := by decide +kernel
theorem dX12_goOn_56 : decode cX12_goOn 56 = .ok (.ireturn, 1) := by decide +kernel
theorem dX12_done_0 : decode cX12_done 0 = .ok (.aload_n 0, 1) := by decide +kernel
theorem dX12_done_1 : decode cX12_done 1 = .ok (.iconst 0, 1) := by decide +kernel
theorem dX12_done_2 : decode cX12_done 2 = .ok (.putfield 44, 3) := by decide +kernel
theorem dX12_done_5 : decode cX12_done 5 = .ok (.aload_n 0, 1) := by decide +kernel
theorem dX12_done_6 : decode cX12_done 6 = .ok (.invokevirtual 177, 3) := by decide +kernel
theorem dX12_done_9 : decode cX12_done 9 = .ok (.ifCond .ne 6, 3) := by decide +kernel
theorem dX12_done_12 : decode cX12_done 12 = .ok (.ldc 180, 2) := by decide +kernel
theorem dX12_done_14 : decode cX12_done 14 = .ok (.ireturn, 1) := by decide +kernel
theorem dX12_done_15 : decode cX12_done 15 = .ok (.iload_n 1, 1) := by decide +kernel
theorem dX12_done_16 : decode cX12_done 16 = .ok (.invokestatic 58, 3) := by decide +kernel
theorem dX12_done_19 : decode cX12_done 19 = .ok (.ifCond .eq 13, 3) := by decide +kernel
theorem dX12_done_22 : decode cX12_done 22 = .ok (.iload_n 3, 1) := by decide +kernel
theorem dX12_done_23 : decode cX12_done 23 = .ok (.i2l, 1) := by decide +kernel
theorem dX12_done_24 : decode cX12_done 24 = .ok (.lconst 0, 1) := by decide +kernel
theorem dX12_done_25 : decode cX12_done 25 = .ok (.lconst 1, 1) := by decide +kernel
theorem dX12_done_26 : decode cX12_done 26 = .ok (.invokestatic 54, 3) := by decide +kernel
theorem dX12_done_29 : decode cX12_done 29 = .ok (.ifCond .ne 6, 3) := by decide +kernel
theorem dX12_done_32 : decode cX12_done 32 = .ok (.ldc 64, 2) := by decide +kernel
theorem dX12_done_34 : decode cX12_done 34 = .ok (.ireturn, 1) := by decide +kernel
theorem dX12_done_35 : decode cX12_done 35 = .ok (.aload_n 0, 1) := by decide +kernel
theorem dX12_done_36 : decode cX12_done 36 = .ok (.getfield 7, 3) := by decide +kernel
theorem dX12_done_39 : decode cX12_done 39 = .ok (.iload_n 1, 1) := by decide +kernel
theorem dX12_done_40 : decode cX12_done 40 = .ok (.iaload, 1) := by decide +kernel
theorem dX12_done_41 : decode cX12_done 41 = .ok (.ifCond .ge 9, 3) := by decide +kernel
theorem dX12_done_44 : decode cX12_done 44 = .ok (.aload_n 0, 1) := by decide +kernel
theorem dX12_done_45 : decode cX12_done 45 = .ok (.iconst 1, 1) := by decide +kernel
theorem dX12_done_46 : decode cX12_done 46 = .ok (.invokevirtual 65, 3) := by decide +kernel
theorem dX12_done_49 : decode cX12_done 49 = .ok (.ireturn, 1) := by decide +kernel
theorem dX12_done_50 : decode cX12_done 50 = .ok (.iload_n 2, 1) := by decide +kernel
theorem dX12_done_51 : decode cX12_done 51 = .ok (.ifCond .lt 20, 3) := by decide +kernel
theorem dX12_done_54 : decode cX12_done 54 = .ok (.iload_n 2, 1) := by decide +kernel
theorem dX12_done_55 : decode cX12_done 55 = .ok (.i2l, 1) := by decide +kernel
theorem dX12_done_56 : decode cX12_done 56 = .ok (.ldc2_w 245, 3) := by decide +kernel
theorem dX12_done_59 : decode cX12_done 59 = .ok (.ladd, 1) := by decide +kernel
theorem dX12_done_60 : decode cX12_done 60 = .ok (.aload_n 0, 1) := by decide +kernel
theorem dX12_done_61 : decode cX12_done 61 = .ok (.getfield 13, 3) := by decide +kernel
theorem dX12_done_64 : decode cX12_done 64 = .ok (.iload_n 1, 1) := by decide +kernel
theorem dX12_done_65 : decode cX12_done 65 = .ok (.iaload, 1) := by decide +kernel
theorem dX12_done_66 : decode cX12_done 66 = .ok (.i2l, 1) := by decide +kernel
theorem dX12_done_67 : decode cX12_done 67 = .ok (.lcmp, 1) := by decide +kernel
theorem dX12_done_68 : decode cX12_done 68 = .ok (.ifCond .le 9, 3) := by decide +kernel
theorem dX12_done_71 : decode cX12_done 71 = .ok (.aload_n 0, 1) := by decide +kernel
theorem dX12_done_72 : decode cX12_done 72 = .ok (.iconst 2, 1) := by decide +kernel
theorem dX12_done_73 : decode cX12_done 73 = .ok (.invokevirtual 65, 3) := by decide +kernel
theorem dX12_done_76 : decode cX12_done 76 = .ok (.ireturn, 1) := by decide +kernel
theorem dX12_done_77 : decode cX12_done 77 = .ok (.aload_n 0, 1) := by decide +kernel
theorem dX12_done_78 : decode cX12_done 78 = .ok (.iconst 0, 1) := by decide +kernel
theorem dX12_done_79 : decode cX12_done 79 = .ok (.putfield 48, 3) := by decide +kernel
theorem dX12_done_82 : decode cX12_done 82 = .ok (.iconst 0, 1) := by decide +kernel
theorem dX12_done_83 : decode cX12_done 83 = .ok (.istore 4, 2) := by decide +kernel
theorem dX12_done_85 : decode cX12_done 85 = .ok (.ldc 87, 2) := by decide +kernel
theorem dX12_done_87 : decode cX12_done 87 = .ok (.istore 5, 2) := by decide +kernel
theorem dX12_done_89 : decode cX12_done 89 = .ok (.iconst 1, 1) := by decide +kernel
theorem dX12_done_90 : decode cX12_done 90 = .ok (.aload_n 0, 1) := by decide +kernel
theorem dX12_done_91 : decode cX12_done 91 = .ok (.getfield 19, 3) := by decide +kernel
theorem dX12_done_94 : decode cX12_done 94 = .ok (.iconst 5, 1) := by decide +kernel
theorem dX12_done_95 : decode cX12_done 95 = .ok (.iaload, 1) := by decide +kernel
theorem dX12_done_96 : decode cX12_done 96 = .ok (.ishl, 1) := by decide +kernel
theorem dX12_done_97 : decode cX12_done 97 = .ok (.iconst 1, 1) := by decide +kernel
theorem dX12_done_98 : decode cX12_done 98 = .ok (.isub, 1) := by decide +kernel
theorem dX12_done_99 : decode cX12_done 99 = .ok (.istore 6, 2) := by decide +kernel
theorem dX12_done_101 : decode cX12_done 101 = .ok (.iload 6, 2) := by decide +kernel
theorem dX12_done_103 : decode cX12_done 103 = .ok (.ifCond .lt 141, 3) := by decide +kernel
theorem dX12_done_106 : decode cX12_done 106 = .ok (.aload_n 0, 1) := by decide +kernel
theorem dX12_done_107 : decode cX12_done 107 = .ok (.invokevirtual 211, 3) := by decide +kernel
theorem dX12_done_110 : decode cX12_done 110 = .ok (.iconst 0, 1) := by decide +kernel
theorem dX12_done_111 : decode cX12_done 111 = .ok (.istore 7, 2) := by decide +kernel
theorem dX12_done_113 : decode cX12_done 113 = .ok (.iload 7, 2) := by decide +kernel
theorem dX12_done_115 : decode cX12_done 115 = .ok (.aload_n 0, 1) := by decide +kernel
theorem dX12_done_116 : decode cX12_done 116 = .ok (.getfield 19, 3) := by decide +kernel
theorem dX12_done_119 : decode cX12_done 119 = .ok (.iconst 5, 1) := by decide +kernel
theorem dX12_done_120 : decode cX12_done 120 = .ok (.iaload, 1) := by decide +kernel
theorem dX12_done_121 : decode cX12_done 121 = .ok (.if_icmp .ge 30, 3) := by decide +kernel
theorem dX12_done_124 : decode cX12_done 124 = .ok (.iload 6, 2) := by decide +kernel
theorem dX12_done_126 : decode cX12_done 126 = .ok (.iload 7, 2) := by decide +kernel
theorem dX12_done_128 : decode cX12_done 128 = .ok (.ishr, 1) := by decide +kernel
theorem dX12_done_129 : decode cX12_done 129 = .ok (.iconst 1, 1) := by decide +kernel
theorem dX12_done_130 : decode cX12_done 130 = .ok (.iand, 1) := by decide +kernel
theorem dX12_done_131 : decode cX12_done 131 = .ok (.iconst 1, 1) := by decide +kernel
theorem dX12_done_132 : decode cX12_done 132 = .ok (.if_icmp .ne 13, 3) := by decide +kernel
theorem dX12_done_135 : decode cX12_done 135 = .ok (.aload_n 0, 1) := by decide +kernel
theorem dX12_done_136 : decode cX12_done 136 = .ok (.aload_n 0, 1) := by decide +kernel
theorem dX12_done_137 : decode cX12_done 137 = .ok (.getfield 25, 3) := by decide +kernel
theorem dX12_done_140 : decode cX12_done 140 = .ok (.iload 7, 2) := by decide +kernel
theorem dX12_done_142 : decode cX12_done 142 = .ok (.invokevirtual 173, 3) := by decide +kernel
theorem dX12_done_145 : decode cX12_done 145 = .ok (.iinc 7 1, 3) := by decide +kernel
theorem dX12_done_148 : decode cX12_done 148 = .ok (.goto (-35), 3) := by decide +kernel
theorem dX12_done_151 : decode cX12_done 151 = .ok (.iconst 1, 1) := by decide +kernel
theorem dX12_done_152 : decode cX12_done 152 = .ok (.istore 7, 2) := by decide +kernel
theorem dX12_done_154 : decode cX12_done 154 = .ok (.iconst 0, 1) := by decide +kernel
theorem dX12_done_155 : decode cX12_done 155 = .ok (.istore 8, 2) := by decide +kernel
theorem dX12_done_157 : decode cX12_done 157 = .ok (.iload 8, 2) := by decide +kernel
theorem dX12_done_159 : decode cX12_done 159 = .ok (.bipush 15, 2) := by decide +kernel
theorem dX12_done_161 : decode cX12_done 161 = .ok (.if_icmp .ge 48, 3) := by decide +kernel
theorem dX12_done_164 : decode cX12_done 164 = .ok (.iload 7, 2) := by decide +kernel
theorem dX12_done_166 : decode cX12_done 166 = .ok (.ifCond .eq 34, 3) := by decide +kernel
theorem dX12_done_169 : decode cX12_done 169 = .ok (.aload_n 0, 1) := by decide +kernel
theorem dX12_done_170 : decode cX12_done 170 = .ok (.getfield 25, 3) := by decide +kernel
theorem dX12_done_173 : decode cX12_done 173 = .ok (.bipush 6, 2) := by decide +kernel
theorem dX12_done_175 : decode cX12_done 175 = .ok (.iload 8, 2) := by decide +kernel
theorem dX12_done_177 : decode cX12_done 177 = .ok (.iadd, 1) := by decide +kernel
theorem dX12_done_178 : decode cX12_done 178 = .ok (.iaload, 1) := by decide +kernel
theorem dX12_done_179 : decode cX12_done 179 = .ok (.aload_n 0, 1) := by decide +kernel
theorem dX12_done_180 : decode cX12_done 180 = .ok (.getfield 16, 3) := by decide +kernel
theorem dX12_done_183 : decode cX12_done 183 = .ok (.bipush 40, 2) := by decide +kernel
theorem dX12_done_185 : decode cX12_done 185 = .ok (.iload_n 1, 1) := by decide +kernel
theorem dX12_done_186 : decode cX12_done 186 = .ok (.imul, 1) := by decide +kernel
theorem dX12_done_187 : decode cX12_done 187 = .ok (.iload_n 2, 1) := by decide +kernel
theorem dX12_done_188 : decode cX12_done 188 = .ok (.iadd, 1) := by decide +kernel
theorem dX12_done_189 : decode cX12_done 189 = .ok (.iload 8, 2) := by decide +kernel
theorem dX12_done_191 : decode cX12_done 191 = .ok (.iadd, 1) := by decide +kernel
theorem dX12_done_192 : decode cX12_done 192 = .ok (.iaload, 1) := by decide +kernel
theorem dX12_done_193 : decode cX12_done 193 = .ok (.if_icmp .ne 7, 3) := by decide +kernel
theorem dX12_done_196 : decode cX12_done 196 = .ok (.iconst 1, 1) := by decide +kernel
theorem dX12_done_197 : decode cX12_done 197 = .ok (.goto 4, 3) := by decide +kernel
theorem dX12_done_200 : decode cX12_done 200 = .ok (.iconst 0, 1) := by decide +kernel
theorem dX12_done_201 : decode cX12_done 201 = .ok (.istore 7, 2) := by decide +kernel
theorem dX12_done_203 : decode cX12_done 203 = .ok (.iinc 8 1, 3) := by decide +kernel
theorem dX12_done_206 : decode cX12_done 206 = .ok (.goto (-49), 3) := by decide +kernel
theorem dX12_done_209 : decode cX12_done 209 = .ok (.iload 4, 2) := by decide +kernel
theorem dX12_done_211 : decode cX12_done 211 = .ok (.iload 7, 2) := by decide +kernel
theorem dX12_done_213 : decode cX12_done 213 = .ok (.ifCond .eq 7, 3) := by decide +kernel
theorem dX12_done_216 : decode cX12_done 216 = .ok (.iconst 1, 1) := by decide +kernel
theorem dX12_done_217 : decode cX12_done 217 = .ok (.goto 4, 3) := by decide +kernel
theorem dX12_done_220 : decode cX12_done 220 = .ok (.iconst 0, 1) := by decide +kernel
theorem dX12_done_221 : decode cX12_done 221 = .ok (.iadd, 1) := by decide +kernel
theorem dX12_done_222 : decode cX12_done 222 = .ok (.istore 4, 2) := by decide +kernel
theorem dX12_done_224 : decode cX12_done 224 = .ok (.iload 7, 2) := by decide +kernel
theorem dX12_done_226 : decode cX12_done 226 = .ok (.ifCond .eq 8, 3) := by decide +kernel
theorem dX12_done_229 : decode cX12_done 229 = .ok (.iload 6, 2) := by decide +kernel
theorem dX12_done_231 : decode cX12_done 231 = .ok (.goto 5, 3) := by decide +kernel
theorem dX12_done_234 : decode cX12_done 234 = .ok (.iload 5, 2) := by decide +kernel
theorem dX12_done_236 : decode cX12_done 236 = .ok (.istore 5, 2) := by decide +kernel
theorem dX12_done_238 : decode cX12_done 238 = .ok (.iinc 6 (-1), 3) := by decide +kernel
theorem dX12_done_241 : decode cX12_done 241 = .ok (.goto (-140), 3) := by decide +kernel
theorem dX12_done_244 : decode cX12_done 244 = .ok (.iload_n 3, 1) := by decide +kernel
theorem dX12_done_245 : decode cX12_done 245 = .ok (.ifCond .ne 8, 3) := by decide +kernel
theorem dX12_done_248 : decode cX12_done 248 = .ok (.iload 4, 2) := by decide +kernel
theorem dX12_done_250 : decode cX12_done 250 = .ok (.goto 5, 3) := by decide +kernel
theorem dX12_done_253 : decode cX12_done 253 = .ok (.iload 5, 2) := by decide +kernel
theorem dX12_done_255 : decode cX12_done 255 = .ok (.ireturn, 1) := by decide +kernel
theorem dX12_cups_0 : decode cX12_cups 0 = .ok (.aload_n 0, 1) := by decide +kernel
theorem dX12_cups_1 : decode cX12_cups 1 = .ok (.iconst 0, 1) := by decide +kernel
theorem dX12_cups_2 : decode cX12_cups 2 = .ok (.putfield 44, 3) := by decide +kernel
theorem dX12_cups_5 : decode cX12_cups 5 = .ok (.aload_n 0, 1) := by decide +kernel
theorem dX12_cups_6 : decode cX12_cups 6 = .ok (.invokevirtual 177, 3) := by decide +kernel
theorem dX12_cups_9 : decode cX12_cups 9 = .ok (.ifCond .ne 6, 3) := by decide +kernel
theorem dX12_cups_12 : decode cX12_cups 12 = .ok (.ldc 180, 2) := by decide +kernel
theorem dX12_cups_14 : decode cX12_cups 14 = .ok (.ireturn, 1) := by decide +kernel
theorem dX12_cups_15 : decode cX12_cups 15 = .ok (.iload_n 1, 1) := by decide +kernel
theorem dX12_cups_16 : decode cX12_cups 16 = .ok (.invokestatic 239, 3) := by decide +kernel
theorem dX12_cups_19 : decode cX12_cups 19 = .ok (.ifCond .eq 15, 3) := by decide +kernel
theorem dX12_cups_22 : decode cX12_cups 22 = .ok (.iload_n 2, 1) := by decide +kernel
theorem dX12_cups_23 : decode cX12_cups 23 = .ok (.i2l, 1) := by decide +kernel
theorem dX12_cups_24 : decode cX12_cups 24 = .ok (.lconst 1, 1) := by decide +kernel
theorem dX12_cups_25 : decode cX12_cups 25 = .ok (.ldc2_w 233, 3) := by decide +kernel
theorem dX12_cups_28 : decode cX12_cups 28 = .ok (.invokestatic 54, 3) := by decide +kernel
theorem dX12_cups_31 : decode cX12_cups 31 = .ok (.ifCond .ne 6, 3) := by decide +kernel
theorem dX12_cups_34 : decode cX12_cups 34 = .ok (.ldc 64, 2) := by decide +kernel
theorem dX12_cups_36 : decode cX12_cups 36 = .ok (.ireturn, 1) := by decide +kernel
theorem dX12_cups_37 : decode cX12_cups 37 = .ok (.iconst 0, 1) := by decide +kernel
theorem dX12_cups_38 : decode cX12_cups 38 = .ok (.istore_n 3, 1) := by decide +kernel
theorem dX12_cups_39 : decode cX12_cups 39 = .ok (.iconst 0, 1) := by decide +kernel
theorem dX12_cups_40 : decode cX12_cups 40 = .ok (.istore 4, 2) := by decide +kernel
theorem dX12_cups_42 : decode cX12_cups 42 = .ok (.iload 4, 2) := by decide +kernel
theorem dX12_cups_44 : decode cX12_cups 44 = .ok (.bipush 15, 2) := by decide +kernel
theorem dX12_cups_46 : decode cX12_cups 46 = .ok (.if_icmp .ge 52, 3) := by decide +kernel
theorem dX12_cups_49 : decode cX12_cups 49 = .ok (.iload_n 3, 1) := by decide +kernel
theorem dX12_cups_50 : decode cX12_cups 50 = .ok (.iload_n 1, 1) := by decide +kernel
theorem dX12_cups_51 : decode cX12_cups 51 = .ok (.iload 4, 2) := by decide +kernel
theorem dX12_cups_53 : decode cX12_cups 53 = .ok (.ishr, 1) := by decide +kernel
theorem dX12_cups_54 : decode cX12_cups 54 = .ok (.iconst 1, 1) := by decide +kernel
theorem dX12_cups_55 : decode cX12_cups 55 = .ok (.iand, 1) := by decide +kernel
theorem dX12_cups_56 : decode cX12_cups 56 = .ok (.iconst 1, 1) := by decide +kernel
theorem dX12_cups_57 : decode cX12_cups 57 = .ok (.if_icmp .ne 32, 3) := by decide +kernel
theorem dX12_cups_60 : decode cX12_cups 60 = .ok (.aload_n 0, 1) := by decide +kernel
theorem dX12_cups_61 : decode cX12_cups 61 = .ok (.getfield 19, 3) := by decide +kernel
theorem dX12_cups_64 : decode cX12_cups 64 = .ok (.bipush 6, 2) := by decide +kernel
theorem dX12_cups_66 : decode cX12_cups 66 = .ok (.iload 4, 2) := by decide +kernel
theorem dX12_cups_68 : decode cX12_cups 68 = .ok (.iadd, 1) := by decide +kernel
theorem dX12_cups_69 : decode cX12_cups 69 = .ok (.iaload, 1) := by decide +kernel
theorem dX12_cups_70 : decode cX12_cups 70 = .ok (.iload_n 2, 1) := by decide +kernel
theorem dX12_cups_71 : decode cX12_cups 71 = .ok (.if_icmp .ge 18, 3) := by decide +kernel
theorem dX12_cups_74 : decode cX12_cups 74 = .ok (.iload_n 2, 1) := by decide +kernel
theorem dX12_cups_75 : decode cX12_cups 75 = .ok (.aload_n 0, 1) := by decide +kernel
theorem dX12_cups_76 : decode cX12_cups 76 = .ok (.getfield 19, 3) := by decide +kernel
theorem dX12_cups_79 : decode cX12_cups 79 = .ok (.bipush 6, 2) := by decide +kernel
theorem dX12_cups_81 : decode cX12_cups 81 = .ok (.iload 4, 2) := by decide +kernel
theorem dX12_cups_83 : decode cX12_cups 83 = .ok (.iadd, 1) := by decide +kernel
theorem dX12_cups_84 : decode cX12_cups 84 = .ok (.iaload, 1) := by decide +kernel
theorem dX12_cups_85 : decode cX12_cups 85 = .ok (.isub, 1) := by decide +kernel
theorem dX12_cups_86 : decode cX12_cups 86 = .ok (.goto 4, 3) := by decide +kernel
theorem dX12_cups_89 : decode cX12_cups 89 = .ok (.iconst 0, 1) := by decide +kernel
theorem dX12_cups_90 : decode cX12_cups 90 = .ok (.iadd, 1) := by decide +kernel
theorem dX12_cups_91 : decode cX12_cups 91 = .ok (.istore_n 3, 1) := by decide +kernel
theorem dX12_cups_92 : decode cX12_cups 92 = .ok (.iinc 4 1, 3) := by decide +kernel
theorem dX12_cups_95 : decode cX12_cups 95 = .ok (.goto (-53), 3) := by decide +kernel
theorem dX12_cups_98 : decode cX12_cups 98 = .ok (.iload_n 3, 1) := by decide +kernel
theorem dX12_cups_99 : decode cX12_cups 99 = .ok (.ireturn, 1) := by decide +kernel
theorem dX12_thin_0 : decode cX12_thin 0 = .ok (.aload_n 0, 1) := by decide +kernel
theorem dX12_thin_1 : decode cX12_thin 1 = .ok (.iconst 0, 1) := by decide +kernel
theorem dX12_thin_2 : decode cX12_thin 2 = .ok (.putfield 44, 3) := by decide +kernel
theorem dX12_thin_5 : decode cX12_thin 5 = .ok (.aload_n 0, 1) := by decide +kernel
theorem dX12_thin_6 : decode cX12_thin 6 = .ok (.invokevirtual 177, 3) := by decide +kernel
theorem dX12_thin_9 : decode cX12_thin 9 = .ok (.ifCond .ne 6, 3) := by decide +kernel
theorem dX12_thin_12 : decode cX12_thin 12 = .ok (.ldc 180, 2) := by decide +kernel
theorem dX12_thin_14 : decode cX12_thin 14 = .ok (.ireturn, 1) := by decide +kernel
theorem dX12_thin_15 : decode cX12_thin 15 = .ok (.sipush 1000, 3) := by decide +kernel
theorem dX12_thin_18 : decode cX12_thin 18 = .ok (.istore_n 1, 1) := by decide +kernel
theorem dX12_thin_19 : decode cX12_thin 19 = .ok (.iconst 0, 1) := by decide +kernel
theorem dX12_thin_20 : decode cX12_thin 20 = .ok (.istore_n 2, 1) := by decide +kernel
theorem dX12_thin_21 : decode cX12_thin 21 = .ok (.iconst 0, 1) := by decide +kernel
theorem dX12_thin_22 : decode cX12_thin 22 = .ok (.istore_n 3, 1) := by decide +kernel
theorem dX12_thin_23 : decode cX12_thin 23 = .ok (.iload_n 3, 1) := by decide +kernel
theorem dX12_thin_24 : decode cX12_thin 24 = .ok (.bipush 15, 2) := by decide +kernel
theorem dX12_thin_26 : decode cX12_thin 26 = .ok (.if_icmp .ge 61, 3) := by decide +kernel
theorem dX12_thin_29 : decode cX12_thin 29 = .ok (.aload_n 0, 1) := by decide +kernel
theorem dX12_thin_30 : decode cX12_thin 30 = .ok (.getfield 19, 3) := by decide +kernel
theorem dX12_thin_33 : decode cX12_thin 33 = .ok (.bipush 6, 2) := by decide +kernel
theorem dX12_thin_35 : decode cX12_thin 35 = .ok (.iload_n 3, 1) := by decide +kernel
theorem dX12_thin_36 : decode cX12_thin 36 = .ok (.iadd, 1) := by decide +kernel
theorem dX12_thin_37 : decode cX12_thin 37 = .ok (.iaload, 1) := by decide +kernel
theorem dX12_thin_38 : decode cX12_thin 38 = .ok (.istore 4, 2) := by decide +kernel
theorem dX12_thin_40 : decode cX12_thin 40 = .ok (.iload 4, 2) := by decide +kernel
theorem dX12_thin_42 : decode cX12_thin 42 = .ok (.iload_n 1, 1) := by decide +kernel
theorem dX12_thin_43 : decode cX12_thin 43 = .ok (.if_icmp .ge 9, 3) := by decide +kernel
theorem dX12_thin_46 : decode cX12_thin 46 = .ok (.iconst 1, 1) := by decide +kernel
theorem dX12_thin_47 : decode cX12_thin 47 = .ok (.iload_n 3, 1) := by decide +kernel
theorem dX12_thin_48 : decode cX12_thin 48 = .ok (.ishl, 1) := by decide +kernel
theorem dX12_thin_49 : decode cX12_thin 49 = .ok (.goto 18, 3) := by decide +kernel
theorem dX12_thin_52 : decode cX12_thin 52 = .ok (.iload 4, 2) := by decide +kernel
theorem dX12_thin_54 : decode cX12_thin 54 = .ok (.iload_n 1, 1) := by decide +kernel
theorem dX12_thin_55 : decode cX12_thin 55 = .ok (.if_icmp .ne 11, 3) := by decide +kernel
theorem dX12_thin_58 : decode cX12_thin 58 = .ok (.iload_n 2, 1) := by decide +kernel
theorem dX12_thin_59 : decode cX12_thin 59 = .ok (.iconst 1, 1) := by decide +kernel
theorem dX12_thin_60 : decode cX12_thin 60 = .ok (.iload_n 3, 1) := by decide +kernel
theorem dX12_thin_61 : decode cX12_thin 61 = .ok (.ishl, 1) := by decide +kernel
theorem dX12_thin_62 : decode cX12_thin 62 = .ok (.ior, 1) := by decide +kernel
theorem dX12_thin_63 : decode cX12_thin 63 = .ok (.goto 4, 3) := by decide +kernel
theorem dX12_thin_66 : decode cX12_thin 66 = .ok (.iload_n 2, 1) := by decide +kernel
theorem dX12_thin_67 : decode cX12_thin 67 = .ok (.istore_n 2, 1) := by decide +kernel
theorem dX12_thin_68 : decode cX12_thin 68 = .ok (.iload 4, 2) := by decide +kernel
theorem dX12_thin_70 : decode cX12_thin 70 = .ok (.iload_n 1, 1) := by decide +kernel
theorem dX12_thin_71 : decode cX12_thin 71 = .ok (.if_icmp .ge 8, 3) := by decide +kernel
theorem dX12_thin_74 : decode cX12_thin 74 = .ok (.iload 4, 2) := by decide +kernel
theorem dX12_thin_76 : decode cX12_thin 76 = .ok (.goto 4, 3) := by decide +kernel
theorem dX12_thin_79 : decode cX12_thin 79 = .ok (.iload_n 1, 1) := by decide +kernel
theorem dX12_thin_80 : decode cX12_thin 80 = .ok (.istore_n 1, 1) := by decide +kernel
theorem dX12_thin_81 : decode cX12_thin 81 = .ok (.iinc 3 1, 3) := by decide +kernel
theorem dX12_thin_84 : decode cX12_thin 84 = .ok (.goto (-61), 3) := by decide +kernel
theorem dX12_thin_87 : decode cX12_thin 87 = .ok (.iload_n 2, 1) := by decide +kernel
theorem dX12_thin_88 : decode cX12_thin 88 = .ok (.ireturn, 1) := by decide +kernel
theorem dX12_dust_0 : decode cX12_dust 0 = .ok (.aload_n 0, 1) := by decide +kernel
theorem dX12_dust_1 : decode cX12_dust 1 = .ok (.iconst 0, 1) := by decide +kernel
theorem dX12_dust_2 : decode cX12_dust 2 = .ok (.putfield 44, 3) := by decide +kernel
theorem dX12_dust_5 : decode cX12_dust 5 = .ok (.iload_n 1, 1) := by decide +kernel
theorem dX12_dust_6 : decode cX12_dust 6 = .ok (.i2l, 1) := by decide +kernel
theorem dX12_dust_7 : decode cX12_dust 7 = .ok (.lconst 0, 1) := by decide +kernel
theorem dX12_dust_8 : decode cX12_dust 8 = .ok (.ldc2_w 247, 3) := by decide +kernel
theorem dX12_dust_11 : decode cX12_dust 11 = .ok (.invokestatic 54, 3) := by decide +kernel
theorem dX12_dust_14 : decode cX12_dust 14 = .ok (.ifCond .eq 37, 3) := by decide +kernel
theorem dX12_dust_17 : decode cX12_dust 17 = .ok (.iload_n 2, 1) := by decide +kernel
theorem dX12_dust_18 : decode cX12_dust 18 = .ok (.i2l, 1) := by decide +kernel
theorem dX12_dust_19 : decode cX12_dust 19 = .ok (.lconst 0, 1) := by decide +kernel
theorem dX12_dust_20 : decode cX12_dust 20 = .ok (.ldc2_w 247, 3) := by decide +kernel
theorem dX12_dust_23 : decode cX12_dust 23 = .ok (.invokestatic 54, 3) := by decide +kernel
theorem dX12_dust_26 : decode cX12_dust 26 = .ok (.ifCond .eq 25, 3) := by decide +kernel
theorem dX12_dust_29 : decode cX12_dust 29 = .ok (.iload_n 3, 1) := by decide +kernel
theorem dX12_dust_30 : decode cX12_dust 30 = .ok (.i2l, 1) := by decide +kernel
theorem dX12_dust_31 : decode cX12_dust 31 = .ok (.lconst 0, 1) := by decide +kernel
theorem dX12_dust_32 : decode cX12_dust 32 = .ok (.iload_n 2, 1) := by decide +kernel
theorem dX12_dust_33 : decode cX12_dust 33 = .ok (.i2l, 1) := by decide +kernel
theorem dX12_dust_34 : decode cX12_dust 34 = .ok (.invokestatic 54, 3) := by decide +kernel
theorem dX12_dust_37 : decode cX12_dust 37 = .ok (.ifCond .eq 14, 3) := by decide +kernel
theorem dX12_dust_40 : decode cX12_dust 40 = .ok (.iload 4, 2) := by decide +kernel
theorem dX12_dust_42 : decode cX12_dust 42 = .ok (.i2l, 1) := by decide +kernel
theorem dX12_dust_43 : decode cX12_dust 43 = .ok (.lconst 0, 1) := by decide +kernel
theorem dX12_dust_44 : decode cX12_dust 44 = .ok (.lconst 1, 1) := by decide +kernel
theorem dX12_dust_45 : decode cX12_dust 45 = .ok (.invokestatic 54, 3) := by decide +kernel
theorem dX12_dust_48 : decode cX12_dust 48 = .ok (.ifCond .ne 7, 3) := by decide +kernel
theorem dX12_dust_51 : decode cX12_dust 51 = .ok (.ldc2_w 249, 3) := by decide +kernel
theorem dX12_dust_54 : decode cX12_dust 54 = .ok (.lreturn, 1) := by decide +kernel
theorem dX12_dust_55 : decode cX12_dust 55 = .ok (.lconst 1, 1) := by decide +kernel
theorem dX12_dust_56 : decode cX12_dust 56 = .ok (.lstore 5, 2) := by decide +kernel
theorem dX12_dust_58 : decode cX12_dust 58 = .ok (.lconst 0, 1) := by decide +kernel
theorem dX12_dust_59 : decode cX12_dust 59 = .ok (.lstore 7, 2) := by decide +kernel
theorem dX12_dust_61 : decode cX12_dust 61 = .ok (.iconst 0, 1) := by decide +kernel
theorem dX12_dust_62 : decode cX12_dust 62 = .ok (.istore 9, 2) := by decide +kernel
theorem dX12_dust_64 : decode cX12_dust 64 = .ok (.iload 9, 2) := by decide +kernel
theorem dX12_dust_66 : decode cX12_dust 66 = .ok (.iload_n 2, 1) := by decide +kernel
theorem dX12_dust_67 : decode cX12_dust 67 = .ok (.if_icmp .ge 17, 3) := by decide +kernel
theorem dX12_dust_70 : decode cX12_dust 70 = .ok (.lload 5, 2) := by decide +kernel
theorem dX12_dust_72 : decode cX12_dust 72 = .ok (.ldc2_w 247, 3) := by decide +kernel
theorem dX12_dust_75 : decode cX12_dust 75 = .ok (.lmul, 1) := by decide +kernel
theorem dX12_dust_76 : decode cX12_dust 76 = .ok (.lstore 5, 2) := by decide +kernel
theorem dX12_dust_78 : decode cX12_dust 78 = .ok (.iinc 9 1, 3) := by decide +kernel
theorem dX12_dust_81 : decode cX12_dust 81 = .ok (.goto (-17), 3) := by decide +kernel
theorem dX12_dust_84 : decode cX12_dust 84 = .ok (.lconst 1, 1) := by decide +kernel
theorem dX12_dust_85 : decode cX12_dust 85 = .ok (.lstore 9, 2) := by decide +kernel
theorem dX12_dust_87 : decode cX12_dust 87 = .ok (.iconst 0, 1) := by decide +kernel
theorem dX12_dust_88 : decode cX12_dust 88 = .ok (.istore 11, 2) := by decide +kernel
theorem dX12_dust_90 : decode cX12_dust 90 = .ok (.iload 11, 2) := by decide +kernel
theorem dX12_dust_92 : decode cX12_dust 92 = .ok (.iload_n 2, 1) := by decide +kernel
theorem dX12_dust_93 : decode cX12_dust 93 = .ok (.if_icmp .gt 83, 3) := by decide +kernel
theorem dX12_dust_96 : decode cX12_dust 96 = .ok (.lload 9, 2) := by decide +kernel
theorem dX12_dust_98 : decode cX12_dust 98 = .ok (.lstore 12, 2) := by decide +kernel
theorem dX12_dust_100 : decode cX12_dust 100 = .ok (.iconst 0, 1) := by decide +kernel
theorem dX12_dust_101 : decode cX12_dust 101 = .ok (.istore 14, 2) := by decide +kernel
theorem dX12_dust_103 : decode cX12_dust 103 = .ok (.iload 14, 2) := by decide +kernel
theorem dX12_dust_105 : decode cX12_dust 105 = .ok (.iload_n 2, 1) := by decide +kernel
theorem dX12_dust_106 : decode cX12_dust 106 = .ok (.if_icmp .ge 31, 3) := by decide +kernel
theorem dX12_dust_109 : decode cX12_dust 109 = .ok (.lload 12, 2) := by decide +kernel
theorem dX12_dust_111 : decode cX12_dust 111 = .ok (.iload 14, 2) := by decide +kernel
theorem dX12_dust_113 : decode cX12_dust 113 = .ok (.iload 11, 2) := by decide +kernel
theorem dX12_dust_115 : decode cX12_dust 115 = .ok (.if_icmp .ge 8, 3) := by decide +kernel
theorem dX12_dust_118 : decode cX12_dust 118 = .ok (.iload_n 1, 1) := by decide +kernel
theorem dX12_dust_119 : decode cX12_dust 119 = .ok (.i2l, 1) := by decide +kernel
theorem dX12_dust_120 : decode cX12_dust 120 = .ok (.goto 8, 3) := by decide +kernel
theorem dX12_dust_123 : decode cX12_dust 123 = .ok (.bipush 10, 2) := by decide +kernel
theorem dX12_dust_125 : decode cX12_dust 125 = .ok (.iload_n 1, 1) := by decide +kernel
theorem dX12_dust_126 : decode cX12_dust 126 = .ok (.isub, 1) := by decide +kernel
theorem dX12_dust_127 : decode cX12_dust 127 = .ok (.i2l, 1) := by decide +kernel
theorem dX12_dust_128 : decode cX12_dust 128 = .ok (.lmul, 1) := by decide +kernel
theorem dX12_dust_129 : decode cX12_dust 129 = .ok (.lstore 12, 2) := by decide +kernel
theorem dX12_dust_131 : decode cX12_dust 131 = .ok (.iinc 14 1, 3) := by decide +kernel
theorem dX12_dust_134 : decode cX12_dust 134 = .ok (.goto (-31), 3) := by decide +kernel
theorem dX12_dust_137 : decode cX12_dust 137 = .ok (.lload 7, 2) := by decide +kernel
theorem dX12_dust_139 : decode cX12_dust 139 = .ok (.iload 11, 2) := by decide +kernel
theorem dX12_dust_141 : decode cX12_dust 141 = .ok (.iload_n 3, 1) := by decide +kernel
theorem dX12_dust_142 : decode cX12_dust 142 = .ok (.if_icmp .lt 8, 3) := by decide +kernel
theorem dX12_dust_145 : decode cX12_dust 145 = .ok (.lload 12, 2) := by decide +kernel
theorem dX12_dust_147 : decode cX12_dust 147 = .ok (.goto 4, 3) := by decide +kernel
theorem dX12_dust_150 : decode cX12_dust 150 = .ok (.lconst 0, 1) := by decide +kernel
theorem dX12_dust_151 : decode cX12_dust 151 = .ok (.ladd, 1) := by decide +kernel
theorem dX12_dust_152 : decode cX12_dust 152 = .ok (.lstore 7, 2) := by decide +kernel
theorem dX12_dust_154 : decode cX12_dust 154 = .ok (.lload 9, 2) := by decide +kernel
theorem dX12_dust_156 : decode cX12_dust 156 = .ok (.iload_n 2, 1) := by decide +kernel
theorem dX12_dust_157 : decode cX12_dust 157 = .ok (.iload 11, 2) := by decide +kernel
theorem dX12_dust_159 : decode cX12_dust 159 = .ok (.isub, 1) := by decide +kernel
theorem dX12_dust_160 : decode cX12_dust 160 = .ok (.i2l, 1) := by decide +kernel
theorem dX12_dust_161 : decode cX12_dust 161 = .ok (.lmul, 1) := by decide +kernel
theorem dX12_dust_162 : decode cX12_dust 162 = .ok (.iload 11, 2) := by decide +kernel
theorem dX12_dust_164 : decode cX12_dust 164 = .ok (.iconst 1, 1) := by decide +kernel
theorem dX12_dust_165 : decode cX12_dust 165 = .ok (.iadd, 1) := by decide +kernel
theorem dX12_dust_166 : decode cX12_dust 166 = .ok (.i2l, 1) := by decide +kernel
theorem dX12_dust_167 : decode cX12_dust 167 = .ok (.ldiv, 1) := by decide +kernel
theorem dX12_dust_168 : decode cX12_dust 168 = .ok (.lstore 9, 2) := by decide +kernel
theorem dX12_dust_170 : decode cX12_dust 170 = .ok (.iinc 11 1, 3) := by decide +kernel
theorem dX12_dust_173 : decode cX12_dust 173 = .ok (.goto (-83), 3) := by decide +kernel
theorem dX12_dust_176 : decode cX12_dust 176 = .ok (.lload 7, 2) := by decide +kernel
theorem dX12_dust_178 : decode cX12_dust 178 = .ok (.lstore 11, 2) := by decide +kernel
theorem dX12_dust_180 : decode cX12_dust 180 = .ok (.lload 5, 2) := by decide +kernel
theorem dX12_dust_182 : decode cX12_dust 182 = .ok (.lstore 13, 2) := by decide +kernel
theorem dX12_dust_184 : decode cX12_dust 184 = .ok (.lload 13, 2) := by decide +kernel
theorem dX12_dust_186 : decode cX12_dust 186 = .ok (.lconst 0, 1) := by decide +kernel
theorem dX12_dust_187 : decode cX12_dust 187 = .ok (.lcmp, 1) := by decide +kernel
theorem dX12_dust_188 : decode cX12_dust 188 = .ok (.ifCond .eq 21, 3) := by decide +kernel
theorem dX12_dust_191 : decode cX12_dust 191 = .ok (.lload 11, 2) := by decide +kernel
theorem dX12_dust_193 : decode cX12_dust 193 = .ok (.lload 13, 2) := by decide +kernel
theorem dX12_dust_195 : decode cX12_dust 195 = .ok (.lrem, 1) := by decide +kernel
theorem dX12_dust_196 : decode cX12_dust 196 = .ok (.lstore 15, 2) := by decide +kernel
theorem dX12_dust_198 : decode cX12_dust 198 = .ok (.lload 13, 2) := by decide +kernel
theorem dX12_dust_200 : decode cX12_dust 200 = .ok (.lstore 11, 2) := by decide +kernel
theorem dX12_dust_202 : decode cX12_dust 202 = .ok (.lload 15, 2) := by decide +kernel
theorem dX12_dust_204 : decode cX12_dust 204 = .ok (.lstore 13, 2) := by decide +kernel
theorem dX12_dust_206 : decode cX12_dust 206 = .ok (.goto (-22), 3) := by decide +kernel
theorem dX12_dust_209 : decode cX12_dust 209 = .ok (.iload 4, 2) := by decide +kernel
theorem dX12_dust_211 : decode cX12_dust 211 = .ok (.ifCond .ne 8, 3) := by decide +kernel
theorem dX12_dust_214 : decode cX12_dust 214 = .ok (.lload 7, 2) := by decide +kernel
theorem dX12_dust_216 : decode cX12_dust 216 = .ok (.goto 5, 3) := by decide +kernel
theorem dX12_dust_219 : decode cX12_dust 219 = .ok (.lload 5, 2) := by decide +kernel
theorem dX12_dust_221 : decode cX12_dust 221 = .ok (.lload 11, 2) := by decide +kernel
theorem dX12_dust_223 : decode cX12_dust 223 = .ok (.ldiv, 1) := by decide +kernel
theorem dX12_dust_224 : decode cX12_dust 224 = .ok (.lreturn, 1) := by decide +kernel
theorem dX12_evenings_0 : decode cX12_evenings 0 = .ok (.aload_n 0, 1) := by decide +kernel
theorem dX12_evenings_1 : decode cX12_evenings 1 = .ok (.iconst 0, 1) := by decide +kernel
theorem dX12_evenings_2 : decode cX12_evenings 2 = .ok (.putfield 44, 3) := by decide +kernel
theorem dX12_evenings_5 : decode cX12_evenings 5 = .ok (.aload_n 0, 1) := by decide +kernel
theorem dX12_evenings_6 : decode cX12_evenings 6 = .ok (.invokevirtual 177, 3) := by decide +kernel
theorem dX12_evenings_9 : decode cX12_evenings 9 = .ok (.ifCond .ne 6, 3) := by decide +kernel
theorem dX12_evenings_12 : decode cX12_evenings 12 = .ok (.ldc 180, 2) := by decide +kernel
theorem dX12_evenings_14 : decode cX12_evenings 14 = .ok (.ireturn, 1) := by decide +kernel
theorem dX12_evenings_15 : decode cX12_evenings 15 = .ok (.iload_n 1, 1) := by decide +kernel
theorem dX12_evenings_16 : decode cX12_evenings 16 = .ok (.i2l, 1) := by decide +kernel
theorem dX12_evenings_17 : decode cX12_evenings 17 = .ok (.lconst 0, 1) := by decide +kernel
theorem dX12_evenings_18 : decode cX12_evenings 18 = .ok (.ldc2_w 251, 3) := by decide +kernel
theorem dX12_evenings_21 : decode cX12_evenings 21 = .ok (.invokestatic 54, 3) := by decide +kernel
theorem dX12_evenings_24 : decode cX12_evenings 24 = .ok (.ifCond .eq 25, 3) := by decide +kernel
theorem dX12_evenings_27 : decode cX12_evenings 27 = .ok (.iload_n 2, 1) := by decide +kernel
theorem dX12_evenings_28 : decode cX12_evenings 28 = .ok (.i2l, 1) := by decide +kernel
theorem dX12_evenings_29 : decode cX12_evenings 29 = .ok (.lconst 1, 1) := by decide +kernel
theorem dX12_evenings_30 : decode cX12_evenings 30 = .ok (.ldc2_w 253, 3) := by decide +kernel
theorem dX12_evenings_33 : decode cX12_evenings 33 = .ok (.invokestatic 54, 3) := by decide +kernel
theorem dX12_evenings_36 : decode cX12_evenings 36 = .ok (.ifCond .eq 13, 3) := by decide +kernel
theorem dX12_evenings_39 : decode cX12_evenings 39 = .ok (.iload_n 3, 1) := by decide +kernel
theorem dX12_evenings_40 : decode cX12_evenings 40 = .ok (.i2l, 1) := by decide +kernel
theorem dX12_evenings_41 : decode cX12_evenings 41 = .ok (.lconst 0, 1) := by decide +kernel
theorem dX12_evenings_42 : decode cX12_evenings 42 = .ok (.lconst 1, 1) := by decide +kernel
theorem dX12_evenings_43 : decode cX12_evenings 43 = .ok (.invokestatic 54, 3) := by decide +kernel
theorem dX12_evenings_46 : decode cX12_evenings 46 = .ok (.ifCond .ne 6, 3) := by decide +kernel
theorem dX12_evenings_49 : decode cX12_evenings 49 = .ok (.ldc 64, 2) := by decide +kernel
theorem dX12_evenings_51 : decode cX12_evenings 51 = .ok (.ireturn, 1) := by decide +kernel
theorem dX12_evenings_52 : decode cX12_evenings 52 = .ok (.aload_n 0, 1) := by decide +kernel
theorem dX12_evenings_53 : decode cX12_evenings 53 = .ok (.invokevirtual 211, 3) := by decide +kernel
theorem dX12_evenings_56 : decode cX12_evenings 56 = .ok (.iload_n 2, 1) := by decide +kernel
theorem dX12_evenings_57 : decode cX12_evenings 57 = .ok (.i2l, 1) := by decide +kernel
theorem dX12_evenings_58 : decode cX12_evenings 58 = .ok (.lstore 4, 2) := by decide +kernel
theorem dX12_evenings_60 : decode cX12_evenings 60 = .ok (.iconst 0, 1) := by decide +kernel
theorem dX12_evenings_61 : decode cX12_evenings 61 = .ok (.istore 6, 2) := by decide +kernel
theorem dX12_evenings_63 : decode cX12_evenings 63 = .ok (.iload 6, 2) := by decide +kernel
theorem dX12_evenings_65 : decode cX12_evenings 65 = .ok (.iload_n 1, 1) := by decide +kernel
theorem dX12_evenings_66 : decode cX12_evenings 66 = .ok (.if_icmp .ge 74, 3) := by decide +kernel
theorem dX12_evenings_69 : decode cX12_evenings 69 = .ok (.lload 4, 2) := by decide +kernel
theorem dX12_evenings_71 : decode cX12_evenings 71 = .ok (.ldc2_w 255, 3) := by decide +kernel
theorem dX12_evenings_74 : decode cX12_evenings 74 = .ok (.lmul, 1) := by decide +kernel
theorem dX12_evenings_75 : decode cX12_evenings 75 = .ok (.ldc2_w 257, 3) := by decide +kernel
theorem dX12_evenings_78 : decode cX12_evenings 78 = .ok (.lrem, 1) := by decide +kernel
theorem dX12_evenings_79 : decode cX12_evenings 79 = .ok (.lstore 4, 2) := by decide +kernel
theorem dX12_evenings_81 : decode cX12_evenings 81 = .ok (.aload_n 0, 1) := by decide +kernel
theorem dX12_evenings_82 : decode cX12_evenings 82 = .ok (.getfield 19, 3) := by decide +kernel
theorem dX12_evenings_85 : decode cX12_evenings 85 = .ok (.iconst 5, 1) := by decide +kernel
theorem dX12_evenings_86 : decode cX12_evenings 86 = .ok (.iaload, 1) := by decide +kernel
theorem dX12_evenings_87 : decode cX12_evenings 87 = .ok (.ifCond .le 22, 3) := by decide +kernel
theorem dX12_evenings_90 : decode cX12_evenings 90 = .ok (.aload_n 0, 1) := by decide +kernel
theorem dX12_evenings_91 : decode cX12_evenings 91 = .ok (.aload_n 0, 1) := by decide +kernel
theorem dX12_evenings_92 : decode cX12_evenings 92 = .ok (.getfield 25, 3) := by decide +kernel
theorem dX12_evenings_95 : decode cX12_evenings 95 = .ok (.lload 4, 2) := by decide +kernel
theorem dX12_evenings_97 : decode cX12_evenings 97 = .ok (.aload_n 0, 1) := by decide +kernel
theorem dX12_evenings_98 : decode cX12_evenings 98 = .ok (.getfield 19, 3) := by decide +kernel
theorem dX12_evenings_101 : decode cX12_evenings 101 = .ok (.iconst 5, 1) := by decide +kernel
theorem dX12_evenings_102 : decode cX12_evenings 102 = .ok (.iaload, 1) := by decide +kernel
theorem dX12_evenings_103 : decode cX12_evenings 103 = .ok (.i2l, 1) := by decide +kernel
theorem dX12_evenings_104 : decode cX12_evenings 104 = .ok (.lrem, 1) := by decide +kernel
theorem dX12_evenings_105 : decode cX12_evenings 105 = .ok (.l2i, 1) := by decide +kernel
theorem dX12_evenings_106 : decode cX12_evenings 106 = .ok (.invokevirtual 173, 3) := by decide +kernel
theorem dX12_evenings_109 : decode cX12_evenings 109 = .ok (.lload 4, 2) := by decide +kernel
theorem dX12_evenings_111 : decode cX12_evenings 111 = .ok (.ldc2_w 52, 3) := by decide +kernel
theorem dX12_evenings_114 : decode cX12_evenings 114 = .ok (.lrem, 1) := by decide +kernel
theorem dX12_evenings_115 : decode cX12_evenings 115 = .ok (.lconst 0, 1) := by decide +kernel
theorem dX12_evenings_116 : decode cX12_evenings 116 = .ok (.lcmp, 1) := by decide +kernel
theorem dX12_evenings_117 : decode cX12_evenings 117 = .ok (.ifCond .ne 17, 3) := by decide +kernel
theorem dX12_evenings_120 : decode cX12_evenings 120 = .ok (.aload_n 0, 1) := by decide +kernel
theorem dX12_evenings_121 : decode cX12_evenings 121 = .ok (.getfield 25, 3) := by decide +kernel
theorem dX12_evenings_124 : decode cX12_evenings 124 = .ok (.lload 4, 2) := by decide +kernel
theorem dX12_evenings_126 : decode cX12_evenings 126 = .ok (.ldc2_w 245, 3) := by decide +kernel
theorem dX12_evenings_129 : decode cX12_evenings 129 = .ok (.lrem, 1) := by decide +kernel
theorem dX12_evenings_130 : decode cX12_evenings 130 = .ok (.l2i, 1) := by decide +kernel
theorem dX12_evenings_131 : decode cX12_evenings 131 = .ok (.invokestatic 195, 3) := by decide +kernel
theorem dX12_evenings_134 : decode cX12_evenings 134 = .ok (.iinc 6 1, 3) := by decide +kernel
theorem dX12_evenings_137 : decode cX12_evenings 137 = .ok (.goto (-74), 3) := by decide +kernel
theorem dX12_evenings_140 : decode cX12_evenings 140 = .ok (.iload_n 3, 1) := by decide +kernel
theorem dX12_evenings_141 : decode cX12_evenings 141 = .ok (.ifCond .ne 13, 3) := by decide +kernel
theorem dX12_evenings_144 : decode cX12_evenings 144 = .ok (.aload_n 0, 1) := by decide +kernel
theorem dX12_evenings_145 : decode cX12_evenings 145 = .ok (.getfield 25, 3) := by decide +kernel
theorem dX12_evenings_148 : decode cX12_evenings 148 = .ok (.invokestatic 202, 3) := by decide +kernel
theorem dX12_evenings_151 : decode cX12_evenings 151 = .ok (.goto 10, 3) := by decide +kernel
theorem dX12_evenings_154 : decode cX12_evenings 154 = .ok (.aload_n 0, 1) := by decide +kernel
theorem dX12_evenings_155 : decode cX12_evenings 155 = .ok (.getfield 25, 3) := by decide +kernel
theorem dX12_evenings_158 : decode cX12_evenings 158 = .ok (.invokestatic 222, 3) := by decide +kernel
theorem dX12_evenings_161 : decode cX12_evenings 161 = .ok (.ireturn, 1) := by decide +kernel
theorem dX12_image_0 : decode cX12_image 0 = .ok (.aload_n 0, 1) := by decide +kernel
theorem dX12_image_1 : decode cX12_image 1 = .ok (.iconst 0, 1) := by decide +kernel
theorem dX12_image_2 : decode cX12_image 2 = .ok (.putfield 44, 3) := by decide +kernel
theorem dX12_image_5 : decode cX12_image 5 = .ok (.iload_n 1, 1) := by decide +kernel
theorem dX12_image_6 : decode cX12_image 6 = .ok (.i2l, 1) := by decide +kernel
theorem dX12_image_7 : decode cX12_image 7 = .ok (.lconst 0, 1) := by decide +kernel
theorem dX12_image_8 : decode cX12_image 8 = .ok (.lconst 1, 1) := by decide +kernel
theorem dX12_image_9 : decode cX12_image 9 = .ok (.invokestatic 54, 3) := by decide +kernel
theorem dX12_image_12 : decode cX12_image 12 = .ok (.ifCond .ne 6, 3) := by decide +kernel
theorem dX12_image_15 : decode cX12_image 15 = .ok (.ldc 64, 2) := by decide +kernel
theorem dX12_image_17 : decode cX12_image 17 = .ok (.ireturn, 1) := by decide +kernel
theorem dX12_image_18 : decode cX12_image 18 = .ok (.aload_n 0, 1) := by decide +kernel
theorem dX12_image_19 : decode cX12_image 19 = .ok (.invokevirtual 177, 3) := by decide +kernel
theorem dX12_image_22 : decode cX12_image 22 = .ok (.ifCond .ne 6, 3) := by decide +kernel
theorem dX12_image_25 : decode cX12_image 25 = .ok (.ldc 180, 2) := by decide +kernel
theorem dX12_image_27 : decode cX12_image 27 = .ok (.ireturn, 1) := by decide +kernel
theorem dX12_image_28 : decode cX12_image 28 = .ok (.iconst 0, 1) := by decide +kernel
theorem dX12_image_29 : decode cX12_image 29 = .ok (.istore_n 2, 1) := by decide +kernel
theorem dX12_image_30 : decode cX12_image 30 = .ok (.iload_n 2, 1) := by decide +kernel
theorem dX12_image_31 : decode cX12_image 31 = .ok (.bipush 95, 2) := by decide +kernel
theorem dX12_image_33 : decode cX12_image 33 = .ok (.if_icmp .ge 26, 3) := by decide +kernel
theorem dX12_image_36 : decode cX12_image 36 = .ok (.aload_n 0, 1) := by decide +kernel
theorem dX12_image_37 : decode cX12_image 37 = .ok (.getfield 38, 3) := by decide +kernel
theorem dX12_image_40 : decode cX12_image 40 = .ok (.bipush 95, 2) := by decide +kernel
theorem dX12_image_42 : decode cX12_image 42 = .ok (.iload_n 1, 1) := by decide +kernel
theorem dX12_image_43 : decode cX12_image 43 = .ok (.imul, 1) := by decide +kernel
theorem dX12_image_44 : decode cX12_image 44 = .ok (.iload_n 2, 1) := by decide +kernel
theorem dX12_image_45 : decode cX12_image 45 = .ok (.iadd, 1) := by decide +kernel
theorem dX12_image_46 : decode cX12_image 46 = .ok (.aload_n 0, 1) := by decide +kernel
theorem dX12_image_47 : decode cX12_image 47 = .ok (.getfield 19, 3) := by decide +kernel
theorem dX12_image_50 : decode cX12_image 50 = .ok (.iload_n 2, 1) := by decide +kernel
theorem dX12_image_51 : decode cX12_image 51 = .ok (.iaload, 1) := by decide +kernel
theorem dX12_image_52 : decode cX12_image 52 = .ok (.iastore, 1) := by decide +kernel
theorem dX12_image_53 : decode cX12_image 53 = .ok (.iinc 2 1, 3) := by decide +kernel
theorem dX12_image_56 : decode cX12_image 56 = .ok (.goto (-26), 3) := by decide +kernel
theorem dX12_image_59 : decode cX12_image 59 = .ok (.aload_n 0, 1) := by decide +kernel
theorem dX12_image_60 : decode cX12_image 60 = .ok (.getfield 34, 3) := by decide +kernel
theorem dX12_image_63 : decode cX12_image 63 = .ok (.iload_n 1, 1) := by decide +kernel
theorem dX12_image_64 : decode cX12_image 64 = .ok (.iconst 1, 1) := by decide +kernel
theorem dX12_image_65 : decode cX12_image 65 = .ok (.bastore, 1) := by decide +kernel
theorem dX12_image_66 : decode cX12_image 66 = .ok (.iconst 1, 1) := by decide +kernel
theorem dX12_image_67 : decode cX12_image 67 = .ok (.ireturn, 1) := by decide +kernel
theorem dX12_restore_0 : decode cX12_restore 0 = .ok (.aload_n 0, 1) := by decide +kernel
theorem dX12_restore_1 : decode cX12_restore 1 = .ok (.iconst 0, 1) := by decide +kernel
theorem dX12_restore_2 : decode cX12_restore 2 = .ok (.putfield 44, 3) := by decide +kernel
theorem dX12_restore_5 : decode cX12_restore 5 = .ok (.iload_n 1, 1) := by decide +kernel
theorem dX12_restore_6 : decode cX12_restore 6 = .ok (.i2l, 1) := by decide +kernel
theorem dX12_restore_7 : decode cX12_restore 7 = .ok (.lconst 0, 1) := by decide +kernel
theorem dX12_restore_8 : decode cX12_restore 8 = .ok (.lconst 1, 1) := by decide +kernel
theorem dX12_restore_9 : decode cX12_restore 9 = .ok (.invokestatic 54, 3) := by decide +kernel
theorem dX12_restore_12 : decode cX12_restore 12 = .ok (.ifCond .ne 6, 3) := by decide +kernel
theorem dX12_restore_15 : decode cX12_restore 15 = .ok (.ldc 64, 2) := by decide +kernel
theorem dX12_restore_17 : decode cX12_restore 17 = .ok (.ireturn, 1) := by decide +kernel
theorem dX12_restore_18 : decode cX12_restore 18 = .ok (.aload_n 0, 1) := by decide +kernel
theorem dX12_restore_19 : decode cX12_restore 19 = .ok (.getfield 34, 3) := by decide +kernel
theorem dX12_restore_22 : decode cX12_restore 22 = .ok (.iload_n 1, 1) := by decide +kernel
theorem dX12_restore_23 : decode cX12_restore 23 = .ok (.baload, 1) := by decide +kernel
theorem dX12_restore_24 : decode cX12_restore 24 = .ok (.ifCond .ne 6, 3) := by decide +kernel
theorem dX12_restore_27 : decode cX12_restore 27 = .ok (.ldc 180, 2) := by decide +kernel
theorem dX12_restore_29 : decode cX12_restore 29 = .ok (.ireturn, 1) := by decide +kernel
theorem dX12_restore_30 : decode cX12_restore 30 = .ok (.iconst 0, 1) := by decide +kernel
theorem dX12_restore_31 : decode cX12_restore 31 = .ok (.istore_n 2, 1) := by decide +kernel
theorem dX12_restore_32 : decode cX12_restore 32 = .ok (.iload_n 2, 1) := by decide +kernel
theorem dX12_restore_33 : decode cX12_restore 33 = .ok (.bipush 95, 2) := by decide +kernel
theorem dX12_restore_35 : decode cX12_restore 35 = .ok (.if_icmp .ge 26, 3) := by decide +kernel
theorem dX12_restore_38 : decode cX12_restore 38 = .ok (.aload_n 0, 1) := by decide +kernel
theorem dX12_restore_39 : decode cX12_restore 39 = .ok (.getfield 19, 3) := by decide +kernel
theorem dX12_restore_42 : decode cX12_restore 42 = .ok (.iload_n 2, 1) := by decide +kernel
theorem dX12_restore_43 : decode cX12_restore 43 = .ok (.aload_n 0, 1) := by decide +kernel
theorem dX12_restore_44 : decode cX12_restore 44 = .ok (.getfield 38, 3) := by decide +kernel
theorem dX12_restore_47 : decode cX12_restore 47 = .ok (.bipush 95, 2) := by decide +kernel
theorem dX12_restore_49 : decode cX12_restore 49 = .ok (.iload_n 1, 1) := by decide +kernel
theorem dX12_restore_50 : decode cX12_restore 50 = .ok (.imul, 1) := by decide +kernel
theorem dX12_restore_51 : decode cX12_restore 51 = .ok (.iload_n 2, 1) := by decide +kernel
theorem dX12_restore_52 : decode cX12_restore 52 = .ok (.iadd, 1) := by decide +kernel
theorem dX12_restore_53 : decode cX12_restore 53 = .ok (.iaload, 1) := by decide +kernel
theorem dX12_restore_54 : decode cX12_restore 54 = .ok (.iastore, 1) := by decide +kernel
theorem dX12_restore_55 : decode cX12_restore 55 = .ok (.iinc 2 1, 3) := by decide +kernel
theorem dX12_restore_58 : decode cX12_restore 58 = .ok (.goto (-26), 3) := by decide +kernel
theorem dX12_restore_61 : decode cX12_restore 61 = .ok (.aload_n 0, 1) := by decide +kernel
theorem dX12_restore_62 : decode cX12_restore 62 = .ok (.iconst 0, 1) := by decide +kernel
theorem dX12_restore_63 : decode cX12_restore 63 = .ok (.putfield 150, 3) := by decide +kernel
theorem dX12_restore_66 : decode cX12_restore 66 = .ok (.iconst 1, 1) := by decide +kernel
theorem dX12_restore_67 : decode cX12_restore 67 = .ok (.ireturn, 1) := by decide +kernel
theorem dX12_isOf_0 : decode cX12_isOf 0 = .ok (.iload_n 1, 1) := by decide +kernel
theorem dX12_isOf_1 : decode cX12_isOf 1 = .ok (.ifCond .eq 28, 3) := by decide +kernel
theorem dX12_isOf_4 : decode cX12_isOf 4 = .ok (.iload_n 0, 1) := by decide +kernel
theorem dX12_isOf_5 : decode cX12_isOf 5 = .ok (.iload_n 1, 1) := by decide +kernel
theorem dX12_isOf_6 : decode cX12_isOf 6 = .ok (.if_icmp .eq 23, 3) := by decide +kernel
theorem dX12_isOf_9 : decode cX12_isOf 9 = .ok (.iload_n 1, 1) := by decide +kernel
theorem dX12_isOf_10 : decode cX12_isOf 10 = .ok (.iconst 1, 1) := by decide +kernel
theorem dX12_isOf_11 : decode cX12_isOf 11 = .ok (.if_icmp .ne 8, 3) := by decide +kernel
theorem dX12_isOf_14 : decode cX12_isOf 14 = .ok (.iload_n 0, 1) := by decide +kernel
theorem dX12_isOf_15 : decode cX12_isOf 15 = .ok (.iconst 4, 1) := by decide +kernel
theorem dX12_isOf_16 : decode cX12_isOf 16 = .ok (.if_icmp .lt 13, 3) := by decide +kernel
theorem dX12_isOf_19 : decode cX12_isOf 19 = .ok (.iload_n 1, 1) := by decide +kernel
theorem dX12_isOf_20 : decode cX12_isOf 20 = .ok (.iconst 4, 1) := by decide +kernel
theorem dX12_isOf_21 : decode cX12_isOf 21 = .ok (.if_icmp .ne 12, 3) := by decide +kernel
theorem dX12_isOf_24 : decode cX12_isOf 24 = .ok (.iload_n 0, 1) := by decide +kernel
theorem dX12_isOf_25 : decode cX12_isOf 25 = .ok (.iconst 5, 1) := by decide +kernel
theorem dX12_isOf_26 : decode cX12_isOf 26 = .ok (.if_icmp .ne 7, 3) := by decide +kernel
theorem dX12_isOf_29 : decode cX12_isOf 29 = .ok (.iconst 1, 1) := by decide +kernel
theorem dX12_isOf_30 : decode cX12_isOf 30 = .ok (.goto 4, 3) := by decide +kernel
theorem dX12_isOf_33 : decode cX12_isOf 33 = .ok (.iconst 0, 1) := by decide +kernel
theorem dX12_isOf_34 : decode cX12_isOf 34 = .ok (.ireturn, 1) := by decide +kernel
theorem dX12_kind_0 : decode cX12_kind 0 = .ok (.aload_n 0, 1) := by decide +kernel
theorem dX12_kind_1 : decode cX12_kind 1 = .ok (.iconst 0, 1) := by decide +kernel
theorem dX12_kind_2 : decode cX12_kind 2 = .ok (.putfield 44, 3) := by decide +kernel
theorem dX12_kind_5 : decode cX12_kind 5 = .ok (.aload_n 0, 1) := by decide +kernel
theorem dX12_kind_6 : decode cX12_kind 6 = .ok (.iload_n 1, 1) := by decide +kernel
theorem dX12_kind_7 : decode cX12_kind 7 = .ok (.invokevirtual 189, 3) := by decide +kernel
theorem dX12_kind_10 : decode cX12_kind 10 = .ok (.ifCond .eq 11, 3) := by decide +kernel
theorem dX12_kind_13 : decode cX12_kind 13 = .ok (.aload_n 0, 1) := by decide +kernel
theorem dX12_kind_14 : decode cX12_kind 14 = .ok (.iload_n 1, 1) := by decide +kernel
theorem dX12_kind_15 : decode cX12_kind 15 = .ok (.invokevirtual 167, 3) := by decide +kernel
theorem dX12_kind_18 : decode cX12_kind 18 = .ok (.goto 5, 3) := by decide +kernel
theorem dX12_kind_21 : decode cX12_kind 21 = .ok (.ldc 64, 2) := by decide +kernel
theorem dX12_kind_23 : decode cX12_kind 23 = .ok (.ireturn, 1) := by decide +kernel
theorem dX12_as_0 : decode cX12_as 0 = .ok (.aload_n 0, 1) := by decide +kernel
theorem dX12_as_1 : decode cX12_as 1 = .ok (.iconst 0, 1) := by decide +kernel
theorem dX12_as_2 : decode cX12_as 2 = .ok (.putfield 44, 3) := by decide +kernel
theorem dX12_as_5 : decode cX12_as 5 = .ok (.aload_n 0, 1) := by decide +kernel
theorem dX12_as_6 : decode cX12_as 6 = .ok (.iload_n 1, 1) := by decide +kernel
theorem dX12_as_7 : decode cX12_as 7 = .ok (.invokevirtual 189, 3) := by decide +kernel
theorem dX12_as_10 : decode cX12_as 10 = .ok (.ifCond .eq 15, 3) := by decide +kernel
theorem dX12_as_13 : decode cX12_as 13 = .ok (.iload_n 2, 1) := by decide +kernel
theorem dX12_as_14 : decode cX12_as 14 = .ok (.i2l, 1) := by decide +kernel
theorem dX12_as_15 : decode cX12_as 15 = .ok (.lconst 0, 1) := by decide +kernel
theorem dX12_as_16 : decode cX12_as 16 = .ok (.ldc2_w 259, 3) := by decide +kernel
theorem dX12_as_19 : decode cX12_as 19 = .ok (.invokestatic 54, 3) := by decide +kernel
theorem dX12_as_22 : decode cX12_as 22 = .ok (.ifCond .ne 6, 3) := by decide +kernel
theorem dX12_as_25 : decode cX12_as 25 = .ok (.ldc 64, 2) := by decide +kernel
theorem dX12_as_27 : decode cX12_as 27 = .ok (.ireturn, 1) := by decide +kernel
theorem dX12_as_28 : decode cX12_as 28 = .ok (.aload_n 0, 1) := by decide +kernel
theorem dX12_as_29 : decode cX12_as 29 = .ok (.iconst 0, 1) := by decide +kernel
theorem dX12_as_30 : decode cX12_as 30 = .ok (.putfield 48, 3) := by decide +kernel
theorem dX12_as_33 : decode cX12_as 33 = .ok (.aload_n 0, 1) := by decide +kernel
theorem dX12_as_34 : decode cX12_as 34 = .ok (.iload_n 1, 1) := by decide +kernel
theorem dX12_as_35 : decode cX12_as 35 = .ok (.invokevirtual 167, 3) := by decide +kernel
theorem dX12_as_38 : decode cX12_as 38 = .ok (.iload_n 2, 1) := by decide +kernel
theorem dX12_as_39 : decode cX12_as 39 = .ok (.invokestatic 261, 3) := by decide +kernel
theorem dX12_as_42 : decode cX12_as 42 = .ok (.ifCond .eq 7, 3) := by decide +kernel
theorem dX12_as_45 : decode cX12_as 45 = .ok (.iload_n 1, 1) := by decide +kernel
theorem dX12_as_46 : decode cX12_as 46 = .ok (.goto 8, 3) := by decide +kernel
theorem dX12_as_49 : decode cX12_as 49 = .ok (.aload_n 0, 1) := by decide +kernel
theorem dX12_as_50 : decode cX12_as 50 = .ok (.iconst 3, 1) := by decide +kernel
theorem dX12_as_51 : decode cX12_as 51 = .ok (.invokevirtual 65, 3) := by decide +kernel
theorem dX12_as_54 : decode cX12_as 54 = .ok (.ireturn, 1) := by decide +kernel
theorem dX12_began_0 : decode cX12_began 0 = .ok (.aload_n 0, 1) := by decide +kernel
theorem dX12_began_1 : decode cX12_began 1 = .ok (.getfield 265, 3) := by decide +kernel
theorem dX12_began_4 : decode cX12_began 4 = .ok (.bipush 16, 2) := by decide +kernel
theorem dX12_began_6 : decode cX12_began 6 = .ok (.if_icmp .ge 23, 3) := by decide +kernel
theorem dX12_began_9 : decode cX12_began 9 = .ok (.aload_n 0, 1) := by decide +kernel
theorem dX12_began_10 : decode cX12_began 10 = .ok (.getfield 41, 3) := by decide +kernel
theorem dX12_began_13 : decode cX12_began 13 = .ok (.aload_n 0, 1) := by decide +kernel
theorem dX12_began_14 : decode cX12_began 14 = .ok (.getfield 265, 3) := by decide +kernel
theorem dX12_began_17 : decode cX12_began 17 = .ok (.iload_n 1, 1) := by decide +kernel
theorem dX12_began_18 : decode cX12_began 18 = .ok (.iastore, 1) := by decide +kernel
theorem dX12_began_19 : decode cX12_began 19 = .ok (.aload_n 0, 1) := by decide +kernel
theorem dX12_began_20 : decode cX12_began 20 = .ok (.dup, 1) := by decide +kernel
theorem dX12_began_21 : decode cX12_began 21 = .ok (.getfield 265, 3) := by decide +kernel
theorem dX12_began_24 : decode cX12_began 24 = .ok (.iconst 1, 1) := by decide +kernel
theorem dX12_began_25 : decode cX12_began 25 = .ok (.iadd, 1) := by decide +kernel
theorem dX12_began_26 : decode cX12_began 26 = .ok (.putfield 265, 3) := by decide +kernel
theorem dX12_began_29 : decode cX12_began 29 = .ok (.return_, 1) := by decide +kernel
theorem dX12_plainSize_0 : decode cX12_plainSize 0 = .ok (.aload_n 0, 1) := by decide +kernel
theorem dX12_plainSize_1 : decode cX12_plainSize 1 = .ok (.bipush 10, 2) := by decide +kernel
theorem dX12_plainSize_3 : decode cX12_plainSize 3 = .ok (.invokevirtual 268, 3) := by decide +kernel
theorem dX12_plainSize_6 : decode cX12_plainSize 6 = .ok (.aload_n 0, 1) := by decide +kernel
theorem dX12_plainSize_7 : decode cX12_plainSize 7 = .ok (.iload_n 1, 1) := by decide +kernel
theorem dX12_plainSize_8 : decode cX12_plainSize 8 = .ok (.invokevirtual 157, 3) := by decide +kernel
theorem dX12_plainSize_11 : decode cX12_plainSize 11 = .ok (.ireturn, 1) := by decide +kernel
theorem dX12_clearSize_0 : decode cX12_clearSize 0 = .ok (.aload_n 0, 1) := by decide +kernel
theorem dX12_clearSize_1 : decode cX12_clearSize 1 = .ok (.iload_n 1, 1) := by decide +kernel
theorem dX12_clearSize_2 : decode cX12_clearSize 2 = .ok (.invokevirtual 167, 3) := by decide +kernel
theorem dX12_clearSize_5 : decode cX12_clearSize 5 = .ok (.iconst 5, 1) := by decide +kernel
theorem dX12_clearSize_6 : decode cX12_clearSize 6 = .ok (.if_icmp .ne 9, 3) := by decide +kernel
theorem dX12_clearSize_9 : decode cX12_clearSize 9 = .ok (.aload_n 0, 1) := by decide +kernel
theorem dX12_clearSize_10 : decode cX12_clearSize 10 = .ok (.bipush 14, 2) := by decide +kernel
theorem dX12_clearSize_12 : decode cX12_clearSize 12 = .ok (.invokevirtual 268, 3) := by decide +kernel
theorem dX12_clearSize_15 : decode cX12_clearSize 15 = .ok (.aload_n 0, 1) := by decide +kernel
theorem dX12_clearSize_16 : decode cX12_clearSize 16 = .ok (.bipush 13, 2) := by decide +kernel
theorem dX12_clearSize_18 : decode cX12_clearSize 18 = .ok (.invokevirtual 268, 3) := by decide +kernel
theorem dX12_clearSize_21 : decode cX12_clearSize 21 = .ok (.aload_n 0, 1) := by decide +kernel
theorem dX12_clearSize_22 : decode cX12_clearSize 22 = .ok (.iload_n 1, 1) := by decide +kernel
theorem dX12_clearSize_23 : decode cX12_clearSize 23 = .ok (.invokevirtual 271, 3) := by decide +kernel
theorem dX12_clearSize_26 : decode cX12_clearSize 26 = .ok (.bipush 100, 2) := by decide +kernel
theorem dX12_clearSize_28 : decode cX12_clearSize 28 = .ok (.isub, 1) := by decide +kernel
theorem dX12_clearSize_29 : decode cX12_clearSize 29 = .ok (.istore_n 2, 1) := by decide +kernel
theorem dX12_clearSize_30 : decode cX12_clearSize 30 = .ok (.aload_n 0, 1) := by decide +kernel
theorem dX12_clearSize_31 : decode cX12_clearSize 31 = .ok (.iload_n 1, 1) := by decide +kernel
theorem dX12_clearSize_32 : decode cX12_clearSize 32 = .ok (.invokevirtual 167, 3) := by decide +kernel
theorem dX12_clearSize_35 : decode cX12_clearSize 35 = .ok (.iconst 5, 1) := by decide +kernel
theorem dX12_clearSize_36 : decode cX12_clearSize 36 = .ok (.if_icmp .ne 9, 3) := by decide +kernel
theorem dX12_clearSize_39 : decode cX12_clearSize 39 = .ok (.iconst 2, 1) := by decide +kernel
theorem dX12_clearSize_40 : decode cX12_clearSize 40 = .ok (.iload_n 2, 1) := by decide +kernel
theorem dX12_clearSize_41 : decode cX12_clearSize 41 = .ok (.imul, 1) := by decide +kernel
theorem dX12_clearSize_42 : decode cX12_clearSize 42 = .ok (.goto 4, 3) := by decide +kernel
theorem dX12_clearSize_45 : decode cX12_clearSize 45 = .ok (.iload_n 2, 1) := by decide +kernel
theorem dX12_clearSize_46 : decode cX12_clearSize 46 = .ok (.ireturn, 1) := by decide +kernel
theorem dX12_markOf_0 : decode cX12_markOf 0 = .ok (.aload_n 0, 1) := by decide +kernel
theorem dX12_markOf_1 : decode cX12_markOf 1 = .ok (.iload_n 1, 1) := by decide +kernel
theorem dX12_markOf_2 : decode cX12_markOf 2 = .ok (.invokevirtual 167, 3) := by decide +kernel
theorem dX12_markOf_5 : decode cX12_markOf 5 = .ok (.istore_n 2, 1) := by decide +kernel
theorem dX12_markOf_6 : decode cX12_markOf 6 = .ok (.iload_n 2, 1) := by decide +kernel
theorem dX12_markOf_7 : decode cX12_markOf 7 = .ok (.iconst 4, 1) := by decide +kernel
theorem dX12_markOf_8 : decode cX12_markOf 8 = .ok (.if_icmp .lt 23, 3) := by decide +kernel
theorem dX12_markOf_11 : decode cX12_markOf 11 = .ok (.aload_n 0, 1) := by decide +kernel
theorem dX12_markOf_12 : decode cX12_markOf 12 = .ok (.bipush 23, 2) := by decide +kernel
theorem dX12_markOf_14 : decode cX12_markOf 14 = .ok (.invokevirtual 268, 3) := by decide +kernel
theorem dX12_markOf_17 : decode cX12_markOf 17 = .ok (.aload_n 0, 1) := by decide +kernel
theorem dX12_markOf_18 : decode cX12_markOf 18 = .ok (.bipush 20, 2) := by decide +kernel
theorem dX12_markOf_20 : decode cX12_markOf 20 = .ok (.invokevirtual 268, 3) := by decide +kernel
theorem dX12_markOf_23 : decode cX12_markOf 23 = .ok (.iload_n 1, 1) := by decide +kernel
theorem dX12_markOf_24 : decode cX12_markOf 24 = .ok (.aload_n 0, 1) := by decide +kernel
theorem dX12_markOf_25 : decode cX12_markOf 25 = .ok (.iload_n 1, 1) := by decide +kernel
theorem dX12_markOf_26 : decode cX12_markOf 26 = .ok (.invokevirtual 274, 3) := by decide +kernel
theorem dX12_markOf_29 : decode cX12_markOf 29 = .ok (.isub, 1) := by decide +kernel
theorem dX12_markOf_30 : decode cX12_markOf 30 = .ok (.ireturn, 1) := by decide +kernel
theorem dX12_markOf_31 : decode cX12_markOf 31 = .ok (.iload_n 2, 1) := by decide +kernel
theorem dX12_markOf_32 : decode cX12_markOf 32 = .ok (.iconst 1, 1) := by decide +kernel
theorem dX12_markOf_33 : decode cX12_markOf 33 = .ok (.if_icmp .eq 19, 3) := by decide +kernel
theorem dX12_markOf_36 : decode cX12_markOf 36 = .ok (.aload_n 0, 1) := by decide +kernel
theorem dX12_markOf_37 : decode cX12_markOf 37 = .ok (.iload_n 2, 1) := by decide +kernel
theorem dX12_markOf_38 : decode cX12_markOf 38 = .ok (.iconst 3, 1) := by decide +kernel
theorem dX12_markOf_39 : decode cX12_markOf 39 = .ok (.if_icmp .ne 8, 3) := by decide +kernel
theorem dX12_markOf_42 : decode cX12_markOf 42 = .ok (.bipush 22, 2) := by decide +kernel
theorem dX12_markOf_44 : decode cX12_markOf 44 = .ok (.goto 5, 3) := by decide +kernel
theorem dX12_markOf_47 : decode cX12_markOf 47 = .ok (.bipush 24, 2) := by decide +kernel
theorem dX12_markOf_49 : decode cX12_markOf 49 = .ok (.invokevirtual 268, 3) := by decide +kernel
theorem dX12_markOf_52 : decode cX12_markOf 52 = .ok (.aload_n 0, 1) := by decide +kernel
theorem dX12_markOf_53 : decode cX12_markOf 53 = .ok (.bipush 21, 2) := by decide +kernel
theorem dX12_markOf_55 : decode cX12_markOf 55 = .ok (.invokevirtual 268, 3) := by decide +kernel
theorem dX12_markOf_58 : decode cX12_markOf 58 = .ok (.aload_n 0, 1) := by decide +kernel
theorem dX12_markOf_59 : decode cX12_markOf 59 = .ok (.bipush 20, 2) := by decide +kernel
theorem dX12_markOf_61 : decode cX12_markOf 61 = .ok (.invokevirtual 268, 3) := by decide +kernel
theorem dX12_markOf_64 : decode cX12_markOf 64 = .ok (.iload_n 1, 1) := by decide +kernel
theorem dX12_markOf_65 : decode cX12_markOf 65 = .ok (.aload_n 0, 1) := by decide +kernel
theorem dX12_markOf_66 : decode cX12_markOf 66 = .ok (.getfield 19, 3) := by decide +kernel
theorem dX12_markOf_69 : decode cX12_markOf 69 = .ok (.iconst 2, 1) := by decide +kernel
theorem dX12_markOf_70 : decode cX12_markOf 70 = .ok (.iaload, 1) := by decide +kernel
theorem dX12_markOf_71 : decode cX12_markOf 71 = .ok (.iadd, 1) := by decide +kernel
theorem dX12_markOf_72 : decode cX12_markOf 72 = .ok (.istore_n 3, 1) := by decide +kernel
theorem dX12_markOf_73 : decode cX12_markOf 73 = .ok (.iload_n 2, 1) := by decide +kernel
theorem dX12_markOf_74 : decode cX12_markOf 74 = .ok (.iconst 1, 1) := by decide +kernel
theorem dX12_markOf_75 : decode cX12_markOf 75 = .ok (.if_icmp .ne 7, 3) := by decide +kernel
theorem dX12_markOf_78 : decode cX12_markOf 78 = .ok (.iload_n 3, 1) := by decide +kernel
theorem dX12_markOf_79 : decode cX12_markOf 79 = .ok (.goto 19, 3) := by decide +kernel
theorem dX12_markOf_82 : decode cX12_markOf 82 = .ok (.iload_n 2, 1) := by decide +kernel
theorem dX12_markOf_83 : decode cX12_markOf 83 = .ok (.iconst 3, 1) := by decide +kernel
theorem dX12_markOf_84 : decode cX12_markOf 84 = .ok (.if_icmp .ne 11, 3) := by decide +kernel
theorem dX12_markOf_87 : decode cX12_markOf 87 = .ok (.iload_n 3, 1) := by decide +kernel
theorem dX12_markOf_88 : decode cX12_markOf 88 = .ok (.sipush 1000, 3) := by decide +kernel
theorem dX12_markOf_91 : decode cX12_markOf 91 = .ok (.isub, 1) := by decide +kernel
theorem dX12_markOf_92 : decode cX12_markOf 92 = .ok (.goto 6, 3) := by decide +kernel
theorem dX12_markOf_95 : decode cX12_markOf 95 = .ok (.iconst 2, 1) := by decide +kernel
theorem dX12_markOf_96 : decode cX12_markOf 96 = .ok (.iload_n 3, 1) := by decide +kernel
theorem dX12_markOf_97 : decode cX12_markOf 97 = .ok (.imul, 1) := by decide +kernel
theorem dX12_markOf_98 : decode cX12_markOf 98 = .ok (.ireturn, 1) := by decide +kernel
theorem dX12_sizeOf_0 : decode cX12_sizeOf 0 = .ok (.aload_n 0, 1) := by decide +kernel
theorem dX12_sizeOf_1 : decode cX12_sizeOf 1 = .ok (.iload_n 1, 1) := by decide +kernel
theorem dX12_sizeOf_2 : decode cX12_sizeOf 2 = .ok (.invokevirtual 167, 3) := by decide +kernel
theorem dX12_sizeOf_5 : decode cX12_sizeOf 5 = .ok (.istore_n 2, 1) := by decide +kernel
theorem dX12_sizeOf_6 : decode cX12_sizeOf 6 = .ok (.iload_n 2, 1) := by decide +kernel
theorem dX12_sizeOf_7 : decode cX12_sizeOf 7 = .ok (.iconst 4, 1) := by decide +kernel
theorem dX12_sizeOf_8 : decode cX12_sizeOf 8 = .ok (.if_icmp .lt 9, 3) := by decide +kernel
theorem dX12_sizeOf_11 : decode cX12_sizeOf 11 = .ok (.aload_n 0, 1) := by decide +kernel
theorem dX12_sizeOf_12 : decode cX12_sizeOf 12 = .ok (.iload_n 1, 1) := by decide +kernel
theorem dX12_sizeOf_13 : decode cX12_sizeOf 13 = .ok (.invokevirtual 274, 3) := by decide +kernel
theorem dX12_sizeOf_16 : decode cX12_sizeOf 16 = .ok (.ireturn, 1) := by decide +kernel
theorem dX12_sizeOf_17 : decode cX12_sizeOf 17 = .ok (.iload_n 2, 1) := by decide +kernel
theorem dX12_sizeOf_18 : decode cX12_sizeOf 18 = .ok (.iconst 2, 1) := by decide +kernel
theorem dX12_sizeOf_19 : decode cX12_sizeOf 19 = .ok (.if_icmp .ne 9, 3) := by decide +kernel
theorem dX12_sizeOf_22 : decode cX12_sizeOf 22 = .ok (.aload_n 0, 1) := by decide +kernel
theorem dX12_sizeOf_23 : decode cX12_sizeOf 23 = .ok (.bipush 12, 2) := by decide +kernel
theorem dX12_sizeOf_25 : decode cX12_sizeOf 25 = .ok (.invokevirtual 268, 3) := by decide +kernel
theorem dX12_sizeOf_28 : decode cX12_sizeOf 28 = .ok (.aload_n 0, 1) := by decide +kernel
theorem dX12_sizeOf_29 : decode cX12_sizeOf 29 = .ok (.bipush 11, 2) := by decide +kernel
theorem dX12_sizeOf_31 : decode cX12_sizeOf 31 = .ok (.invokevirtual 268, 3) := by decide +kernel
theorem dX12_sizeOf_34 : decode cX12_sizeOf 34 = .ok (.aload_n 0, 1) := by decide +kernel
theorem dX12_sizeOf_35 : decode cX12_sizeOf 35 = .ok (.iload_n 1, 1) := by decide +kernel
theorem dX12_sizeOf_36 : decode cX12_sizeOf 36 = .ok (.invokevirtual 271, 3) := by decide +kernel
theorem dX12_sizeOf_39 : decode cX12_sizeOf 39 = .ok (.istore_n 3, 1) := by decide +kernel
theorem dX12_sizeOf_40 : decode cX12_sizeOf 40 = .ok (.iload_n 3, 1) := by decide +kernel
theorem dX12_sizeOf_41 : decode cX12_sizeOf 41 = .ok (.aload_n 0, 1) := by decide +kernel
theorem dX12_sizeOf_42 : decode cX12_sizeOf 42 = .ok (.iload_n 1, 1) := by decide +kernel
theorem dX12_sizeOf_43 : decode cX12_sizeOf 43 = .ok (.invokevirtual 277, 3) := by decide +kernel
theorem dX12_sizeOf_46 : decode cX12_sizeOf 46 = .ok (.iadd, 1) := by decide +kernel
theorem dX12_sizeOf_47 : decode cX12_sizeOf 47 = .ok (.istore_n 3, 1) := by decide +kernel
theorem dX12_sizeOf_48 : decode cX12_sizeOf 48 = .ok (.iload_n 2, 1) := by decide +kernel
theorem dX12_sizeOf_49 : decode cX12_sizeOf 49 = .ok (.iconst 2, 1) := by decide +kernel
theorem dX12_sizeOf_50 : decode cX12_sizeOf 50 = .ok (.if_icmp .ne 8, 3) := by decide +kernel
theorem dX12_sizeOf_53 : decode cX12_sizeOf 53 = .ok (.iload_n 3, 1) := by decide +kernel
theorem dX12_sizeOf_54 : decode cX12_sizeOf 54 = .ok (.ineg, 1) := by decide +kernel
theorem dX12_sizeOf_55 : decode cX12_sizeOf 55 = .ok (.goto 4, 3) := by decide +kernel
theorem dX12_sizeOf_58 : decode cX12_sizeOf 58 = .ok (.iload_n 3, 1) := by decide +kernel
theorem dX12_sizeOf_59 : decode cX12_sizeOf 59 = .ok (.ireturn, 1) := by decide +kernel
theorem dX12_ask_0 : decode cX12_ask 0 = .ok (.aload_n 0, 1) := by decide +kernel
theorem dX12_ask_1 : decode cX12_ask 1 = .ok (.iconst 0, 1) := by decide +kernel
theorem dX12_ask_2 : decode cX12_ask 2 = .ok (.putfield 44, 3) := by decide +kernel
theorem dX12_ask_5 : decode cX12_ask 5 = .ok (.aload_n 0, 1) := by decide +kernel
theorem dX12_ask_6 : decode cX12_ask 6 = .ok (.iload_n 1, 1) := by decide +kernel
theorem dX12_ask_7 : decode cX12_ask 7 = .ok (.invokevirtual 189, 3) := by decide +kernel
theorem dX12_ask_10 : decode cX12_ask 10 = .ok (.ifCond .eq 13, 3) := by decide +kernel
theorem dX12_ask_13 : decode cX12_ask 13 = .ok (.iload_n 2, 1) := by decide +kernel
theorem dX12_ask_14 : decode cX12_ask 14 = .ok (.i2l, 1) := by decide +kernel
theorem dX12_ask_15 : decode cX12_ask 15 = .ok (.lconst 0, 1) := by decide +kernel
theorem dX12_ask_16 : decode cX12_ask 16 = .ok (.lconst 1, 1) := by decide +kernel
theorem dX12_ask_17 : decode cX12_ask 17 = .ok (.invokestatic 54, 3) := by decide +kernel
theorem dX12_ask_20 : decode cX12_ask 20 = .ok (.ifCond .ne 6, 3) := by decide +kernel
theorem dX12_ask_23 : decode cX12_ask 23 = .ok (.ldc 64, 2) := by decide +kernel
theorem dX12_ask_25 : decode cX12_ask 25 = .ok (.ireturn, 1) := by decide +kernel
theorem dX12_ask_26 : decode cX12_ask 26 = .ok (.aload_n 0, 1) := by decide +kernel
theorem dX12_ask_27 : decode cX12_ask 27 = .ok (.iconst 0, 1) := by decide +kernel
theorem dX12_ask_28 : decode cX12_ask 28 = .ok (.putfield 265, 3) := by decide +kernel
theorem dX12_ask_31 : decode cX12_ask 31 = .ok (.iload_n 2, 1) := by decide +kernel
theorem dX12_ask_32 : decode cX12_ask 32 = .ok (.ifCond .ne 11, 3) := by decide +kernel
theorem dX12_ask_35 : decode cX12_ask 35 = .ok (.aload_n 0, 1) := by decide +kernel
theorem dX12_ask_36 : decode cX12_ask 36 = .ok (.iload_n 1, 1) := by decide +kernel
theorem dX12_ask_37 : decode cX12_ask 37 = .ok (.invokevirtual 280, 3) := by decide +kernel
theorem dX12_ask_40 : decode cX12_ask 40 = .ok (.goto 8, 3) := by decide +kernel
theorem dX12_ask_43 : decode cX12_ask 43 = .ok (.aload_n 0, 1) := by decide +kernel
theorem dX12_ask_44 : decode cX12_ask 44 = .ok (.iload_n 1, 1) := by decide +kernel
theorem dX12_ask_45 : decode cX12_ask 45 = .ok (.invokevirtual 277, 3) := by decide +kernel
theorem dX12_ask_48 : decode cX12_ask 48 = .ok (.ireturn, 1) := by decide +kernel
theorem dX12_trace_0 : decode cX12_trace 0 = .ok (.aload_n 0, 1) := by decide +kernel
theorem dX12_trace_1 : decode cX12_trace 1 = .ok (.iconst 0, 1) := by decide +kernel
theorem dX12_trace_2 : decode cX12_trace 2 = .ok (.putfield 44, 3) := by decide +kernel
theorem dX12_trace_5 : decode cX12_trace 5 = .ok (.iload_n 1, 1) := by decide +kernel
theorem dX12_trace_6 : decode cX12_trace 6 = .ok (.i2l, 1) := by decide +kernel
theorem dX12_trace_7 : decode cX12_trace 7 = .ok (.lconst 0, 1) := by decide +kernel
theorem dX12_trace_8 : decode cX12_trace 8 = .ok (.aload_n 0, 1) := by decide +kernel
theorem dX12_trace_9 : decode cX12_trace 9 = .ok (.getfield 265, 3) := by decide +kernel
theorem dX12_trace_12 : decode cX12_trace 12 = .ok (.iconst 1, 1) := by decide +kernel
theorem dX12_trace_13 : decode cX12_trace 13 = .ok (.isub, 1) := by decide +kernel
theorem dX12_trace_14 : decode cX12_trace 14 = .ok (.i2l, 1) := by decide +kernel
theorem dX12_trace_15 : decode cX12_trace 15 = .ok (.invokestatic 54, 3) := by decide +kernel
theorem dX12_trace_18 : decode cX12_trace 18 = .ok (.ifCond .eq 12, 3) := by decide +kernel
theorem dX12_trace_21 : decode cX12_trace 21 = .ok (.aload_n 0, 1) := by decide +kernel
theorem dX12_trace_22 : decode cX12_trace 22 = .ok (.getfield 41, 3) := by decide +kernel
theorem dX12_trace_25 : decode cX12_trace 25 = .ok (.iload_n 1, 1) := by decide +kernel
theorem dX12_trace_26 : decode cX12_trace 26 = .ok (.iaload, 1) := by decide +kernel
theorem dX12_trace_27 : decode cX12_trace 27 = .ok (.goto 5, 3) := by decide +kernel
theorem dX12_trace_30 : decode cX12_trace 30 = .ok (.ldc 87, 2) := by decide +kernel
theorem dX12_trace_32 : decode cX12_trace 32 = .ok (.ireturn, 1) := by decide +kernel
theorem dX12_count_0 : decode cX12_count 0 = .ok (.aload_n 0, 1) := by decide +kernel
theorem dX12_count_1 : decode cX12_count 1 = .ok (.iconst 0, 1) := by decide +kernel
theorem dX12_count_2 : decode cX12_count 2 = .ok (.putfield 44, 3) := by decide +kernel
theorem dX12_count_5 : decode cX12_count 5 = .ok (.iconst 0, 1) := by decide +kernel
theorem dX12_count_6 : decode cX12_count 6 = .ok (.istore_n 2, 1) := by decide +kernel
theorem dX12_count_7 : decode cX12_count 7 = .ok (.iload_n 1, 1) := by decide +kernel
theorem dX12_count_8 : decode cX12_count 8 = .ok (.tableswitch 173 0 6 #[44, 77, 84, 91, 127, 163, 168], 44) := by decide +kernel
theorem dX12_count_52 : decode cX12_count 52 = .ok (.iconst 0, 1) := by decide +kernel
theorem dX12_count_53 : decode cX12_count 53 = .ok (.istore_n 3, 1) := by decide +kernel
theorem dX12_count_54 : decode cX12_count 54 = .ok (.iload_n 3, 1) := by decide +kernel
theorem dX12_count_55 : decode cX12_count 55 = .ok (.bipush 8, 2) := by decide +kernel
theorem dX12_count_57 : decode cX12_count 57 = .ok (.if_icmp .ge 26, 3) := by decide +kernel
theorem dX12_count_60 : decode cX12_count 60 = .ok (.iload_n 2, 1) := by decide +kernel
theorem dX12_count_61 : decode cX12_count 61 = .ok (.aload_n 0, 1) := by decide +kernel
theorem dX12_count_62 : decode cX12_count 62 = .ok (.getfield 7, 3) := by decide +kernel
theorem dX12_count_65 : decode cX12_count 65 = .ok (.iload_n 3, 1) := by decide +kernel
theorem dX12_count_66 : decode cX12_count 66 = .ok (.iaload, 1) := by decide +kernel
theorem dX12_count_67 : decode cX12_count 67 = .ok (.ifCond .lt 7, 3) := by decide +kernel
theorem dX12_count_70 : decode cX12_count 70 = .ok (.iconst 1, 1) := by decide +kernel
theorem dX12_count_71 : decode cX12_count 71 = .ok (.goto 4, 3) := by decide +kernel
theorem dX12_count_74 : decode cX12_count 74 = .ok (.iconst 0, 1) := by decide +kernel
theorem dX12_count_75 : decode cX12_count 75 = .ok (.iadd, 1) := by decide +kernel
theorem dX12_count_76 : decode cX12_count 76 = .ok (.istore_n 2, 1) := by decide +kernel
theorem dX12_count_77 : decode cX12_count 77 = .ok (.iinc 3 1, 3) := by decide +kernel
theorem dX12_count_80 : decode cX12_count 80 = .ok (.goto (-26), 3) := by decide +kernel
theorem dX12_count_83 : decode cX12_count 83 = .ok (.iload_n 2, 1) := by decide +kernel
theorem dX12_count_84 : decode cX12_count 84 = .ok (.ireturn, 1) := by decide +kernel
theorem dX12_count_85 : decode cX12_count 85 = .ok (.aload_n 0, 1) := by decide +kernel
theorem dX12_count_86 : decode cX12_count 86 = .ok (.getfield 19, 3) := by decide +kernel
theorem dX12_count_89 : decode cX12_count 89 = .ok (.iconst 5, 1) := by decide +kernel
theorem dX12_count_90 : decode cX12_count 90 = .ok (.iaload, 1) := by decide +kernel
theorem dX12_count_91 : decode cX12_count 91 = .ok (.ireturn, 1) := by decide +kernel
theorem dX12_count_92 : decode cX12_count 92 = .ok (.aload_n 0, 1) := by decide +kernel
theorem dX12_count_93 : decode cX12_count 93 = .ok (.getfield 19, 3) := by decide +kernel
theorem dX12_count_96 : decode cX12_count 96 = .ok (.iconst 1, 1) := by decide +kernel
theorem dX12_count_97 : decode cX12_count 97 = .ok (.iaload, 1) := by decide +kernel
theorem dX12_count_98 : decode cX12_count 98 = .ok (.ireturn, 1) := by decide +kernel
theorem dX12_count_99 : decode cX12_count 99 = .ok (.iconst 0, 1) := by decide +kernel
theorem dX12_count_100 : decode cX12_count 100 = .ok (.istore_n 3, 1) := by decide +kernel
theorem dX12_count_101 : decode cX12_count 101 = .ok (.iload_n 3, 1) := by decide +kernel
theorem dX12_count_102 : decode cX12_count 102 = .ok (.bipush 15, 2) := by decide +kernel
theorem dX12_count_104 : decode cX12_count 104 = .ok (.if_icmp .ge 29, 3) := by decide +kernel
theorem dX12_count_107 : decode cX12_count 107 = .ok (.iload_n 2, 1) := by decide +kernel
theorem dX12_count_108 : decode cX12_count 108 = .ok (.aload_n 0, 1) := by decide +kernel
theorem dX12_count_109 : decode cX12_count 109 = .ok (.getfield 19, 3) := by decide +kernel
theorem dX12_count_112 : decode cX12_count 112 = .ok (.bipush 6, 2) := by decide +kernel
theorem dX12_count_114 : decode cX12_count 114 = .ok (.iload_n 3, 1) := by decide +kernel
theorem dX12_count_115 : decode cX12_count 115 = .ok (.iadd, 1) := by decide +kernel
theorem dX12_count_116 : decode cX12_count 116 = .ok (.iaload, 1) := by decide +kernel
theorem dX12_count_117 : decode cX12_count 117 = .ok (.ifCond .le 7, 3) := by decide +kernel
theorem dX12_count_120 : decode cX12_count 120 = .ok (.iconst 1, 1) := by decide +kernel
theorem dX12_count_121 : decode cX12_count 121 = .ok (.goto 4, 3) := by decide +kernel
theorem dX12_count_124 : decode cX12_count 124 = .ok (.iconst 0, 1) := by decide +kernel
theorem dX12_count_125 : decode cX12_count 125 = .ok (.iadd, 1) := by decide +kernel
theorem dX12_count_126 : decode cX12_count 126 = .ok (.istore_n 2, 1) := by decide +kernel
theorem dX12_count_127 : decode cX12_count 127 = .ok (.iinc 3 1, 3) := by decide +kernel
theorem dX12_count_130 : decode cX12_count 130 = .ok (.goto (-29), 3) := by decide +kernel
theorem dX12_count_133 : decode cX12_count 133 = .ok (.iload_n 2, 1) := by decide +kernel
theorem dX12_count_134 : decode cX12_count 134 = .ok (.ireturn, 1) := by decide +kernel
theorem dX12_count_135 : decode cX12_count 135 = .ok (.iconst 0, 1) := by decide +kernel
theorem dX12_count_136 : decode cX12_count 136 = .ok (.istore_n 3, 1) := by decide +kernel
theorem dX12_count_137 : decode cX12_count 137 = .ok (.iload_n 3, 1) := by decide +kernel
theorem dX12_count_138 : decode cX12_count 138 = .ok (.bipush 15, 2) := by decide +kernel
theorem dX12_count_140 : decode cX12_count 140 = .ok (.if_icmp .ge 29, 3) := by decide +kernel
theorem dX12_count_143 : decode cX12_count 143 = .ok (.iload_n 2, 1) := by decide +kernel
theorem dX12_count_144 : decode cX12_count 144 = .ok (.aload_n 0, 1) := by decide +kernel
theorem dX12_count_145 : decode cX12_count 145 = .ok (.getfield 19, 3) := by decide +kernel
theorem dX12_count_148 : decode cX12_count 148 = .ok (.bipush 21, 2) := by decide +kernel
theorem dX12_count_150 : decode cX12_count 150 = .ok (.iload_n 3, 1) := by decide +kernel
theorem dX12_count_151 : decode cX12_count 151 = .ok (.iadd, 1) := by decide +kernel
theorem dX12_count_152 : decode cX12_count 152 = .ok (.iaload, 1) := by decide +kernel
theorem dX12_count_153 : decode cX12_count 153 = .ok (.ifCond .le 7, 3) := by decide +kernel
theorem dX12_count_156 : decode cX12_count 156 = .ok (.iconst 1, 1) := by decide +kernel
theorem dX12_count_157 : decode cX12_count 157 = .ok (.goto 4, 3) := by decide +kernel
theorem dX12_count_160 : decode cX12_count 160 = .ok (.iconst 0, 1) := by decide +kernel
theorem dX12_count_161 : decode cX12_count 161 = .ok (.iadd, 1) := by decide +kernel
theorem dX12_count_162 : decode cX12_count 162 = .ok (.istore_n 2, 1) := by decide +kernel
theorem dX12_count_163 : decode cX12_count 163 = .ok (.iinc 3 1, 3) := by decide +kernel
theorem dX12_count_166 : decode cX12_count 166 = .ok (.goto (-29), 3) := by decide +kernel
theorem dX12_count_169 : decode cX12_count 169 = .ok (.iload_n 2, 1) := by decide +kernel
theorem dX12_count_170 : decode cX12_count 170 = .ok (.ireturn, 1) := by decide +kernel
theorem dX12_count_171 : decode cX12_count 171 = .ok (.aload_n 0, 1) := by decide +kernel
theorem dX12_count_172 : decode cX12_count 172 = .ok (.getfield 150, 3) := by decide +kernel
theorem dX12_count_175 : decode cX12_count 175 = .ok (.ireturn, 1) := by decide +kernel
theorem dX12_count_176 : decode cX12_count 176 = .ok (.aload_n 0, 1) := by decide +kernel
theorem dX12_count_177 : decode cX12_count 177 = .ok (.getfield 71, 3) := by decide +kernel
theorem dX12_count_180 : decode cX12_count 180 = .ok (.ireturn, 1) := by decide +kernel
theorem dX12_count_181 : decode cX12_count 181 = .ok (.ldc 64, 2) := by decide +kernel
theorem dX12_count_183 : decode cX12_count 183 = .ok (.ireturn, 1) := by decide +kernel
theorem dX12_status_0 : decode cX12_status 0 = .ok (.aload_n 0, 1) := by decide +kernel
theorem dX12_status_1 : decode cX12_status 1 = .ok (.iconst 0, 1) := by decide +kernel
theorem dX12_status_2 : decode cX12_status 2 = .ok (.putfield 44, 3) := by decide +kernel
theorem dX12_status_5 : decode cX12_status 5 = .ok (.aload_n 0, 1) := by decide +kernel
theorem dX12_status_6 : decode cX12_status 6 = .ok (.getfield 48, 3) := by decide +kernel
theorem dX12_status_9 : decode cX12_status 9 = .ok (.ireturn, 1) := by decide +kernel
end
section
theorem dL_law_0 : decode cL_law 0 = .ok (.new 7, 3) := by decide +kernel
theorem dL_law_3 : decode cL_law 3 = .ok (.dup, 1) := by decide +kernel
theorem dL_law_4 : decode cL_law 4 = .ok (.invokespecial 9, 3) := by decide +kernel
theorem dL_law_7 : decode cL_law 7 = .ok (.astore_n 1, 1) := by decide +kernel
theorem dL_law_8 : decode cL_law 8 = .ok (.new 10, 3) := by decide +kernel
theorem dL_law_11 : decode cL_law 11 = .ok (.dup, 1) := by decide +kernel
theorem dL_law_12 : decode cL_law 12 = .ok (.invokespecial 12, 3) := by decide +kernel
theorem dL_law_15 : decode cL_law 15 = .ok (.astore_n 2, 1) := by decide +kernel
theorem dL_law_16 : decode cL_law 16 = .ok (.iconst 0, 1) := by decide +kernel
theorem dL_law_17 : decode cL_law 17 = .ok (.istore_n 3, 1) := by decide +kernel
theorem dL_law_18 : decode cL_law 18 = .ok (.iload_n 3, 1) := by decide +kernel
theorem dL_law_19 : decode cL_law 19 = .ok (.aload_n 0, 1) := by decide +kernel
theorem dL_law_20 : decode cL_law 20 = .ok (.arraylength, 1) := by decide +kernel
theorem dL_law_21 : decode cL_law 21 = .ok (.bipush 6, 2) := by decide +kernel
theorem dL_law_23 : decode cL_law 23 = .ok (.isub, 1) := by decide +kernel
theorem dL_law_24 : decode cL_law 24 = .ok (.if_icmp .gt 1156, 3) := by decide +kernel
theorem dL_law_27 : decode cL_law 27 = .ok (.aload_n 0, 1) := by decide +kernel
theorem dL_law_28 : decode cL_law 28 = .ok (.iload_n 3, 1) := by decide +kernel
theorem dL_law_29 : decode cL_law 29 = .ok (.iaload, 1) := by decide +kernel
theorem dL_law_30 : decode cL_law 30 = .ok (.bipush 63, 2) := by decide +kernel
theorem dL_law_32 : decode cL_law 32 = .ok (.iand, 1) := by decide +kernel
theorem dL_law_33 : decode cL_law 33 = .ok (.tableswitch 1141 0 34 #[155, 198, 241, 304, 327, 350, 363, 376, 389, 422, 445, 468, 481, 514, 547, 570, 613, 636, 659, 682, 715, 748, 761, 804, 837, 850, 904, 947, 970, 993, 1016, 1049, 1082, 1105, 1128], 155) := by decide +kernel
theorem dL_law_188 : decode cL_law 188 = .ok (.aload_n 1, 1) := by decide +kernel
theorem dL_law_189 : decode cL_law 189 = .ok (.aload_n 0, 1) := by decide +kernel
theorem dL_law_190 : decode cL_law 190 = .ok (.iload_n 3, 1) := by decide +kernel
theorem dL_law_191 : decode cL_law 191 = .ok (.iconst 1, 1) := by decide +kernel
theorem dL_law_192 : decode cL_law 192 = .ok (.iadd, 1) := by decide +kernel
theorem dL_law_193 : decode cL_law 193 = .ok (.iaload, 1) := by decide +kernel
theorem dL_law_194 : decode cL_law 194 = .ok (.aload_n 0, 1) := by decide +kernel
theorem dL_law_195 : decode cL_law 195 = .ok (.iload_n 3, 1) := by decide +kernel
theorem dL_law_196 : decode cL_law 196 = .ok (.iconst 2, 1) := by decide +kernel
theorem dL_law_197 : decode cL_law 197 = .ok (.iadd, 1) := by decide +kernel
theorem dL_law_198 : decode cL_law 198 = .ok (.iaload, 1) := by decide +kernel
theorem dL_law_199 : decode cL_law 199 = .ok (.aload_n 0, 1) := by decide +kernel
theorem dL_law_200 : decode cL_law 200 = .ok (.iload_n 3, 1) := by decide +kernel
theorem dL_law_201 : decode cL_law 201 = .ok (.iconst 3, 1) := by decide +kernel
theorem dL_law_202 : decode cL_law 202 = .ok (.iadd, 1) := by decide +kernel
theorem dL_law_203 : decode cL_law 203 = .ok (.iaload, 1) := by decide +kernel
theorem dL_law_204 : decode cL_law 204 = .ok (.invokevirtual 13, 3) := by decide +kernel
theorem dL_law_207 : decode cL_law 207 = .ok (.aload_n 2, 1) := by decide +kernel
theorem dL_law_208 : decode cL_law 208 = .ok (.aload_n 0, 1) := by decide +kernel
theorem dL_law_209 : decode cL_law 209 = .ok (.iload_n 3, 1) := by decide +kernel
theorem dL_law_210 : decode cL_law 210 = .ok (.iconst 1, 1) := by decide +kernel
theorem dL_law_211 : decode cL_law 211 = .ok (.iadd, 1) := by decide +kernel
theorem dL_law_212 : decode cL_law 212 = .ok (.iaload, 1) := by decide +kernel
theorem dL_law_213 : decode cL_law 213 = .ok (.aload_n 0, 1) := by decide +kernel
theorem dL_law_214 : decode cL_law 214 = .ok (.iload_n 3, 1) := by decide +kernel
theorem dL_law_215 : decode cL_law 215 = .ok (.iconst 2, 1) := by decide +kernel
theorem dL_law_216 : decode cL_law 216 = .ok (.iadd, 1) := by decide +kernel
theorem dL_law_217 : decode cL_law 217 = .ok (.iaload, 1) := by decide +kernel
theorem dL_law_218 : decode cL_law 218 = .ok (.aload_n 0, 1) := by decide +kernel
theorem dL_law_219 : decode cL_law 219 = .ok (.iload_n 3, 1) := by decide +kernel
theorem dL_law_220 : decode cL_law 220 = .ok (.iconst 3, 1) := by decide +kernel
theorem dL_law_221 : decode cL_law 221 = .ok (.iadd, 1) := by decide +kernel
theorem dL_law_222 : decode cL_law 222 = .ok (.iaload, 1) := by decide +kernel
theorem dL_law_223 : decode cL_law 223 = .ok (.invokevirtual 17, 3) := by decide +kernel
theorem dL_law_226 : decode cL_law 226 = .ok (.if_icmp .eq 948, 3) := by decide +kernel
theorem dL_law_229 : decode cL_law 229 = .ok (.iconst 0, 1) := by decide +kernel
theorem dL_law_230 : decode cL_law 230 = .ok (.ireturn, 1) := by decide +kernel
theorem dL_law_231 : decode cL_law 231 = .ok (.aload_n 1, 1) := by decide +kernel
theorem dL_law_232 : decode cL_law 232 = .ok (.aload_n 0, 1) := by decide +kernel
theorem dL_law_233 : decode cL_law 233 = .ok (.iload_n 3, 1) := by decide +kernel
theorem dL_law_234 : decode cL_law 234 = .ok (.iconst 1, 1) := by decide +kernel
theorem dL_law_235 : decode cL_law 235 = .ok (.iadd, 1) := by decide +kernel
theorem dL_law_236 : decode cL_law 236 = .ok (.iaload, 1) := by decide +kernel
theorem dL_law_237 : decode cL_law 237 = .ok (.aload_n 0, 1) := by decide +kernel
theorem dL_law_238 : decode cL_law 238 = .ok (.iload_n 3, 1) := by decide +kernel
theorem dL_law_239 : decode cL_law 239 = .ok (.iconst 2, 1) := by decide +kernel
theorem dL_law_240 : decode cL_law 240 = .ok (.iadd, 1) := by decide +kernel
theorem dL_law_241 : decode cL_law 241 = .ok (.iaload, 1) := by decide +kernel
theorem dL_law_242 : decode cL_law 242 = .ok (.aload_n 0, 1) := by decide +kernel
theorem dL_law_243 : decode cL_law 243 = .ok (.iload_n 3, 1) := by decide +kernel
theorem dL_law_244 : decode cL_law 244 = .ok (.iconst 3, 1) := by decide +kernel
theorem dL_law_245 : decode cL_law 245 = .ok (.iadd, 1) := by decide +kernel
theorem dL_law_246 : decode cL_law 246 = .ok (.iaload, 1) := by decide +kernel
theorem dL_law_247 : decode cL_law 247 = .ok (.invokevirtual 18, 3) := by decide +kernel
theorem dL_law_250 : decode cL_law 250 = .ok (.aload_n 2, 1) := by decide +kernel
theorem dL_law_251 : decode cL_law 251 = .ok (.aload_n 0, 1) := by decide +kernel
theorem dL_law_252 : decode cL_law 252 = .ok (.iload_n 3, 1) := by decide +kernel
theorem dL_law_253 : decode cL_law 253 = .ok (.iconst 1, 1) := by decide +kernel
theorem dL_law_254 : decode cL_law 254 = .ok (.iadd, 1) := by decide +kernel
theorem dL_law_255 : decode cL_law 255 = .ok (.iaload, 1) := by decide +kernel
theorem dL_law_256 : decode cL_law 256 = .ok (.aload_n 0, 1) := by decide +kernel
theorem dL_law_257 : decode cL_law 257 = .ok (.iload_n 3, 1) := by decide +kernel
theorem dL_law_258 : decode cL_law 258 = .ok (.iconst 2, 1) := by decide +kernel
theorem dL_law_259 : decode cL_law 259 = .ok (.iadd, 1) := by decide +kernel
theorem dL_law_260 : decode cL_law 260 = .ok (.iaload, 1) := by decide +kernel
theorem dL_law_261 : decode cL_law 261 = .ok (.aload_n 0, 1) := by decide +kernel
theorem dL_law_262 : decode cL_law 262 = .ok (.iload_n 3, 1) := by decide +kernel
theorem dL_law_263 : decode cL_law 263 = .ok (.iconst 3, 1) := by decide +kernel
theorem dL_law_264 : decode cL_law 264 = .ok (.iadd, 1) := by decide +kernel
theorem dL_law_265 : decode cL_law 265 = .ok (.iaload, 1) := by decide +kernel
theorem dL_law_266 : decode cL_law 266 = .ok (.invokevirtual 21, 3) := by decide +kernel
theorem dL_law_269 : decode cL_law 269 = .ok (.if_icmp .eq 905, 3) := by decide +kernel
theorem dL_law_272 : decode cL_law 272 = .ok (.iconst 0, 1) := by decide +kernel
theorem dL_law_273 : decode cL_law 273 = .ok (.ireturn, 1) := by decide +kernel
theorem dL_law_274 : decode cL_law 274 = .ok (.aload_n 1, 1) := by decide +kernel
theorem dL_law_275 : decode cL_law 275 = .ok (.aload_n 0, 1) := by decide +kernel
theorem dL_law_276 : decode cL_law 276 = .ok (.iload_n 3, 1) := by decide +kernel
theorem dL_law_277 : decode cL_law 277 = .ok (.iconst 1, 1) := by decide +kernel
theorem dL_law_278 : decode cL_law 278 = .ok (.iadd, 1) := by decide +kernel
theorem dL_law_279 : decode cL_law 279 = .ok (.iaload, 1) := by decide +kernel
theorem dL_law_280 : decode cL_law 280 = .ok (.aload_n 0, 1) := by decide +kernel
theorem dL_law_281 : decode cL_law 281 = .ok (.iload_n 3, 1) := by decide +kernel
theorem dL_law_282 : decode cL_law 282 = .ok (.iconst 2, 1) := by decide +kernel
theorem dL_law_283 : decode cL_law 283 = .ok (.iadd, 1) := by decide +kernel
theorem dL_law_284 : decode cL_law 284 = .ok (.iaload, 1) := by decide +kernel
theorem dL_law_285 : decode cL_law 285 = .ok (.aload_n 0, 1) := by decide +kernel
theorem dL_law_286 : decode cL_law 286 = .ok (.iload_n 3, 1) := by decide +kernel
theorem dL_law_287 : decode cL_law 287 = .ok (.iconst 3, 1) := by decide +kernel
theorem dL_law_288 : decode cL_law 288 = .ok (.iadd, 1) := by decide +kernel
theorem dL_law_289 : decode cL_law 289 = .ok (.iaload, 1) := by decide +kernel
theorem dL_law_290 : decode cL_law 290 = .ok (.aload_n 0, 1) := by decide +kernel
theorem dL_law_291 : decode cL_law 291 = .ok (.iload_n 3, 1) := by decide +kernel
theorem dL_law_292 : decode cL_law 292 = .ok (.iconst 4, 1) := by decide +kernel
theorem dL_law_293 : decode cL_law 293 = .ok (.iadd, 1) := by decide +kernel
theorem dL_law_294 : decode cL_law 294 = .ok (.iaload, 1) := by decide +kernel
theorem dL_law_295 : decode cL_law 295 = .ok (.aload_n 0, 1) := by decide +kernel
theorem dL_law_296 : decode cL_law 296 = .ok (.iload_n 3, 1) := by decide +kernel
theorem dL_law_297 : decode cL_law 297 = .ok (.iconst 5, 1) := by decide +kernel
theorem dL_law_298 : decode cL_law 298 = .ok (.iadd, 1) := by decide +kernel
theorem dL_law_299 : decode cL_law 299 = .ok (.iaload, 1) := by decide +kernel
theorem dL_law_300 : decode cL_law 300 = .ok (.invokevirtual 22, 3) := by decide +kernel
theorem dL_law_303 : decode cL_law 303 = .ok (.aload_n 2, 1) := by decide +kernel
theorem dL_law_304 : decode cL_law 304 = .ok (.aload_n 0, 1) := by decide +kernel
theorem dL_law_305 : decode cL_law 305 = .ok (.iload_n 3, 1) := by decide +kernel
theorem dL_law_306 : decode cL_law 306 = .ok (.iconst 1, 1) := by decide +kernel
theorem dL_law_307 : decode cL_law 307 = .ok (.iadd, 1) := by decide +kernel
theorem dL_law_308 : decode cL_law 308 = .ok (.iaload, 1) := by decide +kernel
theorem dL_law_309 : decode cL_law 309 = .ok (.aload_n 0, 1) := by decide +kernel
theorem dL_law_310 : decode cL_law 310 = .ok (.iload_n 3, 1) := by decide +kernel
theorem dL_law_311 : decode cL_law 311 = .ok (.iconst 2, 1) := by decide +kernel
theorem dL_law_312 : decode cL_law 312 = .ok (.iadd, 1) := by decide +kernel
theorem dL_law_313 : decode cL_law 313 = .ok (.iaload, 1) := by decide +kernel
theorem dL_law_314 : decode cL_law 314 = .ok (.aload_n 0, 1) := by decide +kernel
theorem dL_law_315 : decode cL_law 315 = .ok (.iload_n 3, 1) := by decide +kernel
theorem dL_law_316 : decode cL_law 316 = .ok (.iconst 3, 1) := by decide +kernel
theorem dL_law_317 : decode cL_law 317 = .ok (.iadd, 1) := by decide +kernel
theorem dL_law_318 : decode cL_law 318 = .ok (.iaload, 1) := by decide +kernel
theorem dL_law_319 : decode cL_law 319 = .ok (.aload_n 0, 1) := by decide +kernel
theorem dL_law_320 : decode cL_law 320 = .ok (.iload_n 3, 1) := by decide +kernel
theorem dL_law_321 : decode cL_law 321 = .ok (.iconst 4, 1) := by decide +kernel
theorem dL_law_322 : decode cL_law 322 = .ok (.iadd, 1) := by decide +kernel
theorem dL_law_323 : decode cL_law 323 = .ok (.iaload, 1) := by decide +kernel
theorem dL_law_324 : decode cL_law 324 = .ok (.aload_n 0, 1) := by decide +kernel
theorem dL_law_325 : decode cL_law 325 = .ok (.iload_n 3, 1) := by decide +kernel
theorem dL_law_326 : decode cL_law 326 = .ok (.iconst 5, 1) := by decide +kernel
theorem dL_law_327 : decode cL_law 327 = .ok (.iadd, 1) := by decide +kernel
theorem dL_law_328 : decode cL_law 328 = .ok (.iaload, 1) := by decide +kernel
theorem dL_law_329 : decode cL_law 329 = .ok (.invokevirtual 26, 3) := by decide +kernel
theorem dL_law_332 : decode cL_law 332 = .ok (.if_icmp .eq 842, 3) := by decide +kernel
theorem dL_law_335 : decode cL_law 335 = .ok (.iconst 0, 1) := by decide +kernel
theorem dL_law_336 : decode cL_law 336 = .ok (.ireturn, 1) := by decide +kernel
theorem dL_law_337 : decode cL_law 337 = .ok (.aload_n 1, 1) := by decide +kernel
theorem dL_law_338 : decode cL_law 338 = .ok (.aload_n 0, 1) := by decide +kernel
theorem dL_law_339 : decode cL_law 339 = .ok (.iload_n 3, 1) := by decide +kernel
theorem dL_law_340 : decode cL_law 340 = .ok (.iconst 1, 1) := by decide +kernel
theorem dL_law_341 : decode cL_law 341 = .ok (.iadd, 1) := by decide +kernel
theorem dL_law_342 : decode cL_law 342 = .ok (.iaload, 1) := by decide +kernel
theorem dL_law_343 : decode cL_law 343 = .ok (.invokevirtual 27, 3) := by decide +kernel
theorem dL_law_346 : decode cL_law 346 = .ok (.aload_n 2, 1) := by decide +kernel
theorem dL_law_347 : decode cL_law 347 = .ok (.aload_n 0, 1) := by decide +kernel
theorem dL_law_348 : decode cL_law 348 = .ok (.iload_n 3, 1) := by decide +kernel
theorem dL_law_349 : decode cL_law 349 = .ok (.iconst 1, 1) := by decide +kernel
theorem dL_law_350 : decode cL_law 350 = .ok (.iadd, 1) := by decide +kernel
theorem dL_law_351 : decode cL_law 351 = .ok (.iaload, 1) := by decide +kernel
theorem dL_law_352 : decode cL_law 352 = .ok (.invokevirtual 31, 3) := by decide +kernel
theorem dL_law_355 : decode cL_law 355 = .ok (.if_icmp .eq 819, 3) := by decide +kernel
theorem dL_law_358 : decode cL_law 358 = .ok (.iconst 0, 1) := by decide +kernel
theorem dL_law_359 : decode cL_law 359 = .ok (.ireturn, 1) := by decide +kernel
theorem dL_law_360 : decode cL_law 360 = .ok (.aload_n 1, 1) := by decide +kernel
theorem dL_law_361 : decode cL_law 361 = .ok (.aload_n 0, 1) := by decide +kernel
theorem dL_law_362 : decode cL_law 362 = .ok (.iload_n 3, 1) := by decide +kernel
theorem dL_law_363 : decode cL_law 363 = .ok (.iconst 1, 1) := by decide +kernel
theorem dL_law_364 : decode cL_law 364 = .ok (.iadd, 1) := by decide +kernel
theorem dL_law_365 : decode cL_law 365 = .ok (.iaload, 1) := by decide +kernel
theorem dL_law_366 : decode cL_law 366 = .ok (.invokevirtual 32, 3) := by decide +kernel
theorem dL_law_369 : decode cL_law 369 = .ok (.aload_n 2, 1) := by decide +kernel
theorem dL_law_370 : decode cL_law 370 = .ok (.aload_n 0, 1) := by decide +kernel
theorem dL_law_371 : decode cL_law 371 = .ok (.iload_n 3, 1) := by decide +kernel
theorem dL_law_372 : decode cL_law 372 = .ok (.iconst 1, 1) := by decide +kernel
theorem dL_law_373 : decode cL_law 373 = .ok (.iadd, 1) := by decide +kernel
theorem dL_law_374 : decode cL_law 374 = .ok (.iaload, 1) := by decide +kernel
theorem dL_law_375 : decode cL_law 375 = .ok (.invokevirtual 35, 3) := by decide +kernel
theorem dL_law_378 : decode cL_law 378 = .ok (.if_icmp .eq 796, 3) := by decide +kernel
theorem dL_law_381 : decode cL_law 381 = .ok (.iconst 0, 1) := by decide +kernel
theorem dL_law_382 : decode cL_law 382 = .ok (.ireturn, 1) := by decide +kernel
theorem dL_law_383 : decode cL_law 383 = .ok (.aload_n 1, 1) := by decide +kernel
theorem dL_law_384 : decode cL_law 384 = .ok (.invokevirtual 36, 3) := by decide +kernel
theorem dL_law_387 : decode cL_law 387 = .ok (.aload_n 2, 1) := by decide +kernel
theorem dL_law_388 : decode cL_law 388 = .ok (.invokevirtual 40, 3) := by decide +kernel
theorem dL_law_391 : decode cL_law 391 = .ok (.if_icmp .eq 783, 3) := by decide +kernel
theorem dL_law_394 : decode cL_law 394 = .ok (.iconst 0, 1) := by decide +kernel
theorem dL_law_395 : decode cL_law 395 = .ok (.ireturn, 1) := by decide +kernel
theorem dL_law_396 : decode cL_law 396 = .ok (.aload_n 1, 1) := by decide +kernel
theorem dL_law_397 : decode cL_law 397 = .ok (.invokevirtual 41, 3) := by decide +kernel
theorem dL_law_400 : decode cL_law 400 = .ok (.aload_n 2, 1) := by decide +kernel
theorem dL_law_401 : decode cL_law 401 = .ok (.invokevirtual 44, 3) := by decide +kernel
theorem dL_law_404 : decode cL_law 404 = .ok (.if_icmp .eq 770, 3) := by decide +kernel
theorem dL_law_407 : decode cL_law 407 = .ok (.iconst 0, 1) := by decide +kernel
theorem dL_law_408 : decode cL_law 408 = .ok (.ireturn, 1) := by decide +kernel
theorem dL_law_409 : decode cL_law 409 = .ok (.aload_n 1, 1) := by decide +kernel
theorem dL_law_410 : decode cL_law 410 = .ok (.invokevirtual 45, 3) := by decide +kernel
theorem dL_law_413 : decode cL_law 413 = .ok (.aload_n 2, 1) := by decide +kernel
theorem dL_law_414 : decode cL_law 414 = .ok (.invokevirtual 48, 3) := by decide +kernel
theorem dL_law_417 : decode cL_law 417 = .ok (.if_icmp .eq 757, 3) := by decide +kernel
theorem dL_law_420 : decode cL_law 420 = .ok (.iconst 0, 1) := by decide +kernel
theorem dL_law_421 : decode cL_law 421 = .ok (.ireturn, 1) := by decide +kernel
theorem dL_law_422 : decode cL_law 422 = .ok (.aload_n 1, 1) := by decide +kernel
theorem dL_law_423 : decode cL_law 423 = .ok (.aload_n 0, 1) := by decide +kernel
theorem dL_law_424 : decode cL_law 424 = .ok (.iload_n 3, 1) := by decide +kernel
theorem dL_law_425 : decode cL_law 425 = .ok (.iconst 1, 1) := by decide +kernel
theorem dL_law_426 : decode cL_law 426 = .ok (.iadd, 1) := by decide +kernel
theorem dL_law_427 : decode cL_law 427 = .ok (.iaload, 1) := by decide +kernel
theorem dL_law_428 : decode cL_law 428 = .ok (.aload_n 0, 1) := by decide +kernel
theorem dL_law_429 : decode cL_law 429 = .ok (.iload_n 3, 1) := by decide +kernel
theorem dL_law_430 : decode cL_law 430 = .ok (.iconst 2, 1) := by decide +kernel
theorem dL_law_431 : decode cL_law 431 = .ok (.iadd, 1) := by decide +kernel
theorem dL_law_432 : decode cL_law 432 = .ok (.iaload, 1) := by decide +kernel
theorem dL_law_433 : decode cL_law 433 = .ok (.invokevirtual 49, 3) := by decide +kernel
theorem dL_law_436 : decode cL_law 436 = .ok (.aload_n 2, 1) := by decide +kernel
theorem dL_law_437 : decode cL_law 437 = .ok (.aload_n 0, 1) := by decide +kernel
theorem dL_law_438 : decode cL_law 438 = .ok (.iload_n 3, 1) := by decide +kernel
theorem dL_law_439 : decode cL_law 439 = .ok (.iconst 1, 1) := by decide +kernel
theorem dL_law_440 : decode cL_law 440 = .ok (.iadd, 1) := by decide +kernel
theorem dL_law_441 : decode cL_law 441 = .ok (.iaload, 1) := by decide +kernel
theorem dL_law_442 : decode cL_law 442 = .ok (.aload_n 0, 1) := by decide +kernel
theorem dL_law_443 : decode cL_law 443 = .ok (.iload_n 3, 1) := by decide +kernel
theorem dL_law_444 : decode cL_law 444 = .ok (.iconst 2, 1) := by decide +kernel
theorem dL_law_445 : decode cL_law 445 = .ok (.iadd, 1) := by decide +kernel
theorem dL_law_446 : decode cL_law 446 = .ok (.iaload, 1) := by decide +kernel
theorem dL_law_447 : decode cL_law 447 = .ok (.invokevirtual 53, 3) := by decide +kernel
theorem dL_law_450 : decode cL_law 450 = .ok (.if_icmp .eq 724, 3) := by decide +kernel
theorem dL_law_453 : decode cL_law 453 = .ok (.iconst 0, 1) := by decide +kernel
theorem dL_law_454 : decode cL_law 454 = .ok (.ireturn, 1) := by decide +kernel
theorem dL_law_455 : decode cL_law 455 = .ok (.aload_n 1, 1) := by decide +kernel
theorem dL_law_456 : decode cL_law 456 = .ok (.aload_n 0, 1) := by decide +kernel
theorem dL_law_457 : decode cL_law 457 = .ok (.iload_n 3, 1) := by decide +kernel
theorem dL_law_458 : decode cL_law 458 = .ok (.iconst 1, 1) := by decide +kernel
theorem dL_law_459 : decode cL_law 459 = .ok (.iadd, 1) := by decide +kernel
theorem dL_law_460 : decode cL_law 460 = .ok (.iaload, 1) := by decide +kernel
theorem dL_law_461 : decode cL_law 461 = .ok (.invokevirtual 54, 3) := by decide +kernel
theorem dL_law_464 : decode cL_law 464 = .ok (.aload_n 2, 1) := by decide +kernel
theorem dL_law_465 : decode cL_law 465 = .ok (.aload_n 0, 1) := by decide +kernel
theorem dL_law_466 : decode cL_law 466 = .ok (.iload_n 3, 1) := by decide +kernel
theorem dL_law_467 : decode cL_law 467 = .ok (.iconst 1, 1) := by decide +kernel
theorem dL_law_468 : decode cL_law 468 = .ok (.iadd, 1) := by decide +kernel
theorem dL_law_469 : decode cL_law 469 = .ok (.iaload, 1) := by decide +kernel
theorem dL_law_470 : decode cL_law 470 = .ok (.invokevirtual 57, 3) := by decide +kernel
theorem dL_law_473 : decode cL_law 473 = .ok (.if_icmp .eq 701, 3) := by decide +kernel
theorem dL_law_476 : decode cL_law 476 = .ok (.iconst 0, 1) := by decide +kernel
theorem dL_law_477 : decode cL_law 477 = .ok (.ireturn, 1) := by decide +kernel
theorem dL_law_478 : decode cL_law 478 = .ok (.aload_n 1, 1) := by decide +kernel
theorem dL_law_479 : decode cL_law 479 = .ok (.aload_n 0, 1) := by decide +kernel
theorem dL_law_480 : decode cL_law 480 = .ok (.iload_n 3, 1) := by decide +kernel
theorem dL_law_481 : decode cL_law 481 = .ok (.iconst 1, 1) := by decide +kernel
theorem dL_law_482 : decode cL_law 482 = .ok (.iadd, 1) := by decide +kernel
theorem dL_law_483 : decode cL_law 483 = .ok (.iaload, 1) := by decide +kernel
theorem dL_law_484 : decode cL_law 484 = .ok (.invokevirtual 58, 3) := by decide +kernel
theorem dL_law_487 : decode cL_law 487 = .ok (.aload_n 2, 1) := by decide +kernel
theorem dL_law_488 : decode cL_law 488 = .ok (.aload_n 0, 1) := by decide +kernel
theorem dL_law_489 : decode cL_law 489 = .ok (.iload_n 3, 1) := by decide +kernel
theorem dL_law_490 : decode cL_law 490 = .ok (.iconst 1, 1) := by decide +kernel
theorem dL_law_491 : decode cL_law 491 = .ok (.iadd, 1) := by decide +kernel
theorem dL_law_492 : decode cL_law 492 = .ok (.iaload, 1) := by decide +kernel
theorem dL_law_493 : decode cL_law 493 = .ok (.invokevirtual 61, 3) := by decide +kernel
theorem dL_law_496 : decode cL_law 496 = .ok (.if_icmp .eq 678, 3) := by decide +kernel
theorem dL_law_499 : decode cL_law 499 = .ok (.iconst 0, 1) := by decide +kernel
theorem dL_law_500 : decode cL_law 500 = .ok (.ireturn, 1) := by decide +kernel
theorem dL_law_501 : decode cL_law 501 = .ok (.aload_n 1, 1) := by decide +kernel
theorem dL_law_502 : decode cL_law 502 = .ok (.invokevirtual 62, 3) := by decide +kernel
theorem dL_law_505 : decode cL_law 505 = .ok (.aload_n 2, 1) := by decide +kernel
theorem dL_law_506 : decode cL_law 506 = .ok (.invokevirtual 65, 3) := by decide +kernel
theorem dL_law_509 : decode cL_law 509 = .ok (.if_icmp .eq 665, 3) := by decide +kernel
theorem dL_law_512 : decode cL_law 512 = .ok (.iconst 0, 1) := by decide +kernel
theorem dL_law_513 : decode cL_law 513 = .ok (.ireturn, 1) := by decide +kernel
theorem dL_law_514 : decode cL_law 514 = .ok (.aload_n 1, 1) := by decide +kernel
theorem dL_law_515 : decode cL_law 515 = .ok (.aload_n 0, 1) := by decide +kernel
theorem dL_law_516 : decode cL_law 516 = .ok (.iload_n 3, 1) := by decide +kernel
theorem dL_law_517 : decode cL_law 517 = .ok (.iconst 1, 1) := by decide +kernel
theorem dL_law_518 : decode cL_law 518 = .ok (.iadd, 1) := by decide +kernel
theorem dL_law_519 : decode cL_law 519 = .ok (.iaload, 1) := by decide +kernel
theorem dL_law_520 : decode cL_law 520 = .ok (.aload_n 0, 1) := by decide +kernel
theorem dL_law_521 : decode cL_law 521 = .ok (.iload_n 3, 1) := by decide +kernel
theorem dL_law_522 : decode cL_law 522 = .ok (.iconst 2, 1) := by decide +kernel
theorem dL_law_523 : decode cL_law 523 = .ok (.iadd, 1) := by decide +kernel
theorem dL_law_524 : decode cL_law 524 = .ok (.iaload, 1) := by decide +kernel
theorem dL_law_525 : decode cL_law 525 = .ok (.invokevirtual 66, 3) := by decide +kernel
theorem dL_law_528 : decode cL_law 528 = .ok (.aload_n 2, 1) := by decide +kernel
theorem dL_law_529 : decode cL_law 529 = .ok (.aload_n 0, 1) := by decide +kernel
theorem dL_law_530 : decode cL_law 530 = .ok (.iload_n 3, 1) := by decide +kernel
theorem dL_law_531 : decode cL_law 531 = .ok (.iconst 1, 1) := by decide +kernel
theorem dL_law_532 : decode cL_law 532 = .ok (.iadd, 1) := by decide +kernel
theorem dL_law_533 : decode cL_law 533 = .ok (.iaload, 1) := by decide +kernel
theorem dL_law_534 : decode cL_law 534 = .ok (.aload_n 0, 1) := by decide +kernel
theorem dL_law_535 : decode cL_law 535 = .ok (.iload_n 3, 1) := by decide +kernel
theorem dL_law_536 : decode cL_law 536 = .ok (.iconst 2, 1) := by decide +kernel
theorem dL_law_537 : decode cL_law 537 = .ok (.iadd, 1) := by decide +kernel
theorem dL_law_538 : decode cL_law 538 = .ok (.iaload, 1) := by decide +kernel
theorem dL_law_539 : decode cL_law 539 = .ok (.invokevirtual 69, 3) := by decide +kernel
theorem dL_law_542 : decode cL_law 542 = .ok (.if_icmp .eq 632, 3) := by decide +kernel
theorem dL_law_545 : decode cL_law 545 = .ok (.iconst 0, 1) := by decide +kernel
theorem dL_law_546 : decode cL_law 546 = .ok (.ireturn, 1) := by decide +kernel
theorem dL_law_547 : decode cL_law 547 = .ok (.aload_n 1, 1) := by decide +kernel
theorem dL_law_548 : decode cL_law 548 = .ok (.aload_n 0, 1) := by decide +kernel
theorem dL_law_549 : decode cL_law 549 = .ok (.iload_n 3, 1) := by decide +kernel
theorem dL_law_550 : decode cL_law 550 = .ok (.iconst 1, 1) := by decide +kernel
theorem dL_law_551 : decode cL_law 551 = .ok (.iadd, 1) := by decide +kernel
theorem dL_law_552 : decode cL_law 552 = .ok (.iaload, 1) := by decide +kernel
theorem dL_law_553 : decode cL_law 553 = .ok (.aload_n 0, 1) := by decide +kernel
theorem dL_law_554 : decode cL_law 554 = .ok (.iload_n 3, 1) := by decide +kernel
theorem dL_law_555 : decode cL_law 555 = .ok (.iconst 2, 1) := by decide +kernel
theorem dL_law_556 : decode cL_law 556 = .ok (.iadd, 1) := by decide +kernel
theorem dL_law_557 : decode cL_law 557 = .ok (.iaload, 1) := by decide +kernel
theorem dL_law_558 : decode cL_law 558 = .ok (.invokevirtual 70, 3) := by decide +kernel
theorem dL_law_561 : decode cL_law 561 = .ok (.aload_n 2, 1) := by decide +kernel
theorem dL_law_562 : decode cL_law 562 = .ok (.aload_n 0, 1) := by decide +kernel
theorem dL_law_563 : decode cL_law 563 = .ok (.iload_n 3, 1) := by decide +kernel
theorem dL_law_564 : decode cL_law 564 = .ok (.iconst 1, 1) := by decide +kernel
theorem dL_law_565 : decode cL_law 565 = .ok (.iadd, 1) := by decide +kernel
theorem dL_law_566 : decode cL_law 566 = .ok (.iaload, 1) := by decide +kernel
theorem dL_law_567 : decode cL_law 567 = .ok (.aload_n 0, 1) := by decide +kernel
theorem dL_law_568 : decode cL_law 568 = .ok (.iload_n 3, 1) := by decide +kernel
theorem dL_law_569 : decode cL_law 569 = .ok (.iconst 2, 1) := by decide +kernel
theorem dL_law_570 : decode cL_law 570 = .ok (.iadd, 1) := by decide +kernel
theorem dL_law_571 : decode cL_law 571 = .ok (.iaload, 1) := by decide +kernel
theorem dL_law_572 : decode cL_law 572 = .ok (.invokevirtual 73, 3) := by decide +kernel
theorem dL_law_575 : decode cL_law 575 = .ok (.if_icmp .eq 599, 3) := by decide +kernel
theorem dL_law_578 : decode cL_law 578 = .ok (.iconst 0, 1) := by decide +kernel
theorem dL_law_579 : decode cL_law 579 = .ok (.ireturn, 1) := by decide +kernel
theorem dL_law_580 : decode cL_law 580 = .ok (.aload_n 1, 1) := by decide +kernel
theorem dL_law_581 : decode cL_law 581 = .ok (.aload_n 0, 1) := by decide +kernel
theorem dL_law_582 : decode cL_law 582 = .ok (.iload_n 3, 1) := by decide +kernel
theorem dL_law_583 : decode cL_law 583 = .ok (.iconst 1, 1) := by decide +kernel
theorem dL_law_584 : decode cL_law 584 = .ok (.iadd, 1) := by decide +kernel
theorem dL_law_585 : decode cL_law 585 = .ok (.iaload, 1) := by decide +kernel
theorem dL_law_586 : decode cL_law 586 = .ok (.invokevirtual 74, 3) := by decide +kernel
theorem dL_law_589 : decode cL_law 589 = .ok (.aload_n 2, 1) := by decide +kernel
theorem dL_law_590 : decode cL_law 590 = .ok (.aload_n 0, 1) := by decide +kernel
theorem dL_law_591 : decode cL_law 591 = .ok (.iload_n 3, 1) := by decide +kernel
theorem dL_law_592 : decode cL_law 592 = .ok (.iconst 1, 1) := by decide +kernel
theorem dL_law_593 : decode cL_law 593 = .ok (.iadd, 1) := by decide +kernel
theorem dL_law_594 : decode cL_law 594 = .ok (.iaload, 1) := by decide +kernel
theorem dL_law_595 : decode cL_law 595 = .ok (.invokevirtual 77, 3) := by decide +kernel
theorem dL_law_598 : decode cL_law 598 = .ok (.if_icmp .eq 576, 3) := by decide +kernel
theorem dL_law_601 : decode cL_law 601 = .ok (.iconst 0, 1) := by decide +kernel
theorem dL_law_602 : decode cL_law 602 = .ok (.ireturn, 1) := by decide +kernel
theorem dL_law_603 : decode cL_law 603 = .ok (.aload_n 1, 1) := by decide +kernel
theorem dL_law_604 : decode cL_law 604 = .ok (.aload_n 0, 1) := by decide +kernel
theorem dL_law_605 : decode cL_law 605 = .ok (.iload_n 3, 1) := by decide +kernel
theorem dL_law_606 : decode cL_law 606 = .ok (.iconst 1, 1) := by decide +kernel
theorem dL_law_607 : decode cL_law 607 = .ok (.iadd, 1) := by decide +kernel
theorem dL_law_608 : decode cL_law 608 = .ok (.iaload, 1) := by decide +kernel
theorem dL_law_609 : decode cL_law 609 = .ok (.aload_n 0, 1) := by decide +kernel
theorem dL_law_610 : decode cL_law 610 = .ok (.iload_n 3, 1) := by decide +kernel
theorem dL_law_611 : decode cL_law 611 = .ok (.iconst 2, 1) := by decide +kernel
theorem dL_law_612 : decode cL_law 612 = .ok (.iadd, 1) := by decide +kernel
theorem dL_law_613 : decode cL_law 613 = .ok (.iaload, 1) := by decide +kernel
theorem dL_law_614 : decode cL_law 614 = .ok (.aload_n 0, 1) := by decide +kernel
theorem dL_law_615 : decode cL_law 615 = .ok (.iload_n 3, 1) := by decide +kernel
theorem dL_law_616 : decode cL_law 616 = .ok (.iconst 3, 1) := by decide +kernel
theorem dL_law_617 : decode cL_law 617 = .ok (.iadd, 1) := by decide +kernel
theorem dL_law_618 : decode cL_law 618 = .ok (.iaload, 1) := by decide +kernel
theorem dL_law_619 : decode cL_law 619 = .ok (.invokevirtual 78, 3) := by decide +kernel
theorem dL_law_622 : decode cL_law 622 = .ok (.aload_n 2, 1) := by decide +kernel
theorem dL_law_623 : decode cL_law 623 = .ok (.aload_n 0, 1) := by decide +kernel
theorem dL_law_624 : decode cL_law 624 = .ok (.iload_n 3, 1) := by decide +kernel
theorem dL_law_625 : decode cL_law 625 = .ok (.iconst 1, 1) := by decide +kernel
theorem dL_law_626 : decode cL_law 626 = .ok (.iadd, 1) := by decide +kernel
theorem dL_law_627 : decode cL_law 627 = .ok (.iaload, 1) := by decide +kernel
theorem dL_law_628 : decode cL_law 628 = .ok (.aload_n 0, 1) := by decide +kernel
theorem dL_law_629 : decode cL_law 629 = .ok (.iload_n 3, 1) := by decide +kernel
theorem dL_law_630 : decode cL_law 630 = .ok (.iconst 2, 1) := by decide +kernel
theorem dL_law_631 : decode cL_law 631 = .ok (.iadd, 1) := by decide +kernel
theorem dL_law_632 : decode cL_law 632 = .ok (.iaload, 1) := by decide +kernel
theorem dL_law_633 : decode cL_law 633 = .ok (.aload_n 0, 1) := by decide +kernel
theorem dL_law_634 : decode cL_law 634 = .ok (.iload_n 3, 1) := by decide +kernel
theorem dL_law_635 : decode cL_law 635 = .ok (.iconst 3, 1) := by decide +kernel
theorem dL_law_636 : decode cL_law 636 = .ok (.iadd, 1) := by decide +kernel
theorem dL_law_637 : decode cL_law 637 = .ok (.iaload, 1) := by decide +kernel
theorem dL_law_638 : decode cL_law 638 = .ok (.invokevirtual 81, 3) := by decide +kernel
theorem dL_law_641 : decode cL_law 641 = .ok (.if_icmp .eq 533, 3) := by decide +kernel
theorem dL_law_644 : decode cL_law 644 = .ok (.iconst 0, 1) := by decide +kernel
theorem dL_law_645 : decode cL_law 645 = .ok (.ireturn, 1) := by decide +kernel
theorem dL_law_646 : decode cL_law 646 = .ok (.aload_n 1, 1) := by decide +kernel
theorem dL_law_647 : decode cL_law 647 = .ok (.aload_n 0, 1) := by decide +kernel
theorem dL_law_648 : decode cL_law 648 = .ok (.iload_n 3, 1) := by decide +kernel
theorem dL_law_649 : decode cL_law 649 = .ok (.iconst 1, 1) := by decide +kernel
theorem dL_law_650 : decode cL_law 650 = .ok (.iadd, 1) := by decide +kernel
theorem dL_law_651 : decode cL_law 651 = .ok (.iaload, 1) := by decide +kernel
theorem dL_law_652 : decode cL_law 652 = .ok (.invokevirtual 82, 3) := by decide +kernel
theorem dL_law_655 : decode cL_law 655 = .ok (.aload_n 2, 1) := by decide +kernel
theorem dL_law_656 : decode cL_law 656 = .ok (.aload_n 0, 1) := by decide +kernel
theorem dL_law_657 : decode cL_law 657 = .ok (.iload_n 3, 1) := by decide +kernel
theorem dL_law_658 : decode cL_law 658 = .ok (.iconst 1, 1) := by decide +kernel
theorem dL_law_659 : decode cL_law 659 = .ok (.iadd, 1) := by decide +kernel
theorem dL_law_660 : decode cL_law 660 = .ok (.iaload, 1) := by decide +kernel
theorem dL_law_661 : decode cL_law 661 = .ok (.invokevirtual 85, 3) := by decide +kernel
theorem dL_law_664 : decode cL_law 664 = .ok (.if_icmp .eq 510, 3) := by decide +kernel
theorem dL_law_667 : decode cL_law 667 = .ok (.iconst 0, 1) := by decide +kernel
theorem dL_law_668 : decode cL_law 668 = .ok (.ireturn, 1) := by decide +kernel
theorem dL_law_669 : decode cL_law 669 = .ok (.aload_n 1, 1) := by decide +kernel
theorem dL_law_670 : decode cL_law 670 = .ok (.aload_n 0, 1) := by decide +kernel
theorem dL_law_671 : decode cL_law 671 = .ok (.iload_n 3, 1) := by decide +kernel
theorem dL_law_672 : decode cL_law 672 = .ok (.iconst 1, 1) := by decide +kernel
theorem dL_law_673 : decode cL_law 673 = .ok (.iadd, 1) := by decide +kernel
theorem dL_law_674 : decode cL_law 674 = .ok (.iaload, 1) := by decide +kernel
theorem dL_law_675 : decode cL_law 675 = .ok (.invokevirtual 86, 3) := by decide +kernel
theorem dL_law_678 : decode cL_law 678 = .ok (.aload_n 2, 1) := by decide +kernel
theorem dL_law_679 : decode cL_law 679 = .ok (.aload_n 0, 1) := by decide +kernel
theorem dL_law_680 : decode cL_law 680 = .ok (.iload_n 3, 1) := by decide +kernel
theorem dL_law_681 : decode cL_law 681 = .ok (.iconst 1, 1) := by decide +kernel
theorem dL_law_682 : decode cL_law 682 = .ok (.iadd, 1) := by decide +kernel
theorem dL_law_683 : decode cL_law 683 = .ok (.iaload, 1) := by decide +kernel
theorem dL_law_684 : decode cL_law 684 = .ok (.invokevirtual 89, 3) := by decide +kernel
theorem dL_law_687 : decode cL_law 687 = .ok (.if_icmp .eq 487, 3) := by decide +kernel
theorem dL_law_690 : decode cL_law 690 = .ok (.iconst 0, 1) := by decide +kernel
theorem dL_law_691 : decode cL_law 691 = .ok (.ireturn, 1) := by decide +kernel
theorem dL_law_692 : decode cL_law 692 = .ok (.aload_n 1, 1) := by decide +kernel
theorem dL_law_693 : decode cL_law 693 = .ok (.aload_n 0, 1) := by decide +kernel
theorem dL_law_694 : decode cL_law 694 = .ok (.iload_n 3, 1) := by decide +kernel
theorem dL_law_695 : decode cL_law 695 = .ok (.iconst 1, 1) := by decide +kernel
theorem dL_law_696 : decode cL_law 696 = .ok (.iadd, 1) := by decide +kernel
theorem dL_law_697 : decode cL_law 697 = .ok (.iaload, 1) := by decide +kernel
theorem dL_law_698 : decode cL_law 698 = .ok (.invokevirtual 90, 3) := by decide +kernel
theorem dL_law_701 : decode cL_law 701 = .ok (.aload_n 2, 1) := by decide +kernel
theorem dL_law_702 : decode cL_law 702 = .ok (.aload_n 0, 1) := by decide +kernel
theorem dL_law_703 : decode cL_law 703 = .ok (.iload_n 3, 1) := by decide +kernel
theorem dL_law_704 : decode cL_law 704 = .ok (.iconst 1, 1) := by decide +kernel
theorem dL_law_705 : decode cL_law 705 = .ok (.iadd, 1) := by decide +kernel
theorem dL_law_706 : decode cL_law 706 = .ok (.iaload, 1) := by decide +kernel
theorem dL_law_707 : decode cL_law 707 = .ok (.invokevirtual 93, 3) := by decide +kernel
theorem dL_law_710 : decode cL_law 710 = .ok (.if_icmp .eq 464, 3) := by decide +kernel
theorem dL_law_713 : decode cL_law 713 = .ok (.iconst 0, 1) := by decide +kernel
theorem dL_law_714 : decode cL_law 714 = .ok (.ireturn, 1) := by decide +kernel
theorem dL_law_715 : decode cL_law 715 = .ok (.aload_n 1, 1) := by decide +kernel
theorem dL_law_716 : decode cL_law 716 = .ok (.aload_n 0, 1) := by decide +kernel
theorem dL_law_717 : decode cL_law 717 = .ok (.iload_n 3, 1) := by decide +kernel
theorem dL_law_718 : decode cL_law 718 = .ok (.iconst 1, 1) := by decide +kernel
theorem dL_law_719 : decode cL_law 719 = .ok (.iadd, 1) := by decide +kernel
theorem dL_law_720 : decode cL_law 720 = .ok (.iaload, 1) := by decide +kernel
theorem dL_law_721 : decode cL_law 721 = .ok (.aload_n 0, 1) := by decide +kernel
theorem dL_law_722 : decode cL_law 722 = .ok (.iload_n 3, 1) := by decide +kernel
theorem dL_law_723 : decode cL_law 723 = .ok (.iconst 2, 1) := by decide +kernel
theorem dL_law_724 : decode cL_law 724 = .ok (.iadd, 1) := by decide +kernel
theorem dL_law_725 : decode cL_law 725 = .ok (.iaload, 1) := by decide +kernel
theorem dL_law_726 : decode cL_law 726 = .ok (.invokevirtual 94, 3) := by decide +kernel
theorem dL_law_729 : decode cL_law 729 = .ok (.aload_n 2, 1) := by decide +kernel
theorem dL_law_730 : decode cL_law 730 = .ok (.aload_n 0, 1) := by decide +kernel
theorem dL_law_731 : decode cL_law 731 = .ok (.iload_n 3, 1) := by decide +kernel
theorem dL_law_732 : decode cL_law 732 = .ok (.iconst 1, 1) := by decide +kernel
theorem dL_law_733 : decode cL_law 733 = .ok (.iadd, 1) := by decide +kernel
theorem dL_law_734 : decode cL_law 734 = .ok (.iaload, 1) := by decide +kernel
theorem dL_law_735 : decode cL_law 735 = .ok (.aload_n 0, 1) := by decide +kernel
theorem dL_law_736 : decode cL_law 736 = .ok (.iload_n 3, 1) := by decide +kernel
theorem dL_law_737 : decode cL_law 737 = .ok (.iconst 2, 1) := by decide +kernel
theorem dL_law_738 : decode cL_law 738 = .ok (.iadd, 1) := by decide +kernel
theorem dL_law_739 : decode cL_law 739 = .ok (.iaload, 1) := by decide +kernel
theorem dL_law_740 : decode cL_law 740 = .ok (.invokevirtual 97, 3) := by decide +kernel
theorem dL_law_743 : decode cL_law 743 = .ok (.if_icmp .eq 431, 3) := by decide +kernel
theorem dL_law_746 : decode cL_law 746 = .ok (.iconst 0, 1) := by decide +kernel
theorem dL_law_747 : decode cL_law 747 = .ok (.ireturn, 1) := by decide +kernel
theorem dL_law_748 : decode cL_law 748 = .ok (.aload_n 1, 1) := by decide +kernel
theorem dL_law_749 : decode cL_law 749 = .ok (.aload_n 0, 1) := by decide +kernel
theorem dL_law_750 : decode cL_law 750 = .ok (.iload_n 3, 1) := by decide +kernel
theorem dL_law_751 : decode cL_law 751 = .ok (.iconst 1, 1) := by decide +kernel
theorem dL_law_752 : decode cL_law 752 = .ok (.iadd, 1) := by decide +kernel
theorem dL_law_753 : decode cL_law 753 = .ok (.iaload, 1) := by decide +kernel
theorem dL_law_754 : decode cL_law 754 = .ok (.aload_n 0, 1) := by decide +kernel
theorem dL_law_755 : decode cL_law 755 = .ok (.iload_n 3, 1) := by decide +kernel
theorem dL_law_756 : decode cL_law 756 = .ok (.iconst 2, 1) := by decide +kernel
theorem dL_law_757 : decode cL_law 757 = .ok (.iadd, 1) := by decide +kernel
theorem dL_law_758 : decode cL_law 758 = .ok (.iaload, 1) := by decide +kernel
theorem dL_law_759 : decode cL_law 759 = .ok (.invokevirtual 98, 3) := by decide +kernel
theorem dL_law_762 : decode cL_law 762 = .ok (.aload_n 2, 1) := by decide +kernel
theorem dL_law_763 : decode cL_law 763 = .ok (.aload_n 0, 1) := by decide +kernel
theorem dL_law_764 : decode cL_law 764 = .ok (.iload_n 3, 1) := by decide +kernel
theorem dL_law_765 : decode cL_law 765 = .ok (.iconst 1, 1) := by decide +kernel
theorem dL_law_766 : decode cL_law 766 = .ok (.iadd, 1) := by decide +kernel
theorem dL_law_767 : decode cL_law 767 = .ok (.iaload, 1) := by decide +kernel
theorem dL_law_768 : decode cL_law 768 = .ok (.aload_n 0, 1) := by decide +kernel
theorem dL_law_769 : decode cL_law 769 = .ok (.iload_n 3, 1) := by decide +kernel
theorem dL_law_770 : decode cL_law 770 = .ok (.iconst 2, 1) := by decide +kernel
theorem dL_law_771 : decode cL_law 771 = .ok (.iadd, 1) := by decide +kernel
theorem dL_law_772 : decode cL_law 772 = .ok (.iaload, 1) := by decide +kernel
theorem dL_law_773 : decode cL_law 773 = .ok (.invokevirtual 101, 3) := by decide +kernel
theorem dL_law_776 : decode cL_law 776 = .ok (.if_icmp .eq 398, 3) := by decide +kernel
theorem dL_law_779 : decode cL_law 779 = .ok (.iconst 0, 1) := by decide +kernel
theorem dL_law_780 : decode cL_law 780 = .ok (.ireturn, 1) := by decide +kernel
theorem dL_law_781 : decode cL_law 781 = .ok (.aload_n 1, 1) := by decide +kernel
theorem dL_law_782 : decode cL_law 782 = .ok (.invokevirtual 102, 3) := by decide +kernel
theorem dL_law_785 : decode cL_law 785 = .ok (.aload_n 2, 1) := by decide +kernel
theorem dL_law_786 : decode cL_law 786 = .ok (.invokevirtual 105, 3) := by decide +kernel
theorem dL_law_789 : decode cL_law 789 = .ok (.if_icmp .eq 385, 3) := by decide +kernel
theorem dL_law_792 : decode cL_law 792 = .ok (.iconst 0, 1) := by decide +kernel
theorem dL_law_793 : decode cL_law 793 = .ok (.ireturn, 1) := by decide +kernel
theorem dL_law_794 : decode cL_law 794 = .ok (.aload_n 1, 1) := by decide +kernel
theorem dL_law_795 : decode cL_law 795 = .ok (.aload_n 0, 1) := by decide +kernel
theorem dL_law_796 : decode cL_law 796 = .ok (.iload_n 3, 1) := by decide +kernel
theorem dL_law_797 : decode cL_law 797 = .ok (.iconst 1, 1) := by decide +kernel
theorem dL_law_798 : decode cL_law 798 = .ok (.iadd, 1) := by decide +kernel
theorem dL_law_799 : decode cL_law 799 = .ok (.iaload, 1) := by decide +kernel
theorem dL_law_800 : decode cL_law 800 = .ok (.aload_n 0, 1) := by decide +kernel
theorem dL_law_801 : decode cL_law 801 = .ok (.iload_n 3, 1) := by decide +kernel
theorem dL_law_802 : decode cL_law 802 = .ok (.iconst 2, 1) := by decide +kernel
theorem dL_law_803 : decode cL_law 803 = .ok (.iadd, 1) := by decide +kernel
theorem dL_law_804 : decode cL_law 804 = .ok (.iaload, 1) := by decide +kernel
theorem dL_law_805 : decode cL_law 805 = .ok (.aload_n 0, 1) := by decide +kernel
theorem dL_law_806 : decode cL_law 806 = .ok (.iload_n 3, 1) := by decide +kernel
theorem dL_law_807 : decode cL_law 807 = .ok (.iconst 3, 1) := by decide +kernel
theorem dL_law_808 : decode cL_law 808 = .ok (.iadd, 1) := by decide +kernel
theorem dL_law_809 : decode cL_law 809 = .ok (.iaload, 1) := by decide +kernel
theorem dL_law_810 : decode cL_law 810 = .ok (.invokevirtual 106, 3) := by decide +kernel
theorem dL_law_813 : decode cL_law 813 = .ok (.aload_n 2, 1) := by decide +kernel
theorem dL_law_814 : decode cL_law 814 = .ok (.aload_n 0, 1) := by decide +kernel
theorem dL_law_815 : decode cL_law 815 = .ok (.iload_n 3, 1) := by decide +kernel
theorem dL_law_816 : decode cL_law 816 = .ok (.iconst 1, 1) := by decide +kernel
theorem dL_law_817 : decode cL_law 817 = .ok (.iadd, 1) := by decide +kernel
theorem dL_law_818 : decode cL_law 818 = .ok (.iaload, 1) := by decide +kernel
theorem dL_law_819 : decode cL_law 819 = .ok (.aload_n 0, 1) := by decide +kernel
theorem dL_law_820 : decode cL_law 820 = .ok (.iload_n 3, 1) := by decide +kernel
theorem dL_law_821 : decode cL_law 821 = .ok (.iconst 2, 1) := by decide +kernel
theorem dL_law_822 : decode cL_law 822 = .ok (.iadd, 1) := by decide +kernel
theorem dL_law_823 : decode cL_law 823 = .ok (.iaload, 1) := by decide +kernel
theorem dL_law_824 : decode cL_law 824 = .ok (.aload_n 0, 1) := by decide +kernel
theorem dL_law_825 : decode cL_law 825 = .ok (.iload_n 3, 1) := by decide +kernel
theorem dL_law_826 : decode cL_law 826 = .ok (.iconst 3, 1) := by decide +kernel
theorem dL_law_827 : decode cL_law 827 = .ok (.iadd, 1) := by decide +kernel
theorem dL_law_828 : decode cL_law 828 = .ok (.iaload, 1) := by decide +kernel
theorem dL_law_829 : decode cL_law 829 = .ok (.invokevirtual 109, 3) := by decide +kernel
theorem dL_law_832 : decode cL_law 832 = .ok (.if_icmp .eq 342, 3) := by decide +kernel
theorem dL_law_835 : decode cL_law 835 = .ok (.iconst 0, 1) := by decide +kernel
theorem dL_law_836 : decode cL_law 836 = .ok (.ireturn, 1) := by decide +kernel
theorem dL_law_837 : decode cL_law 837 = .ok (.aload_n 1, 1) := by decide +kernel
theorem dL_law_838 : decode cL_law 838 = .ok (.aload_n 0, 1) := by decide +kernel
theorem dL_law_839 : decode cL_law 839 = .ok (.iload_n 3, 1) := by decide +kernel
theorem dL_law_840 : decode cL_law 840 = .ok (.iconst 1, 1) := by decide +kernel
theorem dL_law_841 : decode cL_law 841 = .ok (.iadd, 1) := by decide +kernel
theorem dL_law_842 : decode cL_law 842 = .ok (.iaload, 1) := by decide +kernel
theorem dL_law_843 : decode cL_law 843 = .ok (.aload_n 0, 1) := by decide +kernel
theorem dL_law_844 : decode cL_law 844 = .ok (.iload_n 3, 1) := by decide +kernel
theorem dL_law_845 : decode cL_law 845 = .ok (.iconst 2, 1) := by decide +kernel
theorem dL_law_846 : decode cL_law 846 = .ok (.iadd, 1) := by decide +kernel
theorem dL_law_847 : decode cL_law 847 = .ok (.iaload, 1) := by decide +kernel
theorem dL_law_848 : decode cL_law 848 = .ok (.invokevirtual 110, 3) := by decide +kernel
theorem dL_law_851 : decode cL_law 851 = .ok (.aload_n 2, 1) := by decide +kernel
theorem dL_law_852 : decode cL_law 852 = .ok (.aload_n 0, 1) := by decide +kernel
theorem dL_law_853 : decode cL_law 853 = .ok (.iload_n 3, 1) := by decide +kernel
theorem dL_law_854 : decode cL_law 854 = .ok (.iconst 1, 1) := by decide +kernel
theorem dL_law_855 : decode cL_law 855 = .ok (.iadd, 1) := by decide +kernel
theorem dL_law_856 : decode cL_law 856 = .ok (.iaload, 1) := by decide +kernel
theorem dL_law_857 : decode cL_law 857 = .ok (.aload_n 0, 1) := by decide +kernel
theorem dL_law_858 : decode cL_law 858 = .ok (.iload_n 3, 1) := by decide +kernel
theorem dL_law_859 : decode cL_law 859 = .ok (.iconst 2, 1) := by decide +kernel
theorem dL_law_860 : decode cL_law 860 = .ok (.iadd, 1) := by decide +kernel
theorem dL_law_861 : decode cL_law 861 = .ok (.iaload, 1) := by decide +kernel
theorem dL_law_862 : decode cL_law 862 = .ok (.invokevirtual 113, 3) := by decide +kernel
theorem dL_law_865 : decode cL_law 865 = .ok (.if_icmp .eq 309, 3) := by decide +kernel
theorem dL_law_868 : decode cL_law 868 = .ok (.iconst 0, 1) := by decide +kernel
theorem dL_law_869 : decode cL_law 869 = .ok (.ireturn, 1) := by decide +kernel
theorem dL_law_870 : decode cL_law 870 = .ok (.aload_n 1, 1) := by decide +kernel
theorem dL_law_871 : decode cL_law 871 = .ok (.invokevirtual 114, 3) := by decide +kernel
theorem dL_law_874 : decode cL_law 874 = .ok (.aload_n 2, 1) := by decide +kernel
theorem dL_law_875 : decode cL_law 875 = .ok (.invokevirtual 117, 3) := by decide +kernel
theorem dL_law_878 : decode cL_law 878 = .ok (.if_icmp .eq 296, 3) := by decide +kernel
theorem dL_law_881 : decode cL_law 881 = .ok (.iconst 0, 1) := by decide +kernel
theorem dL_law_882 : decode cL_law 882 = .ok (.ireturn, 1) := by decide +kernel
theorem dL_law_883 : decode cL_law 883 = .ok (.aload_n 1, 1) := by decide +kernel
theorem dL_law_884 : decode cL_law 884 = .ok (.aload_n 0, 1) := by decide +kernel
theorem dL_law_885 : decode cL_law 885 = .ok (.iload_n 3, 1) := by decide +kernel
theorem dL_law_886 : decode cL_law 886 = .ok (.iconst 1, 1) := by decide +kernel
theorem dL_law_887 : decode cL_law 887 = .ok (.iadd, 1) := by decide +kernel
theorem dL_law_888 : decode cL_law 888 = .ok (.iaload, 1) := by decide +kernel
theorem dL_law_889 : decode cL_law 889 = .ok (.aload_n 0, 1) := by decide +kernel
theorem dL_law_890 : decode cL_law 890 = .ok (.iload_n 3, 1) := by decide +kernel
theorem dL_law_891 : decode cL_law 891 = .ok (.iconst 2, 1) := by decide +kernel
theorem dL_law_892 : decode cL_law 892 = .ok (.iadd, 1) := by decide +kernel
theorem dL_law_893 : decode cL_law 893 = .ok (.iaload, 1) := by decide +kernel
theorem dL_law_894 : decode cL_law 894 = .ok (.aload_n 0, 1) := by decide +kernel
theorem dL_law_895 : decode cL_law 895 = .ok (.iload_n 3, 1) := by decide +kernel
theorem dL_law_896 : decode cL_law 896 = .ok (.iconst 3, 1) := by decide +kernel
theorem dL_law_897 : decode cL_law 897 = .ok (.iadd, 1) := by decide +kernel
theorem dL_law_898 : decode cL_law 898 = .ok (.iaload, 1) := by decide +kernel
theorem dL_law_899 : decode cL_law 899 = .ok (.aload_n 0, 1) := by decide +kernel
theorem dL_law_900 : decode cL_law 900 = .ok (.iload_n 3, 1) := by decide +kernel
theorem dL_law_901 : decode cL_law 901 = .ok (.iconst 4, 1) := by decide +kernel
theorem dL_law_902 : decode cL_law 902 = .ok (.iadd, 1) := by decide +kernel
theorem dL_law_903 : decode cL_law 903 = .ok (.iaload, 1) := by decide +kernel
theorem dL_law_904 : decode cL_law 904 = .ok (.invokevirtual 118, 3) := by decide +kernel
theorem dL_law_907 : decode cL_law 907 = .ok (.aload_n 2, 1) := by decide +kernel
theorem dL_law_908 : decode cL_law 908 = .ok (.aload_n 0, 1) := by decide +kernel
theorem dL_law_909 : decode cL_law 909 = .ok (.iload_n 3, 1) := by decide +kernel
theorem dL_law_910 : decode cL_law 910 = .ok (.iconst 1, 1) := by decide +kernel
theorem dL_law_911 : decode cL_law 911 = .ok (.iadd, 1) := by decide +kernel
theorem dL_law_912 : decode cL_law 912 = .ok (.iaload, 1) := by decide +kernel
theorem dL_law_913 : decode cL_law 913 = .ok (.aload_n 0, 1) := by decide +kernel
theorem dL_law_914 : decode cL_law 914 = .ok (.iload_n 3, 1) := by decide +kernel
theorem dL_law_915 : decode cL_law 915 = .ok (.iconst 2, 1) := by decide +kernel
theorem dL_law_916 : decode cL_law 916 = .ok (.iadd, 1) := by decide +kernel
theorem dL_law_917 : decode cL_law 917 = .ok (.iaload, 1) := by decide +kernel
theorem dL_law_918 : decode cL_law 918 = .ok (.aload_n 0, 1) := by decide +kernel
theorem dL_law_919 : decode cL_law 919 = .ok (.iload_n 3, 1) := by decide +kernel
theorem dL_law_920 : decode cL_law 920 = .ok (.iconst 3, 1) := by decide +kernel
theorem dL_law_921 : decode cL_law 921 = .ok (.iadd, 1) := by decide +kernel
theorem dL_law_922 : decode cL_law 922 = .ok (.iaload, 1) := by decide +kernel
theorem dL_law_923 : decode cL_law 923 = .ok (.aload_n 0, 1) := by decide +kernel
theorem dL_law_924 : decode cL_law 924 = .ok (.iload_n 3, 1) := by decide +kernel
theorem dL_law_925 : decode cL_law 925 = .ok (.iconst 4, 1) := by decide +kernel
theorem dL_law_926 : decode cL_law 926 = .ok (.iadd, 1) := by decide +kernel
theorem dL_law_927 : decode cL_law 927 = .ok (.iaload, 1) := by decide +kernel
theorem dL_law_928 : decode cL_law 928 = .ok (.invokevirtual 122, 3) := by decide +kernel
theorem dL_law_931 : decode cL_law 931 = .ok (.lcmp, 1) := by decide +kernel
theorem dL_law_932 : decode cL_law 932 = .ok (.ifCond .eq 242, 3) := by decide +kernel
theorem dL_law_935 : decode cL_law 935 = .ok (.iconst 0, 1) := by decide +kernel
theorem dL_law_936 : decode cL_law 936 = .ok (.ireturn, 1) := by decide +kernel
theorem dL_law_937 : decode cL_law 937 = .ok (.aload_n 1, 1) := by decide +kernel
theorem dL_law_938 : decode cL_law 938 = .ok (.aload_n 0, 1) := by decide +kernel
theorem dL_law_939 : decode cL_law 939 = .ok (.iload_n 3, 1) := by decide +kernel
theorem dL_law_940 : decode cL_law 940 = .ok (.iconst 1, 1) := by decide +kernel
theorem dL_law_941 : decode cL_law 941 = .ok (.iadd, 1) := by decide +kernel
theorem dL_law_942 : decode cL_law 942 = .ok (.iaload, 1) := by decide +kernel
theorem dL_law_943 : decode cL_law 943 = .ok (.aload_n 0, 1) := by decide +kernel
theorem dL_law_944 : decode cL_law 944 = .ok (.iload_n 3, 1) := by decide +kernel
theorem dL_law_945 : decode cL_law 945 = .ok (.iconst 2, 1) := by decide +kernel
theorem dL_law_946 : decode cL_law 946 = .ok (.iadd, 1) := by decide +kernel
theorem dL_law_947 : decode cL_law 947 = .ok (.iaload, 1) := by decide +kernel
theorem dL_law_948 : decode cL_law 948 = .ok (.aload_n 0, 1) := by decide +kernel
theorem dL_law_949 : decode cL_law 949 = .ok (.iload_n 3, 1) := by decide +kernel
theorem dL_law_950 : decode cL_law 950 = .ok (.iconst 3, 1) := by decide +kernel
theorem dL_law_951 : decode cL_law 951 = .ok (.iadd, 1) := by decide +kernel
theorem dL_law_952 : decode cL_law 952 = .ok (.iaload, 1) := by decide +kernel
theorem dL_law_953 : decode cL_law 953 = .ok (.invokevirtual 123, 3) := by decide +kernel
theorem dL_law_956 : decode cL_law 956 = .ok (.aload_n 2, 1) := by decide +kernel
theorem dL_law_957 : decode cL_law 957 = .ok (.aload_n 0, 1) := by decide +kernel
theorem dL_law_958 : decode cL_law 958 = .ok (.iload_n 3, 1) := by decide +kernel
theorem dL_law_959 : decode cL_law 959 = .ok (.iconst 1, 1) := by decide +kernel
theorem dL_law_960 : decode cL_law 960 = .ok (.iadd, 1) := by decide +kernel
theorem dL_law_961 : decode cL_law 961 = .ok (.iaload, 1) := by decide +kernel
theorem dL_law_962 : decode cL_law 962 = .ok (.aload_n 0, 1) := by decide +kernel
theorem dL_law_963 : decode cL_law 963 = .ok (.iload_n 3, 1) := by decide +kernel
theorem dL_law_964 : decode cL_law 964 = .ok (.iconst 2, 1) := by decide +kernel
theorem dL_law_965 : decode cL_law 965 = .ok (.iadd, 1) := by decide +kernel
theorem dL_law_966 : decode cL_law 966 = .ok (.iaload, 1) := by decide +kernel
theorem dL_law_967 : decode cL_law 967 = .ok (.aload_n 0, 1) := by decide +kernel
theorem dL_law_968 : decode cL_law 968 = .ok (.iload_n 3, 1) := by decide +kernel
theorem dL_law_969 : decode cL_law 969 = .ok (.iconst 3, 1) := by decide +kernel
theorem dL_law_970 : decode cL_law 970 = .ok (.iadd, 1) := by decide +kernel
theorem dL_law_971 : decode cL_law 971 = .ok (.iaload, 1) := by decide +kernel
theorem dL_law_972 : decode cL_law 972 = .ok (.invokevirtual 126, 3) := by decide +kernel
theorem dL_law_975 : decode cL_law 975 = .ok (.if_icmp .eq 199, 3) := by decide +kernel
theorem dL_law_978 : decode cL_law 978 = .ok (.iconst 0, 1) := by decide +kernel
theorem dL_law_979 : decode cL_law 979 = .ok (.ireturn, 1) := by decide +kernel
theorem dL_law_980 : decode cL_law 980 = .ok (.aload_n 1, 1) := by decide +kernel
theorem dL_law_981 : decode cL_law 981 = .ok (.aload_n 0, 1) := by decide +kernel
theorem dL_law_982 : decode cL_law 982 = .ok (.iload_n 3, 1) := by decide +kernel
theorem dL_law_983 : decode cL_law 983 = .ok (.iconst 1, 1) := by decide +kernel
theorem dL_law_984 : decode cL_law 984 = .ok (.iadd, 1) := by decide +kernel
theorem dL_law_985 : decode cL_law 985 = .ok (.iaload, 1) := by decide +kernel
theorem dL_law_986 : decode cL_law 986 = .ok (.invokevirtual 127, 3) := by decide +kernel
theorem dL_law_989 : decode cL_law 989 = .ok (.aload_n 2, 1) := by decide +kernel
theorem dL_law_990 : decode cL_law 990 = .ok (.aload_n 0, 1) := by decide +kernel
theorem dL_law_991 : decode cL_law 991 = .ok (.iload_n 3, 1) := by decide +kernel
theorem dL_law_992 : decode cL_law 992 = .ok (.iconst 1, 1) := by decide +kernel
theorem dL_law_993 : decode cL_law 993 = .ok (.iadd, 1) := by decide +kernel
theorem dL_law_994 : decode cL_law 994 = .ok (.iaload, 1) := by decide +kernel
theorem dL_law_995 : decode cL_law 995 = .ok (.invokevirtual 130, 3) := by decide +kernel
theorem dL_law_998 : decode cL_law 998 = .ok (.if_icmp .eq 176, 3) := by decide +kernel
theorem dL_law_1001 : decode cL_law 1001 = .ok (.iconst 0, 1) := by decide +kernel
theorem dL_law_1002 : decode cL_law 1002 = .ok (.ireturn, 1) := by decide +kernel
theorem dL_law_1003 : decode cL_law 1003 = .ok (.aload_n 1, 1) := by decide +kernel
theorem dL_law_1004 : decode cL_law 1004 = .ok (.aload_n 0, 1) := by decide +kernel
theorem dL_law_1005 : decode cL_law 1005 = .ok (.iload_n 3, 1) := by decide +kernel
theorem dL_law_1006 : decode cL_law 1006 = .ok (.iconst 1, 1) := by decide +kernel
theorem dL_law_1007 : decode cL_law 1007 = .ok (.iadd, 1) := by decide +kernel
theorem dL_law_1008 : decode cL_law 1008 = .ok (.iaload, 1) := by decide +kernel
theorem dL_law_1009 : decode cL_law 1009 = .ok (.invokevirtual 131, 3) := by decide +kernel
theorem dL_law_1012 : decode cL_law 1012 = .ok (.aload_n 2, 1) := by decide +kernel
theorem dL_law_1013 : decode cL_law 1013 = .ok (.aload_n 0, 1) := by decide +kernel
theorem dL_law_1014 : decode cL_law 1014 = .ok (.iload_n 3, 1) := by decide +kernel
theorem dL_law_1015 : decode cL_law 1015 = .ok (.iconst 1, 1) := by decide +kernel
theorem dL_law_1016 : decode cL_law 1016 = .ok (.iadd, 1) := by decide +kernel
theorem dL_law_1017 : decode cL_law 1017 = .ok (.iaload, 1) := by decide +kernel
theorem dL_law_1018 : decode cL_law 1018 = .ok (.invokevirtual 134, 3) := by decide +kernel
theorem dL_law_1021 : decode cL_law 1021 = .ok (.if_icmp .eq 153, 3) := by decide +kernel
theorem dL_law_1024 : decode cL_law 1024 = .ok (.iconst 0, 1) := by decide +kernel
theorem dL_law_1025 : decode cL_law 1025 = .ok (.ireturn, 1) := by decide +kernel
theorem dL_law_1026 : decode cL_law 1026 = .ok (.aload_n 1, 1) := by decide +kernel
theorem dL_law_1027 : decode cL_law 1027 = .ok (.aload_n 0, 1) := by decide +kernel
theorem dL_law_1028 : decode cL_law 1028 = .ok (.iload_n 3, 1) := by decide +kernel
theorem dL_law_1029 : decode cL_law 1029 = .ok (.iconst 1, 1) := by decide +kernel
theorem dL_law_1030 : decode cL_law 1030 = .ok (.iadd, 1) := by decide +kernel
theorem dL_law_1031 : decode cL_law 1031 = .ok (.iaload, 1) := by decide +kernel
theorem dL_law_1032 : decode cL_law 1032 = .ok (.invokevirtual 135, 3) := by decide +kernel
theorem dL_law_1035 : decode cL_law 1035 = .ok (.aload_n 2, 1) := by decide +kernel
theorem dL_law_1036 : decode cL_law 1036 = .ok (.aload_n 0, 1) := by decide +kernel
theorem dL_law_1037 : decode cL_law 1037 = .ok (.iload_n 3, 1) := by decide +kernel
theorem dL_law_1038 : decode cL_law 1038 = .ok (.iconst 1, 1) := by decide +kernel
theorem dL_law_1039 : decode cL_law 1039 = .ok (.iadd, 1) := by decide +kernel
theorem dL_law_1040 : decode cL_law 1040 = .ok (.iaload, 1) := by decide +kernel
theorem dL_law_1041 : decode cL_law 1041 = .ok (.invokevirtual 138, 3) := by decide +kernel
theorem dL_law_1044 : decode cL_law 1044 = .ok (.if_icmp .eq 130, 3) := by decide +kernel
theorem dL_law_1047 : decode cL_law 1047 = .ok (.iconst 0, 1) := by decide +kernel
theorem dL_law_1048 : decode cL_law 1048 = .ok (.ireturn, 1) := by decide +kernel
theorem dL_law_1049 : decode cL_law 1049 = .ok (.aload_n 1, 1) := by decide +kernel
theorem dL_law_1050 : decode cL_law 1050 = .ok (.aload_n 0, 1) := by decide +kernel
theorem dL_law_1051 : decode cL_law 1051 = .ok (.iload_n 3, 1) := by decide +kernel
theorem dL_law_1052 : decode cL_law 1052 = .ok (.iconst 1, 1) := by decide +kernel
theorem dL_law_1053 : decode cL_law 1053 = .ok (.iadd, 1) := by decide +kernel
theorem dL_law_1054 : decode cL_law 1054 = .ok (.iaload, 1) := by decide +kernel
theorem dL_law_1055 : decode cL_law 1055 = .ok (.aload_n 0, 1) := by decide +kernel
theorem dL_law_1056 : decode cL_law 1056 = .ok (.iload_n 3, 1) := by decide +kernel
theorem dL_law_1057 : decode cL_law 1057 = .ok (.iconst 2, 1) := by decide +kernel
theorem dL_law_1058 : decode cL_law 1058 = .ok (.iadd, 1) := by decide +kernel
theorem dL_law_1059 : decode cL_law 1059 = .ok (.iaload, 1) := by decide +kernel
theorem dL_law_1060 : decode cL_law 1060 = .ok (.invokevirtual 139, 3) := by decide +kernel
theorem dL_law_1063 : decode cL_law 1063 = .ok (.aload_n 2, 1) := by decide +kernel
theorem dL_law_1064 : decode cL_law 1064 = .ok (.aload_n 0, 1) := by decide +kernel
theorem dL_law_1065 : decode cL_law 1065 = .ok (.iload_n 3, 1) := by decide +kernel
theorem dL_law_1066 : decode cL_law 1066 = .ok (.iconst 1, 1) := by decide +kernel
theorem dL_law_1067 : decode cL_law 1067 = .ok (.iadd, 1) := by decide +kernel
theorem dL_law_1068 : decode cL_law 1068 = .ok (.iaload, 1) := by decide +kernel
theorem dL_law_1069 : decode cL_law 1069 = .ok (.aload_n 0, 1) := by decide +kernel
theorem dL_law_1070 : decode cL_law 1070 = .ok (.iload_n 3, 1) := by decide +kernel
theorem dL_law_1071 : decode cL_law 1071 = .ok (.iconst 2, 1) := by decide +kernel
theorem dL_law_1072 : decode cL_law 1072 = .ok (.iadd, 1) := by decide +kernel
theorem dL_law_1073 : decode cL_law 1073 = .ok (.iaload, 1) := by decide +kernel
theorem dL_law_1074 : decode cL_law 1074 = .ok (.invokevirtual 142, 3) := by decide +kernel
theorem dL_law_1077 : decode cL_law 1077 = .ok (.if_icmp .eq 97, 3) := by decide +kernel
theorem dL_law_1080 : decode cL_law 1080 = .ok (.iconst 0, 1) := by decide +kernel
theorem dL_law_1081 : decode cL_law 1081 = .ok (.ireturn, 1) := by decide +kernel
theorem dL_law_1082 : decode cL_law 1082 = .ok (.aload_n 1, 1) := by decide +kernel
theorem dL_law_1083 : decode cL_law 1083 = .ok (.aload_n 0, 1) := by decide +kernel
theorem dL_law_1084 : decode cL_law 1084 = .ok (.iload_n 3, 1) := by decide +kernel
theorem dL_law_1085 : decode cL_law 1085 = .ok (.iconst 1, 1) := by decide +kernel
theorem dL_law_1086 : decode cL_law 1086 = .ok (.iadd, 1) := by decide +kernel
theorem dL_law_1087 : decode cL_law 1087 = .ok (.iaload, 1) := by decide +kernel
theorem dL_law_1088 : decode cL_law 1088 = .ok (.aload_n 0, 1) := by decide +kernel
theorem dL_law_1089 : decode cL_law 1089 = .ok (.iload_n 3, 1) := by decide +kernel
theorem dL_law_1090 : decode cL_law 1090 = .ok (.iconst 2, 1) := by decide +kernel
theorem dL_law_1091 : decode cL_law 1091 = .ok (.iadd, 1) := by decide +kernel
theorem dL_law_1092 : decode cL_law 1092 = .ok (.iaload, 1) := by decide +kernel
theorem dL_law_1093 : decode cL_law 1093 = .ok (.invokevirtual 143, 3) := by decide +kernel
theorem dL_law_1096 : decode cL_law 1096 = .ok (.aload_n 2, 1) := by decide +kernel
theorem dL_law_1097 : decode cL_law 1097 = .ok (.aload_n 0, 1) := by decide +kernel
theorem dL_law_1098 : decode cL_law 1098 = .ok (.iload_n 3, 1) := by decide +kernel
theorem dL_law_1099 : decode cL_law 1099 = .ok (.iconst 1, 1) := by decide +kernel
theorem dL_law_1100 : decode cL_law 1100 = .ok (.iadd, 1) := by decide +kernel
theorem dL_law_1101 : decode cL_law 1101 = .ok (.iaload, 1) := by decide +kernel
theorem dL_law_1102 : decode cL_law 1102 = .ok (.aload_n 0, 1) := by decide +kernel
theorem dL_law_1103 : decode cL_law 1103 = .ok (.iload_n 3, 1) := by decide +kernel
theorem dL_law_1104 : decode cL_law 1104 = .ok (.iconst 2, 1) := by decide +kernel
theorem dL_law_1105 : decode cL_law 1105 = .ok (.iadd, 1) := by decide +kernel
theorem dL_law_1106 : decode cL_law 1106 = .ok (.iaload, 1) := by decide +kernel
theorem dL_law_1107 : decode cL_law 1107 = .ok (.invokevirtual 146, 3) := by decide +kernel
theorem dL_law_1110 : decode cL_law 1110 = .ok (.if_icmp .eq 64, 3) := by decide +kernel
theorem dL_law_1113 : decode cL_law 1113 = .ok (.iconst 0, 1) := by decide +kernel
theorem dL_law_1114 : decode cL_law 1114 = .ok (.ireturn, 1) := by decide +kernel
theorem dL_law_1115 : decode cL_law 1115 = .ok (.aload_n 1, 1) := by decide +kernel
theorem dL_law_1116 : decode cL_law 1116 = .ok (.aload_n 0, 1) := by decide +kernel
theorem dL_law_1117 : decode cL_law 1117 = .ok (.iload_n 3, 1) := by decide +kernel
theorem dL_law_1118 : decode cL_law 1118 = .ok (.iconst 1, 1) := by decide +kernel
theorem dL_law_1119 : decode cL_law 1119 = .ok (.iadd, 1) := by decide +kernel
theorem dL_law_1120 : decode cL_law 1120 = .ok (.iaload, 1) := by decide +kernel
theorem dL_law_1121 : decode cL_law 1121 = .ok (.invokevirtual 147, 3) := by decide +kernel
theorem dL_law_1124 : decode cL_law 1124 = .ok (.aload_n 2, 1) := by decide +kernel
theorem dL_law_1125 : decode cL_law 1125 = .ok (.aload_n 0, 1) := by decide +kernel
theorem dL_law_1126 : decode cL_law 1126 = .ok (.iload_n 3, 1) := by decide +kernel
theorem dL_law_1127 : decode cL_law 1127 = .ok (.iconst 1, 1) := by decide +kernel
theorem dL_law_1128 : decode cL_law 1128 = .ok (.iadd, 1) := by decide +kernel
theorem dL_law_1129 : decode cL_law 1129 = .ok (.iaload, 1) := by decide +kernel
theorem dL_law_1130 : decode cL_law 1130 = .ok (.invokevirtual 150, 3) := by decide +kernel
theorem dL_law_1133 : decode cL_law 1133 = .ok (.if_icmp .eq 41, 3) := by decide +kernel
theorem dL_law_1136 : decode cL_law 1136 = .ok (.iconst 0, 1) := by decide +kernel
theorem dL_law_1137 : decode cL_law 1137 = .ok (.ireturn, 1) := by decide +kernel
theorem dL_law_1138 : decode cL_law 1138 = .ok (.aload_n 1, 1) := by decide +kernel
theorem dL_law_1139 : decode cL_law 1139 = .ok (.aload_n 0, 1) := by decide +kernel
theorem dL_law_1140 : decode cL_law 1140 = .ok (.iload_n 3, 1) := by decide +kernel
theorem dL_law_1141 : decode cL_law 1141 = .ok (.iconst 1, 1) := by decide +kernel
theorem dL_law_1142 : decode cL_law 1142 = .ok (.iadd, 1) := by decide +kernel
theorem dL_law_1143 : decode cL_law 1143 = .ok (.iaload, 1) := by decide +kernel
theorem dL_law_1144 : decode cL_law 1144 = .ok (.invokevirtual 151, 3) := by decide +kernel
theorem dL_law_1147 : decode cL_law 1147 = .ok (.aload_n 2, 1) := by decide +kernel
theorem dL_law_1148 : decode cL_law 1148 = .ok (.aload_n 0, 1) := by decide +kernel
theorem dL_law_1149 : decode cL_law 1149 = .ok (.iload_n 3, 1) := by decide +kernel
theorem dL_law_1150 : decode cL_law 1150 = .ok (.iconst 1, 1) := by decide +kernel
theorem dL_law_1151 : decode cL_law 1151 = .ok (.iadd, 1) := by decide +kernel
theorem dL_law_1152 : decode cL_law 1152 = .ok (.iaload, 1) := by decide +kernel
theorem dL_law_1153 : decode cL_law 1153 = .ok (.invokevirtual 154, 3) := by decide +kernel
theorem dL_law_1156 : decode cL_law 1156 = .ok (.if_icmp .eq 18, 3) := by decide +kernel
theorem dL_law_1159 : decode cL_law 1159 = .ok (.iconst 0, 1) := by decide +kernel
theorem dL_law_1160 : decode cL_law 1160 = .ok (.ireturn, 1) := by decide +kernel
theorem dL_law_1161 : decode cL_law 1161 = .ok (.aload_n 1, 1) := by decide +kernel
theorem dL_law_1162 : decode cL_law 1162 = .ok (.invokevirtual 155, 3) := by decide +kernel
theorem dL_law_1165 : decode cL_law 1165 = .ok (.aload_n 2, 1) := by decide +kernel
theorem dL_law_1166 : decode cL_law 1166 = .ok (.invokevirtual 158, 3) := by decide +kernel
theorem dL_law_1169 : decode cL_law 1169 = .ok (.if_icmp .eq 5, 3) := by decide +kernel
theorem dL_law_1172 : decode cL_law 1172 = .ok (.iconst 0, 1) := by decide +kernel
theorem dL_law_1173 : decode cL_law 1173 = .ok (.ireturn, 1) := by decide +kernel
theorem dL_law_1174 : decode cL_law 1174 = .ok (.iinc 3 6, 3) := by decide +kernel
theorem dL_law_1177 : decode cL_law 1177 = .ok (.goto (-1159), 3) := by decide +kernel
theorem dL_law_1180 : decode cL_law 1180 = .ok (.iconst 1, 1) := by decide +kernel
theorem dL_law_1181 : decode cL_law 1181 = .ok (.ireturn, 1) := by decide +kernel
end
section
/-! THE CALCULUS: an abstract machine over whole numbers. Addresses, ints and longs are Int; the heap is a function from names to cells; a judgement G, one rule an instruction; contracts CT. -/
abbrev gX : Type := va_G × (Nat → ClassId) × Nat × Nat × Nat
/-- abstract values: an int, a long, a reference by its name (or null) -/
abbrev gV : Type := Int ⊕ (Int ⊕ Option Int)
abbrev vi (x : Int) : gV := .inl x
abbrev vl (x : Int) : gV := .inr (.inl x)
abbrev vr (a : Int) : gV := .inr (.inr (some a))
abbrev vn : gV := .inr (.inr none)
/-- a cell: an array of ints (or booleans), an array of references, an object -/
abbrev gE : Type := (Nat × Int × (Int → Int)) ⊕ ((Nat × Int × (Int → Option Int)) ⊕ (Nat × List gV))
abbrev gA (t : Nat) (n : Int) (f : Int → Int) : gE := .inl (t, n, f)
abbrev gR (t : Nat) (n : Int) (f : Int → Option Int) : gE := .inr (.inl (t, n, f))
abbrev gO (c : Nat) (fs : List gV) : gE := .inr (.inr (c, fs))
abbrev gM : Type := Int → Option gE
def gu (M : gM) (a : Int) (e : gE) : gM := fun b => if b = a then some e else M b
def up (f : Int → Int) (k x : Int) : Int → Int := fun j => if j = k then x else f j
def upq (f : Int → Option Int) (k : Int) (x : Option Int) : Int → Option Int := fun j => if j = k then x else f j
theorem gu_same (M : gM) (a : Int) (e : gE) : gu M a e a = some e := if_pos rfl
theorem gu_ne (M : gM) {a b : Int} (e : gE) (h : ¬ b = a) : gu M a e b = M b := if_neg h
theorem up_same (f : Int → Int) (k x : Int) : up f k x k = x := if_pos rfl
theorem up_ne (f : Int → Int) {k j : Int} (x : Int) (h : ¬ j = k) : up f k x j = f j := if_neg h
/-- a name's address: -1 is ArrayList's empty array, -2 is WORDS -/
def gr (X : gX) (a : Int) : Nat := if a = -1 then X.2.2.2.1 else if a = -2 then X.2.2.2.2 else X.2.2.1 + a.toNat
def gv (X : gX) : gV → Value
  | .inl x => .int (Int32.ofInt x)
  | .inr (.inl x) => .long (Int64.ofInt x)
  | .inr (.inr (some a)) => .ref (gr X a)
  | .inr (.inr none) => .null
def ge (X : gX) : gE → va_E
  | .inl (t, n, f) => .inl (X.2.1 t, n.toNat, .inl (fun k => Int32.ofInt (f k)))
  | .inr (.inl (t, n, f)) => .inl (X.2.1 t, n.toNat, .inr (.inr (.inr (.inr (fun k => (f k).map (gr X))))))
  | .inr (.inr (c, fs)) => .inr (c, fs.map (gv X))
def gP (X : gX) (M : gM) (n : Int) (H : Heap) : Prop := 0 ≤ n ∧ H.size = X.2.2.1 + n.toNat ∧ ∀ (a : Int) (e : gE), M a = some e → 0 ≤ a ∧ a < n ∧ va_at X.1 vwCl (gr X a, ge X e) H
def gB (X : gX) : Nat → Prop := fun q => X.2.2.1 ≤ q
theorem gr_nn (X : gX) {a : Int} (h : 0 ≤ a) : gr X a = X.2.2.1 + a.toNat := by
  unfold gr
  rw [if_neg (by omega), if_neg (by omega)]
theorem gr_inj (X : gX) {a b : Int} (ha : 0 ≤ a) (hb : 0 ≤ b) (h : gr X a = gr X b) : a = b := by
  rw [gr_nn X ha, gr_nn X hb] at h
  omega
theorem gP_put {X : gX} {M : gM} {n : Int} {H H1 : Heap} {a : Int} {e : gE} (hP : gP X M n H) (h0 : 0 ≤ a) (h1 : a < n) (z : H1.size = H.size) (oq : ∀ q : Nat, q ≠ gr X a → H1[q]? = H[q]?) (he : va_at X.1 vwCl (gr X a, ge X e) H1) : gP X (gu M a e) n H1 := by
  obtain ⟨hn, hs, hc⟩ := hP
  refine ⟨hn, by rw [z]; exact hs, fun b e' hb => ?_⟩
  by_cases hba : b = a
  · subst hba
    rw [gu_same] at hb
    cases hb
    exact ⟨h0, h1, he⟩
  · rw [gu_ne M e hba] at hb
    obtain ⟨g0, g1, g2⟩ := hc b e' hb
    exact ⟨g0, g1, g2.kept (oq _ fun q => hba (gr_inj X g0 h0 q))⟩
theorem gP_new {X : gX} {M : gM} {n : Int} {H H1 : Heap} {e : gE} (hP : gP X M n H) (z : H1.size = H.size + 1) (o1 : ∀ q : Nat, q < H.size → H1[q]? = H[q]?) (he : va_at X.1 vwCl (H.size, ge X e) H1) : gP X (gu M n e) (n + 1) H1 := by
  obtain ⟨hn, hs, hc⟩ := hP
  refine ⟨by omega, by rw [z, hs]; omega, fun b e' hb => ?_⟩
  by_cases hba : b = n
  · subst hba
    rw [gu_same] at hb
    cases hb
    refine ⟨hn, by omega, ?_⟩
    rw [gr_nn X hn, ← hs]
    exact he
  · rw [gu_ne M e hba] at hb
    obtain ⟨g0, g1, g2⟩ := hc b e' hb
    exact ⟨g0, by omega, g2.kept (o1 _ g2.lt)⟩
theorem gP_at {X : gX} {M : gM} {n : Int} {H : Heap} {a : Int} {e : gE} (hP : gP X M n H) (h : M a = some e) : va_P X.1 vwCl [(gr X a, ge X e)] H := by
  intro k q hk
  have hz : k < 1 := (List.getElem?_eq_some_iff.mp hk).1
  rw [show k = 0 by omega] at hk
  cases hk
  exact (hP.2.2 a e h).2.2
-- the locals
def gls (X : gX) : Nat → List (Option gV) → List (Nat × Value)
  | _, [] => []
  | i, none :: t => gls X (i + 1) t
  | i, some v :: t => (i, gv X v) :: gls X (i + 1) t
def gL (X : gX) (ls : Array Slot) (L : List (Option gV)) : Prop := lv_has ls L.length (gls X 0 L)
theorem gls_get (X : gX) : ∀ (L : List (Option gV)) (i k : Nat) (v : gV), L[k]? = some (some v) → (i + k, gv X v) ∈ gls X i L
  | [], i, k, v, h => by simp at h
  | none :: t, i, k, v, h => by
    cases k with
    | zero => simp at h
    | succ k =>
      have := gls_get X t (i + 1) k v (by simpa using h)
      rw [show i + (k + 1) = i + 1 + k by omega]
      exact this
  | some w :: t, i, k, v, h => by
    cases k with
    | zero => simp at h; subst h; exact List.mem_cons_self
    | succ k =>
      have := gls_get X t (i + 1) k v (by simpa using h)
      rw [show i + (k + 1) = i + 1 + k by omega]
      exact List.mem_cons_of_mem _ this
theorem gls_of (X : gX) : ∀ (L : List (Option gV)) (i : Nat) (q : Nat × Value), q ∈ gls X i L → ∃ k v, L[k]? = some (some v) ∧ q = (i + k, gv X v)
  | [], i, q, h => by cases h
  | none :: t, i, q, h => by
    obtain ⟨k, v, h1, h2⟩ := gls_of X t (i + 1) q h
    exact ⟨k + 1, v, by simpa using h1, by rw [h2]; congr 1; omega⟩
  | some w :: t, i, q, h => by
    rcases List.mem_cons.mp h with h | h
    · exact ⟨0, w, rfl, h⟩
    · obtain ⟨k, v, h1, h2⟩ := gls_of X t (i + 1) q h
      exact ⟨k + 1, v, by simpa using h1, by rw [h2]; congr 1; omega⟩
theorem gL_get {X : gX} {ls : Array Slot} {L : List (Option gV)} (h : gL X ls L) {k : Nat} {v : gV} (hk : L[k]? = some (some v)) : ls[k]? = some (.val (gv X v)) := by
  have := h.2.2 _ (gls_get X L 0 k v hk)
  rwa [Nat.zero_add] at this
/-- fewer, or the same, in a list of the same length -/
theorem gL_sub {X : gX} {ls : Array Slot} {L : List (Option gV)} {lv : List (Nat × Value)} {nL : Nat} (h : lv_has ls nL lv) (hl : L.length = nL) (hs : ∀ k v, L[k]? = some (some v) → (k, gv X v) ∈ lv) : gL X ls L := by
  refine ⟨by rw [h.1, hl], h.2.1, fun q hq => ?_⟩
  obtain ⟨k, v, h1, h2⟩ := gls_of X L 0 q hq
  rw [h2, Nat.zero_add]
  exact h.2.2 _ (hs k v h1)
def gcat2 : Option gV → Bool
  | some (.inr (.inl _)) => true
  | _ => false
theorem gv_cat (X : gX) (v : gV) : ((gv X v).category == 2) = gcat2 (some v) := by
  rcases v with x | x | x
  · rfl
  · rfl
  · cases x <;> rfl
theorem gL_set {X : gX} {ls : Array Slot} {L : List (Option gV)} {i : Nat} {v : gV} (hp : ∀ j w, j + 1 = i → L[j]? = some w → gcat2 w = false) (hi : i < L.length)
    (h : lv_has ls L.length ((i, gv X v) :: (gls X 0 L).filter (fun q => !(q.1 == i) && !(q.1 + 1 == i && q.2.category == 2)))) : gL X ls (L.set i (some v)) := by
  refine gL_sub h (by simp) fun k w hk => ?_
  by_cases hki : i = k
  · subst hki
    rw [List.getElem?_set_self hi] at hk
    cases hk
    exact List.mem_cons_self
  · rw [List.getElem?_set_ne hki] at hk
    refine List.mem_cons_of_mem _ (List.mem_filter.mpr ⟨by have := gls_get X L 0 k w hk; rwa [Nat.zero_add] at this, ?_⟩)
    have h1 : (k == i) = false := by simp; omega
    show (!(k == i) && !(k + 1 == i && (gv X w).category == 2)) = true
    rw [h1, gv_cat]
    by_cases h2 : k + 1 = i
    · rw [hp k _ h2 hk]
      simp
    · simp [h2]
theorem gL_set2 {X : gX} {ls : Array Slot} {L : List (Option gV)} {i : Nat} {v : gV} (hp : ∀ j w, j + 1 = i → L[j]? = some w → gcat2 w = false) (hi : i + 1 < L.length)
    (h : lv_has ls L.length ((i, gv X v) :: (gls X 0 L).filter (fun q => !(q.1 == i) && (!(q.1 == i + 1) && !(q.1 + 1 == i && q.2.category == 2))))) : gL X ls ((L.set i (some v)).set (i + 1) none) := by
  refine gL_sub h (by simp) fun k w hk => ?_
  by_cases hk2 : i + 1 = k
  · subst hk2
    rw [List.getElem?_set_self (by simpa using hi)] at hk
    cases hk
  rw [List.getElem?_set_ne hk2] at hk
  by_cases hki : i = k
  · subst hki
    rw [List.getElem?_set_self (by omega)] at hk
    cases hk
    exact List.mem_cons_self
  · rw [List.getElem?_set_ne hki] at hk
    refine List.mem_cons_of_mem _ (List.mem_filter.mpr ⟨by have := gls_get X L 0 k w hk; rwa [Nat.zero_add] at this, ?_⟩)
    have h1 : (k == i) = false := by simp; omega
    have h3 : (k == i + 1) = false := by simp; omega
    show (!(k == i) && (!(k == i + 1) && !(k + 1 == i && (gv X w).category == 2))) = true
    rw [h1, h3, gv_cat]
    by_cases h2 : k + 1 = i
    · rw [hp k _ h2 hk]
      simp
    · simp [h2]
/-- the first locals: the arguments, a long with the place behind it -/
def gl0 : List gV → Nat → List (Option gV)
  | [], n => List.replicate n none
  | .inr (.inl x) :: t, n + 2 => some (vl x) :: none :: gl0 t n
  | .inr (.inl x) :: _, 1 => [some (vl x)]
  | .inr (.inl _) :: _, 0 => []
  | v :: t, n + 1 => some v :: gl0 t n
  | _ :: _, 0 => []
theorem gl0_len : ∀ (vs : List gV) (n : Nat), (gl0 vs n).length = n
  | [], n => by simp [gl0]
  | .inl x :: t, n + 1 => by simp [gl0, gl0_len t n]
  | .inl x :: t, 0 => by simp [gl0]
  | .inr (.inl x) :: t, n + 2 => by simp [gl0, gl0_len t n]
  | .inr (.inl x) :: t, 1 => by simp [gl0]
  | .inr (.inl x) :: t, 0 => by simp [gl0]
  | .inr (.inr x) :: t, n + 1 => by simp [gl0, gl0_len t n]
  | .inr (.inr x) :: t, 0 => by simp [gl0]
theorem gl0_args (X : gX) : ∀ (vs : List gV) (n i k : Nat) (v : gV), (gl0 vs n)[k]? = some (some v) → (i + k, gv X v) ∈ lv_args i (vs.map (gv X))
  | [], n, i, k, v, h => by
    rw [gl0, List.getElem?_replicate] at h
    split at h <;> cases h
  | .inl x :: t, 0, i, k, v, h => by simp [gl0] at h
  | .inr (.inr x) :: t, 0, i, k, v, h => by simp [gl0] at h
  | .inr (.inl x) :: t, 0, i, k, v, h => by simp [gl0] at h
  | .inl x :: t, n + 1, i, k, v, h => by
    cases k with
    | zero => simp [gl0] at h; subst h; exact List.mem_cons_self
    | succ k =>
      have := gl0_args X t n (i + 1) k v (by simpa [gl0] using h)
      rw [show i + (k + 1) = i + 1 + k by omega]
      exact List.mem_cons_of_mem _ this
  | .inr (.inr x) :: t, n + 1, i, k, v, h => by
    cases k with
    | zero => simp [gl0] at h; subst h; exact List.mem_cons_self
    | succ k =>
      have := gl0_args X t n (i + 1) k v (by simpa [gl0] using h)
      rw [show i + (k + 1) = i + 1 + k by omega]
      cases x <;> exact List.mem_cons_of_mem _ this
  | .inr (.inl x) :: t, 1, i, k, v, h => by
    cases k with
    | zero => simp [gl0] at h; subst h; exact List.mem_cons_self
    | succ k => simp [gl0] at h
  | .inr (.inl x) :: t, n + 2, i, k, v, h => by
    cases k with
    | zero => simp [gl0] at h; subst h; exact List.mem_cons_self
    | succ k =>
      cases k with
      | zero => simp [gl0] at h
      | succ k =>
        have := gl0_args X t n (i + 2) k v (by simpa [gl0] using h)
        rw [show i + (k + 1 + 1) = i + 2 + k by omega]
        exact List.mem_cons_of_mem _ this
end
section
/-! THE JUDGEMENT: G, its context, contracts CT -/
def TB : List Cond := lw_tbl.filter goodWord
theorem TB_good : GoodIn TB TB := fun w h => ⟨h, good_of_word (List.mem_filter.mp h).2⟩
theorem TB_of {w : Cond} (h : w ∈ lw_tbl) (g : goodWord w = true) : w ∈ TB := List.mem_filter.mpr ⟨h, g⟩
theorem TB_cons {w : Cond} (h : w ∈ TB) : GoodIn TB (w :: TB) := fun x hx => (List.mem_cons.mp hx).elim (fun e => by rw [e]; exact TB_good w h) (TB_good x)
/-- words that are carried from state to state -/
def gisN : Cond → Bool
  | .castable _ _ => true
  | .declares _ => true
  | .methodLinkNest _ _ _ _ => true
  | .fieldLinkNest _ _ _ _ _ _ => true
  | _ => false
def NB : List Cond := lw_tbl.filter gisN
theorem NB_of {w : Cond} (h : w ∈ lw_tbl) (g : gisN w = true) : w ∈ NB := List.mem_filter.mpr ⟨h, g⟩
theorem NB_tab {w : Cond} (h : w ∈ NB) : w.onTables = true := by
  have := (List.mem_filter.mp h).2
  cases w <;> first | rfl | (simp [gisN] at this; done)
theorem NB_warm {w : Cond} (h : w ∈ NB) {s U : State} (hW : s.WarmedH U.vm) (hZ : va_Nw w s) : va_Nw w U := by
  have hg := (List.mem_filter.mp h).2
  cases w <;> first | exact va_Nw.warmC hW hZ | exact va_Nw.warmD hW hZ | exact va_Nw.warmM hW hZ | exact va_Nw.warmF hW hZ | (simp [gisN] at hg; done)
def gtys (X : gX) : List (ClassId × FieldType) := [(X.2.1 0, .int), (X.2.1 1, .boolean), (X.2.1 2, .object "PadPolish$Row"), (X.2.1 3, .object "PadPolish$Surface"), (X.2.1 4, .object "PadPolish$Table"), (X.2.1 5, .object "java/lang/Object")]
def gWd (j : Int) : Int := if j = 0 then 1 else if j = 1 then 1 else if j = 2 then 4 else if j = 3 then 27 else 256
def gkinds : List String := ["PadPolish$Sliding", "PadPolish$Soaked", "PadPolish$Dry", "PadPolish$Clearing", "PadPolish$Straight"]
/-- which of the kinds aren't which -/
def gnc : List (String × String) := [("PadPolish$Sliding", "PadPolish$Soaked"), ("PadPolish$Sliding", "PadPolish$Dry"), ("PadPolish$Sliding", "PadPolish$Clearing"), ("PadPolish$Sliding", "PadPolish$Straight"), ("PadPolish$Soaked", "PadPolish$Dry"), ("PadPolish$Soaked", "PadPolish$Clearing"), ("PadPolish$Soaked", "PadPolish$Straight"), ("PadPolish$Dry", "PadPolish$Soaked"), ("PadPolish$Dry", "PadPolish$Clearing"), ("PadPolish$Dry", "PadPolish$Straight"), ("PadPolish$Clearing", "PadPolish$Sliding"), ("PadPolish$Clearing", "PadPolish$Soaked"), ("PadPolish$Clearing", "PadPolish$Dry"), ("PadPolish$Clearing", "PadPolish$Straight"), ("PadPolish$Straight", "PadPolish$Sliding"), ("PadPolish$Straight", "PadPolish$Soaked"), ("PadPolish$Straight", "PadPolish$Dry")]
def gao : List String := ["PadPolish$Row", "PadPolish$Surface", "PadPolish$Table", "java/lang/Object"]
/-- what a method takes as given of the tables beside TB: classes, array classes, the two static arrays, casts -/
def gS (X : gX) (U : State) (H : Heap) : Prop :=
  va_K X.1 vwCl (gtys X) U ∧ va_Z "java/util/ArrayList" "DEFAULTCAPACITY_EMPTY_ELEMENTDATA" "[Ljava/lang/Object;" (.ref X.2.2.2.1) (gB X) U H ∧ va_T (.object "java/lang/Object") X.2.2.2.1 0 (fun _ => .null) (gB X) U H ∧ va_Z "PadPolish" "WORDS" "[I" (.ref X.2.2.2.2) (gB X) U H ∧ va_T .int X.2.2.2.2 5 (fun j => .int (Int32.ofInt (gWd j))) (gB X) U H ∧ (∀ q ∈ gnc, va_Nc q.1 q.2 U) ∧ (∀ C ∈ gao, va_AO C U) ∧ (∀ w ∈ NB, va_Nw w U) ∧ ¬ gB X X.2.2.2.1
theorem gS.warm {X : gX} {u U : State} {H : Heap} (hW : u.WarmedH U.vm) (h : gS X u H) : gS X U H := by
  obtain ⟨h1, h2, h3, h4, h5, h6, h7, h8, h9⟩ := h
  have hvm := hW.alike
  exact ⟨h1.moved hvm, h2.moved hvm, h3.moved hvm, h4.moved hvm, h5.moved hvm, fun q hq => (h6 q hq).moved hvm, fun C hC => (h7 C hC).moved hvm, fun w hw => NB_warm hw hW (h8 w hw), h9⟩
theorem gS.same {X : gX} {u U : State} {H : Heap} (hv : u.vm = U.vm) (h : gS X u H) : gS X U H := by
  obtain ⟨h1, h2, h3, h4, h5, h6, h7, h8, h9⟩ := h
  have hvm : u.vm.Alike U.vm := by rw [hv]; exact Vm.Alike.refl U.vm
  exact ⟨h1.moved hvm, h2.moved hvm, h3.moved hvm, h4.moved hvm, h5.moved hvm, fun q hq => (h6 q hq).moved hvm, fun C hC => (h7 C hC).moved hvm, fun w hw => va_Nw.same (NB_tab hw) hv (h8 w hw), h9⟩
theorem gS.kept {X : gX} {U : State} {H H1 : Heap} (h : gS X U H) (hq : ∀ a : Nat, a < H.size → ¬ gB X a → H1[a]? = H[a]?) : gS X U H1 := by
  obtain ⟨h1, h2, h3, h4, h5, h6, h7, h8, h9⟩ := h
  exact ⟨h1, h2.kept hq, h3.kept hq, h4.kept hq, h5.kept hq, h6, h7, h8, h9⟩
abbrev gC : Type := Program × Launch × Env × Room × State × MethodId × Array Value × List Frame × Method × Code × (State → Prop) × gX
abbrev kp (κ : gC) : Program := κ.1
abbrev kl (κ : gC) : Launch := κ.2.1
abbrev ke (κ : gC) : Env := κ.2.2.1
abbrev kR (κ : gC) : Room := κ.2.2.2.1
abbrev ks (κ : gC) : State := κ.2.2.2.2.1
abbrev km (κ : gC) : MethodId := κ.2.2.2.2.2.1
abbrev ka (κ : gC) : Array Value := κ.2.2.2.2.2.2.1
abbrev kb (κ : gC) : List Frame := κ.2.2.2.2.2.2.2.1
abbrev kt (κ : gC) : Method := κ.2.2.2.2.2.2.2.2.1
abbrev kc (κ : gC) : Code := κ.2.2.2.2.2.2.2.2.2.1
abbrev kQ (κ : gC) : State → Prop := κ.2.2.2.2.2.2.2.2.2.2.1
abbrev kX (κ : gC) : gX := κ.2.2.2.2.2.2.2.2.2.2.2
def G (κ : gC) (M : gM) (n : Int) (L : List (Option gV)) (pc : Nat) (st : List gV) (cells slots : Nat) : Prop :=
  ∀ (H : Heap) (locs : List Loc) (ls : Array Slot), gP (kX κ) M n H → va_S (gB (kX κ)) (ks κ).heap H locs → gL (kX κ) ls L →
    W (kp κ) (kl κ) (ke κ) (kR κ) (ks κ) (km κ) (ka κ) (kb κ) (kt κ) (kc κ) H locs cells slots (kQ κ) (F0 (km κ) pc ls (st.map (gv (kX κ))))
/-- a method's context -/
def gF (κ : gC) (y : MethodName) (cc : ByteArray) (nL : Nat) (rm : Room) : Prop :=
  (kp κ).tables.exec = Jvm.exec ∧ (kc κ).code = cc ∧ (kc κ).maxLocals = nL ∧ (ks κ).vm.findClass y.cls = some (km κ).cls ∧ (∀ w ∈ TB, w.before (ka κ) (ks κ) = true) ∧ (kt κ).locks = false ∧ (kt κ).name = y.name ∧ kR κ = rm ∧ gS (kX κ) (ks κ) (ks κ).heap
section GF
variable {κ : gC} {y : MethodName} {cc : ByteArray} {nL : Nat} {rm : Room}
theorem gF.x (C : gF κ y cc nL rm) : (kp κ).tables.exec = Jvm.exec := C.1
theorem gF.b (C : gF κ y cc nL rm) : (kc κ).code = cc := C.2.1
theorem gF.ml (C : gF κ y cc nL rm) : (kc κ).maxLocals = nL := C.2.2.1
theorem gF.own (C : gF κ y cc nL rm) : (ks κ).vm.findClass y.cls = some (km κ).cls := C.2.2.2.1
theorem gF.ts (C : gF κ y cc nL rm) : ∀ w ∈ TB, w.before (ka κ) (ks κ) = true := C.2.2.2.2.1
theorem gF.lk (C : gF κ y cc nL rm) : (kt κ).locks = false := C.2.2.2.2.2.1
theorem gF.nm (C : gF κ y cc nL rm) : (kt κ).name = y.name := C.2.2.2.2.2.2.1
theorem gF.R (C : gF κ y cc nL rm) : kR κ = rm := C.2.2.2.2.2.2.2.1
theorem gF.S (C : gF κ y cc nL rm) : gS (kX κ) (ks κ) (ks κ).heap := C.2.2.2.2.2.2.2.2
theorem gF.fix (C : gF κ y cc nL rm) : CallFix (kp κ) (km κ) (kc κ) cc nL (ks κ) (ka κ) TB y.cls := ⟨C.x, C.b, C.ml, C.own, C.ts⟩
end GF
/-- a contract's end: the answer, the heap, how many cells there are -/
abbrev gPost : Type := Option gV → gM → Int → Prop
def gQc (X : gX) (Q : gPost) : Array Value → State → Outcome → State → Prop := fun _ st oc t => (∃ (r : Option gV) (M : gM) (n : Int), oc = .returned (r.map (gv X)) ∧ Q r M n ∧ gP X M n t.heap) ∧ va_F (gB X) st t
/-- one answer, one heap -/
def qr (r0 : Option gV) (M0 : gM) (n0 : Int) : gPost := fun r M n => r = r0 ∧ M = M0 ∧ n = n0
def gEnd (κ : gC) (ret : Option FieldType) (mc ms : Nat) (Q : gPost) : Prop := (kt κ).sig.returnType = ret ∧ kQ κ = MQ (kb κ) (gQc (kX κ) Q) (ka κ) (ks κ) mc ms (gB (kX κ))
def CT (y : MethodName) (cc : ByteArray) (nL : Nat) (ret : Option FieldType) (rm : Room) (av : List gV) (M : gM) (n : Int) (Q : gPost) : Prop :=
  ∀ (l : Launch) (X : gX), Met l y (Cond.code y cc nL ret :: TB) rm (va_Pc (av.map (gv X)) (fun U => gP X M n U.heap ∧ gS X U U.heap)) (gQc X Q) rm.cells rm.slots (gB X)
theorem CT.of {y : MethodName} {cc : ByteArray} {nL : Nat} {ret : Option FieldType} {rm : Room} {av : List gV} {M : gM} {n : Int} {Q : gPost} (hy : plainName y.cls = true) (hn : ∀ X, (lg_sl (av.map (gv X))).length ≤ nL)
    (body : ∀ κ : gC, gF κ y cc nL rm → gEnd κ ret rm.cells rm.slots Q → G κ M n (gl0 av nL) 0 [] 0 0) : CT y cc nL ret rm av M n Q := by
  intro l X
  refine Met.ofW (cc := cc) (maxL := nL) (ret := ret) hy rfl ?_
  intro p e s m args below meth c s₁ B hml hv
  obtain ⟨rfl, hP, hS⟩ := hv
  have hts := atoms_spec (ws := Cond.code y cc nL ret :: TB) B.pre
  have hnm := (name_of_methodNamed B.named B.method).1
  have K := body (p, l, e, (headSpec (Cond.code y cc nL ret :: TB) rm).room, s, m, (av.map (gv X)).toArray, below, meth, c, MQ below (gQc X Q) (av.map (gv X)).toArray s rm.cells rm.slots (gB X), X)
    ⟨B.exec, B.bytes, hml, findClass_of_methodNamed B.named, fun w hw => hts w (List.mem_cons_of_mem _ hw), B.notSynchronized, hnm, rfl, hS⟩ ⟨B.returns, rfl⟩
  have hl := lv_entry (av.map (gv X)) (n := nL) (hn X)
  rw [lg_entry_eq]
  exact K s.heap [] _ hP va_S.rf (gL_sub hl (gl0_len av nL) (fun k v hk => by have := gl0_args X av nL 0 k v hk; rwa [Nat.zero_add] at this))
section GR
variable {κ : gC} {y : MethodName} {cc : ByteArray} {nL : Nat} {rm : Room} {M : gM} {n : Int} {L : List (Option gV)} {pc : Nat} {st : List gV} {cells slots : Nat} {ret : Option FieldType} {mc ms : Nat} {Q : gPost}
theorem G.widen {k k2 : Nat} (h1 : cells ≤ k) (h2 : slots ≤ k2) (g : G κ M n L pc st k k2) : G κ M n L pc st cells slots := fun H locs ls hP hS hL => W.widen h1 h2 (g H locs ls hP hS hL)
theorem g_post {X : gX} {r : Option gV} (hq : Q r M n) {H : Heap} {locs : List Loc} (hP : gP X M n H) {s : State} (hS : va_S (gB X) s.heap H locs) (a : Array Value) (t : State) (ht : t.heap = H) : gQc X Q a s (.returned (r.map (gv X))) t := ⟨⟨r, M, n, rfl, hq, by rw [ht]; exact hP⟩, hS.F ht⟩
theorem g_vret (C : gF κ y cc nL rm) (E : gEnd κ none mc ms Q) (hd : decode cc pc = .ok (.return_, 1)) (hc : cells ≤ mc ∧ slots ≤ ms) (hq : Q none M n) : G κ M n L pc [] cells slots := by
  intro H locs ls hP hS hL
  rw [E.2]
  exact W.widen hc.1 hc.2 (W.vret C.x C.b E.1 (fun t ht _ => g_post (r := none) hq hP hS _ t ht) hS.2.2 hd C.lk)
theorem g_iret {x : Int} (C : gF κ y cc nL rm) (E : gEnd κ (some .int) mc ms Q) (hd : decode cc pc = .ok (.ireturn, 1)) (hc : cells ≤ mc ∧ slots ≤ ms) (hq : Q (some (vi x)) M n) : G κ M n L pc [vi x] cells slots := by
  intro H locs ls hP hS hL
  rw [E.2]
  exact W.widen hc.1 hc.2 (W.iret C.x C.b E.1 (fun t ht _ => g_post (r := some (vi x)) hq hP hS _ t ht) hS.2.2 hd C.lk)
theorem g_zret {x : Int} (C : gF κ y cc nL rm) (E : gEnd κ (some .boolean) mc ms Q) (hd : decode cc pc = .ok (.ireturn, 1)) (hc : cells ≤ mc ∧ slots ≤ ms) (h01 : x = 0 ∨ x = 1) (hq : Q (some (vi x)) M n) : G κ M n L pc [vi x] cells slots := by
  intro H locs ls hP hS hL
  rw [E.2]
  exact W.widen hc.1 hc.2 (W.zret C.x C.b E.1 (by rcases h01 with rfl | rfl <;> decide) (fun t ht _ => g_post (r := some (vi x)) hq hP hS _ t ht) hS.2.2 hd C.lk)
theorem g_lret {x : Int} (C : gF κ y cc nL rm) (E : gEnd κ (some .long) mc ms Q) (hd : decode cc pc = .ok (.lreturn, 1)) (hc : cells ≤ mc ∧ slots ≤ ms) (hq : Q (some (vl x)) M n) : G κ M n L pc [vl x] cells slots := by
  intro H locs ls hP hS hL
  rw [E.2]
  exact W.widen hc.1 hc.2 (W.lret C.x C.b E.1 (fun t ht _ => g_post (r := some (vl x)) hq hP hS _ t ht) hS.2.2 hd C.lk)
theorem g_aret {x : Option Int} {rt : FieldType} (C : gF κ y cc nL rm) (E : gEnd κ (some rt) mc ms Q) (hrt : (∃ n, rt = .object n) ∨ ∃ t, rt = .array t) (hd : decode cc pc = .ok (.areturn, 1)) (hc : cells ≤ mc ∧ slots ≤ ms) (hq : Q (some (.inr (.inr x))) M n) : G κ M n L pc [.inr (.inr x)] cells slots := by
  intro H locs ls hP hS hL
  rw [E.2]
  refine W.widen hc.1 hc.2 (W.aret (v := gv (kX κ) (.inr (.inr x))) C.x C.b E.1 hrt ?_ (fun t ht _ => g_post (r := some (.inr (.inr x))) hq hP hS _ t ht) hS.2.2 hd (hlocks := C.lk))
  cases x with
  | none => exact Or.inl rfl
  | some a => exact Or.inr ⟨_, rfl⟩
-- numbers and locals
theorem g_iconst {k : Int} (C : gF κ y cc nL rm) (hd : decode cc pc = .ok (.iconst k, 1)) (g : G κ M n L (pc + 1) (vi k :: st) cells slots) : G κ M n L pc st cells slots := fun H locs ls hP hS hL => lv_iconst C.x C.b hd rfl (g H locs ls hP hS hL)
theorem g_bipush {k : Int} (C : gF κ y cc nL rm) (hd : decode cc pc = .ok (.bipush k, 2)) (hk : (Int8.ofInt k).toInt32 = Int32.ofInt k) (g : G κ M n L (pc + 2) (vi k :: st) cells slots) : G κ M n L pc st cells slots := fun H locs ls hP hS hL => lv_bipush C.x C.b hd hk (g H locs ls hP hS hL)
theorem g_sipush {k : Int} (C : gF κ y cc nL rm) (hd : decode cc pc = .ok (.sipush k, 3)) (hk : (Int16.ofInt k).toInt32 = Int32.ofInt k) (g : G κ M n L (pc + 3) (vi k :: st) cells slots) : G κ M n L pc st cells slots := fun H locs ls hP hS hL => lv_sipush C.x C.b hd hk (g H locs ls hP hS hL)
theorem g_ldc {ix : Nat} (k : Int) (C : gF κ y cc nL rm) (hw : Cond.constant y.cls ix (Int32.ofInt k) ∈ TB) (hd : decode cc pc = .ok (.ldc ix, 2)) (g : G κ M n L (pc + 2) (vi k :: st) cells slots) : G κ M n L pc st cells slots := fun H locs ls hP hS hL => lv_ldc C.x C.b C.own (C.ts _ hw) hd (g H locs ls hP hS hL)
theorem g_ldc2 {ix : Nat} (k : Int) (C : gF κ y cc nL rm) (hw : Cond.constantLong y.cls ix (Int64.ofInt k) ∈ TB) (hd : decode cc pc = .ok (.ldc2_w ix, 3)) (g : G κ M n L (pc + 3) (vl k :: st) cells slots) : G κ M n L pc st cells slots := fun H locs ls hP hS hL => lv_ldc2 C.x C.b C.own (C.ts _ hw) hd (g H locs ls hP hS hL)
theorem g_lconst0 (C : gF κ y cc nL rm) (hd : decode cc pc = .ok (.lconst 0, 1)) (g : G κ M n L (pc + 1) (vl 0 :: st) cells slots) : G κ M n L pc st cells slots := fun H locs ls hP hS hL => lv_lconst C.x C.b hd rfl (g H locs ls hP hS hL)
theorem g_lconst1 (C : gF κ y cc nL rm) (hd : decode cc pc = .ok (.lconst 1, 1)) (g : G κ M n L (pc + 1) (vl 1 :: st) cells slots) : G κ M n L pc st cells slots := fun H locs ls hP hS hL => lv_lconst C.x C.b hd rfl (g H locs ls hP hS hL)
theorem g_null (C : gF κ y cc nL rm) (hd : decode cc pc = .ok (.aconst_null, 1)) (g : G κ M n L (pc + 1) (vn :: st) cells slots) : G κ M n L pc st cells slots := fun H locs ls hP hS hL => lv_null C.x C.b hd (g H locs ls hP hS hL)
theorem g_iload {i : Nat} {x : Int} (C : gF κ y cc nL rm) (hd : decode cc pc = .ok (.iload i, 2)) (hx : L[i]? = some (some (vi x))) (g : G κ M n L (pc + 2) (vi x :: st) cells slots) : G κ M n L pc st cells slots := fun H locs ls hP hS hL => lv_iload C.x C.b hd (gL_get hL hx) (g H locs ls hP hS hL)
theorem g_iload_n {i : Fin 4} {x : Int} (C : gF κ y cc nL rm) (hd : decode cc pc = .ok (.iload_n i, 1)) (hx : L[(i : Nat)]? = some (some (vi x))) (g : G κ M n L (pc + 1) (vi x :: st) cells slots) : G κ M n L pc st cells slots := fun H locs ls hP hS hL => lv_iload_n C.x C.b hd rfl (gL_get hL hx) (g H locs ls hP hS hL)
theorem g_lload {i : Nat} {x : Int} (C : gF κ y cc nL rm) (hd : decode cc pc = .ok (.lload i, 2)) (hx : L[i]? = some (some (vl x))) (g : G κ M n L (pc + 2) (vl x :: st) cells slots) : G κ M n L pc st cells slots := fun H locs ls hP hS hL => lv_lload C.x C.b hd (gL_get hL hx) (g H locs ls hP hS hL)
theorem g_lload_n {i : Fin 4} {x : Int} (C : gF κ y cc nL rm) (hd : decode cc pc = .ok (.lload_n i, 1)) (hx : L[(i : Nat)]? = some (some (vl x))) (g : G κ M n L (pc + 1) (vl x :: st) cells slots) : G κ M n L pc st cells slots := fun H locs ls hP hS hL => lv_lload_n C.x C.b hd rfl (gL_get hL hx) (g H locs ls hP hS hL)
theorem g_aload {i : Nat} {x : Option Int} (C : gF κ y cc nL rm) (hd : decode cc pc = .ok (.aload i, 2)) (hx : L[i]? = some (some (.inr (.inr x)))) (g : G κ M n L (pc + 2) (.inr (.inr x) :: st) cells slots) : G κ M n L pc st cells slots := fun H locs ls hP hS hL => by
  cases x with
  | none => exact lv_aloadN C.x C.b hd (gL_get hL hx) (g H locs ls hP hS hL)
  | some a => exact lv_aload C.x C.b hd (gL_get hL hx) (g H locs ls hP hS hL)
theorem g_aload_n {i : Fin 4} {x : Option Int} (C : gF κ y cc nL rm) (hd : decode cc pc = .ok (.aload_n i, 1)) (hx : L[(i : Nat)]? = some (some (.inr (.inr x)))) (g : G κ M n L (pc + 1) (.inr (.inr x) :: st) cells slots) : G κ M n L pc st cells slots := fun H locs ls hP hS hL => by
  cases x with
  | none => exact lv_aload_nN C.x C.b hd rfl (gL_get hL hx) (g H locs ls hP hS hL)
  | some a => exact lv_aload_n C.x C.b hd rfl (gL_get hL hx) (g H locs ls hP hS hL)
/-- no long stands just before place i -/
def gpre : List (Option gV) → Nat → Bool
  | _, 0 => true
  | L, i + 1 => match L[i]? with
    | some w => !gcat2 w
    | none => true
theorem gpre_ok {L : List (Option gV)} {i : Nat} (h : gpre L i = true) : ∀ j w, j + 1 = i → L[j]? = some w → gcat2 w = false := by
  intro j w hj hw
  subst hj
  unfold gpre at h
  simp only [hw] at h
  simpa using h
theorem g_istore {i : Nat} {x : Int} (C : gF κ y cc nL rm) (hd : decode cc pc = .ok (.istore i, 2)) (hi : i < L.length) (hp : gpre L i = true) (g : G κ M n (L.set i (some (vi x))) (pc + 2) st cells slots) : G κ M n L pc (vi x :: st) cells slots := fun H locs ls hP hS hL => lv_istore C.x C.b hd hL hi rfl (fun ls' h => g H locs ls' hP hS (gL_set (gpre_ok hp) hi h))
theorem g_istore_n {i : Fin 4} {x : Int} (C : gF κ y cc nL rm) (hd : decode cc pc = .ok (.istore_n i, 1)) (hi : (i : Nat) < L.length) (hp : gpre L i = true) (g : G κ M n (L.set i (some (vi x))) (pc + 1) st cells slots) : G κ M n L pc (vi x :: st) cells slots := fun H locs ls hP hS hL => lv_istore_n C.x C.b hd rfl hL hi rfl (fun ls' h => g H locs ls' hP hS (gL_set (gpre_ok hp) hi h))
theorem g_lstore {i : Nat} {x : Int} (C : gF κ y cc nL rm) (hd : decode cc pc = .ok (.lstore i, 2)) (hi : i + 1 < L.length) (hp : gpre L i = true) (g : G κ M n ((L.set i (some (vl x))).set (i + 1) none) (pc + 2) st cells slots) : G κ M n L pc (vl x :: st) cells slots := fun H locs ls hP hS hL => lv_lstore C.x C.b hd hL hi rfl (fun ls' h => g H locs ls' hP hS (gL_set2 (gpre_ok hp) hi h))
theorem g_lstore_n {i : Fin 4} {x : Int} (C : gF κ y cc nL rm) (hd : decode cc pc = .ok (.lstore_n i, 1)) (hi : (i : Nat) + 1 < L.length) (hp : gpre L i = true) (g : G κ M n ((L.set i (some (vl x))).set (i + 1) none) (pc + 1) st cells slots) : G κ M n L pc (vl x :: st) cells slots := fun H locs ls hP hS hL => lv_lstore_n C.x C.b hd rfl hL hi rfl (fun ls' h => g H locs ls' hP hS (gL_set2 (gpre_ok hp) hi h))
theorem g_astore {i : Nat} {x : Option Int} (C : gF κ y cc nL rm) (hd : decode cc pc = .ok (.astore i, 2)) (hi : i < L.length) (hp : gpre L i = true) (g : G κ M n (L.set i (some (.inr (.inr x)))) (pc + 2) st cells slots) : G κ M n L pc (.inr (.inr x) :: st) cells slots := fun H locs ls hP hS hL => by
  cases x with
  | none => exact lv_astoreN C.x C.b hd hL hi rfl (fun ls' h => g H locs ls' hP hS (gL_set (gpre_ok hp) hi h))
  | some a => exact lv_astore C.x C.b hd hL hi rfl (fun ls' h => g H locs ls' hP hS (gL_set (gpre_ok hp) hi h))
theorem g_astore_n {i : Fin 4} {x : Option Int} (C : gF κ y cc nL rm) (hd : decode cc pc = .ok (.astore_n i, 1)) (hi : (i : Nat) < L.length) (hp : gpre L i = true) (g : G κ M n (L.set i (some (.inr (.inr x)))) (pc + 1) st cells slots) : G κ M n L pc (.inr (.inr x) :: st) cells slots := fun H locs ls hP hS hL => by
  cases x with
  | none => exact lv_astore_nN C.x C.b hd rfl hL hi rfl (fun ls' h => g H locs ls' hP hS (gL_set (gpre_ok hp) hi h))
  | some a => exact lv_astore_n C.x C.b hd rfl hL hi rfl (fun ls' h => g H locs ls' hP hS (gL_set (gpre_ok hp) hi h))
theorem g_iinc {i : Nat} {x k : Int} (C : gF κ y cc nL rm) (hd : decode cc pc = .ok (.iinc i k, 3)) (hx : L[i]? = some (some (vi x))) (hi : i < L.length) (hp : gpre L i = true) (g : G κ M n (L.set i (some (vi (x + k)))) (pc + 3) st cells slots) : G κ M n L pc st cells slots := fun H locs ls hP hS hL => by
  have hm : (i, gv (kX κ) (vi x)) ∈ gls (kX κ) 0 L := by have := gls_get (kX κ) L 0 i _ hx; rwa [Nat.zero_add] at this
  obtain ⟨q, hq⟩ := List.getElem?_of_mem hm
  exact lv_iinc C.x C.b hd hL (k := q) hq (v := Int32.ofInt (x + k)) (Int32.ofInt_add x k).symm hi rfl (fun ls' h => g H locs ls' hP hS (gL_set (gpre_ok hp) hi h))
end GR
end
section
/-! ARITHMETIC AND BRANCHES -/
def iR (x : Int) : Prop := -2147483648 ≤ x ∧ x < 2147483648
def lR (x : Int) : Prop := -9223372036854775808 ≤ x ∧ x < 9223372036854775808
theorem iI_toInt {x : Int} (h : iR x) : (Int32.ofInt x).toInt = x := Int32.toInt_ofInt_of_le h.1 h.2
theorem lI_toInt {x : Int} (h : lR x) : (Int64.ofInt x).toInt = x := Int64.toInt_ofInt_of_le h.1 h.2
theorem iI_of (z : Int32) : Int32.ofInt z.toInt = z := Int32.ofInt_toInt z
theorem iR_of (z : Int32) : iR z.toInt := ⟨Int32.le_toInt z, Int32.toInt_lt z⟩
theorem iI_eq {x z : Int} (hx : iR x) (hz : iR z) : Int32.ofInt x = Int32.ofInt z ↔ x = z := ⟨fun h => by have := congrArg Int32.toInt h; rwa [iI_toInt hx, iI_toInt hz] at this, fun h => by rw [h]⟩
theorem iI_lt {x z : Int} (hx : iR x) (hz : iR z) : Int32.ofInt x < Int32.ofInt z ↔ x < z := by rw [Int32.lt_iff_toInt_lt, iI_toInt hx, iI_toInt hz]
theorem iI_le {x z : Int} (hx : iR x) (hz : iR z) : Int32.ofInt x ≤ Int32.ofInt z ↔ x ≤ z := by rw [Int32.le_iff_toInt_le, iI_toInt hx, iI_toInt hz]
theorem lI_eq {x z : Int} (hx : lR x) (hz : lR z) : Int64.ofInt x = Int64.ofInt z ↔ x = z := ⟨fun h => by have := congrArg Int64.toInt h; rwa [lI_toInt hx, lI_toInt hz] at this, fun h => by rw [h]⟩
theorem lI_lt {x z : Int} (hx : lR x) (hz : lR z) : Int64.ofInt x < Int64.ofInt z ↔ x < z := by rw [Int64.lt_iff_toInt_lt, lI_toInt hx, lI_toInt hz]
theorem iR0 : iR 0 := ⟨by decide, by decide⟩
theorem iI_div {x z : Int} (hx : 0 ≤ x ∧ x < 2147483648) (hz : 0 < z ∧ z < 2147483648) : Int32.ofInt x / Int32.ofInt z = Int32.ofInt (x / z) := by
  have h1 : iR x := ⟨by omega, hx.2⟩
  have h2 : iR z := ⟨by omega, hz.2⟩
  have h3 : 0 ≤ x / z := Int.ediv_nonneg hx.1 (by omega)
  have h4 : x / z ≤ x := Int.ediv_le_self z hx.1
  apply Int32.toInt_inj.mp
  rw [Int32.toInt_div_of_ne_right _ _ (by rw [Ne, ← Int32.toInt_inj, iI_toInt h2]; show ¬ z = -1; omega), iI_toInt h1, iI_toInt h2, iI_toInt (x := x / z) ⟨by omega, by omega⟩, Int.tdiv_eq_ediv_of_nonneg hx.1]
theorem lI_div {x z : Int} (hx : 0 ≤ x ∧ x < 9223372036854775808) (hz : 0 < z ∧ z < 9223372036854775808) : Int64.ofInt x / Int64.ofInt z = Int64.ofInt (x / z) := by
  have h1 : lR x := ⟨by omega, hx.2⟩
  have h2 : lR z := ⟨by omega, hz.2⟩
  have h3 : 0 ≤ x / z := Int.ediv_nonneg hx.1 (by omega)
  have h4 : x / z ≤ x := Int.ediv_le_self z hx.1
  apply Int64.toInt_inj.mp
  rw [Int64.toInt_div_of_ne_right _ _ (by rw [Ne, ← Int64.toInt_inj, lI_toInt h2]; show ¬ z = -1; omega), lI_toInt h1, lI_toInt h2, lI_toInt (x := x / z) ⟨by omega, by omega⟩, Int.tdiv_eq_ediv_of_nonneg hx.1]
theorem iI_ne0 {z : Int} (hz : iR z) (h : z ≠ 0) : ¬ Int32.ofInt z = 0 := fun q => h ((iI_eq hz iR0).mp q)
theorem lI_ne0 {z : Int} (hz : lR z) (h : z ≠ 0) : ¬ Int64.ofInt z = 0 := fun q => h ((lI_eq hz ⟨by decide, by decide⟩).mp q)
theorem iI_l {x : Int} (h : iR x) : (Int32.ofInt x).toInt64 = Int64.ofInt x := by
  apply Int64.toInt_inj.mp
  rw [Int32.toInt_toInt64, iI_toInt h, lI_toInt (x := x) ⟨by have := h.1; omega, by have := h.2; omega⟩]
theorem lI_i (x : Int) : (Int64.ofInt x).toInt32 = Int32.ofInt x := Int64.toInt32_ofInt
theorem bm_b (x : Int) : iR (x.bmod 256) := by
  have h1 := Int.le_bmod (x := x) (m := 256) (by decide)
  have h2 := Int.bmod_lt (x := x) (m := 256) (by decide)
  constructor <;> omega
theorem bm_s (x : Int) : iR (x.bmod 65536) := by
  have h1 := Int.le_bmod (x := x) (m := 65536) (by decide)
  have h2 := Int.bmod_lt (x := x) (m := 65536) (by decide)
  constructor <;> omega
theorem iI_b (x : Int) : (Int32.ofInt x).toInt8.toInt32 = Int32.ofInt (x.bmod 256) := by
  rw [Int32.toInt8_ofInt]
  apply Int32.toInt_inj.mp
  rw [Int8.toInt_toInt32, Int8.toInt_ofInt, iI_toInt (bm_b x)]
theorem iI_s (x : Int) : (Int32.ofInt x).toInt16.toInt32 = Int32.ofInt (x.bmod 65536) := by
  rw [Int32.toInt16_ofInt]
  apply Int32.toInt_inj.mp
  rw [Int16.toInt_toInt32, Int16.toInt_ofInt, iI_toInt (bm_s x)]
/-- bits: what the machine gives, as a whole number -/
def bAnd (x z : Int) : Int := (Int32.ofInt x &&& Int32.ofInt z).toInt
def bOr (x z : Int) : Int := (Int32.ofInt x ||| Int32.ofInt z).toInt
def bXor (x z : Int) : Int := (Int32.ofInt x ^^^ Int32.ofInt z).toInt
def bShl (x z : Int) : Int := (Int32.ofInt x <<< (Int32.ofInt z &&& 31)).toInt
def bShr (x z : Int) : Int := (Int32.ofInt x >>> (Int32.ofInt z &&& 31)).toInt
def lCmp (x z : Int) : Int := if x < z then -1 else if x = z then 0 else 1
section GA
variable {κ : gC} {y : MethodName} {cc : ByteArray} {nL : Nat} {rm : Room} {M : gM} {n : Int} {L : List (Option gV)} {pc : Nat} {st : List gV} {cells slots : Nat} {x z : Int}
theorem g_iadd (C : gF κ y cc nL rm) (hd : decode cc pc = .ok (.iadd, 1)) (g : G κ M n L (pc + 1) (vi (x + z) :: st) cells slots) : G κ M n L pc (vi z :: vi x :: st) cells slots := fun H locs ls hP hS hL => lv_iadd C.x C.b hd (by have := g H locs ls hP hS hL; rwa [List.map_cons, show gv (kX κ) (vi (x + z)) = .int (Int32.ofInt x + Int32.ofInt z) from congrArg Value.int (Int32.ofInt_add x z)] at this)
theorem g_isub (C : gF κ y cc nL rm) (hd : decode cc pc = .ok (.isub, 1)) (g : G κ M n L (pc + 1) (vi (x - z) :: st) cells slots) : G κ M n L pc (vi z :: vi x :: st) cells slots := fun H locs ls hP hS hL => lv_isub C.x C.b hd (by have := g H locs ls hP hS hL; rwa [List.map_cons, show gv (kX κ) (vi (x - z)) = .int (Int32.ofInt x - Int32.ofInt z) from congrArg Value.int (Int32.ofInt_sub x z)] at this)
theorem g_imul (C : gF κ y cc nL rm) (hd : decode cc pc = .ok (.imul, 1)) (g : G κ M n L (pc + 1) (vi (x * z) :: st) cells slots) : G κ M n L pc (vi z :: vi x :: st) cells slots := fun H locs ls hP hS hL => lv_imul C.x C.b hd (by have := g H locs ls hP hS hL; rwa [List.map_cons, show gv (kX κ) (vi (x * z)) = .int (Int32.ofInt x * Int32.ofInt z) from congrArg Value.int (Int32.ofInt_mul x z)] at this)
theorem g_ineg (C : gF κ y cc nL rm) (hd : decode cc pc = .ok (.ineg, 1)) (g : G κ M n L (pc + 1) (vi (-x) :: st) cells slots) : G κ M n L pc (vi x :: st) cells slots := fun H locs ls hP hS hL => lv_ineg C.x C.b hd (by have := g H locs ls hP hS hL; rwa [List.map_cons, show gv (kX κ) (vi (-x)) = .int (-Int32.ofInt x) from congrArg Value.int (Int32.ofInt_neg x)] at this)
theorem g_idiv (C : gF κ y cc nL rm) (hd : decode cc pc = .ok (.idiv, 1)) (h : 0 ≤ x ∧ x < 2147483648 ∧ 0 < z ∧ z < 2147483648) (g : G κ M n L (pc + 1) (vi (x / z) :: st) cells slots) : G κ M n L pc (vi z :: vi x :: st) cells slots := fun H locs ls hP hS hL => lv_idiv C.x C.b hd (iI_ne0 ⟨by omega, h.2.2.2⟩ (by omega)) (by have := g H locs ls hP hS hL; rwa [List.map_cons, show gv (kX κ) (vi (x / z)) = .int (Int32.ofInt x / Int32.ofInt z) from congrArg Value.int (iI_div ⟨h.1, h.2.1⟩ h.2.2).symm] at this)
theorem g_irem (C : gF κ y cc nL rm) (hd : decode cc pc = .ok (.irem, 1)) (h : 0 ≤ x ∧ x < 2147483648 ∧ 0 < z ∧ z < 2147483648) (g : G κ M n L (pc + 1) (vi (x % z) :: st) cells slots) : G κ M n L pc (vi z :: vi x :: st) cells slots := fun H locs ls hP hS hL => lv_irem C.x C.b hd (iI_ne0 ⟨by omega, h.2.2.2⟩ (by omega)) (by have := g H locs ls hP hS hL; rwa [List.map_cons, show gv (kX κ) (vi (x % z)) = .int (Int32.ofInt x - Int32.ofInt x / Int32.ofInt z * Int32.ofInt z) from congrArg Value.int (by rw [iI_div ⟨h.1, h.2.1⟩ h.2.2, ← Int32.ofInt_mul, ← Int32.ofInt_sub, Int.emod_def, Int.mul_comm])] at this)
theorem g_ladd (C : gF κ y cc nL rm) (hd : decode cc pc = .ok (.ladd, 1)) (g : G κ M n L (pc + 1) (vl (x + z) :: st) cells slots) : G κ M n L pc (vl z :: vl x :: st) cells slots := fun H locs ls hP hS hL => lv_ladd C.x C.b hd (by have := g H locs ls hP hS hL; rwa [List.map_cons, show gv (kX κ) (vl (x + z)) = .long (Int64.ofInt x + Int64.ofInt z) from congrArg Value.long (Int64.ofInt_add x z)] at this)
theorem g_lmul (C : gF κ y cc nL rm) (hd : decode cc pc = .ok (.lmul, 1)) (g : G κ M n L (pc + 1) (vl (x * z) :: st) cells slots) : G κ M n L pc (vl z :: vl x :: st) cells slots := fun H locs ls hP hS hL => lv_lmul C.x C.b hd (by have := g H locs ls hP hS hL; rwa [List.map_cons, show gv (kX κ) (vl (x * z)) = .long (Int64.ofInt x * Int64.ofInt z) from congrArg Value.long (Int64.ofInt_mul x z)] at this)
theorem g_ldiv (C : gF κ y cc nL rm) (hd : decode cc pc = .ok (.ldiv, 1)) (h : 0 ≤ x ∧ x < 9223372036854775808 ∧ 0 < z ∧ z < 9223372036854775808) (g : G κ M n L (pc + 1) (vl (x / z) :: st) cells slots) : G κ M n L pc (vl z :: vl x :: st) cells slots := fun H locs ls hP hS hL => lv_ldiv C.x C.b hd (lI_ne0 ⟨by omega, h.2.2.2⟩ (by omega)) (by have := g H locs ls hP hS hL; rwa [List.map_cons, show gv (kX κ) (vl (x / z)) = .long (Int64.ofInt x / Int64.ofInt z) from congrArg Value.long (lI_div ⟨h.1, h.2.1⟩ h.2.2).symm] at this)
theorem g_lrem (C : gF κ y cc nL rm) (hd : decode cc pc = .ok (.lrem, 1)) (h : 0 ≤ x ∧ x < 9223372036854775808 ∧ 0 < z ∧ z < 9223372036854775808) (g : G κ M n L (pc + 1) (vl (x % z) :: st) cells slots) : G κ M n L pc (vl z :: vl x :: st) cells slots := fun H locs ls hP hS hL => lv_lrem C.x C.b hd (lI_ne0 ⟨by omega, h.2.2.2⟩ (by omega)) (by have := g H locs ls hP hS hL; rwa [List.map_cons, show gv (kX κ) (vl (x % z)) = .long (Int64.ofInt x - Int64.ofInt x / Int64.ofInt z * Int64.ofInt z) from congrArg Value.long (by rw [lI_div ⟨h.1, h.2.1⟩ h.2.2, ← Int64.ofInt_mul, ← Int64.ofInt_sub, Int.emod_def, Int.mul_comm])] at this)
theorem g_i2l (C : gF κ y cc nL rm) (hd : decode cc pc = .ok (.i2l, 1)) (h : iR x) (g : G κ M n L (pc + 1) (vl x :: st) cells slots) : G κ M n L pc (vi x :: st) cells slots := fun H locs ls hP hS hL => lv_i2l C.x C.b hd (iI_l h) (g H locs ls hP hS hL)
theorem g_l2i (C : gF κ y cc nL rm) (hd : decode cc pc = .ok (.l2i, 1)) (g : G κ M n L (pc + 1) (vi x :: st) cells slots) : G κ M n L pc (vl x :: st) cells slots := fun H locs ls hP hS hL => lv_l2i C.x C.b hd (lI_i x) (g H locs ls hP hS hL)
theorem g_i2b (C : gF κ y cc nL rm) (hd : decode cc pc = .ok (.i2b, 1)) (g : G κ M n L (pc + 1) (vi (x.bmod 256) :: st) cells slots) : G κ M n L pc (vi x :: st) cells slots := fun H locs ls hP hS hL => lv_i2b C.x C.b hd (iI_b x) (g H locs ls hP hS hL)
theorem g_i2s (C : gF κ y cc nL rm) (hd : decode cc pc = .ok (.i2s, 1)) (g : G κ M n L (pc + 1) (vi (x.bmod 65536) :: st) cells slots) : G κ M n L pc (vi x :: st) cells slots := fun H locs ls hP hS hL => lv_i2s C.x C.b hd (iI_s x) (g H locs ls hP hS hL)
theorem g_iand (C : gF κ y cc nL rm) (hd : decode cc pc = .ok (.iand, 1)) (g : G κ M n L (pc + 1) (vi (bAnd x z) :: st) cells slots) : G κ M n L pc (vi z :: vi x :: st) cells slots := fun H locs ls hP hS hL => lv_iand C.x C.b hd (by have := g H locs ls hP hS hL; rwa [List.map_cons, show gv (kX κ) (vi (bAnd x z)) = .int (Int32.ofInt x &&& Int32.ofInt z) from congrArg Value.int (iI_of _)] at this)
theorem g_ior (C : gF κ y cc nL rm) (hd : decode cc pc = .ok (.ior, 1)) (g : G κ M n L (pc + 1) (vi (bOr x z) :: st) cells slots) : G κ M n L pc (vi z :: vi x :: st) cells slots := fun H locs ls hP hS hL => lv_ior C.x C.b hd (by have := g H locs ls hP hS hL; rwa [List.map_cons, show gv (kX κ) (vi (bOr x z)) = .int (Int32.ofInt x ||| Int32.ofInt z) from congrArg Value.int (iI_of _)] at this)
theorem g_ixor (C : gF κ y cc nL rm) (hd : decode cc pc = .ok (.ixor, 1)) (g : G κ M n L (pc + 1) (vi (bXor x z) :: st) cells slots) : G κ M n L pc (vi z :: vi x :: st) cells slots := fun H locs ls hP hS hL => lv_ixor C.x C.b hd (by have := g H locs ls hP hS hL; rwa [List.map_cons, show gv (kX κ) (vi (bXor x z)) = .int (Int32.ofInt x ^^^ Int32.ofInt z) from congrArg Value.int (iI_of _)] at this)
theorem g_ishl (C : gF κ y cc nL rm) (hd : decode cc pc = .ok (.ishl, 1)) (g : G κ M n L (pc + 1) (vi (bShl x z) :: st) cells slots) : G κ M n L pc (vi z :: vi x :: st) cells slots := fun H locs ls hP hS hL => lv_ishl C.x C.b hd (by have := g H locs ls hP hS hL; rwa [List.map_cons, show gv (kX κ) (vi (bShl x z)) = .int (Int32.ofInt x <<< (Int32.ofInt z &&& 31)) from congrArg Value.int (iI_of _)] at this)
theorem g_ishr (C : gF κ y cc nL rm) (hd : decode cc pc = .ok (.ishr, 1)) (g : G κ M n L (pc + 1) (vi (bShr x z) :: st) cells slots) : G κ M n L pc (vi z :: vi x :: st) cells slots := fun H locs ls hP hS hL => lv_ishr C.x C.b hd (by have := g H locs ls hP hS hL; rwa [List.map_cons, show gv (kX κ) (vi (bShr x z)) = .int (Int32.ofInt x >>> (Int32.ofInt z &&& 31)) from congrArg Value.int (iI_of _)] at this)
theorem gv_cat1i (X : gX) (x : Int) : (gv X (vi x)).category = 1 := rfl
theorem gv_cat1r (X : gX) (a : Option Int) : (gv X (.inr (.inr a))).category = 1 := by cases a <;> rfl
theorem gv_cat1 (X : gX) {v : gV} (hv : gcat2 (some v) = false) : (gv X v).category = 1 := by
  rcases v with q | q | q
  · rfl
  · cases hv
  · exact gv_cat1r _ q
theorem g_dup {v : gV} (C : gF κ y cc nL rm) (hd : decode cc pc = .ok (.dup, 1)) (hv : gcat2 (some v) = false) (g : G κ M n L (pc + 1) (v :: v :: st) cells slots) : G κ M n L pc (v :: st) cells slots := fun H locs ls hP hS hL => lv_dup C.x C.b hd (gv_cat1 _ hv) (g H locs ls hP hS hL)
theorem g_pop {v : gV} (C : gF κ y cc nL rm) (hd : decode cc pc = .ok (.pop, 1)) (hv : gcat2 (some v) = false) (g : G κ M n L (pc + 1) st cells slots) : G κ M n L pc (v :: st) cells slots := fun H locs ls hP hS hL => lv_pop C.x C.b hd (gv_cat1 _ hv) (g H locs ls hP hS hL)
theorem g_dup2 {a : Option Int} (C : gF κ y cc nL rm) (hd : decode cc pc = .ok (.dup2, 1)) (g : G κ M n L (pc + 1) (vi x :: .inr (.inr a) :: vi x :: .inr (.inr a) :: st) cells slots) : G κ M n L pc (vi x :: .inr (.inr a) :: st) cells slots := fun H locs ls hP hS hL => lv_dup2_11 C.x C.b hd rfl (gv_cat1r _ a) (g H locs ls hP hS hL)
theorem g_dup_x1 {a b : Option Int} (C : gF κ y cc nL rm) (hd : decode cc pc = .ok (.dup_x1, 1)) (g : G κ M n L (pc + 1) (.inr (.inr b) :: .inr (.inr a) :: .inr (.inr b) :: st) cells slots) : G κ M n L pc (.inr (.inr b) :: .inr (.inr a) :: st) cells slots := fun H locs ls hP hS hL => lv_dup_x1 C.x C.b hd (gv_cat1r _ b) (gv_cat1r _ a) (g H locs ls hP hS hL)
-- branches: the numbers are in range
theorem g_goto {off : Int} (tgt : Nat) (C : gF κ y cc nL rm) (hd : decode cc pc = .ok (.goto off, 3)) (ht : (pc : Int) + off = (tgt : Int)) (g : G κ M n L tgt st cells slots) : G κ M n L pc st cells slots := fun H locs ls hP hS hL => lv_goto C.x C.b hd ht (g H locs ls hP hS hL)
theorem g_icmp_eq {off : Int} (tgt : Nat) (C : gF κ y cc nL rm) (hd : decode cc pc = .ok (.if_icmp .eq off, 3)) (ht : (pc : Int) + off = (tgt : Int)) (hx : iR x) (hz : iR z) (a : x = z → G κ M n L tgt st cells slots) (b : ¬ x = z → G κ M n L (pc + 3) st cells slots) : G κ M n L pc (vi z :: vi x :: st) cells slots := fun H locs ls hP hS hL => lv_icmp_eq C.x C.b hd ht (fun h => a ((iI_eq hx hz).mp h) H locs ls hP hS hL) (fun h => b (fun q => h ((iI_eq hx hz).mpr q)) H locs ls hP hS hL)
theorem g_icmp_ne {off : Int} (tgt : Nat) (C : gF κ y cc nL rm) (hd : decode cc pc = .ok (.if_icmp .ne off, 3)) (ht : (pc : Int) + off = (tgt : Int)) (hx : iR x) (hz : iR z) (a : ¬ x = z → G κ M n L tgt st cells slots) (b : x = z → G κ M n L (pc + 3) st cells slots) : G κ M n L pc (vi z :: vi x :: st) cells slots := fun H locs ls hP hS hL => lv_icmp_ne C.x C.b hd ht (fun h => a (fun q => h ((iI_eq hx hz).mpr q)) H locs ls hP hS hL) (fun h => b ((iI_eq hx hz).mp h) H locs ls hP hS hL)
theorem g_icmp_lt {off : Int} (tgt : Nat) (C : gF κ y cc nL rm) (hd : decode cc pc = .ok (.if_icmp .lt off, 3)) (ht : (pc : Int) + off = (tgt : Int)) (hx : iR x) (hz : iR z) (a : x < z → G κ M n L tgt st cells slots) (b : z ≤ x → G κ M n L (pc + 3) st cells slots) : G κ M n L pc (vi z :: vi x :: st) cells slots := fun H locs ls hP hS hL => lv_icmp_lt C.x C.b hd ht (fun h => a ((iI_lt hx hz).mp h) H locs ls hP hS hL) (fun h => b (Int.not_lt.mp fun q => h ((iI_lt hx hz).mpr q)) H locs ls hP hS hL)
theorem g_icmp_ge {off : Int} (tgt : Nat) (C : gF κ y cc nL rm) (hd : decode cc pc = .ok (.if_icmp .ge off, 3)) (ht : (pc : Int) + off = (tgt : Int)) (hx : iR x) (hz : iR z) (a : z ≤ x → G κ M n L tgt st cells slots) (b : x < z → G κ M n L (pc + 3) st cells slots) : G κ M n L pc (vi z :: vi x :: st) cells slots := fun H locs ls hP hS hL => lv_icmp_ge C.x C.b hd ht (fun h => a ((iI_le hz hx).mp h) H locs ls hP hS hL) (fun h => b (Int.not_le.mp fun q => h ((iI_le hz hx).mpr q)) H locs ls hP hS hL)
theorem g_icmp_gt {off : Int} (tgt : Nat) (C : gF κ y cc nL rm) (hd : decode cc pc = .ok (.if_icmp .gt off, 3)) (ht : (pc : Int) + off = (tgt : Int)) (hx : iR x) (hz : iR z) (a : z < x → G κ M n L tgt st cells slots) (b : x ≤ z → G κ M n L (pc + 3) st cells slots) : G κ M n L pc (vi z :: vi x :: st) cells slots := fun H locs ls hP hS hL => lv_icmp_gt C.x C.b hd ht (fun h => a ((iI_lt hz hx).mp h) H locs ls hP hS hL) (fun h => b (Int.not_lt.mp fun q => h ((iI_lt hz hx).mpr q)) H locs ls hP hS hL)
theorem g_icmp_le {off : Int} (tgt : Nat) (C : gF κ y cc nL rm) (hd : decode cc pc = .ok (.if_icmp .le off, 3)) (ht : (pc : Int) + off = (tgt : Int)) (hx : iR x) (hz : iR z) (a : x ≤ z → G κ M n L tgt st cells slots) (b : z < x → G κ M n L (pc + 3) st cells slots) : G κ M n L pc (vi z :: vi x :: st) cells slots := fun H locs ls hP hS hL => lv_icmp_le C.x C.b hd ht (fun h => a ((iI_le hx hz).mp h) H locs ls hP hS hL) (fun h => b (Int.not_le.mp fun q => h ((iI_le hx hz).mpr q)) H locs ls hP hS hL)
theorem g_if_eq {off : Int} (tgt : Nat) (C : gF κ y cc nL rm) (hd : decode cc pc = .ok (.ifCond .eq off, 3)) (ht : (pc : Int) + off = (tgt : Int)) (hx : iR x) (a : x = 0 → G κ M n L tgt st cells slots) (b : ¬ x = 0 → G κ M n L (pc + 3) st cells slots) : G κ M n L pc (vi x :: st) cells slots := fun H locs ls hP hS hL => lv_if_eq C.x C.b hd ht (fun h => a ((iI_eq hx iR0).mp h) H locs ls hP hS hL) (fun h => b (fun q => h ((iI_eq hx iR0).mpr q)) H locs ls hP hS hL)
theorem g_if_ne {off : Int} (tgt : Nat) (C : gF κ y cc nL rm) (hd : decode cc pc = .ok (.ifCond .ne off, 3)) (ht : (pc : Int) + off = (tgt : Int)) (hx : iR x) (a : ¬ x = 0 → G κ M n L tgt st cells slots) (b : x = 0 → G κ M n L (pc + 3) st cells slots) : G κ M n L pc (vi x :: st) cells slots := fun H locs ls hP hS hL => lv_if_ne C.x C.b hd ht (fun h => a (fun q => h ((iI_eq hx iR0).mpr q)) H locs ls hP hS hL) (fun h => b ((iI_eq hx iR0).mp h) H locs ls hP hS hL)
theorem g_if_lt {off : Int} (tgt : Nat) (C : gF κ y cc nL rm) (hd : decode cc pc = .ok (.ifCond .lt off, 3)) (ht : (pc : Int) + off = (tgt : Int)) (hx : iR x) (a : x < 0 → G κ M n L tgt st cells slots) (b : 0 ≤ x → G κ M n L (pc + 3) st cells slots) : G κ M n L pc (vi x :: st) cells slots := fun H locs ls hP hS hL => lv_if_lt C.x C.b hd ht (fun h => a ((iI_lt hx iR0).mp h) H locs ls hP hS hL) (fun h => b (Int.not_lt.mp fun q => h ((iI_lt hx iR0).mpr q)) H locs ls hP hS hL)
theorem g_if_ge {off : Int} (tgt : Nat) (C : gF κ y cc nL rm) (hd : decode cc pc = .ok (.ifCond .ge off, 3)) (ht : (pc : Int) + off = (tgt : Int)) (hx : iR x) (a : 0 ≤ x → G κ M n L tgt st cells slots) (b : x < 0 → G κ M n L (pc + 3) st cells slots) : G κ M n L pc (vi x :: st) cells slots := fun H locs ls hP hS hL => lv_if_ge C.x C.b hd ht (fun h => a ((iI_le iR0 hx).mp h) H locs ls hP hS hL) (fun h => b (Int.not_le.mp fun q => h ((iI_le iR0 hx).mpr q)) H locs ls hP hS hL)
theorem g_if_gt {off : Int} (tgt : Nat) (C : gF κ y cc nL rm) (hd : decode cc pc = .ok (.ifCond .gt off, 3)) (ht : (pc : Int) + off = (tgt : Int)) (hx : iR x) (a : 0 < x → G κ M n L tgt st cells slots) (b : x ≤ 0 → G κ M n L (pc + 3) st cells slots) : G κ M n L pc (vi x :: st) cells slots := fun H locs ls hP hS hL => lv_if_gt C.x C.b hd ht (fun h => a ((iI_lt iR0 hx).mp h) H locs ls hP hS hL) (fun h => b (Int.not_lt.mp fun q => h ((iI_lt iR0 hx).mpr q)) H locs ls hP hS hL)
theorem g_if_le {off : Int} (tgt : Nat) (C : gF κ y cc nL rm) (hd : decode cc pc = .ok (.ifCond .le off, 3)) (ht : (pc : Int) + off = (tgt : Int)) (hx : iR x) (a : x ≤ 0 → G κ M n L tgt st cells slots) (b : 0 < x → G κ M n L (pc + 3) st cells slots) : G κ M n L pc (vi x :: st) cells slots := fun H locs ls hP hS hL => lv_if_le C.x C.b hd ht (fun h => a ((iI_le hx iR0).mp h) H locs ls hP hS hL) (fun h => b (Int.not_le.mp fun q => h ((iI_le hx iR0).mpr q)) H locs ls hP hS hL)
theorem g_ifnull {a : Int} {off : Int} (C : gF κ y cc nL rm) (hd : decode cc pc = .ok (.ifnull off, 3)) (g : G κ M n L (pc + 3) st cells slots) : G κ M n L pc (vr a :: st) cells slots := fun H locs ls hP hS hL => lv_ifnull C.x C.b hd (g H locs ls hP hS hL)
theorem g_ifnullN {off : Int} (tgt : Nat) (C : gF κ y cc nL rm) (hd : decode cc pc = .ok (.ifnull off, 3)) (ht : (pc : Int) + off = (tgt : Int)) (g : G κ M n L tgt st cells slots) : G κ M n L pc (vn :: st) cells slots := fun H locs ls hP hS hL => lv_ifnullN C.x C.b hd ht (g H locs ls hP hS hL)
theorem g_ifnonnull {a : Int} {off : Int} (tgt : Nat) (C : gF κ y cc nL rm) (hd : decode cc pc = .ok (.ifnonnull off, 3)) (ht : (pc : Int) + off = (tgt : Int)) (g : G κ M n L tgt st cells slots) : G κ M n L pc (vr a :: st) cells slots := fun H locs ls hP hS hL => lv_ifnonnull C.x C.b hd ht (g H locs ls hP hS hL)
theorem g_ifnonnullN {off : Int} (C : gF κ y cc nL rm) (hd : decode cc pc = .ok (.ifnonnull off, 3)) (g : G κ M n L (pc + 3) st cells slots) : G κ M n L pc (vn :: st) cells slots := fun H locs ls hP hS hL => lv_ifnonnullN C.x C.b hd (g H locs ls hP hS hL)
theorem lCmp_ok (hx : lR x) (hz : lR z) : lg_cmp (Int64.ofInt x) (Int64.ofInt z) = Int32.ofInt (lCmp x z) := by
  unfold lg_cmp lCmp
  by_cases h1 : x < z
  · have n1 : ¬ Int64.ofInt z < Int64.ofInt x := fun q => by have := (lI_lt hz hx).mp q; omega
    have n2 : ¬ Int64.ofInt x = Int64.ofInt z := fun q => by have := (lI_eq hx hz).mp q; omega
    rw [if_neg n1, if_neg n2, if_pos h1]
    rfl
  · rw [if_neg h1]
    by_cases h2 : x = z
    · subst h2
      have n1 : ¬ Int64.ofInt x < Int64.ofInt x := fun q => by have := (lI_lt hx hx).mp q; omega
      rw [if_neg n1, if_pos rfl, if_pos rfl]
      rfl
    · have n3 : Int64.ofInt z < Int64.ofInt x := (lI_lt hz hx).mpr (by omega)
      rw [if_pos n3, if_neg h2]
      rfl
theorem g_lcmp (C : gF κ y cc nL rm) (hd : decode cc pc = .ok (.lcmp, 1)) (hx : lR x) (hz : lR z) (g : G κ M n L (pc + 1) (vi (lCmp x z) :: st) cells slots) : G κ M n L pc (vl z :: vl x :: st) cells slots := fun H locs ls hP hS hL => W.lcmp C.x C.b hd (by have := g H locs ls hP hS hL; rwa [List.map_cons, show gv (kX κ) (vi (lCmp x z)) = .int (lg_cmp (Int64.ofInt x) (Int64.ofInt z)) from congrArg Value.int (lCmp_ok hx hz).symm] at this)
theorem g_tswI {dflt lo hi : Int} {offs : Array Int} {len : Nat} {off : Int} (tgt : Nat) (C : gF κ y cc nL rm) (hd : decode cc pc = .ok (.tableswitch dflt lo hi offs, len)) (hx : iR x) (h1 : lo ≤ x) (h2 : x ≤ hi) (ho : offs[(x - lo).toNat]? = some off) (ht : (pc : Int) + off = (tgt : Int)) (g : G κ M n L tgt st cells slots) : G κ M n L pc (vi x :: st) cells slots := fun H locs ls hP hS hL => lv_tableIn C.x C.b hd (by rw [iI_toInt hx]; omega) (by rw [iI_toInt hx]; omega) (by rw [iI_toInt hx]; exact ho) ht (g H locs ls hP hS hL)
theorem g_tswO {dflt lo hi : Int} {offs : Array Int} {len : Nat} (tgt : Nat) (C : gF κ y cc nL rm) (hd : decode cc pc = .ok (.tableswitch dflt lo hi offs, len)) (hx : iR x) (h : x < lo ∨ hi < x) (ht : (pc : Int) + dflt = (tgt : Int)) (g : G κ M n L tgt st cells slots) : G κ M n L pc (vi x :: st) cells slots := fun H locs ls hP hS hL => lv_tableOut C.x C.b hd (by rw [iI_toInt hx]; exact h) ht (g H locs ls hP hS hL)
theorem g_lsw {dflt : Int} {ps : Array (Int × Int)} {len : Nat} {off : Int} (tgt : Nat) (C : gF κ y cc nL rm) (hd : decode cc pc = .ok (.lookupswitch dflt ps, len)) (hp : (ps.toList.zip (ps.toList.drop 1)).all (fun (a, next) => a.1 < next.1) = true) (hx : iR x) (ho : Op.lookupswitch.offset ps.toList dflt x = off) (ht : (pc : Int) + off = (tgt : Int)) (g : G κ M n L tgt st cells slots) : G κ M n L pc (vi x :: st) cells slots := fun H locs ls hP hS hL => lv_lookup C.x C.b hd hp (by rw [iI_toInt hx]; exact ho) ht (g H locs ls hP hS hL)
end GA
end
section
/-! FIELDS, ARRAYS, NEW CELLS -/
theorem ix_cl {x : Int} (h : 0 ≤ x ∧ x < 2147483648) : (Int32.ofInt x).toNatClampNeg = x.toNat := by
  show (Int32.ofInt x).toInt.toNat = x.toNat
  rw [iI_toInt ⟨by omega, h.2⟩]
theorem ix_in {x n : Int} (h : 0 ≤ x ∧ x < n) (hn : n ≤ 2147483648) : vp_in (Int32.ofInt x) n.toNat := by
  rw [vp_in_iff, iI_toInt ⟨by omega, by omega⟩]
  omega
theorem up_ok (f : Int → Int) {x v : Int} (hx : 0 ≤ x) : upd (fun k : Nat => Int32.ofInt (f k)) x.toNat (Int32.ofInt v) = (fun k : Nat => Int32.ofInt (up f x v k)) := by
  funext k
  by_cases h : (k : Int) = x
  · have h2 : k = x.toNat := by omega
    show (if k = x.toNat then Int32.ofInt v else _) = Int32.ofInt (if (k : Int) = x then v else _)
    rw [if_pos h2, if_pos h]
  · have h2 : ¬ k = x.toNat := by omega
    simp [upd, up, h, h2]
theorem upq_ok (X : gX) (f : Int → Option Int) {x : Int} {a : Int} (hx : 0 ≤ x) : va_up (fun k : Nat => (f k).map (gr X)) x.toNat (some (gr X a)) = (fun k : Nat => (upq f x (some a) k).map (gr X)) := by
  funext k
  by_cases h : (k : Int) = x
  · have h2 : k = x.toNat := by omega
    show (if k = x.toNat then some (gr X a) else _) = Option.map (gr X) (if (k : Int) = x then some a else _)
    rw [if_pos h2, if_pos h]
    rfl
  · have h2 : ¬ k = x.toNat := by omega
    simp [va_up, upq, h, h2]
def gFd (own : String) (ix ci k : Nat) : Prop := ∃ (C : String) (T : u_T) (N : Nat) (ref : String), vwCl[ci]? = some (C, T, N) ∧ k < N ∧ (∀ w ∈ u_ws C T N, w ∈ TB) ∧ Cond.fieldLink own ix ref (T k).2.1 (T k).2.2.1 ∈ TB ∧ (ref = (T k).1 ∨ Cond.sameField ref (T k).1 (T k).2.1 (T k).2.2.1 ∈ TB)
def gFdN (own : String) (ix ci k : Nat) : Prop := ∃ (C : String) (T : u_T) (N : Nat) (ref host : String), vwCl[ci]? = some (C, T, N) ∧ k < N ∧ (∀ w ∈ u_ws C T N, w ∈ TB) ∧ Cond.fieldLinkNest own ix ref (T k).2.1 (T k).2.2.1 host ∈ NB ∧ (ref = (T k).1 ∨ Cond.sameField ref (T k).1 (T k).2.1 (T k).2.2.1 ∈ TB)
def gFp (own : String) (ix ci k : Nat) (ty : FieldType) (fin : Bool) : Prop := ∃ (C : String) (T : u_T) (N : Nat) (ref : String) (ty0 : Nat → FieldType), vwCl[ci]? = some (C, T, N) ∧ k < N ∧ (∀ w ∈ u_ws C T N, w ∈ TB) ∧ Cond.fieldLink own ix ref (T k).2.1 (T k).2.2.1 ∈ TB ∧ (ref = (T k).1 ∨ Cond.sameField ref (T k).1 (T k).2.1 (T k).2.2.1 ∈ TB) ∧ (∀ j, j < N → parseFieldDescriptor (T j).2.2.1 = some (ty0 j)) ∧ (∀ a, a < N → ∀ b, b < N → a ≠ b → (T a).2.1 ≠ (T b).2.1) ∧ (T k).2.2.2 = fin ∧ parseFieldDescriptor (T k).2.2.1 = some ty ∧ (fin = true → (T k).1 = own)
def gFpN (own : String) (ix ci k : Nat) (ty : FieldType) : Prop := ∃ (C : String) (T : u_T) (N : Nat) (ref host : String) (ty0 : Nat → FieldType), vwCl[ci]? = some (C, T, N) ∧ k < N ∧ (∀ w ∈ u_ws C T N, w ∈ TB) ∧ Cond.fieldLinkNest own ix ref (T k).2.1 (T k).2.2.1 host ∈ NB ∧ (ref = (T k).1 ∨ Cond.sameField ref (T k).1 (T k).2.1 (T k).2.2.1 ∈ TB) ∧ (∀ j, j < N → parseFieldDescriptor (T j).2.2.1 = some (ty0 j)) ∧ (∀ a, a < N → ∀ b, b < N → a ≠ b → (T a).2.1 ≠ (T b).2.1) ∧ (T k).2.2.2 = false ∧ parseFieldDescriptor (T k).2.2.1 = some ty
def gfit (ty : FieldType) (v : gV) : Prop := ∀ X : gX, narrow ty (gv X v) = gv X v ∧ fits ty (gv X v) = true
theorem gfit_i (x : Int) : gfit .int (vi x) := fun _ => ⟨rfl, rfl⟩
theorem gfit_z {x : Int} (h : x = 0 ∨ x = 1) : gfit .boolean (vi x) := fun X => by
  show narrow .boolean (.int (Int32.ofInt x)) = .int (Int32.ofInt x) ∧ fits .boolean (.int (Int32.ofInt x)) = true
  rcases h with rfl | rfl <;> exact ⟨by decide, by decide⟩
theorem gfit_o (C : String) (a : Option Int) : gfit (.object C) (.inr (.inr a)) := fun _ => by cases a <;> exact ⟨rfl, rfl⟩
theorem gfit_a (t : FieldType) (a : Option Int) : gfit (.array t) (.inr (.inr a)) := fun _ => by cases a <;> exact ⟨rfl, rfl⟩
theorem g_hsame {s : State} {args : Array Value} (hts : ∀ w ∈ TB, w.before args s = true) {ref D nm d : String} (h : ref = D ∨ Cond.sameField ref D nm d ∈ TB) : ∀ x, s.fieldFound? D nm d = some x → s.fieldFound? ref nm d = some x := by
  rcases h with h | h
  · intro x hx; rw [h]; exact hx
  · intro x hx; exact u_same (hts _ h) x hx
theorem gF.nb {κ : gC} {y : MethodName} {cc : ByteArray} {nL : Nat} {rm : Room} (C : gF κ y cc nL rm) {w : Cond} (h : w ∈ NB) : w.before (ka κ) (ks κ) = true := va_Nw.use (NB_tab h) (C.S.2.2.2.2.2.2.2.1 w h)
section GH
variable {κ : gC} {y : MethodName} {cc : ByteArray} {nL : Nat} {rm : Room} {M : gM} {n : Int} {L : List (Option gV)} {pc : Nat} {st : List gV} {cells slots : Nat} {a : Int}
theorem g_get {ix ci k : Nat} {fs : List gV} {v : gV} (C : gF κ y cc nL rm) (hF : gFd y.cls ix ci k) (hd : decode cc pc = .ok (.getfield ix, 3)) (hM : M a = some (gO ci fs)) (hv : fs[k]? = some v) (g : G κ M n L (pc + 3) (v :: st) cells slots) : G κ M n L pc (vr a :: st) cells slots := by
  intro H locs ls hP hS hL
  obtain ⟨Cn, T, N, ref, h1, h2, h3, h4, h5⟩ := hF
  exact va_get C.x C.b C.ts h3 C.own C.S.1 (gP_at hP hM) 0 rfl h1 k h2 (C.ts _ h4) (g_hsame C.ts h5) (v := gv (kX κ) v) (by rw [List.getElem?_map, hv]; rfl) hd (g H locs ls hP hS hL)
theorem g_getN {ix ci k : Nat} {fs : List gV} {v : gV} (C : gF κ y cc nL rm) (hF : gFdN y.cls ix ci k) (hd : decode cc pc = .ok (.getfield ix, 3)) (hM : M a = some (gO ci fs)) (hv : fs[k]? = some v) (g : G κ M n L (pc + 3) (v :: st) cells slots) : G κ M n L pc (vr a :: st) cells slots := by
  intro H locs ls hP hS hL
  obtain ⟨Cn, T, N, ref, host, h1, h2, h3, h4, h5⟩ := hF
  exact va_getN C.x C.b C.ts h3 C.own C.S.1 (gP_at hP hM) 0 rfl h1 k h2 (C.nb h4) (g_hsame C.ts h5) (v := gv (kX κ) v) (by rw [List.getElem?_map, hv]; rfl) hd (g H locs ls hP hS hL)
theorem gP_B {X : gX} {H : Heap} {e : gE} (hP : gP X M n H) (hM : M a = some e) : gB X (gr X a) := by
  show X.2.2.1 ≤ gr X a
  rw [gr_nn X (hP.2.2 a e hM).1]
  omega
theorem g_put {ix ci k : Nat} {ty : FieldType} {fs : List gV} {v : gV} (C : gF κ y cc nL rm) (hF : gFp y.cls ix ci k ty false) (hd : decode cc pc = .ok (.putfield ix, 3)) (hM : M a = some (gO ci fs)) (hl : k < fs.length) (hv : gfit ty v) (g : G κ (gu M a (gO ci (fs.set k v))) n L (pc + 3) st cells slots) : G κ M n L pc (v :: vr a :: st) cells slots := by
  intro H locs ls hP hS0 hL
  obtain ⟨Cn, T, N, ref, ty0, hc, hk, hin, hlink, hsame, hty, hnm, hfin, hdd, -⟩ := hF
  have hK := C.S.1
  have hap := va_apart (own := y.cls) C.ts hin ty0 hty hnm hK hc
  obtain ⟨r, h1, cell, q1, q2, q3, q4⟩ := (hP.2.2 a _ hM).2.2
  have hr : r = (Cn, T, N) := Option.some.inj (h1.symm.trans hc)
  subst hr
  obtain ⟨hS, hfc, kC, hkC, hkind⟩ := hK.1 ci _ hc
  obtain ⟨cf, kf, fi, f, hi, hsl⟩ := hS k hk
  have hlay := C.ts _ (hin _ (u_in_lay hk))
  unfold u_lay at hlay
  rw [if_neg (by rw [hfin]; decide)] at hlay
  have hst := (u_facts hfc hkC (u_lays C.ts hin hk) hi).1
  have h6 := u_store hfc hkC hkind hlay hi hdd (hv (kX κ)).1 (hv (kX κ)).2
  refine W.putK C.x C.b (f := f) ⟨C.own, C.ts _ hlink, ⟨_, _, _, g_hsame C.ts hsame _ hi⟩, hst⟩ (by rw [q2]; exact h6) q1 q3 (by rw [hsl]; exact k2_hasslot (q4 k hk)) rfl rfl hd fun H' e1 e2 e3 => ?_
  rw [hsl] at e1 ⊢
  refine g H' _ ls (gP_put hP (hP.2.2 a _ hM).1 (hP.2.2 a _ hM).2.1 e2 e3 ⟨_, hc, t_OB.to (V := updV (vp_V (fs.map (gv (kX κ)))) k (gv (kX κ) v)) ⟨_, e1, q2, q3, t_set q4 hap hk _⟩ (fun j _ => ?_)⟩) (hS0.put e2 e3 (gP_B hP hM)) hL
  rw [List.map_set]
  exact vp_updV_set (by rw [List.length_map]; exact hl) _ j
theorem g_putF {ix ci k : Nat} {ty : FieldType} {fs : List gV} {v : gV} (C : gF κ y cc nL rm) (hinit : y.name = "<init>") (hF : gFp y.cls ix ci k ty true) (hd : decode cc pc = .ok (.putfield ix, 3)) (hM : M a = some (gO ci fs)) (hl : k < fs.length) (hv : gfit ty v) (g : G κ (gu M a (gO ci (fs.set k v))) n L (pc + 3) st cells slots) : G κ M n L pc (v :: vr a :: st) cells slots := by
  intro H locs ls hP hS0 hL
  obtain ⟨Cn, T, N, ref, ty0, hc, hk, hin, hlink, hsame, hty, hnm, hfin, hdd, hdecl⟩ := hF
  have hdecl := hdecl rfl
  have hK := C.S.1
  have hap := va_apart (own := y.cls) C.ts hin ty0 hty hnm hK hc
  obtain ⟨r, h1, cell, q1, q2, q3, q4⟩ := (hP.2.2 a _ hM).2.2
  have hr : r = (Cn, T, N) := Option.some.inj (h1.symm.trans hc)
  subst hr
  obtain ⟨hS, hfc, kC, hkC, hkind⟩ := hK.1 ci _ hc
  obtain ⟨cf, kf, fi, f, hi, hsl⟩ := hS k hk
  have hlay := C.ts _ (hin _ (u_in_lay hk))
  unfold u_lay at hlay
  rw [if_pos hfin] at hlay
  have hst := (u_facts hfc hkC (u_lays C.ts hin hk) hi).1
  have hcf : (km κ).cls = cf := by
    obtain ⟨_, _, c', _, _, _, -, -, hf', -, -, -, hown2, -⟩ := Cond.laysFinal_spec hlay
    have e1 : c' = cf := by have := hi.symm.trans hf'; simp at this; exact this.1.symm
    rw [hdecl] at hown2
    rw [← e1]; exact Option.some.inj (C.own.symm.trans hown2)
  have h6 := u_fits hfc hkC hkind (Or.inr hlay) hi hdd (hv (kX κ)).1 (hv (kX κ)).2
  refine W.putFinK C.x C.b C.own (C.ts _ hlink) (g_hsame C.ts hsame _ hi) hst hcf (C.nm.trans hinit) (by rw [q2]; exact h6) q1 q3 (by rw [hsl]; exact k2_hasslot (q4 k hk)) rfl rfl hd fun H' e1 e2 e3 => ?_
  rw [hsl] at e1 ⊢
  refine g H' _ ls (gP_put hP (hP.2.2 a _ hM).1 (hP.2.2 a _ hM).2.1 e2 e3 ⟨_, hc, t_OB.to (V := updV (vp_V (fs.map (gv (kX κ)))) k (gv (kX κ) v)) ⟨_, e1, q2, q3, t_set q4 hap hk _⟩ (fun j _ => ?_)⟩) (hS0.put e2 e3 (gP_B hP hM)) hL
  rw [List.map_set]
  exact vp_updV_set (by rw [List.length_map]; exact hl) _ j
theorem g_putN {ix ci k : Nat} {ty : FieldType} {fs : List gV} {v : gV} (C : gF κ y cc nL rm) (hF : gFpN y.cls ix ci k ty) (hd : decode cc pc = .ok (.putfield ix, 3)) (hM : M a = some (gO ci fs)) (hl : k < fs.length) (hv : gfit ty v) (g : G κ (gu M a (gO ci (fs.set k v))) n L (pc + 3) st cells slots) : G κ M n L pc (v :: vr a :: st) cells slots := by
  intro H locs ls hP hS0 hL
  obtain ⟨Cn, T, N, ref, host, ty0, hc, hk, hin, hlink, hsame, hty, hnm, hfin, hdd⟩ := hF
  have hK := C.S.1
  have hap := va_apart (own := y.cls) C.ts hin ty0 hty hnm hK hc
  obtain ⟨r, h1, cell, q1, q2, q3, q4⟩ := (hP.2.2 a _ hM).2.2
  have hr : r = (Cn, T, N) := Option.some.inj (h1.symm.trans hc)
  subst hr
  obtain ⟨hS, hfc, kC, hkC, hkind⟩ := hK.1 ci _ hc
  obtain ⟨cf, kf, fi, f, hi, hsl⟩ := hS k hk
  have hlay := C.ts _ (hin _ (u_in_lay hk))
  unfold u_lay at hlay
  rw [if_neg (by rw [hfin]; decide)] at hlay
  have hst := (u_facts hfc hkC (u_lays C.ts hin hk) hi).1
  have h6 := u_store hfc hkC hkind hlay hi hdd (hv (kX κ)).1 (hv (kX κ)).2
  refine va_WputK C.x C.b (f := f) C.own (C.nb hlink) (g_hsame C.ts hsame _ hi) hst (by rw [q2]; exact h6) q1 q3 (by rw [hsl]; exact k2_hasslot (q4 k hk)) rfl rfl hd fun H' e1 e2 e3 => ?_
  rw [hsl] at e1 ⊢
  refine g H' _ ls (gP_put hP (hP.2.2 a _ hM).1 (hP.2.2 a _ hM).2.1 e2 e3 ⟨_, hc, t_OB.to (V := updV (vp_V (fs.map (gv (kX κ)))) k (gv (kX κ) v)) ⟨_, e1, q2, q3, t_set q4 hap hk _⟩ (fun j _ => ?_)⟩) (hS0.put e2 e3 (gP_B hP hM)) hL
  rw [List.map_set]
  exact vp_updV_set (by rw [List.length_map]; exact hl) _ j
-- arrays
theorem g_iald {len x : Int} {f : Int → Int} (C : gF κ y cc nL rm) (hd : decode cc pc = .ok (.iaload, 1)) (hM : M a = some (gA 0 len f)) (h : 0 ≤ x ∧ x < len ∧ len ≤ 2147483648) (g : G κ M n L (pc + 1) (vi (f x) :: st) cells slots) : G κ M n L pc (vi x :: vr a :: st) cells slots := by
  intro H locs ls hP hS hL
  have g1 := g H locs ls hP hS hL
  refine va_iald C.x C.b C.S.1 (gP_at hP hM) 0 0 rfl rfl (ix_in ⟨h.1, h.2.1⟩ h.2.2) hd ?_
  rw [ix_cl ⟨h.1, by omega⟩, show ((x.toNat : Nat) : Int) = x by omega]
  exact g1
theorem g_zald {len x : Int} {f : Int → Int} (C : gF κ y cc nL rm) (hd : decode cc pc = .ok (.baload, 1)) (hM : M a = some (gA 1 len f)) (h : 0 ≤ x ∧ x < len ∧ len ≤ 2147483648) (g : G κ M n L (pc + 1) (vi (f x) :: st) cells slots) : G κ M n L pc (vi x :: vr a :: st) cells slots := by
  intro H locs ls hP hS hL
  have g1 := g H locs ls hP hS hL
  refine va_zald C.x C.b C.S.1 (gP_at hP hM) 0 1 rfl rfl (ix_in ⟨h.1, h.2.1⟩ h.2.2) hd ?_
  rw [ix_cl ⟨h.1, by omega⟩, show ((x.toNat : Nat) : Int) = x by omega]
  exact g1
theorem g_iast {len x v : Int} {f : Int → Int} (C : gF κ y cc nL rm) (hd : decode cc pc = .ok (.iastore, 1)) (hM : M a = some (gA 0 len f)) (h : 0 ≤ x ∧ x < len ∧ len ≤ 2147483648) (g : G κ (gu M a (gA 0 len (up f x v))) n L (pc + 1) st cells slots) : G κ M n L pc (vi v :: vi x :: vr a :: st) cells slots := by
  intro H locs ls hP hS hL
  have hK := C.S.1
  refine W.iast C.x C.b ((hP.2.2 a _ hM).2.2) ((hK.2 0 _ rfl).1 len.toNat (fun j => .int (Int32.ofInt (f j)))) (fun q => by cases q) (by show ¬ (_ ∨ (arrV _ _ _).slots.size ≤ _); rw [arrV_size]; exact ix_in ⟨h.1, h.2.1⟩ h.2.2) rfl rfl hd fun H1 e z oq => ?_
  refine g H1 _ ls (gP_put hP (hP.2.2 a _ hM).1 (hP.2.2 a _ hM).2.1 z oq ?_) (hS.put z oq (gP_B hP hM)) hL
  show H1[gr (kX κ) a]? = some (vp_cell _ _)
  rw [e, ← up_ok f h.1]
  show some ((vp_cell _ _).setSlot _ _) = some (vp_cell _ _)
  rw [vp_cell_i, vp_cell_i, arrV_store, ix_cl ⟨h.1, by omega⟩]
  congr 2
  funext q
  by_cases hq : q = x.toNat
  · subst hq
    simp [updV, upd]
  · simp [updV, upd, hq]
theorem g_zast {len x v : Int} {f : Int → Int} (C : gF κ y cc nL rm) (hd : decode cc pc = .ok (.bastore, 1)) (hM : M a = some (gA 1 len f)) (h : 0 ≤ x ∧ x < len ∧ len ≤ 2147483648) (hv : v = 0 ∨ v = 1) (g : G κ (gu M a (gA 1 len (up f x v))) n L (pc + 1) st cells slots) : G κ M n L pc (vi v :: vi x :: vr a :: st) cells slots := by
  intro H locs ls hP hS hL
  have hK := C.S.1
  have hn : narrow .boolean (.int (Int32.ofInt v)) = .int (Int32.ofInt v) := by rcases hv with rfl | rfl <;> decide
  refine W.zast C.x C.b ((hP.2.2 a _ hM).2.2) ((hK.2 1 _ rfl).1 len.toNat (fun j => .int (Int32.ofInt (f j)))) (fun q => by cases q) (by show ¬ (_ ∨ (arrV _ _ _).slots.size ≤ _); rw [arrV_size]; exact ix_in ⟨h.1, h.2.1⟩ h.2.2) rfl rfl hd fun H1 e z oq => ?_
  rw [hn] at e
  refine g H1 _ ls (gP_put hP (hP.2.2 a _ hM).1 (hP.2.2 a _ hM).2.1 z oq ?_) (hS.put z oq (gP_B hP hM)) hL
  show H1[gr (kX κ) a]? = some (vp_cell _ _)
  rw [e, ← up_ok f h.1]
  show some ((vp_cell _ _).setSlot _ _) = some (vp_cell _ _)
  rw [vp_cell_i, vp_cell_i, arrV_store, ix_cl ⟨h.1, by omega⟩]
  congr 2
  funext q
  by_cases hq : q = x.toNat
  · subst hq
    simp [updV, upd]
  · simp [updV, upd, hq]
theorem va_rf_gv (X : gX) (o : Option Int) : va_rf (o.map (gr X)) = gv X (.inr (.inr o)) := by cases o <;> rfl
theorem gtys_obj (X : gX) {t : Nat} (h : 2 ≤ t ∧ t ≤ 5) : ∃ C, (gtys X)[t]? = some (X.2.1 t, .object C) := by
  rcases (show t = 2 ∨ t = 3 ∨ t = 4 ∨ t = 5 by omega) with rfl | rfl | rfl | rfl <;> exact ⟨_, rfl⟩
theorem g_aald {t : Nat} {len x : Int} {f : Int → Option Int} (C : gF κ y cc nL rm) (ht : 2 ≤ t ∧ t ≤ 5) (hd : decode cc pc = .ok (.aaload, 1)) (hM : M a = some (gR t len f)) (h : 0 ≤ x ∧ x < len ∧ len ≤ 2147483648) (g : G κ M n L (pc + 1) (.inr (.inr (f x)) :: st) cells slots) : G κ M n L pc (vi x :: vr a :: st) cells slots := by
  intro H locs ls hP hS hL
  have g1 := g H locs ls hP hS hL
  obtain ⟨Cn, hC⟩ := gtys_obj (kX κ) ht
  refine va_aldq C.x C.b C.S.1 (gP_at hP hM) 0 t rfl hC (ix_in ⟨h.1, h.2.1⟩ h.2.2) hd ?_
  rw [ix_cl ⟨h.1, by omega⟩, show ((x.toNat : Nat) : Int) = x by omega, va_rf_gv]
  exact g1
theorem g_alen {t : Nat} {len : Int} {f : Int → Int} (C : gF κ y cc nL rm) (ht : t ≤ 1) (hd : decode cc pc = .ok (.arraylength, 1)) (hM : M a = some (gA t len f)) (h : 0 ≤ len) (g : G κ M n L (pc + 1) (vi len :: st) cells slots) : G κ M n L pc (vr a :: st) cells slots := by
  intro H locs ls hP hS hL
  have hC : ∃ ty, (gtys (kX κ))[t]? = some ((kX κ).2.1 t, ty) := by rcases (show t = 0 ∨ t = 1 by omega) with rfl | rfl <;> exact ⟨_, rfl⟩
  obtain ⟨ty, hC⟩ := hC
  refine va_alen C.x C.b C.S.1 (gP_at hP hM) 0 t rfl hC (v := Int32.ofInt len) ?_ hd (g H locs ls hP hS hL)
  show Int32.ofNat len.toNat = Int32.ofInt len
  rw [← Int32.ofInt_eq_ofNat]
  congr 1
  omega
theorem g_alenR {t : Nat} {len : Int} {f : Int → Option Int} (C : gF κ y cc nL rm) (ht : 2 ≤ t ∧ t ≤ 5) (hd : decode cc pc = .ok (.arraylength, 1)) (hM : M a = some (gR t len f)) (h : 0 ≤ len) (g : G κ M n L (pc + 1) (vi len :: st) cells slots) : G κ M n L pc (vr a :: st) cells slots := by
  intro H locs ls hP hS hL
  obtain ⟨ty, hC⟩ := gtys_obj (kX κ) ht
  refine va_alen C.x C.b C.S.1 (gP_at hP hM) 0 t rfl hC (v := Int32.ofInt len) ?_ hd (g H locs ls hP hS hL)
  show Int32.ofNat len.toNat = Int32.ofInt len
  rw [← Int32.ofInt_eq_ofNat]
  congr 1
  omega
/-- ArrayList's empty array has length 0 -/
theorem g_alenD (C : gF κ y cc nL rm) (hd : decode cc pc = .ok (.arraylength, 1)) (g : G κ M n L (pc + 1) (vi 0 :: st) cells slots) : G κ M n L pc (vr (-1) :: st) cells slots := by
  intro H locs ls hP hS hL
  exact va_tlen C.x C.b C.S.2.2.1 hS (v := 0) rfl hd (g H locs ls hP hS hL)
theorem g_getsD {ix : Nat} (C : gF κ y cc nL rm) (hw : Cond.fieldLink y.cls ix "java/util/ArrayList" "DEFAULTCAPACITY_EMPTY_ELEMENTDATA" "[Ljava/lang/Object;" ∈ TB) (hd : decode cc pc = .ok (.getstatic ix, 3)) (g : G κ M n L (pc + 3) (vr (-1) :: st) cells slots) : G κ M n L pc st cells slots := by
  intro H locs ls hP hS hL
  exact va_gets C.x C.b C.S.2.1 hS C.own (C.ts _ hw) (fun _ h => h) hd (g H locs ls hP hS hL)
theorem g_getsW {ix : Nat} (C : gF κ y cc nL rm) (hw : Cond.fieldLink y.cls ix "PadPolish" "WORDS" "[I" ∈ TB) (hd : decode cc pc = .ok (.getstatic ix, 3)) (g : G κ M n L (pc + 3) (vr (-2) :: st) cells slots) : G κ M n L pc st cells slots := by
  intro H locs ls hP hS hL
  exact va_gets C.x C.b C.S.2.2.2.1 hS C.own (C.ts _ hw) (fun _ h => h) hd (g H locs ls hP hS hL)
theorem g_ialdW {x : Int} (C : gF κ y cc nL rm) (hd : decode cc pc = .ok (.iaload, 1)) (h : 0 ≤ x ∧ x < 5) (g : G κ M n L (pc + 1) (vi (gWd x) :: st) cells slots) : G κ M n L pc (vi x :: vr (-2) :: st) cells slots := by
  intro H locs ls hP hS hL
  refine va_ti C.x C.b C.S.2.2.2.2.1 hS (ix_in (n := 5) ⟨h.1, h.2⟩ (by decide)) (v := .int (Int32.ofInt (gWd x))) ?_ hd (g H locs ls hP hS hL)
  show Value.int (Int32.ofInt (gWd _)) = _
  rw [ix_cl ⟨h.1, by omega⟩, show ((x.toNat : Nat) : Int) = x by omega]
end GH
end
section
/-! NEW CELLS, CALLS, CASTS -/
def gNw (own : String) (ix ci N : Nat) (fs : List gV) : Prop := ∃ (C : String) (T : u_T) (ty : Nat → FieldType), vwCl[ci]? = some (C, T, N) ∧ (∀ w ∈ u_ws C T N, w ∈ TB) ∧ (∀ j, j < N → parseFieldDescriptor (T j).2.2.1 = some (ty j)) ∧ Cond.classLink own ix C ∈ TB ∧ Cond.instantiable C N ∈ TB ∧ Cond.initialized C ∈ TB ∧ ∀ (X : gX) (j : Nat), j < N → defaultValue (ty j) = vp_V (fs.map (gv X)) j
def cpy (f g : Int → Int) (sp dp n : Int) : Int → Int := fun k => if dp ≤ k ∧ k < dp + n then f (sp + (k - dp)) else g k
theorem cpy_ok (f g : Int → Int) {sp dp n : Int} (h1 : 0 ≤ sp) (h2 : 0 ≤ dp) (h3 : 0 ≤ n) : va_cpy (fun k : Nat => Int32.ofInt (f k)) (fun k : Nat => Int32.ofInt (g k)) sp.toNat dp.toNat n.toNat = (fun k : Nat => Int32.ofInt (cpy f g sp dp n k)) := by
  funext k
  unfold va_cpy cpy
  by_cases h : dp.toNat ≤ k ∧ k < dp.toNat + n.toNat
  · rw [if_pos h, if_pos (by omega)]
    exact congrArg (fun z => Int32.ofInt (f z)) (by omega)
  · rw [if_neg h, if_neg (by omega)]
def gcat : gV → Nat
  | .inr (.inl _) => 2
  | _ => 1
def gsum : List gV → Nat
  | [] => 0
  | v :: t => gcat v + gsum t
theorem gcat_ok (X : gX) (v : gV) : (gv X v).category = gcat v := by
  rcases v with q | q | q
  · rfl
  · rfl
  · cases q <;> rfl
theorem gsum_ok (X : gX) : ∀ st : List gV, ((st.map (gv X)).map fun v => v.category).sum = gsum st
  | [] => rfl
  | v :: t => by
    rw [List.map_cons, List.map_cons, List.sum_cons, gcat_ok, gsum_ok X t]
    rfl
section GN
variable {κ : gC} {y : MethodName} {cc : ByteArray} {nL : Nat} {rm : Room} {M : gM} {n : Int} {L : List (Option gV)} {pc : Nat} {st : List gV} {cells slots : Nat} {a : Int}
theorem gP_hn {X : gX} {H : Heap} (hP : gP X M n H) : gr X n = H.size := by rw [gr_nn X hP.1, hP.2.1]
theorem g_new {ix ci N : Nat} {fs : List gV} (C : gF κ y cc nL rm) (hF : gNw y.cls ix ci N fs) (hd : decode cc pc = .ok (.new ix, 3)) (hr : cells + 1 ≤ rm.cells ∧ slots + N ≤ rm.slots) (g : G κ (gu M n (gO ci fs)) (n + 1) L (pc + 3) (vr n :: st) (cells + 1) (slots + N)) : G κ M n L pc st cells slots := by
  intro H locs ls hP hS hL
  obtain ⟨Cn, T, ty, hc, hin, hty, w1, w2, w3, hfs⟩ := hF
  have hKn := C.S.1.1 ci _ hc
  refine W.newcK C.x C.b C.own (C.ts _ w1) (C.ts _ w2) (C.ts _ w3) rfl hd (by rw [C.R]; exact hr.1) (by rw [C.R]; exact hr.2) hKn.2.1 rfl fun H1 kC hkC e1 z1 o1 => ?_
  rw [← gP_hn hP]
  refine g H1 locs ls (gP_new hP z1 o1 ⟨_, hc, (u_born ty C.ts hin hKn hkC e1 hty).to (hfs (kX κ))⟩) ⟨Nat.le_trans hS.1 (by omega), fun x h1 h2 => (o1 x (Nat.lt_of_lt_of_le h1 hS.1)).trans (hS.2.1 x h1 h2), hS.2.2⟩ hL
theorem g_newI {len : Int} (C : gF κ y cc nL rm) (hw : Cond.arrayClass .int ∈ TB) (hd : decode cc pc = .ok (.newarray ArrayType.int, 2)) (h : 0 ≤ len ∧ len ≤ 100000) (hr : cells + 1 ≤ rm.cells ∧ slots + len.toNat ≤ rm.slots) (g : G κ (gu M n (gA 0 len (fun _ => 0))) (n + 1) L (pc + 2) (vr n :: st) (cells + 1) (slots + len.toNat)) : G κ M n L pc (vi len :: st) cells slots := by
  intro H locs ls hP hS hL
  refine va_newaK (atype := ArrayType.int) C.x C.b (C.ts _ hw) rfl hd rfl (fun q => by have := (iI_lt (x := len) (z := 0) ⟨by omega, by omega⟩ iR0).mp q; omega) (ix_cl ⟨h.1, by omega⟩) (by show _ * 4 ≤ _; omega) (by rw [C.R]; exact hr.1) (by rw [C.R]; exact hr.2) rfl fun H1 cA e1 z1 o1 hAr hNm => ?_
  have hcA : (kX κ).2.1 0 = cA := Option.some.inj (((C.S.1.2 0 _ rfl).2).symm.trans hNm)
  subst hcA
  rw [← gP_hn hP]
  refine g H1 locs ls (gP_new hP z1 o1 ?_) ⟨Nat.le_trans hS.1 (by omega), fun x h1 h2 => (o1 x (Nat.lt_of_lt_of_le h1 hS.1)).trans (hS.2.1 x h1 h2), hS.2.2⟩ hL
  show H1[H.size]? = some (vp_cell _ _)
  rw [vp_cell_i]
  exact e1
theorem g_newZ {len : Int} (C : gF κ y cc nL rm) (hw : Cond.arrayClass .boolean ∈ TB) (hd : decode cc pc = .ok (.newarray .boolean, 2)) (h : 0 ≤ len ∧ len ≤ 100000) (hr : cells + 1 ≤ rm.cells ∧ slots + len.toNat ≤ rm.slots) (g : G κ (gu M n (gA 1 len (fun _ => 0))) (n + 1) L (pc + 2) (vr n :: st) (cells + 1) (slots + len.toNat)) : G κ M n L pc (vi len :: st) cells slots := by
  intro H locs ls hP hS hL
  refine va_newaK (atype := ArrayType.boolean) C.x C.b (C.ts _ hw) rfl hd rfl (fun q => by have := (iI_lt (x := len) (z := 0) ⟨by omega, by omega⟩ iR0).mp q; omega) (ix_cl ⟨h.1, by omega⟩) (by show _ * 1 ≤ _; omega) (by rw [C.R]; exact hr.1) (by rw [C.R]; exact hr.2) rfl fun H1 cA e1 z1 o1 hAr hNm => ?_
  have hcA : (kX κ).2.1 1 = cA := Option.some.inj (((C.S.1.2 1 _ rfl).2).symm.trans hNm)
  subst hcA
  rw [← gP_hn hP]
  refine g H1 locs ls (gP_new hP z1 o1 ?_) ⟨Nat.le_trans hS.1 (by omega), fun x h1 h2 => (o1 x (Nat.lt_of_lt_of_le h1 hS.1)).trans (hS.2.1 x h1 h2), hS.2.2⟩ hL
  show H1[H.size]? = some (vp_cell _ _)
  rw [vp_cell_i]
  exact e1
def gobj (t : Nat) : String := if t = 2 then "PadPolish$Row" else if t = 3 then "PadPolish$Surface" else if t = 4 then "PadPolish$Table" else "java/lang/Object"
theorem gtys_at (X : gX) {t : Nat} (h : 2 ≤ t ∧ t ≤ 5) : (gtys X)[t]? = some (X.2.1 t, .object (gobj t)) ∧ gobj t ∈ gao := by
  rcases (show t = 2 ∨ t = 3 ∨ t = 4 ∨ t = 5 by omega) with rfl | rfl | rfl | rfl <;> exact ⟨rfl, by decide⟩
theorem g_newR {ix t : Nat} {len : Int} (C : gF κ y cc nL rm) (ht : 2 ≤ t ∧ t ≤ 5) (hw : Cond.classLink y.cls ix (gobj t) ∈ TB) (hd : decode cc pc = .ok (.anewarray ix, 3)) (h : 0 ≤ len ∧ len ≤ 100000) (hr : cells + 1 ≤ rm.cells ∧ slots + len.toNat ≤ rm.slots) (g : G κ (gu M n (gR t len (fun _ => none))) (n + 1) L (pc + 3) (vr n :: st) (cells + 1) (slots + len.toNat)) : G κ M n L pc (vi len :: st) cells slots := by
  intro H locs ls hP hS hL
  obtain ⟨hT, hO⟩ := gtys_at (kX κ) ht
  have hcl : (Int32.ofInt len).toNatClampNeg = len.toNat := ix_cl ⟨h.1, by omega⟩
  refine W.anew C.x C.b C.own (C.ts _ hw) (va_AO.use (C.S.2.2.2.2.2.2.1 _ hO)) rfl hd rfl (fun q => by have := (iI_lt (x := len) (z := 0) ⟨by omega, by omega⟩ iR0).mp q; omega) (by rw [hcl]; omega) (by rw [C.R]; exact hr.1) (by rw [C.R, hcl]; exact hr.2) fun cA kA comp f1 f2 f3 f4 => ?_
  rw [hcl]
  obtain ⟨_, _, _, _, _, hNm⟩ := (C.S.1.2 t _ hT).2
  have hcA : (kX κ).2.1 t = cA := Option.some.inj (hNm.symm.trans f1)
  subst hcA
  rw [← gP_hn hP]
  generalize hH1 : H.push ({ cls := (kX κ).2.1 t, slots := Array.replicate len.toNat .null, vm := .none } : Cell) = H1
  have z1 : H1.size = H.size + 1 := by rw [← hH1, Array.size_push]
  have e1 : H1[H.size]? = some (arrV ((kX κ).2.1 t) len.toNat (fun _ => .null)) := by rw [← hH1, Array.getElem?_push_size, ← arrV_new]
  have o1 : ∀ q : Nat, q < H.size → H1[q]? = H[q]? := fun q hq => by rw [← hH1, Array.getElem?_push, if_neg (Nat.ne_of_lt hq)]
  refine g H1 locs ls (gP_new hP z1 o1 ?_) ⟨Nat.le_trans hS.1 (by omega), fun x h1 h2 => (o1 x (Nat.lt_of_lt_of_le h1 hS.1)).trans (hS.2.1 x h1 h2), hS.2.2⟩ hL
  show H1[H.size]? = some (vp_cell _ _)
  rw [vp_cell_q]
  exact e1
/-- a reference into an array of its own class, or of a class that it can be cast to -/
theorem g_aast {t ci : Nat} {len x b : Int} {f : Int → Option Int} {fs : List gV} {Cn : String} {T : u_T} {N : Nat} (C : gF κ y cc nL rm) (ht : 2 ≤ t ∧ t ≤ 5) (hc : vwCl[ci]? = some (Cn, T, N)) (hcast : Cn = gobj t ∨ Cond.castable Cn (gobj t) ∈ NB) (hd : decode cc pc = .ok (.aastore, 1)) (hM : M a = some (gR t len f)) (hb : M b = some (gO ci fs)) (h : 0 ≤ x ∧ x < len ∧ len ≤ 2147483648) (g : G κ (gu M a (gR t len (upq f x (some b)))) n L (pc + 1) st cells slots) : G κ M n L pc (vr b :: vi x :: vr a :: st) cells slots := by
  intro H locs ls hP hS hL
  obtain ⟨hT, hO⟩ := gtys_at (kX κ) ht
  have hK := C.S.1
  obtain ⟨r', hr', cellV, g1, g2, g3, -⟩ := (hP.2.2 b _ hb).2.2
  have hcls := (hK.1 ci _ hc).2
  obtain ⟨kA, comp, k1, k2, k3, -⟩ := (hK.2 t _ hT).2
  obtain ⟨kC, hkC, -⟩ := hcls.2
  have hkcomp : ∃ kk : Class, (ks κ).vm.classes[comp]? = some kk ∧ (ks κ).vm.assignable ((kX κ).1.1 ci) comp = true := by
    rcases hcast with e | e
    · rw [← e] at k3
      have : comp = (kX κ).1.1 ci := Option.some.inj (k3.symm.trans hcls.1)
      rw [this]
      exact ⟨kC, hkC, va_assign hcls⟩
    · obtain ⟨kE, hkE, -⟩ := Vm.findClass_spec k3
      obtain ⟨c0, t1, f1, f2, f3⟩ := Cond.castable_spec (C.nb e)
      have e1 : c0 = (kX κ).1.1 ci := Option.some.inj (f1.symm.trans hcls.1)
      have e2 : t1 = comp := Option.some.inj (f2.symm.trans k3)
      subst e1; subst e2
      exact ⟨kE, hkE, f3⟩
  obtain ⟨kk, hkk, hasg⟩ := hkcomp
  have hcl : (Int32.ofInt x).toNatClampNeg = x.toNat := ix_cl ⟨h.1, by omega⟩
  have hin := ix_in ⟨h.1, h.2.1⟩ h.2.2
  refine W.aast C.x C.b ((hP.2.2 a _ hM).2.2) (fun q h => by cases h) (fun h => by cases h) k1 k2 rfl hkk ⟨fun q => hin (Or.inl q), by show _ < (arrV _ _ _).slots.size; rw [arrV_size]; exact Nat.not_le.mp fun q => hin (Or.inr q)⟩ g1 (fun q h => by rw [g3] at h; cases h) (by rw [g2]; exact hkC) (by rw [g2]; exact hasg) rfl rfl hd fun H1 e z oq => ?_
  refine g H1 _ ls (gP_put hP (hP.2.2 a _ hM).1 (hP.2.2 a _ hM).2.1 z oq ?_) (hS.put z oq (gP_B hP hM)) hL
  show H1[gr (kX κ) a]? = some (vp_cell _ _)
  rw [e, ← upq_ok (kX κ) f h.1]
  show some ((vp_cell _ _).setSlot _ _) = some (vp_cell _ _)
  rw [vp_cell_q, vp_cell_q, arrV_store, hcl]
  congr 2
  funext q
  by_cases hq : q = x.toNat
  · subst hq
    simp [updV, va_up, va_rf]
  · simp [updV, va_up, hq]
/-- System.arraycopy of ints -/
theorem g_acopy {ix : Nat} {a0 : Int} {n0 n1 sp dp k : Int} {f g0 : Int → Int} (C : gF κ y cc nL rm) (w1 : Cond.methodLink y.cls ix arraycopyName ∈ TB) (w2 : Cond.native arraycopyName ∈ TB) (w3 : Cond.static arraycopyName ∈ TB) (w4 : Cond.initialized "java/lang/System" ∈ TB) (hLn : L.length = nL) (hd : decode cc pc = .ok (.invokestatic ix, 3)) (hM0 : M a0 = some (gA 0 n0 f)) (hM1 : M a = some (gA 0 n1 g0)) (h : 0 ≤ sp ∧ 0 ≤ dp ∧ 0 ≤ k ∧ sp + k ≤ n0 ∧ dp + k ≤ n1 ∧ n0 < 2147483648 ∧ n1 < 2147483648) (hr : 1 ≤ rm.frames ∧ 8 + (nativeFrameWords "java/lang/System" "arraycopy" 5 + 11) ≤ rm.locals) (hst : gsum st ≤ 8)
    (g : G κ (gu M a (gA 0 n1 (cpy f g0 sp dp k))) n L (pc + 3) st cells slots) : G κ M n L pc (vi k :: vi dp :: vr a :: vi sp :: vr a0 :: st) cells slots := by
  intro H locs ls hP hS hL
  have hK := C.S.1
  obtain ⟨h1, h2, h3, h4, h5, h6, h7⟩ := h
  have c1 : (Int32.ofInt sp).toNatClampNeg = sp.toNat := ix_cl ⟨h1, by omega⟩
  have c2 : (Int32.ofInt dp).toNatClampNeg = dp.toNat := ix_cl ⟨h2, by omega⟩
  have c3 : (Int32.ofInt k).toNatClampNeg = k.toNat := ix_cl ⟨h3, by omega⟩
  have p1 : ¬ Int32.ofInt sp < 0 := fun q => by have := (iI_lt (x := sp) (z := 0) ⟨by omega, by omega⟩ iR0).mp q; omega
  have p2 : ¬ Int32.ofInt dp < 0 := fun q => by have := (iI_lt (x := dp) (z := 0) ⟨by omega, by omega⟩ iR0).mp q; omega
  have p3 : ¬ Int32.ofInt k < 0 := fun q => by have := (iI_lt (x := k) (z := 0) ⟨by omega, by omega⟩ iR0).mp q; omega
  have i1 : (Int32.ofInt sp).toInt = sp := iI_toInt ⟨by omega, by omega⟩
  have i2 : (Int32.ofInt dp).toInt = dp := iI_toInt ⟨by omega, by omega⟩
  have i3 : (Int32.ofInt k).toInt = k := iI_toInt ⟨by omega, by omega⟩
  have hcat : ((st.map (gv (kX κ))).map fun v => v.category).sum ≤ 8 := by rw [gsum_ok]; exact hst
  intro T hT X
  have hc0 : H[gr (kX κ) a0]? = some (vp_cell ((kX κ).2.1 0) (n0.toNat, .inl (fun k : Nat => Int32.ofInt (f k)))) := (hP.2.2 a0 _ hM0).2.2
  have hc1 : H[gr (kX κ) a]? = some (vp_cell ((kX κ).2.1 0) (n1.toNat, .inl (fun k : Nat => Int32.ofInt (g0 k)))) := (hP.2.2 a _ hM1).2.2
  obtain ⟨-, k0, hk0, cm0, hkk0⟩ := (hK.2 0 _ rfl).1 n0.toNat (fun j => .int (Int32.ofInt (f j)))
  obtain ⟨-, k1, hk1, cm1, hkk1⟩ := (hK.2 0 _ rfl).1 n1.toNat (fun j => .int (Int32.ofInt (g0 j)))
  obtain ⟨vm', X', step⟩ := X.arraycopy C.x C.own (C.ts _ w1) (C.ts _ w2) (C.ts _ w3) (C.ts _ w4) (src := gr (kX κ) a0) (dst := gr (kX κ) a) (cs := vp_cell ((kX κ).2.1 0) (n0.toNat, .inl (fun k : Nat => Int32.ofInt (f k)))) (cd := vp_cell ((kX κ).2.1 0) (n1.toNat, .inl (fun k : Nat => Int32.ofInt (g0 k)))) (srcPos := Int32.ofInt sp) (destPos := Int32.ofInt dp) (n := Int32.ofInt k) (by rw [hT]; exact hc0) (by rw [hT]; exact hc1)
    (fun _ h => by cases h) (fun _ h => by cases h) (fun h => by cases h) (fun h => by cases h) hk0 hk1 hkk0 hkk1 (by simp [refKind]) p1 p2 p3
    (by rw [i1, i3]; show ¬ _ > ((arrV _ n0.toNat (fun j => .int (Int32.ofInt (f j)))).slots.size : Int); rw [arrV_size]; omega)
    (by rw [i2, i3]; show ¬ _ > ((arrV _ n1.toNat (fun j => .int (Int32.ofInt (g0 j)))).slots.size : Int); rw [arrV_size]; omega)
    (fun vm₁ _ i hi => by
      have e : (vp_cell ((kX κ).2.1 0) (n0.toNat, .inl (fun k : Nat => Int32.ofInt (f k)))).slots.getD ((Int32.ofInt sp).toNatClampNeg + i) .null = .int (Int32.ofInt (f (((Int32.ofInt sp).toNatClampNeg + i : Nat) : Int))) := by
        show (arrV _ n0.toNat (fun j => .int (Int32.ofInt (f j)))).slots.getD _ _ = _
        rw [Array.getD_eq_getD_getElem?, arrV_read _ _ (by rw [c3] at hi; rw [c1]; omega)]
        rfl
      refine ⟨?_, ?_⟩
      · rw [e]
        rfl
      · rw [e]
        exact trivial)
    (g := F0 (km κ) pc ls ((vi k :: vi dp :: vr a :: vi sp :: vr a0 :: st).map (gv (kX κ)))) rfl (by rw [C.ml, ← hLn]; exact hL.1) (rest := st.map (gv (kX κ))) rfl (by rw [C.b]; exact hd) (by rw [C.R]; exact hr.1) (by rw [C.R]; show 2 * 0 + _ + _ ≤ _; omega)
  have e1 : copied (vp_cell ((kX κ).2.1 0) (n0.toNat, .inl (fun k : Nat => Int32.ofInt (f k)))) (vp_cell ((kX κ).2.1 0) (n1.toNat, .inl (fun k : Nat => Int32.ofInt (g0 k)))) (Int32.ofInt sp) (Int32.ofInt dp) (Int32.ofInt k) = vp_cell ((kX κ).2.1 0) (n1.toNat, .inl (fun j : Nat => Int32.ofInt (cpy f g0 sp dp k j))) := by
    rw [← cpy_ok f g0 h1 h2 h3, ← c1, ← c2, ← c3]
    have hle : (Int32.ofInt sp).toNatClampNeg + (Int32.ofInt k).toNatClampNeg ≤ n0.toNat := by rw [c1, c3]; omega
    exact va_copied (n1 := n1.toNat) (dp := (Int32.ofInt dp).toNatClampNeg) (fun z => .int z) ((kX κ).2.1 0) ((kX κ).2.1 0) (fun k : Nat => Int32.ofInt (f k)) (fun k : Nat => Int32.ofInt (g0 k)) hle
  rw [e1] at X' step
  have hl : gr (kX κ) a < H.size := (Array.getElem?_eq_some_iff.mp hc1).1
  generalize hcell : vp_cell ((kX κ).2.1 0) (n1.toNat, .inl (fun j : Nat => Int32.ofInt (cpy f g0 sp dp k j))) = cell at X' step
  have hheap : ((T.setVm vm').setCell (gr (kX κ) a) cell).heap = H.setIfInBounds (gr (kX κ) a) cell := by rw [← hT]; rfl
  have oq : ∀ q : Nat, q ≠ gr (kX κ) a → (H.setIfInBounds (gr (kX κ) a) cell)[q]? = H[q]? := fun q hq => by simp [Array.getElem?_setIfInBounds, Ne.symm hq]
  obtain ⟨t, a1, b1⟩ := g _ _ ls (gP_put hP (hP.2.2 a _ hM1).1 (hP.2.2 a _ hM1).2.1 (by simp) oq (show (H.setIfInBounds (gr (kX κ) a) cell)[gr (kX κ) a]? = some _ by rw [← hcell]; simp [Array.getElem?_setIfInBounds, hl])) ⟨by simp; exact hS.1, fun q g1 g2 => by
      rw [oq q (fun e => g2 (by rw [e]; exact gP_B hP hM1))]
      exact hS.2.1 q g1 g2, fun q hq => by
      rcases List.mem_append.mp hq with h | h
      · exact hS.2.2 q h
      · obtain ⟨z, -, hz⟩ := List.mem_map.mp h
        rw [← hz]
        exact gP_B hP hM1⟩ hL _ hheap X'
  exact ⟨t, step t a1, b1⟩
end GN
/-! calls -/
section GCALL
variable {κ : gC} {y : MethodName} {cc : ByteArray} {nL : Nat} {rm : Room} {M : gM} {n : Int} {L : List (Option gV)} {pc : Nat} {st rest : List gV} {cells slots : Nat} {a : Int} {av : List gV}
  {y' : MethodName} {cc' : ByteArray} {nL' : Nat} {ret' : Option FieldType} {rm' : Room} {Q' : gPost}
theorem g_cont {mc ms : Nat} {H : Heap} {locs : List Loc} {ls : Array Slot} {av : Array Value} (hr : va_Run (kp κ) (kl κ) (ke κ) (kR κ) (ks κ) (km κ) (ka κ) (kb κ) (kt κ) (kc κ) H locs cells slots mc ms (F0 (km κ) pc ls (st.map (gv (kX κ)))) (rest.map (gv (kX κ))) (gQc (kX κ) Q' av) (gB (kX κ))) (hS : va_S (gB (kX κ)) (ks κ).heap H locs) (hL : gL (kX κ) ls L)
    (g : ∀ r M' n', Q' r M' n' → G κ M' n' L (pc + 3) (r.toList ++ rest) (cells + mc) (slots + ms)) : W (kp κ) (kl κ) (ke κ) (kR κ) (ks κ) (km κ) (ka κ) (kb κ) (kt κ) (kc κ) H locs cells slots (kQ κ) (F0 (km κ) pc ls (st.map (gv (kX κ)))) := by
  intro T hT X
  obtain ⟨v, st₀, t, T', Lc, h0, X', hLc, e1, e2, ⟨⟨r, M', n', hv, hq, hP'⟩, hz, hk⟩, stp⟩ := hr T hT X
  have hv := Outcome.returned.inj hv
  subst hv
  rw [h0] at hz hk
  have hS' : va_S (gB (kX κ)) (ks κ).heap T'.heap (locs ++ Lc) := ⟨Nat.le_trans hS.1 (by rw [e1]; exact hz), fun q h1 h2 => by rw [e1, hk q (Nat.lt_of_lt_of_le h1 hS.1) h2]; exact hS.2.1 q h1 h2, fun q hq => by
      rcases List.mem_append.mp hq with h | h
      · exact hS.2.2 q h
      · exact hLc q h⟩
  obtain ⟨t2, a1, b1⟩ := g r M' n' hq T'.heap (locs ++ Lc) ls (by rw [e1]; exact hP') hS' hL T' rfl X'
  refine ⟨t2, stp t2 ?_, b1⟩
  cases r <;> exact a1
def gmh (y : MethodName) (k : Nat) : Prop := y.cls ≠ "java/lang/invoke/MethodHandle" ∧ y.cls ≠ "java/lang/invoke/VarHandle" ∧ (parseMethodDescriptor y.desc).map (fun d => d.parameters.length) = some k
def gwS (own : String) (ix : Nat) (y : MethodName) (cc : ByteArray) (nL : Nat) (ret : Option FieldType) (k : Nat) : Prop := Cond.methodLink own ix y ∈ TB ∧ Cond.static y ∈ TB ∧ Cond.initialized y.cls ∈ TB ∧ Cond.code y cc nL ret ∈ TB ∧ gmh y k
def gwV (own : String) (ix ci : Nat) (y : MethodName) (cc : ByteArray) (nL : Nat) (ret : Option FieldType) (k : Nat) : Prop := ∃ (C : String) (T : u_T) (N : Nat), vwCl[ci]? = some (C, T, N) ∧ y.cls = C ∧ Cond.methodLink own ix y ∈ TB ∧ Cond.instanceMethod y ∈ TB ∧ Cond.selects C y y ∈ TB ∧ Cond.initialized C ∈ TB ∧ Cond.code y cc nL ret ∈ TB ∧ gmh y k
def gwI (own : String) (ix : Nat) (y : MethodName) (cc : ByteArray) (nL : Nat) (k : Nat) : Prop := Cond.methodLink own ix y ∈ TB ∧ Cond.instanceMethod y ∈ TB ∧ y.name = "<init>" ∧ Cond.initialized y.cls ∈ TB ∧ Cond.code y cc nL none ∈ TB ∧ gmh y k
def gwIN (own : String) (ix : Nat) (y : MethodName) (cc : ByteArray) (nL : Nat) (k : Nat) : Prop := (∃ host, Cond.methodLinkNest own ix y host ∈ NB) ∧ Cond.instanceMethod y ∈ TB ∧ y.name = "<init>" ∧ Cond.initialized y.cls ∈ TB ∧ Cond.code y cc nL none ∈ TB ∧ gmh y k
/-- an inherited or overriding method: x is named, y is selected for the class ci -/
def gwU (own : String) (ix ci : Nat) (y : MethodName) (cc : ByteArray) (nL : Nat) (ret : Option FieldType) (k : Nat) : Prop := ∃ (C : String) (T : u_T) (N : Nat) (owner : String) (x : MethodName), vwCl[ci]? = some (C, T, N) ∧ Cond.methodLink own ix x ∈ TB ∧ Cond.sameMethod x.cls owner x.name x.desc ∈ TB ∧ Cond.selects C x y ∈ TB ∧ Cond.instanceMethod y ∈ TB ∧ Cond.initialized y.cls ∈ TB ∧ Cond.code y cc nL ret ∈ TB ∧ (y = ⟨owner, x.name, x.desc⟩ ∨ Cond.declares ⟨owner, x.name, x.desc⟩ ∈ NB ∨ (Cond.instanceMethod ⟨owner, x.name, x.desc⟩ ∈ TB ∧ ∃ b0 m0 r0, Cond.code ⟨owner, x.name, x.desc⟩ b0 m0 r0 ∈ TB)) ∧ (owner ≠ "java/lang/invoke/MethodHandle" ∧ owner ≠ "java/lang/invoke/VarHandle" ∧ (parseMethodDescriptor x.desc).map (fun d => d.parameters.length) = some k)
def gwSU (own : String) (ix : Nat) (y : MethodName) (cc : ByteArray) (nL : Nat) (ret : Option FieldType) (k : Nat) : Prop := Cond.methodLink own ix y ∈ TB ∧ Cond.sameMethod y.cls y.cls y.name y.desc ∈ TB ∧ Cond.superclass own y.cls ∈ TB ∧ Cond.instanceMethod y ∈ TB ∧ Cond.initialized y.cls ∈ TB ∧ Cond.code y cc nL ret ∈ TB ∧ y.name ≠ "<init>" ∧ (parseMethodDescriptor y.desc).map (fun d => d.parameters.length) = some k
def gRm (rm rm' : Room) (nL' cells slots : Nat) : Prop := rm'.frames + 1 ≤ rm.frames ∧ 8 + (nL' + 11) + rm'.locals ≤ rm.locals ∧ cells + rm'.cells ≤ rm.cells ∧ slots + rm'.slots ≤ rm.slots
theorem g_blind (X : gX) (av : List gV) : FrameBlind (va_Pc (av.map (gv X)) (fun U => gP X M n U.heap ∧ gS X U U.heap)) := by
  intro a U g mk h
  obtain ⟨h1, h2, h3⟩ := h
  exact ⟨h1, h2, gS.same (u := U) (U := U.calling g mk a) rfl h3⟩
theorem g_pre {κ : gC} {y : MethodName} {cc : ByteArray} {nL : Nat} {rm : Room} (C : gF κ y cc nL rm) {H : Heap} {locs : List Loc} (hP : gP (kX κ) M n H) (hS : va_S (gB (kX κ)) (ks κ).heap H locs) (av : List gV) : ∀ U : State, U.heap = H → (ks κ).WarmedH U.vm → va_Pc (av.map (gv (kX κ))) (fun U => gP (kX κ) M n U.heap ∧ gS (kX κ) U U.heap) (av.map (gv (kX κ))).toArray U := by
  intro U hU hW
  exact ⟨rfl, by rw [hU]; exact hP, by rw [hU]; exact (C.S.kept hS.2.1).warm hW⟩
theorem g_recv {κ : gC} {y : MethodName} {cc : ByteArray} {nL : Nat} {rm : Room} (C : gF κ y cc nL rm) {H : Heap} (hP : gP (kX κ) M n H) {ci : Nat} {fs : List gV} (hM : M a = some (gO ci fs)) {Cn : String} {T : u_T} {N : Nat} (hc : vwCl[ci]? = some (Cn, T, N)) : ∃ cell : Cell, H[gr (kX κ) a]? = some cell ∧ cell.vm.isStatics = false ∧ (ks κ).vm.findClass Cn = some cell.cls := va_recv C.S.1 (gP_at hP hM) hc (q0 := 0) rfl
theorem g_invS {ix : Nat} (C : gF κ y cc nL rm) (h : CT y' cc' nL' ret' rm' av M n Q') (w : gwS y.cls ix y' cc' nL' ret' av.length) (hR : gRm rm rm' nL' cells slots) (hc : gsum rest ≤ 8) (hLn : L.length = nL) (hd : decode cc pc = .ok (.invokestatic ix, 3)) (hst : st = av.reverse ++ rest)
    (g : ∀ r M' n', Q' r M' n' → G κ M' n' L (pc + 3) (r.toList ++ rest) (cells + rm'.cells) (slots + rm'.slots)) : G κ M n L pc st cells slots := by
  intro H locs ls hP hS hL
  obtain ⟨w1, w2, w3, w4, w5⟩ := w
  refine g_cont (va_runS (ws := Cond.code y' cc' nL' ret' :: TB) (As := av.map (gv (kX κ))) C.fix (h (kl κ) (kX κ)) (va_cwS av.length C.ts (fun x hx => ?_) rfl rfl rfl w5 (by rw [C.R]; exact ⟨hR.1, hR.2.1⟩)) ⟨g_blind _ av, g_pre C hP hS av⟩ rfl (by simp) (by rw [← hLn]; exact hL.1) (by rw [hst]; simp) (lv_room (by rw [gsum_ok]; exact hc)) hd (by rw [C.R]; exact hR.2.2)) hS hL g
  unfold va_wsS at hx
  simp only [List.cons_append, List.nil_append, List.mem_cons] at hx
  rcases hx with rfl | rfl | rfl | rfl | hx
  · exact TB_good _ w1
  · exact TB_good _ w2
  · exact TB_good _ w3
  · exact TB_good _ w4
  · exact TB_good _ hx
theorem g_invV {ix ci : Nat} {fs : List gV} (C : gF κ y cc nL rm) (h : CT y' cc' nL' ret' rm' (vr a :: av) M n Q') (hM : M a = some (gO ci fs)) (w : gwV y.cls ix ci y' cc' nL' ret' av.length) (hR : gRm rm rm' nL' cells slots) (hc : gsum rest ≤ 8) (hLn : L.length = nL) (hd : decode cc pc = .ok (.invokevirtual ix, 3)) (hst : st = av.reverse ++ vr a :: rest)
    (g : ∀ r M' n', Q' r M' n' → G κ M' n' L (pc + 3) (r.toList ++ rest) (cells + rm'.cells) (slots + rm'.slots)) : G κ M n L pc st cells slots := by
  intro H locs ls hP hS hL
  obtain ⟨Cn, T, N, hcl, hy, w1, w2, w3, w3b, w4, w5⟩ := w
  refine g_cont (va_runV (ws := Cond.code y' cc' nL' ret' :: TB) (C := Cn) (b := gr (kX κ) a) (As := av.map (gv (kX κ))) C.fix (h (kl κ) (kX κ)) (cwV av.length C.ts (fun x hx => ?_) rfl rfl rfl ⟨hy, w5⟩ (by rw [C.R]; exact ⟨hR.1, hR.2.1⟩)) ⟨g_blind _ _, g_recv C hP hM hcl, g_pre C hP hS _⟩ rfl (by simp) (by rw [← hLn]; exact hL.1) (by rw [hst]; simp; rfl) (lv_room (by rw [gsum_ok]; exact hc)) hd (by rw [C.R]; exact hR.2.2)) hS hL g
  unfold wsV at hx
  simp only [List.cons_append, List.nil_append, List.mem_cons] at hx
  rcases hx with rfl | rfl | rfl | rfl | rfl | hx
  · exact TB_good _ w1
  · exact TB_good _ w2
  · exact TB_good _ w3
  · exact TB_good _ w3b
  · exact TB_good _ w4
  · exact TB_good _ hx
theorem g_invI {ix : Nat} (C : gF κ y cc nL rm) (h : CT y' cc' nL' none rm' (vr a :: av) M n Q') (w : gwI y.cls ix y' cc' nL' av.length) (hR : gRm rm rm' nL' cells slots) (hc : gsum rest ≤ 8) (hLn : L.length = nL) (hd : decode cc pc = .ok (.invokespecial ix, 3)) (hst : st = av.reverse ++ vr a :: rest)
    (g : ∀ r M' n', Q' r M' n' → G κ M' n' L (pc + 3) (r.toList ++ rest) (cells + rm'.cells) (slots + rm'.slots)) : G κ M n L pc st cells slots := by
  intro H locs ls hP hS hL
  obtain ⟨w1, w2, w3, w3b, w4, w5⟩ := w
  exact g_cont (va_runI (ws := Cond.code y' cc' nL' none :: TB) (b := gr (kX κ) a) (As := av.map (gv (kX κ))) C.fix (h (kl κ) (kX κ)) (cwI av.length C.ts (TB_cons w4) rfl rfl rfl (C.ts _ w3b) (C.ts _ w1) (C.ts _ w2) w3 w5 (by rw [C.R]; exact ⟨hR.1, hR.2.1⟩)) ⟨g_blind _ _, g_pre C hP hS _⟩ rfl (by simp) (by rw [← hLn]; exact hL.1) (by rw [hst]; simp; rfl) (lv_room (by rw [gsum_ok]; exact hc)) hd (by rw [C.R]; exact hR.2.2)) hS hL g
theorem g_invIN {ix : Nat} (C : gF κ y cc nL rm) (h : CT y' cc' nL' none rm' (vr a :: av) M n Q') (w : gwIN y.cls ix y' cc' nL' av.length) (hR : gRm rm rm' nL' cells slots) (hc : gsum rest ≤ 8) (hLn : L.length = nL) (hd : decode cc pc = .ok (.invokespecial ix, 3)) (hst : st = av.reverse ++ vr a :: rest)
    (g : ∀ r M' n', Q' r M' n' → G κ M' n' L (pc + 3) (r.toList ++ rest) (cells + rm'.cells) (slots + rm'.slots)) : G κ M n L pc st cells slots := by
  intro H locs ls hP hS hL
  obtain ⟨⟨host, w1⟩, w2, w3, w3b, w4, w5⟩ := w
  exact g_cont (va_runIN (ws := Cond.code y' cc' nL' none :: TB) (b := gr (kX κ) a) (As := av.map (gv (kX κ))) C.fix (h (kl κ) (kX κ)) ⟨va_cnB av.length C.ts (TB_cons w4) rfl rfl rfl (C.S.2.2.2.2.2.2.2.1 _ w1) (C.ts _ w3b) w5 (by rw [C.R]; exact ⟨hR.1, hR.2.1⟩), w3, C.ts _ w2⟩ ⟨g_blind _ _, g_pre C hP hS _⟩ rfl (by simp) (by rw [← hLn]; exact hL.1) (by rw [hst]; simp; rfl) (lv_room (by rw [gsum_ok]; exact hc)) hd (by rw [C.R]; exact hR.2.2)) hS hL g
theorem g_invU {ix ci : Nat} {fs : List gV} (C : gF κ y cc nL rm) (h : CT y' cc' nL' ret' rm' (vr a :: av) M n Q') (hM : M a = some (gO ci fs)) (w : gwU y.cls ix ci y' cc' nL' ret' av.length) (hR : gRm rm rm' nL' cells slots) (hc : gsum rest ≤ 8) (hLn : L.length = nL) (hd : decode cc pc = .ok (.invokevirtual ix, 3)) (hst : st = av.reverse ++ vr a :: rest)
    (g : ∀ r M' n', Q' r M' n' → G κ M' n' L (pc + 3) (r.toList ++ rest) (cells + rm'.cells) (slots + rm'.slots)) : G κ M n L pc st cells slots := by
  intro H locs ls hP hS hL
  obtain ⟨Cn, T, N, owner, x, hcl, w1, w2, w3, w4, w4b, w5, hyx, hmh⟩ := w
  have hT : GoodIn TB (va_wsU y.cls ix Cn owner x y' (Cond.code y' cc' nL' ret' :: TB)) := by
    intro z hx
    unfold va_wsU at hx
    simp only [List.cons_append, List.nil_append, List.mem_cons] at hx
    rcases hx with rfl | rfl | rfl | rfl | rfl | rfl | hx
    · exact TB_good _ w1
    · exact TB_good _ w2
    · exact TB_good _ w3
    · exact TB_good _ w4
    · exact TB_good _ w4b
    · exact TB_good _ w5
    · exact TB_good _ hx
  have hT2 : Cond.instanceMethod ⟨owner, x.name, x.desc⟩ ∈ TB → GoodIn TB (va_wsO y.cls ix Cn owner x y' (Cond.code y' cc' nL' ret' :: TB)) := by
    intro w0 z hx
    unfold va_wsO at hx
    simp only [List.cons_append, List.nil_append, List.mem_cons] at hx
    rcases hx with rfl | rfl | rfl | rfl | rfl | rfl | rfl | hx
    · exact TB_good _ w1
    · exact TB_good _ w2
    · exact TB_good _ w0
    · exact TB_good _ w3
    · exact TB_good _ w4
    · exact TB_good _ w4b
    · exact TB_good _ w5
    · exact TB_good _ hx
  have hcu : va_CU (kR κ) (ks κ) (ka κ) y.cls Cn owner ix x y' cc' nL' ret' (Cond.code y' cc' nL' ret' :: TB) rm' rm'.cells rm'.slots av.length := by
    rcases hyx with e | e | ⟨e0, b0, m0, r0, e⟩
    · exact va_cwU av.length C.ts hT rfl rfl rfl e hmh (by rw [C.R]; exact ⟨hR.1, hR.2.1⟩)
    · exact va_cwA av.length C.ts hT rfl rfl rfl (C.S.2.2.2.2.2.2.2.1 _ e) hmh (by rw [C.R]; exact ⟨hR.1, hR.2.1⟩)
    · exact va_cwO av.length C.ts (hT2 e0) rfl rfl rfl e hmh (by rw [C.R]; exact ⟨hR.1, hR.2.1⟩)
  exact g_cont (va_runU (ws := Cond.code y' cc' nL' ret' :: TB) (C := Cn) (b := gr (kX κ) a) (As := av.map (gv (kX κ))) C.fix (h (kl κ) (kX κ)) hcu ⟨g_blind _ _, g_recv C hP hM hcl, g_pre C hP hS _⟩ rfl (by simp) (by rw [← hLn]; exact hL.1) (by rw [hst]; simp; rfl) (lv_room (by rw [gsum_ok]; exact hc)) hd (by rw [C.R]; exact hR.2.2)) hS hL g
theorem g_invSU {ix ci : Nat} {fs : List gV} {Cn : String} {T : u_T} {N : Nat} (C : gF κ y cc nL rm) (h : CT y' cc' nL' ret' rm' (vr a :: av) M n Q') (hM : M a = some (gO ci fs)) (hcl : vwCl[ci]? = some (Cn, T, N)) (w : gwSU y.cls ix y' cc' nL' ret' av.length) (hR : gRm rm rm' nL' cells slots) (hc : gsum rest ≤ 8) (hLn : L.length = nL) (hd : decode cc pc = .ok (.invokespecial ix, 3)) (hst : st = av.reverse ++ vr a :: rest)
    (g : ∀ r M' n', Q' r M' n' → G κ M' n' L (pc + 3) (r.toList ++ rest) (cells + rm'.cells) (slots + rm'.slots)) : G κ M n L pc st cells slots := by
  intro H locs ls hP hS hL
  obtain ⟨w1, w2, w3, w4, w4b, w5, hnm, hmh⟩ := w
  have hT : GoodIn TB (va_wsSU y.cls ix y' (Cond.code y' cc' nL' ret' :: TB)) := by
    intro z hx
    unfold va_wsSU at hx
    simp only [List.cons_append, List.nil_append, List.mem_cons] at hx
    rcases hx with rfl | rfl | rfl | rfl | rfl | rfl | hx
    · exact TB_good _ w1
    · exact TB_good _ w2
    · exact TB_good _ w3
    · exact TB_good _ w4
    · exact TB_good _ w4b
    · exact TB_good _ w5
    · exact TB_good _ hx
  exact g_cont (va_runSU (ws := Cond.code y' cc' nL' ret' :: TB) (C := Cn) (b := gr (kX κ) a) (As := av.map (gv (kX κ))) (C.S.1.1 ci _ hcl).2 C.fix (h (kl κ) (kX κ)) (va_cwSU av.length C.ts hT rfl rfl rfl ⟨hnm, hmh⟩ (by rw [C.R]; exact ⟨hR.1, hR.2.1⟩)) ⟨g_blind _ _, g_recv C hP hM hcl, g_pre C hP hS _⟩ rfl (by simp) (by rw [← hLn]; exact hL.1) (by rw [hst]; simp; rfl) (lv_room (by rw [gsum_ok]; exact hc)) hd (by rw [C.R]; exact hR.2.2)) hS hL g
/-- Object's constructor -/
theorem g_objInit {ix : Nat} (C : gF κ y cc nL rm) (w1 : Cond.methodLink y.cls ix objectInit ∈ TB) (w2 : Cond.instanceMethod objectInit ∈ TB) (w3 : Cond.code objectInit ⟨#[0xb1]⟩ 1 none ∈ TB) (hR : 1 ≤ rm.frames ∧ 20 ≤ rm.locals) (hc : gsum st ≤ 8) (hLn : L.length = nL) (hd : decode cc pc = .ok (.invokespecial ix, 3)) (g : G κ M n L (pc + 3) st cells slots) : G κ M n L pc (vr a :: st) cells slots := by
  intro H locs ls hP hS hL
  have hk := gsum_ok (kX κ) st
  refine W.objInit C.x C.b C.own (C.ts _ w1) (C.ts _ w2) (C.ts _ w3) rfl (by rw [C.ml, ← hLn]; exact hL.1) rfl hd (by rw [C.R]; exact hR.1) (by rw [C.R]; show 2 * 0 + _ + _ ≤ _; omega) ?_
  exact g H locs ls hP hS hL
/-- Math.min, Math.max -/
theorem g_min {ix : Nat} {x z : Int} (C : gF κ y cc nL rm) (w1 : Cond.methodLink y.cls ix Lib.Math.min.name ∈ TB) (w2 : Cond.static Lib.Math.min.name ∈ TB) (w3 : Cond.initialized "java/lang/Math" ∈ TB) (w4 : Cond.code Lib.Math.min.name Lib.Math.min.code 2 (some .int) ∈ TB) (hR : 1 ≤ rm.frames ∧ 21 ≤ rm.locals ∧ cells ≤ rm.cells ∧ slots ≤ rm.slots) (hc : gsum st ≤ 8) (hLn : L.length = nL) (hd : decode cc pc = .ok (.invokestatic ix, 3)) (hx : iR x) (hz : iR z) (g : G κ M n L (pc + 3) (vi (if z < x then z else x) :: st) cells slots) : G κ M n L pc (vi z :: vi x :: st) cells slots := by
  intro H locs ls hP hS hL
  have hk := gsum_ok (kX κ) st
  refine va_mmin C.x C.b (by rw [C.ml, ← hLn]; exact hL.1.symm) C.own (C.ts _ w1) (C.ts _ w2) (C.ts _ w3) (C.ts _ w4) (by rw [C.R]; exact hR.1) (by rw [C.R, hk]; omega) (by rw [C.R]; exact hR.2.2.1) (by rw [C.R]; exact hR.2.2.2) hd ?_
  have g1 := g H locs ls hP hS hL
  by_cases h : z < x
  · rw [if_pos ((iI_lt hz hx).mpr h)]
    rw [if_pos h] at g1
    exact g1
  · rw [if_neg (fun q => h ((iI_lt hz hx).mp q))]
    rw [if_neg h] at g1
    exact g1
theorem g_max {ix : Nat} {x z : Int} (C : gF κ y cc nL rm) (w1 : Cond.methodLink y.cls ix Lib.Math.max.name ∈ TB) (w2 : Cond.static Lib.Math.max.name ∈ TB) (w3 : Cond.initialized "java/lang/Math" ∈ TB) (w4 : Cond.code Lib.Math.max.name Lib.Math.max.code 2 (some .int) ∈ TB) (hR : 1 ≤ rm.frames ∧ 21 ≤ rm.locals ∧ cells ≤ rm.cells ∧ slots ≤ rm.slots) (hc : gsum st ≤ 8) (hLn : L.length = nL) (hd : decode cc pc = .ok (.invokestatic ix, 3)) (hx : iR x) (hz : iR z) (g : G κ M n L (pc + 3) (vi (if x < z then z else x) :: st) cells slots) : G κ M n L pc (vi z :: vi x :: st) cells slots := by
  intro H locs ls hP hS hL
  have hk := gsum_ok (kX κ) st
  refine va_mmax C.x C.b (by rw [C.ml, ← hLn]; exact hL.1.symm) C.own (C.ts _ w1) (C.ts _ w2) (C.ts _ w3) (C.ts _ w4) (by rw [C.R]; exact hR.1) (by rw [C.R, hk]; omega) (by rw [C.R]; exact hR.2.2.1) (by rw [C.R]; exact hR.2.2.2) hd ?_
  have g1 := g H locs ls hP hS hL
  by_cases h : x < z
  · rw [if_pos ((iI_lt hx hz).mpr h)]
    rw [if_pos h] at g1
    exact g1
  · rw [if_neg (fun q => h ((iI_lt hx hz).mp q))]
    rw [if_neg h] at g1
    exact g1
theorem g_cast {ix ci : Nat} {fs : List gV} {Cn nm : String} {T : u_T} {N : Nat} (C : gF κ y cc nL rm) (hcl : vwCl[ci]? = some (Cn, T, N)) (w1 : Cond.classLink y.cls ix nm ∈ TB) (w2 : Cond.castable Cn nm ∈ NB) (hM : M a = some (gO ci fs)) (hd : decode cc pc = .ok (.checkcast ix, 3)) (g : G κ M n L (pc + 3) (vr a :: st) cells slots) : G κ M n L pc (vr a :: st) cells slots := by
  intro H locs ls hP hS hL
  exact va_castY C.x C.b C.own (C.ts _ w1) (C.S.2.2.2.2.2.2.2.1 _ w2) (g_recv C hP hM hcl) hd (g H locs ls hP hS hL)
theorem g_castS {ix ci : Nat} {fs : List gV} {Cn : String} {T : u_T} {N : Nat} (C : gF κ y cc nL rm) (hcl : vwCl[ci]? = some (Cn, T, N)) (w1 : Cond.classLink y.cls ix Cn ∈ TB) (hM : M a = some (gO ci fs)) (hd : decode cc pc = .ok (.checkcast ix, 3)) (g : G κ M n L (pc + 3) (vr a :: st) cells slots) : G κ M n L pc (vr a :: st) cells slots := by
  intro H locs ls hP hS hL
  exact va_castS C.x C.b C.own (C.ts _ w1) (C.S.1.1 ci _ hcl).2 (g_recv C hP hM hcl) hd (g H locs ls hP hS hL)
theorem g_castN {ix : Nat} (C : gF κ y cc nL rm) (hd : decode cc pc = .ok (.checkcast ix, 3)) (g : G κ M n L (pc + 3) (vn :: st) cells slots) : G κ M n L pc (vn :: st) cells slots := fun H locs ls hP hS hL => lv_castN C.x C.b hd (g H locs ls hP hS hL)
theorem g_instY {ix ci : Nat} {fs : List gV} {Cn nm : String} {T : u_T} {N : Nat} (C : gF κ y cc nL rm) (hcl : vwCl[ci]? = some (Cn, T, N)) (w1 : Cond.classLink y.cls ix nm ∈ TB) (w2 : Cond.castable Cn nm ∈ NB) (hM : M a = some (gO ci fs)) (hd : decode cc pc = .ok (.instanceof ix, 3)) (g : G κ M n L (pc + 3) (vi 1 :: st) cells slots) : G κ M n L pc (vr a :: st) cells slots := by
  intro H locs ls hP hS hL
  exact va_instY C.x C.b C.own (C.ts _ w1) (C.S.2.2.2.2.2.2.2.1 _ w2) (g_recv C hP hM hcl) hd (g H locs ls hP hS hL)
theorem g_instS {ix ci : Nat} {fs : List gV} {Cn : String} {T : u_T} {N : Nat} (C : gF κ y cc nL rm) (hcl : vwCl[ci]? = some (Cn, T, N)) (w1 : Cond.classLink y.cls ix Cn ∈ TB) (hM : M a = some (gO ci fs)) (hd : decode cc pc = .ok (.instanceof ix, 3)) (g : G κ M n L (pc + 3) (vi 1 :: st) cells slots) : G κ M n L pc (vr a :: st) cells slots := by
  intro H locs ls hP hS hL
  exact va_instS C.x C.b C.own (C.ts _ w1) (C.S.1.1 ci _ hcl).2 (g_recv C hP hM hcl) hd (g H locs ls hP hS hL)
theorem g_instNo {ix ci : Nat} {fs : List gV} {Cn nm : String} {T : u_T} {N : Nat} (C : gF κ y cc nL rm) (hcl : vwCl[ci]? = some (Cn, T, N)) (w1 : Cond.classLink y.cls ix nm ∈ TB) (w2 : (Cn, nm) ∈ gnc) (hM : M a = some (gO ci fs)) (hd : decode cc pc = .ok (.instanceof ix, 3)) (g : G κ M n L (pc + 3) (vi 0 :: st) cells slots) : G κ M n L pc (vr a :: st) cells slots := by
  intro H locs ls hP hS hL
  exact va_instNo C.x C.b C.own (C.ts _ w1) (C.S.2.2.2.2.2.1 _ w2) (g_recv C hP hM hcl) hd (g H locs ls hP hS hL)
/-- two references compared: by names, where they stand for own cells or ArrayList's empty array -/
theorem g_acmp_eqD {b : Int} {off : Int} (tgt : Nat) (C : gF κ y cc nL rm) (hd : decode cc pc = .ok (.if_acmp .eq off, 3)) (ht : (pc : Int) + off = (tgt : Int)) (g : G κ M n L tgt st cells slots) : G κ M n L pc (vr b :: vr b :: st) cells slots := by
  intro H locs ls hP hS hL
  exact lv_acmp_eq (rx := some (gr (kX κ) b)) (ry := some (gr (kX κ) b)) C.x C.b hd ht (fun _ => g H locs ls hP hS hL) (fun q => absurd rfl q)
end GCALL
end
