section
-- ===== PART A: goes FIRST, ahead of the names: the tables' words, and 'selects' of the private methods out of them =====
/-- a private method of a class that the tables say can be made, by its rows of tables_1 -/
def lw_okq (q : MethodName × Nat) : Prop := (q.1.cls ≠ "java/lang/invoke/MethodHandle" ∧ q.1.cls ≠ "java/lang/invoke/VarHandle") ∧ Cond.instantiable q.1.cls q.2 ∈ tables_1 ∧ Cond.privateMethod q.1 ∈ tables_1 ∧ Cond.instanceMethod q.1 ∈ tables_1
theorem lw_p0 : lw_okq (⟨"CrossroadsChoose$Crossing", "placeOf", "(II)I"⟩, 3) := ⟨⟨by decide +kernel, by decide +kernel⟩, List.mem_of_getElem? (i := 141) (by decide +kernel), List.mem_of_getElem? (i := 281) (by decide +kernel), List.mem_of_getElem? (i := 282) (by decide +kernel)⟩
theorem lw_p1 : lw_okq (⟨"CrossroadsChoose", "shelfAt", "(I)LCrossroadsChoose$Shelf;"⟩, 11) := ⟨⟨by decide +kernel, by decide +kernel⟩, List.mem_of_getElem? (i := 17) (by decide +kernel), List.mem_of_getElem? (i := 289) (by decide +kernel), List.mem_of_getElem? (i := 290) (by decide +kernel)⟩
theorem lw_p2 : lw_okq (⟨"CrossroadsChoose", "addedFrom", "(LCrossroadsChoose$Shelf;I)Z"⟩, 11) := ⟨⟨by decide +kernel, by decide +kernel⟩, List.mem_of_getElem? (i := 17) (by decide +kernel), List.mem_of_getElem? (i := 301) (by decide +kernel), List.mem_of_getElem? (i := 302) (by decide +kernel)⟩
theorem lw_p3 : lw_okq (⟨"CrossroadsChoose$Tape", "readLines", "(LCrossroadsChoose$Law;)Z"⟩, 3) := ⟨⟨by decide +kernel, by decide +kernel⟩, List.mem_of_getElem? (i := 25) (by decide +kernel), List.mem_of_getElem? (i := 368) (by decide +kernel), List.mem_of_getElem? (i := 369) (by decide +kernel)⟩
theorem lw_p4 : lw_okq (⟨"CrossroadsChoose$Tape", "readLine", "(LCrossroadsChoose$Law;)Z"⟩, 3) := ⟨⟨by decide +kernel, by decide +kernel⟩, List.mem_of_getElem? (i := 25) (by decide +kernel), List.mem_of_getElem? (i := 372) (by decide +kernel), List.mem_of_getElem? (i := 373) (by decide +kernel)⟩
theorem lw_p5 : lw_okq (⟨"CrossroadsChoose$Tape", "readJoined", "(LCrossroadsChoose$Law;II)Z"⟩, 3) := ⟨⟨by decide +kernel, by decide +kernel⟩, List.mem_of_getElem? (i := 25) (by decide +kernel), List.mem_of_getElem? (i := 376) (by decide +kernel), List.mem_of_getElem? (i := 377) (by decide +kernel)⟩
theorem lw_p6 : lw_okq (⟨"CrossroadsChoose$Tape", "readOperand", "(LCrossroadsChoose$Law;I)Z"⟩, 3) := ⟨⟨by decide +kernel, by decide +kernel⟩, List.mem_of_getElem? (i := 25) (by decide +kernel), List.mem_of_getElem? (i := 380) (by decide +kernel), List.mem_of_getElem? (i := 381) (by decide +kernel)⟩
theorem lw_p7 : lw_okq (⟨"CrossroadsChoose$Tape", "here", "()I"⟩, 3) := ⟨⟨by decide +kernel, by decide +kernel⟩, List.mem_of_getElem? (i := 25) (by decide +kernel), List.mem_of_getElem? (i := 384) (by decide +kernel), List.mem_of_getElem? (i := 385) (by decide +kernel)⟩
theorem lw_p8 : lw_okq (⟨"CrossroadsChoose$Tape", "readNumber", "(LCrossroadsChoose$Law;)V"⟩, 3) := ⟨⟨by decide +kernel, by decide +kernel⟩, List.mem_of_getElem? (i := 25) (by decide +kernel), List.mem_of_getElem? (i := 391) (by decide +kernel), List.mem_of_getElem? (i := 392) (by decide +kernel)⟩
theorem lw_p9 : lw_okq (⟨"CrossroadsChoose$Tape", "readBracket", "(LCrossroadsChoose$Law;I)Z"⟩, 3) := ⟨⟨by decide +kernel, by decide +kernel⟩, List.mem_of_getElem? (i := 25) (by decide +kernel), List.mem_of_getElem? (i := 402) (by decide +kernel), List.mem_of_getElem? (i := 403) (by decide +kernel)⟩
theorem lw_p10 : lw_okq (⟨"CrossroadsChoose$Tape", "readSigned", "(LCrossroadsChoose$Law;II)Z"⟩, 3) := ⟨⟨by decide +kernel, by decide +kernel⟩, List.mem_of_getElem? (i := 25) (by decide +kernel), List.mem_of_getElem? (i := 406) (by decide +kernel), List.mem_of_getElem? (i := 407) (by decide +kernel)⟩
theorem lw_p11 : lw_okq (⟨"CrossroadsChoose$Law", "take", "()I"⟩, 6) := ⟨⟨by decide +kernel, by decide +kernel⟩, List.mem_of_getElem? (i := 116) (by decide +kernel), List.mem_of_getElem? (i := 437) (by decide +kernel), List.mem_of_getElem? (i := 438) (by decide +kernel)⟩
theorem lw_p12 : lw_okq (⟨"CrossroadsChoose$Law", "lay", "(I)V"⟩, 6) := ⟨⟨by decide +kernel, by decide +kernel⟩, List.mem_of_getElem? (i := 116) (by decide +kernel), List.mem_of_getElem? (i := 441) (by decide +kernel), List.mem_of_getElem? (i := 442) (by decide +kernel)⟩
theorem lw_p13 : lw_okq (⟨"CrossroadsChoose$Law", "named", "(I)I"⟩, 6) := ⟨⟨by decide +kernel, by decide +kernel⟩, List.mem_of_getElem? (i := 116) (by decide +kernel), List.mem_of_getElem? (i := 445) (by decide +kernel), List.mem_of_getElem? (i := 446) (by decide +kernel)⟩
theorem lw_p14 : lw_okq (⟨"CrossroadsChoose$Crossing", "wanter", "(II)I"⟩, 3) := ⟨⟨by decide +kernel, by decide +kernel⟩, List.mem_of_getElem? (i := 141) (by decide +kernel), List.mem_of_getElem? (i := 471) (by decide +kernel), List.mem_of_getElem? (i := 472) (by decide +kernel)⟩
theorem lw_p15 : lw_okq (⟨"CrossroadsChoose", "dayRefusal", "(II)I"⟩, 11) := ⟨⟨by decide +kernel, by decide +kernel⟩, List.mem_of_getElem? (i := 17) (by decide +kernel), List.mem_of_getElem? (i := 480) (by decide +kernel), List.mem_of_getElem? (i := 481) (by decide +kernel)⟩
def lw_privs_1 : List (MethodName × Nat) := [(⟨"CrossroadsChoose$Crossing", "placeOf", "(II)I"⟩, 3), (⟨"CrossroadsChoose", "shelfAt", "(I)LCrossroadsChoose$Shelf;"⟩, 11), (⟨"CrossroadsChoose", "addedFrom", "(LCrossroadsChoose$Shelf;I)Z"⟩, 11), (⟨"CrossroadsChoose$Tape", "readLines", "(LCrossroadsChoose$Law;)Z"⟩, 3), (⟨"CrossroadsChoose$Tape", "readLine", "(LCrossroadsChoose$Law;)Z"⟩, 3), (⟨"CrossroadsChoose$Tape", "readJoined", "(LCrossroadsChoose$Law;II)Z"⟩, 3), (⟨"CrossroadsChoose$Tape", "readOperand", "(LCrossroadsChoose$Law;I)Z"⟩, 3), (⟨"CrossroadsChoose$Tape", "here", "()I"⟩, 3), (⟨"CrossroadsChoose$Tape", "readNumber", "(LCrossroadsChoose$Law;)V"⟩, 3), (⟨"CrossroadsChoose$Tape", "readBracket", "(LCrossroadsChoose$Law;I)Z"⟩, 3), (⟨"CrossroadsChoose$Tape", "readSigned", "(LCrossroadsChoose$Law;II)Z"⟩, 3), (⟨"CrossroadsChoose$Law", "take", "()I"⟩, 6), (⟨"CrossroadsChoose$Law", "lay", "(I)V"⟩, 6), (⟨"CrossroadsChoose$Law", "named", "(I)I"⟩, 6), (⟨"CrossroadsChoose$Crossing", "wanter", "(II)I"⟩, 3), (⟨"CrossroadsChoose", "dayRefusal", "(II)I"⟩, 11)]
theorem lw_r1 : ∀ q ∈ lw_privs_1, lw_okq q := List.forall_mem_cons.mpr ⟨lw_p0, List.forall_mem_cons.mpr ⟨lw_p1, List.forall_mem_cons.mpr ⟨lw_p2, List.forall_mem_cons.mpr ⟨lw_p3, List.forall_mem_cons.mpr ⟨lw_p4, List.forall_mem_cons.mpr ⟨lw_p5, List.forall_mem_cons.mpr ⟨lw_p6, List.forall_mem_cons.mpr ⟨lw_p7, List.forall_mem_cons.mpr ⟨lw_p8, List.forall_mem_cons.mpr ⟨lw_p9, List.forall_mem_cons.mpr ⟨lw_p10, List.forall_mem_cons.mpr ⟨lw_p11, List.forall_mem_cons.mpr ⟨lw_p12, List.forall_mem_cons.mpr ⟨lw_p13, List.forall_mem_cons.mpr ⟨lw_p14, List.forall_mem_cons.mpr ⟨lw_p15, fun _ h => absurd h List.not_mem_nil⟩⟩⟩⟩⟩⟩⟩⟩⟩⟩⟩⟩⟩⟩⟩⟩
theorem lw_p16 : lw_okq (⟨"CrossroadsChoose", "bytesRefusal", "(I)I"⟩, 11) := ⟨⟨by decide +kernel, by decide +kernel⟩, List.mem_of_getElem? (i := 17) (by decide +kernel), List.mem_of_getElem? (i := 484) (by decide +kernel), List.mem_of_getElem? (i := 485) (by decide +kernel)⟩
theorem lw_p17 : lw_okq (⟨"CrossroadsChoose", "rowRefusal", "(I)I"⟩, 11) := ⟨⟨by decide +kernel, by decide +kernel⟩, List.mem_of_getElem? (i := 17) (by decide +kernel), List.mem_of_getElem? (i := 488) (by decide +kernel), List.mem_of_getElem? (i := 489) (by decide +kernel)⟩
theorem lw_p18 : lw_okq (⟨"CrossroadsChoose", "thinkDay", "(LCrossroadsChoose$Shelf;I)V"⟩, 11) := ⟨⟨by decide +kernel, by decide +kernel⟩, List.mem_of_getElem? (i := 17) (by decide +kernel), List.mem_of_getElem? (i := 496) (by decide +kernel), List.mem_of_getElem? (i := 497) (by decide +kernel)⟩
theorem lw_p19 : lw_okq (⟨"CrossroadsChoose$Thought", "noteWaits", "()V"⟩, 7) := ⟨⟨by decide +kernel, by decide +kernel⟩, List.mem_of_getElem? (i := 161) (by decide +kernel), List.mem_of_getElem? (i := 533) (by decide +kernel), List.mem_of_getElem? (i := 534) (by decide +kernel)⟩
theorem lw_p20 : lw_okq (⟨"CrossroadsChoose", "isPair", "(I)Z"⟩, 11) := ⟨⟨by decide +kernel, by decide +kernel⟩, List.mem_of_getElem? (i := 17) (by decide +kernel), List.mem_of_getElem? (i := 559) (by decide +kernel), List.mem_of_getElem? (i := 560) (by decide +kernel)⟩
theorem lw_p21 : lw_okq (⟨"CrossroadsChoose", "reaches", "(III)Z"⟩, 11) := ⟨⟨by decide +kernel, by decide +kernel⟩, List.mem_of_getElem? (i := 17) (by decide +kernel), List.mem_of_getElem? (i := 563) (by decide +kernel), List.mem_of_getElem? (i := 564) (by decide +kernel)⟩
theorem lw_p22 : lw_okq (⟨"CrossroadsChoose", "firstWrong", "(LCrossroadsChoose$Shelf;)I"⟩, 11) := ⟨⟨by decide +kernel, by decide +kernel⟩, List.mem_of_getElem? (i := 17) (by decide +kernel), List.mem_of_getElem? (i := 655) (by decide +kernel), List.mem_of_getElem? (i := 656) (by decide +kernel)⟩
theorem lw_p23 : lw_okq (⟨"CrossroadsChoose", "lead", "(I)V"⟩, 11) := ⟨⟨by decide +kernel, by decide +kernel⟩, List.mem_of_getElem? (i := 17) (by decide +kernel), List.mem_of_getElem? (i := 686) (by decide +kernel), List.mem_of_getElem? (i := 687) (by decide +kernel)⟩
theorem lw_p24 : lw_okq (⟨"CrossroadsChoose$Bodies", "work", "(IIIII)I"⟩, 4) := ⟨⟨by decide +kernel, by decide +kernel⟩, List.mem_of_getElem? (i := 91) (by decide +kernel), List.mem_of_getElem? (i := 749) (by decide +kernel), List.mem_of_getElem? (i := 750) (by decide +kernel)⟩
theorem lw_p25 : lw_okq (⟨"CrossroadsChoose$Bodies", "note", "(I)V"⟩, 4) := ⟨⟨by decide +kernel, by decide +kernel⟩, List.mem_of_getElem? (i := 91) (by decide +kernel), List.mem_of_getElem? (i := 763) (by decide +kernel), List.mem_of_getElem? (i := 764) (by decide +kernel)⟩
theorem lw_p26 : lw_okq (⟨"CrossroadsChoose", "placeRefusal", "(II)I"⟩, 11) := ⟨⟨by decide +kernel, by decide +kernel⟩, List.mem_of_getElem? (i := 17) (by decide +kernel), List.mem_of_getElem? (i := 809) (by decide +kernel), List.mem_of_getElem? (i := 810) (by decide +kernel)⟩
theorem lw_p27 : lw_okq (⟨"CrossroadsChoose$Shelf", "narrowed", "(J)J"⟩, 5) := ⟨⟨by decide +kernel, by decide +kernel⟩, List.mem_of_getElem? (i := 196) (by decide +kernel), List.mem_of_getElem? (i := 817) (by decide +kernel), List.mem_of_getElem? (i := 818) (by decide +kernel)⟩
theorem lw_p28 : lw_okq (⟨"CrossroadsChoose", "pairRefusal", "(II)I"⟩, 11) := ⟨⟨by decide +kernel, by decide +kernel⟩, List.mem_of_getElem? (i := 17) (by decide +kernel), List.mem_of_getElem? (i := 830) (by decide +kernel), List.mem_of_getElem? (i := 831) (by decide +kernel)⟩
theorem lw_p29 : lw_okq (⟨"CrossroadsChooseModel", "addRoad", "(III)I"⟩, 51) := ⟨⟨by decide +kernel, by decide +kernel⟩, List.mem_of_getElem? (i := 846) (by decide +kernel), List.mem_of_getElem? (i := 1014) (by decide +kernel), List.mem_of_getElem? (i := 1015) (by decide +kernel)⟩
theorem lw_p30 : lw_okq (⟨"CrossroadsChooseModel", "lays", "(III)V"⟩, 51) := ⟨⟨by decide +kernel, by decide +kernel⟩, List.mem_of_getElem? (i := 846) (by decide +kernel), List.mem_of_getElem? (i := 1030) (by decide +kernel), List.mem_of_getElem? (i := 1031) (by decide +kernel)⟩
theorem lw_p31 : lw_okq (⟨"CrossroadsChooseModel", "isOne", "(II)Z"⟩, 51) := ⟨⟨by decide +kernel, by decide +kernel⟩, List.mem_of_getElem? (i := 846) (by decide +kernel), List.mem_of_getElem? (i := 1042) (by decide +kernel), List.mem_of_getElem? (i := 1043) (by decide +kernel)⟩
def lw_privs_2 : List (MethodName × Nat) := [(⟨"CrossroadsChoose", "bytesRefusal", "(I)I"⟩, 11), (⟨"CrossroadsChoose", "rowRefusal", "(I)I"⟩, 11), (⟨"CrossroadsChoose", "thinkDay", "(LCrossroadsChoose$Shelf;I)V"⟩, 11), (⟨"CrossroadsChoose$Thought", "noteWaits", "()V"⟩, 7), (⟨"CrossroadsChoose", "isPair", "(I)Z"⟩, 11), (⟨"CrossroadsChoose", "reaches", "(III)Z"⟩, 11), (⟨"CrossroadsChoose", "firstWrong", "(LCrossroadsChoose$Shelf;)I"⟩, 11), (⟨"CrossroadsChoose", "lead", "(I)V"⟩, 11), (⟨"CrossroadsChoose$Bodies", "work", "(IIIII)I"⟩, 4), (⟨"CrossroadsChoose$Bodies", "note", "(I)V"⟩, 4), (⟨"CrossroadsChoose", "placeRefusal", "(II)I"⟩, 11), (⟨"CrossroadsChoose$Shelf", "narrowed", "(J)J"⟩, 5), (⟨"CrossroadsChoose", "pairRefusal", "(II)I"⟩, 11), (⟨"CrossroadsChooseModel", "addRoad", "(III)I"⟩, 51), (⟨"CrossroadsChooseModel", "lays", "(III)V"⟩, 51), (⟨"CrossroadsChooseModel", "isOne", "(II)Z"⟩, 51)]
theorem lw_r2 : ∀ q ∈ lw_privs_2, lw_okq q := List.forall_mem_cons.mpr ⟨lw_p16, List.forall_mem_cons.mpr ⟨lw_p17, List.forall_mem_cons.mpr ⟨lw_p18, List.forall_mem_cons.mpr ⟨lw_p19, List.forall_mem_cons.mpr ⟨lw_p20, List.forall_mem_cons.mpr ⟨lw_p21, List.forall_mem_cons.mpr ⟨lw_p22, List.forall_mem_cons.mpr ⟨lw_p23, List.forall_mem_cons.mpr ⟨lw_p24, List.forall_mem_cons.mpr ⟨lw_p25, List.forall_mem_cons.mpr ⟨lw_p26, List.forall_mem_cons.mpr ⟨lw_p27, List.forall_mem_cons.mpr ⟨lw_p28, List.forall_mem_cons.mpr ⟨lw_p29, List.forall_mem_cons.mpr ⟨lw_p30, List.forall_mem_cons.mpr ⟨lw_p31, fun _ h => absurd h List.not_mem_nil⟩⟩⟩⟩⟩⟩⟩⟩⟩⟩⟩⟩⟩⟩⟩⟩
theorem lw_p32 : lw_okq (⟨"CrossroadsChooseModel", "isRoad", "(I)Z"⟩, 51) := ⟨⟨by decide +kernel, by decide +kernel⟩, List.mem_of_getElem? (i := 846) (by decide +kernel), List.mem_of_getElem? (i := 1046) (by decide +kernel), List.mem_of_getElem? (i := 1047) (by decide +kernel)⟩
theorem lw_p33 : lw_okq (⟨"CrossroadsChooseModel", "changes", "(III)I"⟩, 51) := ⟨⟨by decide +kernel, by decide +kernel⟩, List.mem_of_getElem? (i := 846) (by decide +kernel), List.mem_of_getElem? (i := 1053) (by decide +kernel), List.mem_of_getElem? (i := 1054) (by decide +kernel)⟩
theorem lw_p34 : lw_okq (⟨"CrossroadsChooseModel", "valueAt", "(II)I"⟩, 51) := ⟨⟨by decide +kernel, by decide +kernel⟩, List.mem_of_getElem? (i := 846) (by decide +kernel), List.mem_of_getElem? (i := 1057) (by decide +kernel), List.mem_of_getElem? (i := 1058) (by decide +kernel)⟩
theorem lw_p35 : lw_okq (⟨"CrossroadsChooseModel", "readText", "(I)I"⟩, 51) := ⟨⟨by decide +kernel, by decide +kernel⟩, List.mem_of_getElem? (i := 846) (by decide +kernel), List.mem_of_getElem? (i := 1074) (by decide +kernel), List.mem_of_getElem? (i := 1075) (by decide +kernel)⟩
theorem lw_p36 : lw_okq (⟨"CrossroadsChooseModel", "line", "()V"⟩, 51) := ⟨⟨by decide +kernel, by decide +kernel⟩, List.mem_of_getElem? (i := 846) (by decide +kernel), List.mem_of_getElem? (i := 1078) (by decide +kernel), List.mem_of_getElem? (i := 1079) (by decide +kernel)⟩
theorem lw_p37 : lw_okq (⟨"CrossroadsChooseModel", "either", "()V"⟩, 51) := ⟨⟨by decide +kernel, by decide +kernel⟩, List.mem_of_getElem? (i := 846) (by decide +kernel), List.mem_of_getElem? (i := 1082) (by decide +kernel), List.mem_of_getElem? (i := 1083) (by decide +kernel)⟩
theorem lw_p38 : lw_okq (⟨"CrossroadsChooseModel", "both", "()V"⟩, 51) := ⟨⟨by decide +kernel, by decide +kernel⟩, List.mem_of_getElem? (i := 846) (by decide +kernel), List.mem_of_getElem? (i := 1086) (by decide +kernel), List.mem_of_getElem? (i := 1087) (by decide +kernel)⟩
theorem lw_p39 : lw_okq (⟨"CrossroadsChooseModel", "compared", "()V"⟩, 51) := ⟨⟨by decide +kernel, by decide +kernel⟩, List.mem_of_getElem? (i := 846) (by decide +kernel), List.mem_of_getElem? (i := 1090) (by decide +kernel), List.mem_of_getElem? (i := 1091) (by decide +kernel)⟩
theorem lw_p40 : lw_okq (⟨"CrossroadsChooseModel", "sum", "()V"⟩, 51) := ⟨⟨by decide +kernel, by decide +kernel⟩, List.mem_of_getElem? (i := 846) (by decide +kernel), List.mem_of_getElem? (i := 1094) (by decide +kernel), List.mem_of_getElem? (i := 1095) (by decide +kernel)⟩
theorem lw_p41 : lw_okq (⟨"CrossroadsChooseModel", "product", "()V"⟩, 51) := ⟨⟨by decide +kernel, by decide +kernel⟩, List.mem_of_getElem? (i := 846) (by decide +kernel), List.mem_of_getElem? (i := 1098) (by decide +kernel), List.mem_of_getElem? (i := 1099) (by decide +kernel)⟩
theorem lw_p42 : lw_okq (⟨"CrossroadsChooseModel", "operand", "()V"⟩, 51) := ⟨⟨by decide +kernel, by decide +kernel⟩, List.mem_of_getElem? (i := 846) (by decide +kernel), List.mem_of_getElem? (i := 1102) (by decide +kernel), List.mem_of_getElem? (i := 1103) (by decide +kernel)⟩
theorem lw_p43 : lw_okq (⟨"CrossroadsChooseModel", "look", "()I"⟩, 51) := ⟨⟨by decide +kernel, by decide +kernel⟩, List.mem_of_getElem? (i := 846) (by decide +kernel), List.mem_of_getElem? (i := 1106) (by decide +kernel), List.mem_of_getElem? (i := 1107) (by decide +kernel)⟩
theorem lw_p44 : lw_okq (⟨"CrossroadsChooseModel", "addStep", "(II)V"⟩, 51) := ⟨⟨by decide +kernel, by decide +kernel⟩, List.mem_of_getElem? (i := 846) (by decide +kernel), List.mem_of_getElem? (i := 1113) (by decide +kernel), List.mem_of_getElem? (i := 1114) (by decide +kernel)⟩
theorem lw_p45 : lw_okq (⟨"CrossroadsChooseModel", "opens", "()Z"⟩, 51) := ⟨⟨by decide +kernel, by decide +kernel⟩, List.mem_of_getElem? (i := 846) (by decide +kernel), List.mem_of_getElem? (i := 1117) (by decide +kernel), List.mem_of_getElem? (i := 1118) (by decide +kernel)⟩
theorem lw_p46 : lw_okq (⟨"CrossroadsChooseModel", "wrong", "()V"⟩, 51) := ⟨⟨by decide +kernel, by decide +kernel⟩, List.mem_of_getElem? (i := 846) (by decide +kernel), List.mem_of_getElem? (i := 1121) (by decide +kernel), List.mem_of_getElem? (i := 1122) (by decide +kernel)⟩
theorem lw_p47 : lw_okq (⟨"CrossroadsChooseModel", "figure", "()V"⟩, 51) := ⟨⟨by decide +kernel, by decide +kernel⟩, List.mem_of_getElem? (i := 846) (by decide +kernel), List.mem_of_getElem? (i := 1125) (by decide +kernel), List.mem_of_getElem? (i := 1126) (by decide +kernel)⟩
def lw_privs_3 : List (MethodName × Nat) := [(⟨"CrossroadsChooseModel", "isRoad", "(I)Z"⟩, 51), (⟨"CrossroadsChooseModel", "changes", "(III)I"⟩, 51), (⟨"CrossroadsChooseModel", "valueAt", "(II)I"⟩, 51), (⟨"CrossroadsChooseModel", "readText", "(I)I"⟩, 51), (⟨"CrossroadsChooseModel", "line", "()V"⟩, 51), (⟨"CrossroadsChooseModel", "either", "()V"⟩, 51), (⟨"CrossroadsChooseModel", "both", "()V"⟩, 51), (⟨"CrossroadsChooseModel", "compared", "()V"⟩, 51), (⟨"CrossroadsChooseModel", "sum", "()V"⟩, 51), (⟨"CrossroadsChooseModel", "product", "()V"⟩, 51), (⟨"CrossroadsChooseModel", "operand", "()V"⟩, 51), (⟨"CrossroadsChooseModel", "look", "()I"⟩, 51), (⟨"CrossroadsChooseModel", "addStep", "(II)V"⟩, 51), (⟨"CrossroadsChooseModel", "opens", "()Z"⟩, 51), (⟨"CrossroadsChooseModel", "wrong", "()V"⟩, 51), (⟨"CrossroadsChooseModel", "figure", "()V"⟩, 51)]
theorem lw_r3 : ∀ q ∈ lw_privs_3, lw_okq q := List.forall_mem_cons.mpr ⟨lw_p32, List.forall_mem_cons.mpr ⟨lw_p33, List.forall_mem_cons.mpr ⟨lw_p34, List.forall_mem_cons.mpr ⟨lw_p35, List.forall_mem_cons.mpr ⟨lw_p36, List.forall_mem_cons.mpr ⟨lw_p37, List.forall_mem_cons.mpr ⟨lw_p38, List.forall_mem_cons.mpr ⟨lw_p39, List.forall_mem_cons.mpr ⟨lw_p40, List.forall_mem_cons.mpr ⟨lw_p41, List.forall_mem_cons.mpr ⟨lw_p42, List.forall_mem_cons.mpr ⟨lw_p43, List.forall_mem_cons.mpr ⟨lw_p44, List.forall_mem_cons.mpr ⟨lw_p45, List.forall_mem_cons.mpr ⟨lw_p46, List.forall_mem_cons.mpr ⟨lw_p47, fun _ h => absurd h List.not_mem_nil⟩⟩⟩⟩⟩⟩⟩⟩⟩⟩⟩⟩⟩⟩⟩⟩
theorem lw_p48 : lw_okq (⟨"CrossroadsChooseModel", "layNow", "()V"⟩, 51) := ⟨⟨by decide +kernel, by decide +kernel⟩, List.mem_of_getElem? (i := 846) (by decide +kernel), List.mem_of_getElem? (i := 1136) (by decide +kernel), List.mem_of_getElem? (i := 1137) (by decide +kernel)⟩
theorem lw_p49 : lw_okq (⟨"CrossroadsChooseModel", "wants", "(II)I"⟩, 51) := ⟨⟨by decide +kernel, by decide +kernel⟩, List.mem_of_getElem? (i := 846) (by decide +kernel), List.mem_of_getElem? (i := 1140) (by decide +kernel), List.mem_of_getElem? (i := 1141) (by decide +kernel)⟩
theorem lw_p50 : lw_okq (⟨"CrossroadsChooseModel", "gives", "(I)I"⟩, 51) := ⟨⟨by decide +kernel, by decide +kernel⟩, List.mem_of_getElem? (i := 846) (by decide +kernel), List.mem_of_getElem? (i := 1144) (by decide +kernel), List.mem_of_getElem? (i := 1145) (by decide +kernel)⟩
theorem lw_p51 : lw_okq (⟨"CrossroadsChooseModel", "worked", "(III)I"⟩, 51) := ⟨⟨by decide +kernel, by decide +kernel⟩, List.mem_of_getElem? (i := 846) (by decide +kernel), List.mem_of_getElem? (i := 1148) (by decide +kernel), List.mem_of_getElem? (i := 1149) (by decide +kernel)⟩
theorem lw_p52 : lw_okq (⟨"CrossroadsChooseModel", "hasNow", "(I)I"⟩, 51) := ⟨⟨by decide +kernel, by decide +kernel⟩, List.mem_of_getElem? (i := 846) (by decide +kernel), List.mem_of_getElem? (i := 1159) (by decide +kernel), List.mem_of_getElem? (i := 1160) (by decide +kernel)⟩
theorem lw_p53 : lw_okq (⟨"CrossroadsChooseModel", "runsBy", "(I)Z"⟩, 51) := ⟨⟨by decide +kernel, by decide +kernel⟩, List.mem_of_getElem? (i := 846) (by decide +kernel), List.mem_of_getElem? (i := 1163) (by decide +kernel), List.mem_of_getElem? (i := 1164) (by decide +kernel)⟩
theorem lw_p54 : lw_okq (⟨"CrossroadsChooseModel", "mostOf", "(II)I"⟩, 51) := ⟨⟨by decide +kernel, by decide +kernel⟩, List.mem_of_getElem? (i := 846) (by decide +kernel), List.mem_of_getElem? (i := 1167) (by decide +kernel), List.mem_of_getElem? (i := 1168) (by decide +kernel)⟩
theorem lw_p55 : lw_okq (⟨"CrossroadsChooseModel", "rowFault", "(I)I"⟩, 51) := ⟨⟨by decide +kernel, by decide +kernel⟩, List.mem_of_getElem? (i := 846) (by decide +kernel), List.mem_of_getElem? (i := 1178) (by decide +kernel), List.mem_of_getElem? (i := 1179) (by decide +kernel)⟩
theorem lw_p56 : lw_okq (⟨"CrossroadsChooseModel", "goDay", "(II)V"⟩, 51) := ⟨⟨by decide +kernel, by decide +kernel⟩, List.mem_of_getElem? (i := 846) (by decide +kernel), List.mem_of_getElem? (i := 1182) (by decide +kernel), List.mem_of_getElem? (i := 1183) (by decide +kernel)⟩
theorem lw_p57 : lw_okq (⟨"CrossroadsChooseModel", "longOf", "(II)I"⟩, 51) := ⟨⟨by decide +kernel, by decide +kernel⟩, List.mem_of_getElem? (i := 846) (by decide +kernel), List.mem_of_getElem? (i := 1186) (by decide +kernel), List.mem_of_getElem? (i := 1187) (by decide +kernel)⟩
theorem lw_p58 : lw_okq (⟨"CrossroadsChooseModel", "at", "(II)I"⟩, 51) := ⟨⟨by decide +kernel, by decide +kernel⟩, List.mem_of_getElem? (i := 846) (by decide +kernel), List.mem_of_getElem? (i := 1190) (by decide +kernel), List.mem_of_getElem? (i := 1191) (by decide +kernel)⟩
theorem lw_p59 : lw_okq (⟨"CrossroadsChooseModel", "goComer", "(I)I"⟩, 51) := ⟨⟨by decide +kernel, by decide +kernel⟩, List.mem_of_getElem? (i := 846) (by decide +kernel), List.mem_of_getElem? (i := 1194) (by decide +kernel), List.mem_of_getElem? (i := 1195) (by decide +kernel)⟩
theorem lw_p60 : lw_okq (⟨"CrossroadsChooseModel", "takesNow", "(I)V"⟩, 51) := ⟨⟨by decide +kernel, by decide +kernel⟩, List.mem_of_getElem? (i := 846) (by decide +kernel), List.mem_of_getElem? (i := 1198) (by decide +kernel), List.mem_of_getElem? (i := 1199) (by decide +kernel)⟩
theorem lw_p61 : lw_okq (⟨"CrossroadsChooseModel", "areComer", "(I)Z"⟩, 51) := ⟨⟨by decide +kernel, by decide +kernel⟩, List.mem_of_getElem? (i := 846) (by decide +kernel), List.mem_of_getElem? (i := 1218) (by decide +kernel), List.mem_of_getElem? (i := 1219) (by decide +kernel)⟩
theorem lw_p62 : lw_okq (⟨"CrossroadsChooseModel", "goAhead", "(IIII)Z"⟩, 51) := ⟨⟨by decide +kernel, by decide +kernel⟩, List.mem_of_getElem? (i := 846) (by decide +kernel), List.mem_of_getElem? (i := 1222) (by decide +kernel), List.mem_of_getElem? (i := 1223) (by decide +kernel)⟩
theorem lw_p63 : lw_okq (⟨"CrossroadsChooseModel", "findAsked", "(I)V"⟩, 51) := ⟨⟨by decide +kernel, by decide +kernel⟩, List.mem_of_getElem? (i := 846) (by decide +kernel), List.mem_of_getElem? (i := 1238) (by decide +kernel), List.mem_of_getElem? (i := 1239) (by decide +kernel)⟩
def lw_privs_4 : List (MethodName × Nat) := [(⟨"CrossroadsChooseModel", "layNow", "()V"⟩, 51), (⟨"CrossroadsChooseModel", "wants", "(II)I"⟩, 51), (⟨"CrossroadsChooseModel", "gives", "(I)I"⟩, 51), (⟨"CrossroadsChooseModel", "worked", "(III)I"⟩, 51), (⟨"CrossroadsChooseModel", "hasNow", "(I)I"⟩, 51), (⟨"CrossroadsChooseModel", "runsBy", "(I)Z"⟩, 51), (⟨"CrossroadsChooseModel", "mostOf", "(II)I"⟩, 51), (⟨"CrossroadsChooseModel", "rowFault", "(I)I"⟩, 51), (⟨"CrossroadsChooseModel", "goDay", "(II)V"⟩, 51), (⟨"CrossroadsChooseModel", "longOf", "(II)I"⟩, 51), (⟨"CrossroadsChooseModel", "at", "(II)I"⟩, 51), (⟨"CrossroadsChooseModel", "goComer", "(I)I"⟩, 51), (⟨"CrossroadsChooseModel", "takesNow", "(I)V"⟩, 51), (⟨"CrossroadsChooseModel", "areComer", "(I)Z"⟩, 51), (⟨"CrossroadsChooseModel", "goAhead", "(IIII)Z"⟩, 51), (⟨"CrossroadsChooseModel", "findAsked", "(I)V"⟩, 51)]
theorem lw_r4 : ∀ q ∈ lw_privs_4, lw_okq q := List.forall_mem_cons.mpr ⟨lw_p48, List.forall_mem_cons.mpr ⟨lw_p49, List.forall_mem_cons.mpr ⟨lw_p50, List.forall_mem_cons.mpr ⟨lw_p51, List.forall_mem_cons.mpr ⟨lw_p52, List.forall_mem_cons.mpr ⟨lw_p53, List.forall_mem_cons.mpr ⟨lw_p54, List.forall_mem_cons.mpr ⟨lw_p55, List.forall_mem_cons.mpr ⟨lw_p56, List.forall_mem_cons.mpr ⟨lw_p57, List.forall_mem_cons.mpr ⟨lw_p58, List.forall_mem_cons.mpr ⟨lw_p59, List.forall_mem_cons.mpr ⟨lw_p60, List.forall_mem_cons.mpr ⟨lw_p61, List.forall_mem_cons.mpr ⟨lw_p62, List.forall_mem_cons.mpr ⟨lw_p63, fun _ h => absurd h List.not_mem_nil⟩⟩⟩⟩⟩⟩⟩⟩⟩⟩⟩⟩⟩⟩⟩⟩
theorem lw_p64 : lw_okq (⟨"CrossroadsChooseModel", "winsBy", "(I)Z"⟩, 51) := ⟨⟨by decide +kernel, by decide +kernel⟩, List.mem_of_getElem? (i := 846) (by decide +kernel), List.mem_of_getElem? (i := 1251) (by decide +kernel), List.mem_of_getElem? (i := 1252) (by decide +kernel)⟩
theorem lw_p65 : lw_okq (⟨"CrossroadsChooseModel", "isJust", "(I)Z"⟩, 51) := ⟨⟨by decide +kernel, by decide +kernel⟩, List.mem_of_getElem? (i := 846) (by decide +kernel), List.mem_of_getElem? (i := 1268) (by decide +kernel), List.mem_of_getElem? (i := 1269) (by decide +kernel)⟩
theorem lw_p66 : lw_okq (⟨"CrossroadsChooseModel", "hasAll", "(II)Z"⟩, 51) := ⟨⟨by decide +kernel, by decide +kernel⟩, List.mem_of_getElem? (i := 846) (by decide +kernel), List.mem_of_getElem? (i := 1280) (by decide +kernel), List.mem_of_getElem? (i := 1281) (by decide +kernel)⟩
theorem lw_p67 : lw_okq (⟨"CrossroadsChooseModel", "wrongTwo", "(I)I"⟩, 51) := ⟨⟨by decide +kernel, by decide +kernel⟩, List.mem_of_getElem? (i := 846) (by decide +kernel), List.mem_of_getElem? (i := 1292) (by decide +kernel), List.mem_of_getElem? (i := 1293) (by decide +kernel)⟩
theorem lw_p68 : lw_okq (⟨"CrossroadsChooseModel", "takesInDeed", "(I)V"⟩, 51) := ⟨⟨by decide +kernel, by decide +kernel⟩, List.mem_of_getElem? (i := 846) (by decide +kernel), List.mem_of_getElem? (i := 1317) (by decide +kernel), List.mem_of_getElem? (i := 1318) (by decide +kernel)⟩
theorem lw_p69 : lw_okq (⟨"CrossroadsChooseModel", "isBody", "(I)Z"⟩, 51) := ⟨⟨by decide +kernel, by decide +kernel⟩, List.mem_of_getElem? (i := 846) (by decide +kernel), List.mem_of_getElem? (i := 1349) (by decide +kernel), List.mem_of_getElem? (i := 1350) (by decide +kernel)⟩
theorem lw_p70 : lw_okq (⟨"CrossroadsChooseModel", "wanting", "(II)I"⟩, 51) := ⟨⟨by decide +kernel, by decide +kernel⟩, List.mem_of_getElem? (i := 846) (by decide +kernel), List.mem_of_getElem? (i := 1353) (by decide +kernel), List.mem_of_getElem? (i := 1354) (by decide +kernel)⟩
theorem lw_p71 : lw_okq (⟨"CrossroadsChooseModel", "ran", "(I)V"⟩, 51) := ⟨⟨by decide +kernel, by decide +kernel⟩, List.mem_of_getElem? (i := 846) (by decide +kernel), List.mem_of_getElem? (i := 1360) (by decide +kernel), List.mem_of_getElem? (i := 1361) (by decide +kernel)⟩
theorem lw_p72 : lw_okq (⟨"CrossroadsChooseModel", "plainWants", "(II)I"⟩, 51) := ⟨⟨by decide +kernel, by decide +kernel⟩, List.mem_of_getElem? (i := 846) (by decide +kernel), List.mem_of_getElem? (i := 1364) (by decide +kernel), List.mem_of_getElem? (i := 1365) (by decide +kernel)⟩
theorem lw_p73 : lw_okq (⟨"CrossroadsChooseModel", "elmWants", "(II)I"⟩, 51) := ⟨⟨by decide +kernel, by decide +kernel⟩, List.mem_of_getElem? (i := 846) (by decide +kernel), List.mem_of_getElem? (i := 1368) (by decide +kernel), List.mem_of_getElem? (i := 1369) (by decide +kernel)⟩
theorem lw_p74 : lw_okq (⟨"CrossroadsChooseModel", "waiting", "(II)I"⟩, 51) := ⟨⟨by decide +kernel, by decide +kernel⟩, List.mem_of_getElem? (i := 846) (by decide +kernel), List.mem_of_getElem? (i := 1372) (by decide +kernel), List.mem_of_getElem? (i := 1373) (by decide +kernel)⟩
theorem lw_p75 : lw_okq (⟨"CrossroadsChooseModel", "greenWaits", "(II)I"⟩, 51) := ⟨⟨by decide +kernel, by decide +kernel⟩, List.mem_of_getElem? (i := 846) (by decide +kernel), List.mem_of_getElem? (i := 1376) (by decide +kernel), List.mem_of_getElem? (i := 1377) (by decide +kernel)⟩
theorem lw_p76 : lw_okq (⟨"CrossroadsChooseModel", "plainWaits", "(II)I"⟩, 51) := ⟨⟨by decide +kernel, by decide +kernel⟩, List.mem_of_getElem? (i := 846) (by decide +kernel), List.mem_of_getElem? (i := 1380) (by decide +kernel), List.mem_of_getElem? (i := 1381) (by decide +kernel)⟩
theorem lw_p77 : lw_okq (⟨"CrossroadsChooseModel", "taking", "(II)I"⟩, 51) := ⟨⟨by decide +kernel, by decide +kernel⟩, List.mem_of_getElem? (i := 846) (by decide +kernel), List.mem_of_getElem? (i := 1384) (by decide +kernel), List.mem_of_getElem? (i := 1385) (by decide +kernel)⟩
theorem lw_p78 : lw_okq (⟨"CrossroadsChooseModel", "bankTakes", "(II)I"⟩, 51) := ⟨⟨by decide +kernel, by decide +kernel⟩, List.mem_of_getElem? (i := 846) (by decide +kernel), List.mem_of_getElem? (i := 1388) (by decide +kernel), List.mem_of_getElem? (i := 1389) (by decide +kernel)⟩
theorem lw_p79 : lw_okq (⟨"CrossroadsChooseModel", "plainTakes", "(II)I"⟩, 51) := ⟨⟨by decide +kernel, by decide +kernel⟩, List.mem_of_getElem? (i := 846) (by decide +kernel), List.mem_of_getElem? (i := 1392) (by decide +kernel), List.mem_of_getElem? (i := 1393) (by decide +kernel)⟩
def lw_privs_5 : List (MethodName × Nat) := [(⟨"CrossroadsChooseModel", "winsBy", "(I)Z"⟩, 51), (⟨"CrossroadsChooseModel", "isJust", "(I)Z"⟩, 51), (⟨"CrossroadsChooseModel", "hasAll", "(II)Z"⟩, 51), (⟨"CrossroadsChooseModel", "wrongTwo", "(I)I"⟩, 51), (⟨"CrossroadsChooseModel", "takesInDeed", "(I)V"⟩, 51), (⟨"CrossroadsChooseModel", "isBody", "(I)Z"⟩, 51), (⟨"CrossroadsChooseModel", "wanting", "(II)I"⟩, 51), (⟨"CrossroadsChooseModel", "ran", "(I)V"⟩, 51), (⟨"CrossroadsChooseModel", "plainWants", "(II)I"⟩, 51), (⟨"CrossroadsChooseModel", "elmWants", "(II)I"⟩, 51), (⟨"CrossroadsChooseModel", "waiting", "(II)I"⟩, 51), (⟨"CrossroadsChooseModel", "greenWaits", "(II)I"⟩, 51), (⟨"CrossroadsChooseModel", "plainWaits", "(II)I"⟩, 51), (⟨"CrossroadsChooseModel", "taking", "(II)I"⟩, 51), (⟨"CrossroadsChooseModel", "bankTakes", "(II)I"⟩, 51), (⟨"CrossroadsChooseModel", "plainTakes", "(II)I"⟩, 51)]
theorem lw_r5 : ∀ q ∈ lw_privs_5, lw_okq q := List.forall_mem_cons.mpr ⟨lw_p64, List.forall_mem_cons.mpr ⟨lw_p65, List.forall_mem_cons.mpr ⟨lw_p66, List.forall_mem_cons.mpr ⟨lw_p67, List.forall_mem_cons.mpr ⟨lw_p68, List.forall_mem_cons.mpr ⟨lw_p69, List.forall_mem_cons.mpr ⟨lw_p70, List.forall_mem_cons.mpr ⟨lw_p71, List.forall_mem_cons.mpr ⟨lw_p72, List.forall_mem_cons.mpr ⟨lw_p73, List.forall_mem_cons.mpr ⟨lw_p74, List.forall_mem_cons.mpr ⟨lw_p75, List.forall_mem_cons.mpr ⟨lw_p76, List.forall_mem_cons.mpr ⟨lw_p77, List.forall_mem_cons.mpr ⟨lw_p78, List.forall_mem_cons.mpr ⟨lw_p79, fun _ h => absurd h List.not_mem_nil⟩⟩⟩⟩⟩⟩⟩⟩⟩⟩⟩⟩⟩⟩⟩⟩
theorem lw_p80 : lw_okq (⟨"CrossroadsChooseModel", "telling", "(II)I"⟩, 51) := ⟨⟨by decide +kernel, by decide +kernel⟩, List.mem_of_getElem? (i := 846) (by decide +kernel), List.mem_of_getElem? (i := 1396) (by decide +kernel), List.mem_of_getElem? (i := 1397) (by decide +kernel)⟩
theorem lw_p81 : lw_okq (⟨"CrossroadsChooseModel", "plainTells", "(II)I"⟩, 51) := ⟨⟨by decide +kernel, by decide +kernel⟩, List.mem_of_getElem? (i := 846) (by decide +kernel), List.mem_of_getElem? (i := 1400) (by decide +kernel), List.mem_of_getElem? (i := 1401) (by decide +kernel)⟩
theorem lw_p82 : lw_okq (⟨"CrossroadsChooseModel", "whyNoPlace", "(II)I"⟩, 51) := ⟨⟨by decide +kernel, by decide +kernel⟩, List.mem_of_getElem? (i := 846) (by decide +kernel), List.mem_of_getElem? (i := 1420) (by decide +kernel), List.mem_of_getElem? (i := 1421) (by decide +kernel)⟩
def lw_privs_6 : List (MethodName × Nat) := [(⟨"CrossroadsChooseModel", "telling", "(II)I"⟩, 51), (⟨"CrossroadsChooseModel", "plainTells", "(II)I"⟩, 51), (⟨"CrossroadsChooseModel", "whyNoPlace", "(II)I"⟩, 51)]
theorem lw_r6 : ∀ q ∈ lw_privs_6, lw_okq q := List.forall_mem_cons.mpr ⟨lw_p80, List.forall_mem_cons.mpr ⟨lw_p81, List.forall_mem_cons.mpr ⟨lw_p82, fun _ h => absurd h List.not_mem_nil⟩⟩⟩
def lw_privs : List (MethodName × Nat) := lw_privs_1 ++ (lw_privs_2 ++ (lw_privs_3 ++ (lw_privs_4 ++ (lw_privs_5 ++ (lw_privs_6)))))
def lw_tbl : List Cond := k2_sels lw_privs ++ tables_1
theorem lw_privs_ok : ∀ q ∈ lw_privs, lw_okq q := by
  show ∀ q ∈ lw_privs_1 ++ (lw_privs_2 ++ (lw_privs_3 ++ (lw_privs_4 ++ (lw_privs_5 ++ (lw_privs_6))))), lw_okq q
  exact List.forall_mem_append.mpr ⟨lw_r1, List.forall_mem_append.mpr ⟨lw_r2, List.forall_mem_append.mpr ⟨lw_r3, List.forall_mem_append.mpr ⟨lw_r4, List.forall_mem_append.mpr ⟨lw_r5, lw_r6⟩⟩⟩⟩⟩
def RX0 : String := "CrossroadsChoose$Bodies"
def TX0 : u_T := fun k => match k with
  | 0 => ("CrossroadsChoose$Bodies", "kinds", "[I", true)
  | 1 => ("CrossroadsChoose$Bodies", "trace", "[I", true)
  | 2 => ("CrossroadsChoose$Bodies", "many", "I", false)
  | _ => ("CrossroadsChoose$Bodies", "ran", "I", false)
def tyX0 : Nat → FieldType := fun k => match k with
  | 0 => .array .int
  | 1 => .array .int
  | 2 => .int
  | _ => .int
abbrev wsX00 : List Cond := u_ws RX0 TX0 4
theorem nmX0 : ∀ a, a < 4 → ∀ b, b < 4 → a ≠ b → (TX0 a).2.1 ≠ (TX0 b).2.1 := by decide +kernel
theorem tyX0_ok : ∀ k, k < 4 → parseFieldDescriptor (TX0 k).2.2.1 = some (tyX0 k) := by decide +kernel
def RX1 : String := "CrossroadsChoose$Changes"
def TX1 : u_T := fun k => match k with
  | 0 => ("CrossroadsChoose$Changes", "numbers", "[I", true)
  | 1 => ("CrossroadsChoose$Changes", "whats", "[I", true)
  | 2 => ("CrossroadsChoose$Changes", "olds", "[I", true)
  | 3 => ("CrossroadsChoose$Changes", "fresh", "[I", true)
  | 4 => ("CrossroadsChoose$Changes", "done", "I", false)
  | _ => ("CrossroadsChoose$Changes", "known", "I", false)
def tyX1 : Nat → FieldType := fun k => match k with
  | 0 => .array .int
  | 1 => .array .int
  | 2 => .array .int
  | 3 => .array .int
  | 4 => .int
  | _ => .int
abbrev wsX10 : List Cond := u_ws RX1 TX1 6
theorem nmX1 : ∀ a, a < 6 → ∀ b, b < 6 → a ≠ b → (TX1 a).2.1 ≠ (TX1 b).2.1 := by decide +kernel
theorem tyX1_ok : ∀ k, k < 6 → parseFieldDescriptor (TX1 k).2.2.1 = some (tyX1 k) := by decide +kernel
def RX2 : String := "CrossroadsChoose$Crossing"
def TX2 : u_T := fun k => match k with
  | 0 => ("CrossroadsChoose$Crossing", "numbers", "[I", true)
  | 1 => ("CrossroadsChoose$Crossing", "roads", "I", false)
  | _ => ("CrossroadsChoose$Crossing", "law", "LCrossroadsChoose$Law;", false)
def tyX2 : Nat → FieldType := fun k => match k with
  | 0 => .array .int
  | 1 => .int
  | _ => .object "CrossroadsChoose$Law"
abbrev wsX20 : List Cond := u_ws RX2 TX2 3
theorem nmX2 : ∀ a, a < 3 → ∀ b, b < 3 → a ≠ b → (TX2 a).2.1 ≠ (TX2 b).2.1 := by decide +kernel
theorem tyX2_ok : ∀ k, k < 3 → parseFieldDescriptor (TX2 k).2.2.1 = some (tyX2 k) := by decide +kernel
def RX3 : String := "CrossroadsChoose$Image"
def TX3 : u_T := fun k => match k with
  | 0 => ("CrossroadsChoose$Image", "waits", "[I", true)
  | 1 => ("CrossroadsChoose$Image", "ledger", "[I", true)
  | 2 => ("CrossroadsChoose$Image", "there", "Z", false)
  | _ => ("CrossroadsChoose$Image", "roads", "I", false)
def tyX3 : Nat → FieldType := fun k => match k with
  | 0 => .array .int
  | 1 => .array .int
  | 2 => .boolean
  | _ => .int
abbrev wsX30 : List Cond := u_ws RX3 TX3 4
theorem nmX3 : ∀ a, a < 4 → ∀ b, b < 4 → a ≠ b → (TX3 a).2.1 ≠ (TX3 b).2.1 := by decide +kernel
theorem tyX3_ok : ∀ k, k < 4 → parseFieldDescriptor (TX3 k).2.2.1 = some (tyX3 k) := by decide +kernel
def RX4 : String := "CrossroadsChoose$Law"
def TX4 : u_T := fun k => match k with
  | 0 => ("CrossroadsChoose$Law", "signs", "[I", true)
  | 1 => ("CrossroadsChoose$Law", "values", "[I", true)
  | 2 => ("CrossroadsChoose$Law", "stack", "[I", true)
  | 3 => ("CrossroadsChoose$Law", "names", "[I", true)
  | 4 => ("CrossroadsChoose$Law", "steps", "I", false)
  | _ => ("CrossroadsChoose$Law", "top", "I", false)
def tyX4 : Nat → FieldType := fun k => match k with
  | 0 => .array .int
  | 1 => .array .int
  | 2 => .array .int
  | 3 => .array .int
  | 4 => .int
  | _ => .int
abbrev wsX40 : List Cond := u_ws RX4 TX4 6
theorem nmX4 : ∀ a, a < 6 → ∀ b, b < 6 → a ≠ b → (TX4 a).2.1 ≠ (TX4 b).2.1 := by decide +kernel
theorem tyX4_ok : ∀ k, k < 6 → parseFieldDescriptor (TX4 k).2.2.1 = some (tyX4 k) := by decide +kernel
def RX5 : String := "CrossroadsChoose$Shelf"
def TX5 : u_T := fun k => match k with
  | 0 => ("CrossroadsChoose$Shelf", "elements", "[J", true)
  | 1 => ("CrossroadsChoose$Shelf", "holds", "I", false)
  | 2 => ("CrossroadsChoose$Shelf", "body", "I", false)
  | 3 => ("CrossroadsChoose$Shelf", "sort", "I", false)
  | _ => ("CrossroadsChoose$Shelf", "length", "I", false)
def tyX5 : Nat → FieldType := fun k => match k with
  | 0 => .array .long
  | 1 => .int
  | 2 => .int
  | 3 => .int
  | _ => .int
abbrev wsX50 : List Cond := u_ws RX5 TX5 5
theorem nmX5 : ∀ a, a < 5 → ∀ b, b < 5 → a ≠ b → (TX5 a).2.1 ≠ (TX5 b).2.1 := by decide +kernel
theorem tyX5_ok : ∀ k, k < 5 → parseFieldDescriptor (TX5 k).2.2.1 = some (tyX5 k) := by decide +kernel
def RX6 : String := "CrossroadsChoose$Tape"
def TX6 : u_T := fun k => match k with
  | 0 => ("CrossroadsChoose$Tape", "bytes", "[I", true)
  | 1 => ("CrossroadsChoose$Tape", "length", "I", false)
  | _ => ("CrossroadsChoose$Tape", "place", "I", false)
def tyX6 : Nat → FieldType := fun k => match k with
  | 0 => .array .int
  | 1 => .int
  | _ => .int
abbrev wsX60 : List Cond := u_ws RX6 TX6 3
theorem nmX6 : ∀ a, a < 3 → ∀ b, b < 3 → a ≠ b → (TX6 a).2.1 ≠ (TX6 b).2.1 := by decide +kernel
theorem tyX6_ok : ∀ k, k < 3 → parseFieldDescriptor (TX6 k).2.2.1 = some (tyX6 k) := by decide +kernel
def RX7 : String := "CrossroadsChoose$Thought"
def TX7 : u_T := fun k => match k with
  | 0 => ("CrossroadsChoose$Thought", "crossing", "LCrossroadsChoose$Crossing;", true)
  | 1 => ("CrossroadsChoose$Thought", "had", "[I", true)
  | 2 => ("CrossroadsChoose$Thought", "first", "[I", true)
  | 3 => ("CrossroadsChoose$Thought", "longest", "[I", true)
  | 4 => ("CrossroadsChoose$Thought", "comers", "I", false)
  | 5 => ("CrossroadsChoose$Thought", "latest", "I", false)
  | _ => ("CrossroadsChoose$Thought", "worth", "I", false)
def tyX7 : Nat → FieldType := fun k => match k with
  | 0 => .object "CrossroadsChoose$Crossing"
  | 1 => .array .int
  | 2 => .array .int
  | 3 => .array .int
  | 4 => .int
  | 5 => .int
  | _ => .int
abbrev wsX70 : List Cond := u_ws RX7 TX7 7
theorem nmX7 : ∀ a, a < 7 → ∀ b, b < 7 → a ≠ b → (TX7 a).2.1 ≠ (TX7 b).2.1 := by decide +kernel
theorem tyX7_ok : ∀ k, k < 7 → parseFieldDescriptor (TX7 k).2.2.1 = some (tyX7 k) := by decide +kernel
def RX8 : String := "CrossroadsChoose$Votes"
def TX8 : u_T := fun k => match k with
  | _ => ("", "", "", false)
def tyX8 : Nat → FieldType := fun k => match k with
  | _ => .int
abbrev wsX80 : List Cond := u_ws RX8 TX8 0
theorem nmX8 : ∀ a, a < 0 → ∀ b, b < 0 → a ≠ b → (TX8 a).2.1 ≠ (TX8 b).2.1 := by decide +kernel
theorem tyX8_ok : ∀ k, k < 0 → parseFieldDescriptor (TX8 k).2.2.1 = some (tyX8 k) := by decide +kernel
def RX9 : String := "CrossroadsChoose"
def TX9 : u_T := fun k => match k with
  | 0 => ("CrossroadsChoose", "now", "LCrossroadsChoose$Crossing;", true)
  | 1 => ("CrossroadsChoose", "thought", "LCrossroadsChoose$Thought;", true)
  | 2 => ("CrossroadsChoose", "tape", "LCrossroadsChoose$Tape;", true)
  | 3 => ("CrossroadsChoose", "changes", "LCrossroadsChoose$Changes;", true)
  | 4 => ("CrossroadsChoose", "kept", "LCrossroadsChoose$Image;", true)
  | 5 => ("CrossroadsChoose", "bodies", "LCrossroadsChoose$Bodies;", true)
  | 6 => ("CrossroadsChoose", "shelves", "[LCrossroadsChoose$Shelf;", true)
  | 7 => ("CrossroadsChoose", "ledger", "[I", true)
  | 8 => ("CrossroadsChoose", "sentAhead", "[I", true)
  | 9 => ("CrossroadsChoose", "waitsAhead", "[[I", true)
  | _ => ("CrossroadsChoose", "draft", "LCrossroadsChoose$Law;", false)
def tyX9 : Nat → FieldType := fun k => match k with
  | 0 => .object "CrossroadsChoose$Crossing"
  | 1 => .object "CrossroadsChoose$Thought"
  | 2 => .object "CrossroadsChoose$Tape"
  | 3 => .object "CrossroadsChoose$Changes"
  | 4 => .object "CrossroadsChoose$Image"
  | 5 => .object "CrossroadsChoose$Bodies"
  | 6 => .array (.object "CrossroadsChoose$Shelf")
  | 7 => .array .int
  | 8 => .array .int
  | 9 => .array (.array .int)
  | _ => .object "CrossroadsChoose$Law"
abbrev wsX90 : List Cond := u_ws RX9 TX9 11
theorem nmX9 : ∀ a, a < 11 → ∀ b, b < 11 → a ≠ b → (TX9 a).2.1 ≠ (TX9 b).2.1 := by decide +kernel
theorem tyX9_ok : ∀ k, k < 11 → parseFieldDescriptor (TX9 k).2.2.1 = some (tyX9 k) := by decide +kernel
def RX10 : String := "CrossroadsChooseModel"
def TX10 : u_T := fun k => match k with
  | 0 => ("CrossroadsChooseModel", "code", "I", false)
  | 1 => ("CrossroadsChooseModel", "roads1", "I", false)
  | 2 => ("CrossroadsChooseModel", "likes", "[I", true)
  | 3 => ("CrossroadsChooseModel", "dust", "[I", true)
  | 4 => ("CrossroadsChooseModel", "worth", "[I", true)
  | 5 => ("CrossroadsChooseModel", "waitOf", "[I", true)
  | 6 => ("CrossroadsChooseModel", "told", "[I", true)
  | 7 => ("CrossroadsChooseModel", "doneMany", "I", false)
  | 8 => ("CrossroadsChooseModel", "undoneMany", "I", false)
  | 9 => ("CrossroadsChooseModel", "changeOf", "[I", true)
  | 10 => ("CrossroadsChooseModel", "changeAt", "[I", true)
  | 11 => ("CrossroadsChooseModel", "before", "[I", true)
  | 12 => ("CrossroadsChooseModel", "behind", "[I", true)
  | 13 => ("CrossroadsChooseModel", "tape", "[B", true)
  | 14 => ("CrossroadsChooseModel", "taped", "I", false)
  | 15 => ("CrossroadsChooseModel", "here", "I", false)
  | 16 => ("CrossroadsChooseModel", "fault", "I", false)
  | 17 => ("CrossroadsChooseModel", "open", "I", false)
  | 18 => ("CrossroadsChooseModel", "laid", "I", false)
  | 19 => ("CrossroadsChooseModel", "act", "[B", true)
  | 20 => ("CrossroadsChooseModel", "with", "[I", true)
  | 21 => ("CrossroadsChooseModel", "lineMany", "[I", true)
  | 22 => ("CrossroadsChooseModel", "testEnd", "[S", true)
  | 23 => ("CrossroadsChooseModel", "lineEnd", "[S", true)
  | 24 => ("CrossroadsChooseModel", "facts", "[I", true)
  | 25 => ("CrossroadsChooseModel", "pile", "[I", true)
  | 26 => ("CrossroadsChooseModel", "hasLaw", "Z", false)
  | 27 => ("CrossroadsChooseModel", "wait1", "[I", true)
  | 28 => ("CrossroadsChooseModel", "hadOf", "[I", true)
  | 29 => ("CrossroadsChooseModel", "firstOf", "[I", true)
  | 30 => ("CrossroadsChooseModel", "longestOf", "[I", true)
  | 31 => ("CrossroadsChooseModel", "lastRoad", "I", false)
  | 32 => ("CrossroadsChooseModel", "waitsKept", "[I", true)
  | 33 => ("CrossroadsChooseModel", "sentCode", "[I", true)
  | 34 => ("CrossroadsChooseModel", "asked", "[I", true)
  | 35 => ("CrossroadsChooseModel", "askedMany", "I", false)
  | 36 => ("CrossroadsChooseModel", "ledOf", "[I", true)
  | 37 => ("CrossroadsChooseModel", "latest", "I", false)
  | 38 => ("CrossroadsChooseModel", "hasImage", "Z", false)
  | 39 => ("CrossroadsChooseModel", "keptMany", "I", false)
  | 40 => ("CrossroadsChooseModel", "keptLatest", "I", false)
  | 41 => ("CrossroadsChooseModel", "keptWait", "[I", true)
  | 42 => ("CrossroadsChooseModel", "keptLed", "[I", true)
  | 43 => ("CrossroadsChooseModel", "bodies", "I", false)
  | 44 => ("CrossroadsChooseModel", "kind", "[I", true)
  | 45 => ("CrossroadsChooseModel", "traces", "I", false)
  | 46 => ("CrossroadsChooseModel", "traced", "[I", true)
  | 47 => ("CrossroadsChooseModel", "holds", "[I", true)
  | 48 => ("CrossroadsChooseModel", "size", "[I", true)
  | 49 => ("CrossroadsChooseModel", "elements", "[J", true)
  | _ => ("CrossroadsChooseModel", "shifted", "[J", true)
def tyX10 : Nat → FieldType := fun k => match k with
  | 0 => .int
  | 1 => .int
  | 2 => .array .int
  | 3 => .array .int
  | 4 => .array .int
  | 5 => .array .int
  | 6 => .array .int
  | 7 => .int
  | 8 => .int
  | 9 => .array .int
  | 10 => .array .int
  | 11 => .array .int
  | 12 => .array .int
  | 13 => .array .byte
  | 14 => .int
  | 15 => .int
  | 16 => .int
  | 17 => .int
  | 18 => .int
  | 19 => .array .byte
  | 20 => .array .int
  | 21 => .array .int
  | 22 => .array .short
  | 23 => .array .short
  | 24 => .array .int
  | 25 => .array .int
  | 26 => .boolean
  | 27 => .array .int
  | 28 => .array .int
  | 29 => .array .int
  | 30 => .array .int
  | 31 => .int
  | 32 => .array .int
  | 33 => .array .int
  | 34 => .array .int
  | 35 => .int
  | 36 => .array .int
  | 37 => .int
  | 38 => .boolean
  | 39 => .int
  | 40 => .int
  | 41 => .array .int
  | 42 => .array .int
  | 43 => .int
  | 44 => .array .int
  | 45 => .int
  | 46 => .array .int
  | 47 => .array .int
  | 48 => .array .int
  | 49 => .array .long
  | _ => .array .long
abbrev wsX100 : List Cond := u_ws RX10 TX10 51
theorem nmX10 : ∀ a, a < 51 → ∀ b, b < 51 → a ≠ b → (TX10 a).2.1 ≠ (TX10 b).2.1 := by decide +kernel
theorem tyX10_ok : ∀ k, k < 51 → parseFieldDescriptor (TX10 k).2.2.1 = some (tyX10 k) := by decide +kernel
/-- the words that any call may take along; the words of nest mates -/
def gx_T : List Cond := lw_tbl.filter goodWord
def gx_isN : Cond → Bool
  | .fieldLinkNest _ _ _ _ _ _ => true
  | .methodLinkNest _ _ _ _ => true
  | _ => false
def gx_N : List Cond := lw_tbl.filter gx_isN
theorem gx_inT {w : Cond} (i : Nat) (h : lw_tbl[i]? = some w) (hg : goodWord w = true) : w ∈ gx_T := List.mem_filter.mpr ⟨List.mem_of_getElem? h, hg⟩
theorem gx_inN {w : Cond} (i : Nat) (h : lw_tbl[i]? = some w) (hg : gx_isN w = true) : w ∈ gx_N := List.mem_filter.mpr ⟨List.mem_of_getElem? h, hg⟩
theorem gx_Tgood {w : Cond} (h : w ∈ gx_T) : goodWord w = true := (List.mem_filter.mp h).2
abbrev gx_cl : List vw_C := [(RX0, TX0, 4), (RX1, TX1, 6), (RX2, TX2, 3), (RX3, TX3, 4), (RX4, TX4, 6), (RX5, TX5, 5), (RX6, TX6, 3), (RX7, TX7, 7), (RX0, TX0, 4), (RX9, TX9, 11), (RX10, TX10, 51)]
theorem gx_in0 : ∀ w ∈ u_ws RX0 TX0 4, w ∈ gx_T := by
  intro w hw
  have h : u_ws RX0 TX0 4 = [185, 187, 189, 191].filterMap (fun i => lw_tbl[i]?) := by decide +kernel
  have hg : (u_ws RX0 TX0 4).all goodWord = true := by decide +kernel
  have h1 := List.all_eq_true.mp hg w hw
  rw [h] at hw
  obtain ⟨i, -, hi⟩ := List.mem_filterMap.mp hw
  exact gx_inT i hi h1
theorem gx_in1 : ∀ w ∈ u_ws RX1 TX1 6, w ∈ gx_T := by
  intro w hw
  have h : u_ws RX1 TX1 6 = [139, 141, 143, 145, 147, 149].filterMap (fun i => lw_tbl[i]?) := by decide +kernel
  have hg : (u_ws RX1 TX1 6).all goodWord = true := by decide +kernel
  have h1 := List.all_eq_true.mp hg w hw
  rw [h] at hw
  obtain ⟨i, -, hi⟩ := List.mem_filterMap.mp hw
  exact gx_inT i hi h1
theorem gx_in2 : ∀ w ∈ u_ws RX2 TX2 3, w ∈ gx_T := by
  intro w hw
  have h : u_ws RX2 TX2 3 = [236, 238, 240].filterMap (fun i => lw_tbl[i]?) := by decide +kernel
  have hg : (u_ws RX2 TX2 3).all goodWord = true := by decide +kernel
  have h1 := List.all_eq_true.mp hg w hw
  rw [h] at hw
  obtain ⟨i, -, hi⟩ := List.mem_filterMap.mp hw
  exact gx_inT i hi h1
theorem gx_in3 : ∀ w ∈ u_ws RX3 TX3 4, w ∈ gx_T := by
  intro w hw
  have h : u_ws RX3 TX3 4 = [164, 166, 168, 170].filterMap (fun i => lw_tbl[i]?) := by decide +kernel
  have hg : (u_ws RX3 TX3 4).all goodWord = true := by decide +kernel
  have h1 := List.all_eq_true.mp hg w hw
  rw [h] at hw
  obtain ⟨i, -, hi⟩ := List.mem_filterMap.mp hw
  exact gx_inT i hi h1
theorem gx_in4 : ∀ w ∈ u_ws RX4 TX4 6, w ∈ gx_T := by
  intro w hw
  have h : u_ws RX4 TX4 6 = [210, 212, 214, 216, 218, 220].filterMap (fun i => lw_tbl[i]?) := by decide +kernel
  have hg : (u_ws RX4 TX4 6).all goodWord = true := by decide +kernel
  have h1 := List.all_eq_true.mp hg w hw
  rw [h] at hw
  obtain ⟨i, -, hi⟩ := List.mem_filterMap.mp hw
  exact gx_inT i hi h1
theorem gx_in5 : ∀ w ∈ u_ws RX5 TX5 5, w ∈ gx_T := by
  intro w hw
  have h : u_ws RX5 TX5 5 = [293, 295, 297, 299, 301].filterMap (fun i => lw_tbl[i]?) := by decide +kernel
  have hg : (u_ws RX5 TX5 5).all goodWord = true := by decide +kernel
  have h1 := List.all_eq_true.mp hg w hw
  rw [h] at hw
  obtain ⟨i, -, hi⟩ := List.mem_filterMap.mp hw
  exact gx_inT i hi h1
theorem gx_in6 : ∀ w ∈ u_ws RX6 TX6 3, w ∈ gx_T := by
  intro w hw
  have h : u_ws RX6 TX6 3 = [117, 119, 121].filterMap (fun i => lw_tbl[i]?) := by decide +kernel
  have hg : (u_ws RX6 TX6 3).all goodWord = true := by decide +kernel
  have h1 := List.all_eq_true.mp hg w hw
  rw [h] at hw
  obtain ⟨i, -, hi⟩ := List.mem_filterMap.mp hw
  exact gx_inT i hi h1
theorem gx_in7 : ∀ w ∈ u_ws RX7 TX7 7, w ∈ gx_T := by
  intro w hw
  have h : u_ws RX7 TX7 7 = [264, 266, 268, 270, 272, 274, 276].filterMap (fun i => lw_tbl[i]?) := by decide +kernel
  have hg : (u_ws RX7 TX7 7).all goodWord = true := by decide +kernel
  have h1 := List.all_eq_true.mp hg w hw
  rw [h] at hw
  obtain ⟨i, -, hi⟩ := List.mem_filterMap.mp hw
  exact gx_inT i hi h1
theorem gx_in9 : ∀ w ∈ u_ws RX9 TX9 11, w ∈ gx_T := by
  intro w hw
  have h : u_ws RX9 TX9 11 = [316, 318, 320, 322, 324, 326, 328, 330, 332, 334, 336].filterMap (fun i => lw_tbl[i]?) := by decide +kernel
  have hg : (u_ws RX9 TX9 11).all goodWord = true := by decide +kernel
  have h1 := List.all_eq_true.mp hg w hw
  rw [h] at hw
  obtain ⟨i, -, hi⟩ := List.mem_filterMap.mp hw
  exact gx_inT i hi h1
theorem gx_in10 : ∀ w ∈ u_ws RX10 TX10 51, w ∈ gx_T := by
  intro w hw
  have h : u_ws RX10 TX10 51 = [984, 986, 988, 990, 992, 994, 996, 998, 1000, 1002, 1004, 1006, 1008, 1010, 1012, 1014, 1016, 1018, 1020, 1022, 1024, 1026, 1028, 1030, 1032, 1034, 1036, 1038, 1040, 1042, 1044, 1046, 1048, 1050, 1052, 1054, 1056, 1058, 1060, 1062, 1064, 1066, 1068, 1070, 1072, 1074, 1076, 1078, 1080, 1082, 1084].filterMap (fun i => lw_tbl[i]?) := by decide +kernel
  have hg : (u_ws RX10 TX10 51).all goodWord = true := by decide +kernel
  have h1 := List.all_eq_true.mp hg w hw
  rw [h] at hw
  obtain ⟨i, -, hi⟩ := List.mem_filterMap.mp hw
  exact gx_inT i hi h1
/-- what a program decides of every class -/
theorem gx_fact (ci : Nat) (q : vw_C) (h : gx_cl[ci]? = some q) : (∀ w ∈ u_ws q.1 q.2.1 q.2.2, w ∈ gx_T) ∧ (∀ a, a < q.2.2 → ∀ b, b < q.2.2 → a ≠ b → (q.2.1 a).2.1 ≠ (q.2.1 b).2.1) ∧ ∃ ty : Nat → FieldType, ∀ k, k < q.2.2 → parseFieldDescriptor (q.2.1 k).2.2.1 = some (ty k) := by
  match ci, h with
  | 0, h => cases h; exact ⟨gx_in0, nmX0, _, tyX0_ok⟩
  | 1, h => cases h; exact ⟨gx_in1, nmX1, _, tyX1_ok⟩
  | 2, h => cases h; exact ⟨gx_in2, nmX2, _, tyX2_ok⟩
  | 3, h => cases h; exact ⟨gx_in3, nmX3, _, tyX3_ok⟩
  | 4, h => cases h; exact ⟨gx_in4, nmX4, _, tyX4_ok⟩
  | 5, h => cases h; exact ⟨gx_in5, nmX5, _, tyX5_ok⟩
  | 6, h => cases h; exact ⟨gx_in6, nmX6, _, tyX6_ok⟩
  | 7, h => cases h; exact ⟨gx_in7, nmX7, _, tyX7_ok⟩
  | 8, h => cases h; exact ⟨gx_in0, nmX0, _, tyX0_ok⟩
  | 9, h => cases h; exact ⟨gx_in9, nmX9, _, tyX9_ok⟩
  | 10, h => cases h; exact ⟨gx_in10, nmX10, _, tyX10_ok⟩
  | n + 11, h => simp [gx_cl] at h
end
section
/-! THE PURE MACHINE: a world is a row of kinds and sizes, and functions of cell and place; a judgement 'gx_G' over it, sound for the machine -/
abbrev gx_M : Type := MethodName × ByteArray × Nat × Option FieldType
/-- the numbers of a start: the heap's size, where the arrays that are given lie, their sizes and contents, the classes -/
abbrev gx_D : Type := Nat × (Nat → Nat) × (Nat → Nat) × (Nat → Nat → Int32) × (Nat → ClassId) × (Nat → Nat → Nat) × (Nat → ClassId)
def gx_z (D : gx_D) : Nat := D.1
def gx_t (D : gx_D) (k : Nat) : Nat := D.2.1 k
def gx_rn (D : gx_D) (k : Nat) : Nat := D.2.2.1 k
def gx_ro (D : gx_D) (k : Nat) : Nat → Int32 := D.2.2.2.1 k
def gx_g (D : gx_D) : va_G := (D.2.2.2.2.1, D.2.2.2.2.2.1)
def gx_y (D : gx_D) (k : Nat) : ClassId := D.2.2.2.2.2.2 k
def gx_A (D : gx_D) : Nat → Prop := fun q => gx_z D ≤ q
abbrev gx_W : Type := List (Nat × Nat) × (Nat → Nat → Int32) × (Nat → Nat → Option Nat) × (Nat → Nat → Int32) × (Nat → Nat → Int64) × (Nat → Nat → Option Nat)
def w_sh (w : gx_W) : List (Nat × Nat) := w.1
def w_i (w : gx_W) : Nat → Nat → Int32 := w.2.1
def w_r (w : gx_W) : Nat → Nat → Option Nat := w.2.2.1
def w_a (w : gx_W) : Nat → Nat → Int32 := w.2.2.2.1
def w_l (w : gx_W) : Nat → Nat → Int64 := w.2.2.2.2.1
def w_q (w : gx_W) : Nat → Nat → Option Nat := w.2.2.2.2.2
def s_i (w : gx_W) (k j : Nat) (v : Int32) : gx_W := (w.1, va_up w.2.1 k (va_up (w.2.1 k) j v), w.2.2)
def s_r (w : gx_W) (k j : Nat) (v : Option Nat) : gx_W := (w.1, w.2.1, va_up w.2.2.1 k (va_up (w.2.2.1 k) j v), w.2.2.2)
def s_a (w : gx_W) (k : Nat) (f : Nat → Int32) : gx_W := (w.1, w.2.1, w.2.2.1, va_up w.2.2.2.1 k f, w.2.2.2.2)
def s_l (w : gx_W) (k : Nat) (f : Nat → Int64) : gx_W := (w.1, w.2.1, w.2.2.1, w.2.2.2.1, va_up w.2.2.2.2.1 k f, w.2.2.2.2.2)
def s_q (w : gx_W) (k : Nat) (f : Nat → Option Nat) : gx_W := (w.1, w.2.1, w.2.2.1, w.2.2.2.1, w.2.2.2.2.1, va_up w.2.2.2.2.2 k f)
/-- the fields of a class: true where an int (or boolean) stands -/
def gx_lay (c : Nat) : List Bool := match gx_cl[c]? with
  | some q => (List.range q.2.2).map (fun k => decide ((q.2.1 k).2.2.1 = "I") || decide ((q.2.1 k).2.2.1 = "Z"))
  | none => []
def gx_f (D : gx_D) (k : Nat) : Nat := if k < 6 then gx_t D k else gx_z D + (k - 6)
def gx_c (D : gx_D) : Value → Value
  | .ref k => .ref (gx_f D k)
  | v => v
def gx_rv (D : gx_D) (o : Option Nat) : Value := va_rf (o.map (gx_f D))
def gx_fs (D : gx_D) (w : gx_W) (k c : Nat) : List Value := (gx_lay c).mapIdx (fun j b => if b then .int (w_i w k j) else gx_rv D (w_r w k j))
def gx_e (D : gx_D) (w : gx_W) (k : Nat) (c : Nat × Nat) : va_E :=
  if c.1 < 20 then .inr (c.1, gx_fs D w k c.1)
  else if c.1 < 23 then .inl (gx_y D c.1, c.2, .inl (w_a w k))
  else if c.1 = 23 then .inl (gx_y D 23, c.2, .inr (.inl (w_l w k)))
  else .inl (gx_y D c.1, c.2, .inr (.inr (.inr (.inr (fun j => (w_q w k j).map (gx_f D))))))
def gx_ws (D : gx_D) (w : gx_W) : va_W := (w.1.drop 6).mapIdx (fun i c => (gx_z D + i, gx_e D w (i + 6) c))
/-- the heap holds the world -/
def gx_P (D : gx_D) (w : gx_W) (H : Heap) : Prop := gx_z D + (w.1.length - 6) = H.size ∧ (∀ k, k < 6 → w.1[k]? = some (30, gx_rn D k) ∧ w_a w k = gx_ro D k) ∧ va_P (gx_g D) gx_cl (gx_ws D w) H
def gx_tys (D : gx_D) : List (ClassId × FieldType) := [(gx_y D 20, .int), (gx_y D 21, .byte), (gx_y D 22, .short), (gx_y D 23, .long), (gx_y D 24, .object "CrossroadsChoose$Shelf"), (gx_y D 25, .array .int)]
/-- the static fields: class, name, the array's number -/
def gx_st : List (String × String × Nat) := [("CrossroadsChoose", "LOWEST", 1), ("CrossroadsChoose", "HIGHEST", 2), ("CrossroadsChoose$Votes", "ORDERS", 3), ("CrossroadsChoose$Bodies", "ABOVE", 4), ("CrossroadsChoose$Bodies", "OWN", 5)]
/-- what a state's tables say -/
def gx_E (D : gx_D) (U : State) : Prop := va_K (gx_g D) gx_cl (gx_tys D) U ∧ (∀ w ∈ gx_N, va_Nw w U) ∧ va_AO "CrossroadsChoose$Shelf" U ∧ (Cond.arrayOver (.array .int)).before #[] U = true
/-- the arrays that are given -/
def gx_R (D : gx_D) (U : State) (H : Heap) : Prop := (∀ k, k < 6 → va_T .int (gx_t D k) (gx_rn D k) (fun j => .int (gx_ro D k j)) (gx_A D) U H) ∧ ∀ q ∈ gx_st, va_Z q.1 q.2.1 "[I" (.ref (gx_t D q.2.2)) (gx_A D) U H
def gx_all (M : gx_M) : List Cond := .code M.1 M.2.1 M.2.2.1 M.2.2.2 :: gx_T
def gx_ctx (D : gx_D) (M : gx_M) (p : Program) (s : State) (m : MethodId) (args : Array Value) (meth : Method) (c : Code) : Prop :=
  p.tables.exec = Jvm.exec ∧ c.code = M.2.1 ∧ meth.sig.returnType = M.2.2.2 ∧ c.maxLocals = M.2.2.1 ∧ s.vm.findClass M.1.cls = some m.cls ∧ (∀ w ∈ gx_T, w.before args s = true) ∧ meth.locks = false ∧ (M.1.name = "<init>" → meth.name = "<init>") ∧ gx_E D s ∧ gx_R D s s.heap ∧ gx_z D ≤ s.heap.size
def gx_rm (nc ns d : Nat) (R : Room) (cells slots : Nat) : Prop := d ≤ R.frames ∧ 100 * d ≤ R.locals ∧ cells + nc ≤ R.cells ∧ slots + ns ≤ R.slots
def gx_ls (D : gx_D) (ls : Array Slot) (L : List Value) : Prop := ls.size = L.length ∧ lv_wf ls ∧ ∀ (i : Nat) (v : Value), L[i]? = some v → v ≠ .retAddr 0 → ls[i]? = some (.val (gx_c D v))
def gx_Q (D : gx_D) (Q : Option Value → gx_W → Prop) : Array Value → State → Outcome → State → Prop := fun _ st o t => (∃ (r : Option Value) (w : gx_W), o = .returned (r.map (gx_c D)) ∧ Q r w ∧ gx_P D w t.heap) ∧ va_F (gx_A D) st t
/-- THE JUDGEMENT: at pc of the method M, with these locals, this stack and this world, with room for nc cells of ns slots and d frames: it comes to its return, and there Q holds -/
def gx_G (nc ns d : Nat) (M : gx_M) (Q : Option Value → gx_W → Prop) (pc : Nat) (L st : List Value) (w : gx_W) : Prop :=
  ∀ (D : gx_D) (p : Program) (l : Launch) (e : Env) (R : Room) (s : State) (m : MethodId) (args : Array Value) (below : List Frame) (meth : Method) (c : Code) (H : Heap) (locs : List Loc) (cells slots : Nat) (ls : Array Slot),
    gx_ctx D M p s m args meth c → gx_rm nc ns d R cells slots → gx_P D w H → va_S (gx_A D) s.heap H locs → gx_ls D ls L →
    W p l e R s m args below meth c H locs cells slots (MQ below (gx_Q D Q) args s (cells + nc) (slots + ns) (gx_A D)) (F0 m pc ls (st.map (gx_c D)))
/-- a call of M with these arguments in this world -/
def gx_Pc (D : gx_D) (as : List Value) (w : gx_W) : Array Value → State → Prop := fun a U => a = (as.map (gx_c D)).toArray ∧ gx_E D U ∧ gx_R D U U.heap ∧ gx_P D w U.heap
def gx_C (nc ns d : Nat) (M : gx_M) (as : List Value) (w : gx_W) (Q : Option Value → gx_W → Prop) : Prop :=
  ∀ (D : gx_D) (l : Launch), Met l M.1 (gx_all M) { frames := d, cells := nc, slots := ns, locals := 100 * d } (gx_Pc D as w) (gx_Q D Q) nc ns (gx_A D)
def gx_d (M : gx_M) (pc : Nat) (i : Instr) (n : Nat) : Prop := decode M.2.1 pc = .ok (i, n)
theorem gx_c_cat (D : gx_D) (v : Value) : (gx_c D v).category = v.category := by cases v <;> rfl
theorem gx_ws_get (D : gx_D) (w : gx_W) (i : Nat) : (gx_ws D w)[i]? = (w.1[i + 6]?).map (fun c => (gx_z D + i, gx_e D w (i + 6) c)) := by
  unfold gx_ws
  rw [List.getElem?_mapIdx, List.getElem?_drop, Nat.add_comm 6 i]
theorem gx_f_hi {D : gx_D} {k : Nat} (h : 6 ≤ k) : gx_f D k = gx_z D + (k - 6) := if_neg (by omega)
theorem gx_ws_at {D : gx_D} {w : gx_W} {k : Nat} {c : Nat × Nat} (h : 6 ≤ k) (hc : w.1[k]? = some c) : (gx_ws D w)[k - 6]? = some (gx_f D k, gx_e D w k c) := by
  have e : k - 6 + 6 = k := by omega
  rw [gx_ws_get, e, hc, gx_f_hi h]
  rfl
theorem gx_ws_D (D : gx_D) (w : gx_W) : va_D (gx_A D) (gx_ws D w) := by
  refine ⟨fun i j p q hi hj h => ?_, fun k q hk => ?_⟩
  · rw [gx_ws_get] at hi hj
    obtain ⟨c, -, rfl⟩ := Option.map_eq_some_iff.mp hi
    obtain ⟨c', -, rfl⟩ := Option.map_eq_some_iff.mp hj
    have h' : gx_z D + i = gx_z D + j := h
    omega
  · rw [gx_ws_get] at hk
    obtain ⟨c, -, rfl⟩ := Option.map_eq_some_iff.mp hk
    exact Nat.le_add_right _ _
/-- a cell of a kind below 30 isn't one of those that are given -/
theorem gx_hi {D : gx_D} {w : gx_W} {H : Heap} (hP : gx_P D w H) {k a n : Nat} (hs : w.1[k]? = some (a, n)) (ha : a ≠ 30) : 6 ≤ k := by
  rcases Nat.lt_or_ge k 6 with h | h
  · have := (hP.2.1 k h).1.symm.trans hs
    exact absurd (congrArg (fun o : Option (Nat × Nat) => (o.map Prod.fst).getD 0) this) (fun q => ha (by simpa using q.symm))
  · exact h
theorem gx_P_at {D : gx_D} {w : gx_W} {H : Heap} (hP : gx_P D w H) {k : Nat} {c : Nat × Nat} (hk : 6 ≤ k) (hs : w.1[k]? = some c) : va_at (gx_g D) gx_cl (gx_f D k, gx_e D w k c) H := hP.2.2 (k - 6) _ (gx_ws_at hk hs)
theorem gx_P_set {D : gx_D} {w w' : gx_W} {H H' : Heap} (hP : gx_P D w H) {k : Nat} {c : Nat × Nat} (hk : 6 ≤ k) (hs : w.1[k]? = some c) (h1 : w'.1 = w.1) (h2 : ∀ k' c', k' ≠ k → gx_e D w' k' c' = gx_e D w k' c') (h3 : ∀ k', k' < 6 → w_a w' k' = w_a w k')
    (h4 : H'.size = H.size) (h5 : ∀ q, q ≠ gx_f D k → H'[q]? = H[q]?) (h6 : va_at (gx_g D) gx_cl (gx_f D k, gx_e D w' k c) H') : gx_P D w' H' := by
  refine ⟨by rw [h1, h4]; exact hP.1, fun j hj => ?_, fun i q hi => ?_⟩
  · rw [h1, h3 j hj]
    exact hP.2.1 j hj
  · rw [gx_ws_get, h1] at hi
    obtain ⟨c', hc', rfl⟩ := Option.map_eq_some_iff.mp hi
    by_cases e : i + 6 = k
    · subst e
      have : c' = c := Option.some.inj (hc'.symm.trans hs)
      subst this
      have e2 : gx_f D (i + 6) = gx_z D + i := by rw [gx_f_hi hk, Nat.add_sub_cancel]
      rw [← e2]
      exact h6
    · rw [h2 _ _ e]
      have h := hP.2.2 i (gx_z D + i, gx_e D w (i + 6) c') (by rw [gx_ws_get, hc']; rfl)
      refine h.kept (h5 _ (fun q => ?_))
      have q' : gx_z D + i = gx_z D + (k - 6) := by rw [← gx_f_hi hk]; exact q
      omega
/-! the locals -/
def gx_as (D : gx_D) (L : List Value) : List (Nat × Value) := (List.range L.length).filterMap (fun j => match L[j]? with
  | some v => if v = .retAddr 0 then none else some (j, gx_c D v)
  | none => none)
theorem gx_as_mem {D : gx_D} {L : List Value} {j : Nat} {u : Value} (h : L[j]? = some u) (hu : u ≠ .retAddr 0) : (j, gx_c D u) ∈ gx_as D L := by
  refine List.mem_filterMap.mpr ⟨j, List.mem_range.mpr (List.getElem?_eq_some_iff.mp h).1, ?_⟩
  simp only [h]
  rw [if_neg hu]
theorem gx_as_of {D : gx_D} {L : List Value} {q : Nat × Value} (h : q ∈ gx_as D L) : ∃ u, L[q.1]? = some u ∧ u ≠ .retAddr 0 ∧ q.2 = gx_c D u := by
  obtain ⟨j, -, hj⟩ := List.mem_filterMap.mp h
  cases hL : L[j]? with
  | none => rw [hL] at hj; cases hj
  | some u =>
    rw [hL] at hj
    by_cases hu : u = .retAddr 0
    · simp only [hu, if_true] at hj; cases hj
    · simp only [hu, if_false] at hj
      cases hj
      exact ⟨u, hL, hu, rfl⟩
theorem gx_ls_has {D : gx_D} {ls : Array Slot} {L : List Value} (h : gx_ls D ls L) : lv_has ls L.length (gx_as D L) := by
  refine ⟨h.1, h.2.1, fun q hq => ?_⟩
  obtain ⟨u, h1, h2, h3⟩ := gx_as_of hq
  rw [h3]
  exact h.2.2 _ _ h1 h2
/-- the place in front of i holds no first half of a long -/
def gx_ok (L : List Value) (i : Nat) : Bool := match i with
  | 0 => true
  | j + 1 => match L[j]? with
    | some v => v.category != 2
    | none => true
theorem gx_ok_of {L : List Value} {i j : Nat} {u : Value} (h : gx_ok L i = true) (hj : j + 1 = i) (hu : L[j]? = some u) : u.category ≠ 2 := by
  subst hj
  simp only [gx_ok, hu] at h
  simpa using h
theorem gx_ls_1 {D : gx_D} {ls : Array Slot} {L : List Value} {i : Nat} {v : Value} (hok : gx_ok L i = true)
    (h : lv_has ls L.length ((i, gx_c D v) :: (gx_as D L).filter (fun q => !(q.1 == i) && !(q.1 + 1 == i && q.2.category == 2)))) : gx_ls D ls (L.set i v) := by
  refine ⟨by rw [List.length_set]; exact h.1, h.2.1, fun j u hj hu => ?_⟩
  by_cases e : i = j
  · subst e
    have hlt : i < L.length := by
      have := (List.getElem?_eq_some_iff.mp hj).1
      simpa using this
    rw [List.getElem?_set_self hlt] at hj
    cases hj
    exact h.2.2 _ List.mem_cons_self
  · rw [List.getElem?_set_ne e] at hj
    refine h.2.2 (j, gx_c D u) (List.mem_cons_of_mem _ (List.mem_filter.mpr ⟨gx_as_mem hj hu, ?_⟩))
    have h1 : (j == i) = false := by simpa using fun q => e q.symm
    by_cases h2 : j + 1 = i
    · have := gx_ok_of hok h2 hj
      simp [h1, gx_c_cat, this]
    · have h3 : (j + 1 == i) = false := by simpa using h2
      simp [h1, h3]
theorem gx_ls_2 {D : gx_D} {ls : Array Slot} {L : List Value} {i : Nat} {v : Value} (hok : gx_ok L i = true)
    (h : lv_has ls L.length ((i, gx_c D v) :: (gx_as D L).filter (fun q => !(q.1 == i) && (!(q.1 == i + 1) && !(q.1 + 1 == i && q.2.category == 2))))) : gx_ls D ls ((L.set i v).set (i + 1) (.retAddr 0)) := by
  refine ⟨by rw [List.length_set, List.length_set]; exact h.1, h.2.1, fun j u hj hu => ?_⟩
  by_cases e1 : i + 1 = j
  · subst e1
    have hlt : i + 1 < (L.set i v).length := by
      have := (List.getElem?_eq_some_iff.mp hj).1
      simpa using this
    rw [List.getElem?_set_self hlt] at hj
    cases hj
    exact absurd rfl hu
  rw [List.getElem?_set_ne e1] at hj
  by_cases e : i = j
  · subst e
    have hlt : i < L.length := by
      have := (List.getElem?_eq_some_iff.mp hj).1
      simpa using this
    rw [List.getElem?_set_self hlt] at hj
    cases hj
    exact h.2.2 _ List.mem_cons_self
  · rw [List.getElem?_set_ne e] at hj
    refine h.2.2 (j, gx_c D u) (List.mem_cons_of_mem _ (List.mem_filter.mpr ⟨gx_as_mem hj hu, ?_⟩))
    have h1 : (j == i) = false := by simpa using fun q => e q.symm
    have h4 : (j == i + 1) = false := by simpa using fun q => e1 q.symm
    by_cases h2 : j + 1 = i
    · have := gx_ok_of hok h2 hj
      simp [h1, h4, gx_c_cat, this]
    · have h3 : (j + 1 == i) = false := by simpa using h2
      simp [h1, h3, h4]
theorem gx_lt {L : List Value} {i : Nat} {u : Value} (h : L[i]? = some u) : i < L.length := (List.getElem?_eq_some_iff.mp h).1
end
section
/-! THE ROWS of the judgement: an instruction, a row -/
theorem g_iconst {nc ns d : Nat} {M : gx_M} {Q : Option Value → gx_W → Prop} {pc : Nat} {L st : List Value} {w : gx_W} {n : Int} {v : Int32} (hd : gx_d M pc (.iconst n) 1) (hv : Int32.ofInt n = v) (k : gx_G nc ns d M Q (pc + 1) L (.int v :: st) w) : gx_G nc ns d M Q (pc) L (st) w := by
  intro D p l e R s m args below meth c H locs cells slots ls C hR hP hS hL
  exact lv_iconst  C.1 C.2.1 hd hv (k D p l e R s m args below meth c H locs cells slots ls C hR hP hS hL)
theorem g_bipush {nc ns d : Nat} {M : gx_M} {Q : Option Value → gx_W → Prop} {pc : Nat} {L st : List Value} {w : gx_W} {n : Int} {v : Int32} (hd : gx_d M pc (.bipush n) 2) (hv : (Int8.ofInt n).toInt32 = v) (k : gx_G nc ns d M Q (pc + 2) L (.int v :: st) w) : gx_G nc ns d M Q (pc) L (st) w := by
  intro D p l e R s m args below meth c H locs cells slots ls C hR hP hS hL
  exact lv_bipush  C.1 C.2.1 hd hv (k D p l e R s m args below meth c H locs cells slots ls C hR hP hS hL)
theorem g_sipush {nc ns d : Nat} {M : gx_M} {Q : Option Value → gx_W → Prop} {pc : Nat} {L st : List Value} {w : gx_W} {n : Int} {v : Int32} (hd : gx_d M pc (.sipush n) 3) (hv : (Int16.ofInt n).toInt32 = v) (k : gx_G nc ns d M Q (pc + 3) L (.int v :: st) w) : gx_G nc ns d M Q (pc) L (st) w := by
  intro D p l e R s m args below meth c H locs cells slots ls C hR hP hS hL
  exact lv_sipush  C.1 C.2.1 hd hv (k D p l e R s m args below meth c H locs cells slots ls C hR hP hS hL)
theorem g_lconst {nc ns d : Nat} {M : gx_M} {Q : Option Value → gx_W → Prop} {pc : Nat} {L st : List Value} {w : gx_W} {n : Fin 2} {v : Int64} (hd : gx_d M pc (.lconst n) 1) (hv : Int64.ofNat (n : Nat) = v) (k : gx_G nc ns d M Q (pc + 1) L (.long v :: st) w) : gx_G nc ns d M Q (pc) L (st) w := by
  intro D p l e R s m args below meth c H locs cells slots ls C hR hP hS hL
  exact lv_lconst  C.1 C.2.1 hd hv (k D p l e R s m args below meth c H locs cells slots ls C hR hP hS hL)
theorem g_null {nc ns d : Nat} {M : gx_M} {Q : Option Value → gx_W → Prop} {pc : Nat} {L st : List Value} {w : gx_W}  (hd : gx_d M pc (.aconst_null) 1) (k : gx_G nc ns d M Q (pc + 1) L (.null :: st) w) : gx_G nc ns d M Q (pc) L (st) w := by
  intro D p l e R s m args below meth c H locs cells slots ls C hR hP hS hL
  exact lv_null  C.1 C.2.1 hd  (k D p l e R s m args below meth c H locs cells slots ls C hR hP hS hL)
theorem g_iadd {nc ns d : Nat} {M : gx_M} {Q : Option Value → gx_W → Prop} {pc : Nat} {L st : List Value} {w : gx_W} {x y : Int32} (hd : gx_d M pc (.iadd) 1) (k : gx_G nc ns d M Q (pc + 1) L (.int (x + y) :: st) w) : gx_G nc ns d M Q (pc) L (.int y :: .int x :: st) w := by
  intro D p l e R s m args below meth c H locs cells slots ls C hR hP hS hL
  exact lv_iadd  C.1 C.2.1 hd  (k D p l e R s m args below meth c H locs cells slots ls C hR hP hS hL)
theorem g_isub {nc ns d : Nat} {M : gx_M} {Q : Option Value → gx_W → Prop} {pc : Nat} {L st : List Value} {w : gx_W} {x y : Int32} (hd : gx_d M pc (.isub) 1) (k : gx_G nc ns d M Q (pc + 1) L (.int (x - y) :: st) w) : gx_G nc ns d M Q (pc) L (.int y :: .int x :: st) w := by
  intro D p l e R s m args below meth c H locs cells slots ls C hR hP hS hL
  exact lv_isub  C.1 C.2.1 hd  (k D p l e R s m args below meth c H locs cells slots ls C hR hP hS hL)
theorem g_imul {nc ns d : Nat} {M : gx_M} {Q : Option Value → gx_W → Prop} {pc : Nat} {L st : List Value} {w : gx_W} {x y : Int32} (hd : gx_d M pc (.imul) 1) (k : gx_G nc ns d M Q (pc + 1) L (.int (x * y) :: st) w) : gx_G nc ns d M Q (pc) L (.int y :: .int x :: st) w := by
  intro D p l e R s m args below meth c H locs cells slots ls C hR hP hS hL
  exact lv_imul  C.1 C.2.1 hd  (k D p l e R s m args below meth c H locs cells slots ls C hR hP hS hL)
theorem g_iand {nc ns d : Nat} {M : gx_M} {Q : Option Value → gx_W → Prop} {pc : Nat} {L st : List Value} {w : gx_W} {x y : Int32} (hd : gx_d M pc (.iand) 1) (k : gx_G nc ns d M Q (pc + 1) L (.int (x &&& y) :: st) w) : gx_G nc ns d M Q (pc) L (.int y :: .int x :: st) w := by
  intro D p l e R s m args below meth c H locs cells slots ls C hR hP hS hL
  exact lv_iand  C.1 C.2.1 hd  (k D p l e R s m args below meth c H locs cells slots ls C hR hP hS hL)
theorem g_ior {nc ns d : Nat} {M : gx_M} {Q : Option Value → gx_W → Prop} {pc : Nat} {L st : List Value} {w : gx_W} {x y : Int32} (hd : gx_d M pc (.ior) 1) (k : gx_G nc ns d M Q (pc + 1) L (.int (x ||| y) :: st) w) : gx_G nc ns d M Q (pc) L (.int y :: .int x :: st) w := by
  intro D p l e R s m args below meth c H locs cells slots ls C hR hP hS hL
  exact lv_ior  C.1 C.2.1 hd  (k D p l e R s m args below meth c H locs cells slots ls C hR hP hS hL)
theorem g_ixor {nc ns d : Nat} {M : gx_M} {Q : Option Value → gx_W → Prop} {pc : Nat} {L st : List Value} {w : gx_W} {x y : Int32} (hd : gx_d M pc (.ixor) 1) (k : gx_G nc ns d M Q (pc + 1) L (.int (x ^^^ y) :: st) w) : gx_G nc ns d M Q (pc) L (.int y :: .int x :: st) w := by
  intro D p l e R s m args below meth c H locs cells slots ls C hR hP hS hL
  exact lv_ixor  C.1 C.2.1 hd  (k D p l e R s m args below meth c H locs cells slots ls C hR hP hS hL)
theorem g_ishl {nc ns d : Nat} {M : gx_M} {Q : Option Value → gx_W → Prop} {pc : Nat} {L st : List Value} {w : gx_W} {x y : Int32} (hd : gx_d M pc (.ishl) 1) (k : gx_G nc ns d M Q (pc + 1) L (.int (x <<< (y &&& 31)) :: st) w) : gx_G nc ns d M Q (pc) L (.int y :: .int x :: st) w := by
  intro D p l e R s m args below meth c H locs cells slots ls C hR hP hS hL
  exact lv_ishl  C.1 C.2.1 hd  (k D p l e R s m args below meth c H locs cells slots ls C hR hP hS hL)
theorem g_ishr {nc ns d : Nat} {M : gx_M} {Q : Option Value → gx_W → Prop} {pc : Nat} {L st : List Value} {w : gx_W} {x y : Int32} (hd : gx_d M pc (.ishr) 1) (k : gx_G nc ns d M Q (pc + 1) L (.int (x >>> (y &&& 31)) :: st) w) : gx_G nc ns d M Q (pc) L (.int y :: .int x :: st) w := by
  intro D p l e R s m args below meth c H locs cells slots ls C hR hP hS hL
  exact lv_ishr  C.1 C.2.1 hd  (k D p l e R s m args below meth c H locs cells slots ls C hR hP hS hL)
theorem g_ladd {nc ns d : Nat} {M : gx_M} {Q : Option Value → gx_W → Prop} {pc : Nat} {L st : List Value} {w : gx_W} {x y : Int64} (hd : gx_d M pc (.ladd) 1) (k : gx_G nc ns d M Q (pc + 1) L (.long (x + y) :: st) w) : gx_G nc ns d M Q (pc) L (.long y :: .long x :: st) w := by
  intro D p l e R s m args below meth c H locs cells slots ls C hR hP hS hL
  exact lv_ladd  C.1 C.2.1 hd  (k D p l e R s m args below meth c H locs cells slots ls C hR hP hS hL)
theorem g_lsub {nc ns d : Nat} {M : gx_M} {Q : Option Value → gx_W → Prop} {pc : Nat} {L st : List Value} {w : gx_W} {x y : Int64} (hd : gx_d M pc (.lsub) 1) (k : gx_G nc ns d M Q (pc + 1) L (.long (x - y) :: st) w) : gx_G nc ns d M Q (pc) L (.long y :: .long x :: st) w := by
  intro D p l e R s m args below meth c H locs cells slots ls C hR hP hS hL
  exact lv_lsub  C.1 C.2.1 hd  (k D p l e R s m args below meth c H locs cells slots ls C hR hP hS hL)
theorem g_lmul {nc ns d : Nat} {M : gx_M} {Q : Option Value → gx_W → Prop} {pc : Nat} {L st : List Value} {w : gx_W} {x y : Int64} (hd : gx_d M pc (.lmul) 1) (k : gx_G nc ns d M Q (pc + 1) L (.long (x * y) :: st) w) : gx_G nc ns d M Q (pc) L (.long y :: .long x :: st) w := by
  intro D p l e R s m args below meth c H locs cells slots ls C hR hP hS hL
  exact lv_lmul  C.1 C.2.1 hd  (k D p l e R s m args below meth c H locs cells slots ls C hR hP hS hL)
theorem g_land {nc ns d : Nat} {M : gx_M} {Q : Option Value → gx_W → Prop} {pc : Nat} {L st : List Value} {w : gx_W} {x y : Int64} (hd : gx_d M pc (.land) 1) (k : gx_G nc ns d M Q (pc + 1) L (.long (x &&& y) :: st) w) : gx_G nc ns d M Q (pc) L (.long y :: .long x :: st) w := by
  intro D p l e R s m args below meth c H locs cells slots ls C hR hP hS hL
  exact lv_land  C.1 C.2.1 hd  (k D p l e R s m args below meth c H locs cells slots ls C hR hP hS hL)
theorem g_lor {nc ns d : Nat} {M : gx_M} {Q : Option Value → gx_W → Prop} {pc : Nat} {L st : List Value} {w : gx_W} {x y : Int64} (hd : gx_d M pc (.lor) 1) (k : gx_G nc ns d M Q (pc + 1) L (.long (x ||| y) :: st) w) : gx_G nc ns d M Q (pc) L (.long y :: .long x :: st) w := by
  intro D p l e R s m args below meth c H locs cells slots ls C hR hP hS hL
  exact lv_lor  C.1 C.2.1 hd  (k D p l e R s m args below meth c H locs cells slots ls C hR hP hS hL)
theorem g_lxor {nc ns d : Nat} {M : gx_M} {Q : Option Value → gx_W → Prop} {pc : Nat} {L st : List Value} {w : gx_W} {x y : Int64} (hd : gx_d M pc (.lxor) 1) (k : gx_G nc ns d M Q (pc + 1) L (.long (x ^^^ y) :: st) w) : gx_G nc ns d M Q (pc) L (.long y :: .long x :: st) w := by
  intro D p l e R s m args below meth c H locs cells slots ls C hR hP hS hL
  exact lv_lxor  C.1 C.2.1 hd  (k D p l e R s m args below meth c H locs cells slots ls C hR hP hS hL)
theorem g_idiv {nc ns d : Nat} {M : gx_M} {Q : Option Value → gx_W → Prop} {pc : Nat} {L st : List Value} {w : gx_W} {x y : Int32} (hd : gx_d M pc (.idiv) 1) (hne : ¬ y = 0) (k : gx_G nc ns d M Q (pc + 1) L (.int (x / y) :: st) w) : gx_G nc ns d M Q (pc) L (.int y :: .int x :: st) w := by
  intro D p l e R s m args below meth c H locs cells slots ls C hR hP hS hL
  exact lv_idiv  C.1 C.2.1 hd hne (k D p l e R s m args below meth c H locs cells slots ls C hR hP hS hL)
theorem g_irem {nc ns d : Nat} {M : gx_M} {Q : Option Value → gx_W → Prop} {pc : Nat} {L st : List Value} {w : gx_W} {x y : Int32} (hd : gx_d M pc (.irem) 1) (hne : ¬ y = 0) (k : gx_G nc ns d M Q (pc + 1) L (.int (x - x / y * y) :: st) w) : gx_G nc ns d M Q (pc) L (.int y :: .int x :: st) w := by
  intro D p l e R s m args below meth c H locs cells slots ls C hR hP hS hL
  exact lv_irem  C.1 C.2.1 hd hne (k D p l e R s m args below meth c H locs cells slots ls C hR hP hS hL)
theorem g_ldiv {nc ns d : Nat} {M : gx_M} {Q : Option Value → gx_W → Prop} {pc : Nat} {L st : List Value} {w : gx_W} {x y : Int64} (hd : gx_d M pc (.ldiv) 1) (hne : ¬ y = 0) (k : gx_G nc ns d M Q (pc + 1) L (.long (x / y) :: st) w) : gx_G nc ns d M Q (pc) L (.long y :: .long x :: st) w := by
  intro D p l e R s m args below meth c H locs cells slots ls C hR hP hS hL
  exact lv_ldiv  C.1 C.2.1 hd hne (k D p l e R s m args below meth c H locs cells slots ls C hR hP hS hL)
theorem g_lrem {nc ns d : Nat} {M : gx_M} {Q : Option Value → gx_W → Prop} {pc : Nat} {L st : List Value} {w : gx_W} {x y : Int64} (hd : gx_d M pc (.lrem) 1) (hne : ¬ y = 0) (k : gx_G nc ns d M Q (pc + 1) L (.long (x - x / y * y) :: st) w) : gx_G nc ns d M Q (pc) L (.long y :: .long x :: st) w := by
  intro D p l e R s m args below meth c H locs cells slots ls C hR hP hS hL
  exact lv_lrem  C.1 C.2.1 hd hne (k D p l e R s m args below meth c H locs cells slots ls C hR hP hS hL)
theorem g_ineg {nc ns d : Nat} {M : gx_M} {Q : Option Value → gx_W → Prop} {pc : Nat} {L st : List Value} {w : gx_W} {x : Int32} (hd : gx_d M pc (.ineg) 1) (k : gx_G nc ns d M Q (pc + 1) L (.int (-x) :: st) w) : gx_G nc ns d M Q (pc) L (.int x :: st) w := by
  intro D p l e R s m args below meth c H locs cells slots ls C hR hP hS hL
  exact lv_ineg  C.1 C.2.1 hd  (k D p l e R s m args below meth c H locs cells slots ls C hR hP hS hL)
theorem g_lneg {nc ns d : Nat} {M : gx_M} {Q : Option Value → gx_W → Prop} {pc : Nat} {L st : List Value} {w : gx_W} {x : Int64} (hd : gx_d M pc (.lneg) 1) (k : gx_G nc ns d M Q (pc + 1) L (.long (-x) :: st) w) : gx_G nc ns d M Q (pc) L (.long x :: st) w := by
  intro D p l e R s m args below meth c H locs cells slots ls C hR hP hS hL
  exact lv_lneg  C.1 C.2.1 hd  (k D p l e R s m args below meth c H locs cells slots ls C hR hP hS hL)
theorem g_i2l {nc ns d : Nat} {M : gx_M} {Q : Option Value → gx_W → Prop} {pc : Nat} {L st : List Value} {w : gx_W} {x : Int32} (hd : gx_d M pc (.i2l) 1) (k : gx_G nc ns d M Q (pc + 1) L (.long x.toInt64 :: st) w) : gx_G nc ns d M Q (pc) L (.int x :: st) w := by
  intro D p l e R s m args below meth c H locs cells slots ls C hR hP hS hL
  exact lv_i2l  C.1 C.2.1 hd rfl (k D p l e R s m args below meth c H locs cells slots ls C hR hP hS hL)
theorem g_l2i {nc ns d : Nat} {M : gx_M} {Q : Option Value → gx_W → Prop} {pc : Nat} {L st : List Value} {w : gx_W} {x : Int64} (hd : gx_d M pc (.l2i) 1) (k : gx_G nc ns d M Q (pc + 1) L (.int x.toInt32 :: st) w) : gx_G nc ns d M Q (pc) L (.long x :: st) w := by
  intro D p l e R s m args below meth c H locs cells slots ls C hR hP hS hL
  exact lv_l2i  C.1 C.2.1 hd rfl (k D p l e R s m args below meth c H locs cells slots ls C hR hP hS hL)
theorem g_i2b {nc ns d : Nat} {M : gx_M} {Q : Option Value → gx_W → Prop} {pc : Nat} {L st : List Value} {w : gx_W} {x : Int32} (hd : gx_d M pc (.i2b) 1) (k : gx_G nc ns d M Q (pc + 1) L (.int x.toInt8.toInt32 :: st) w) : gx_G nc ns d M Q (pc) L (.int x :: st) w := by
  intro D p l e R s m args below meth c H locs cells slots ls C hR hP hS hL
  exact lv_i2b  C.1 C.2.1 hd rfl (k D p l e R s m args below meth c H locs cells slots ls C hR hP hS hL)
theorem g_i2s {nc ns d : Nat} {M : gx_M} {Q : Option Value → gx_W → Prop} {pc : Nat} {L st : List Value} {w : gx_W} {x : Int32} (hd : gx_d M pc (.i2s) 1) (k : gx_G nc ns d M Q (pc + 1) L (.int x.toInt16.toInt32 :: st) w) : gx_G nc ns d M Q (pc) L (.int x :: st) w := by
  intro D p l e R s m args below meth c H locs cells slots ls C hR hP hS hL
  exact lv_i2s  C.1 C.2.1 hd rfl (k D p l e R s m args below meth c H locs cells slots ls C hR hP hS hL)
theorem g_iushr {nc ns d : Nat} {M : gx_M} {Q : Option Value → gx_W → Prop} {pc : Nat} {L st : List Value} {w : gx_W} {x y : Int32} (hd : gx_d M pc (.iushr) 1) (k : gx_G nc ns d M Q (pc + 1) L (.int ((x.toUInt32 >>> (y.toUInt32 &&& Int32.toUInt32 31)).toInt32) :: st) w) : gx_G nc ns d M Q (pc) L (.int y :: .int x :: st) w := by
  intro D p l e R s m args below meth c H locs cells slots ls C hR hP hS hL
  exact lv_iushr  C.1 C.2.1 hd rfl (k D p l e R s m args below meth c H locs cells slots ls C hR hP hS hL)
theorem g_lshl {nc ns d : Nat} {M : gx_M} {Q : Option Value → gx_W → Prop} {pc : Nat} {L st : List Value} {w : gx_W} {x : Int64} {y : Int32} (hd : gx_d M pc (.lshl) 1) (k : gx_G nc ns d M Q (pc + 1) L (.long (x <<< (y.toInt64 &&& 63)) :: st) w) : gx_G nc ns d M Q (pc) L (.int y :: .long x :: st) w := by
  intro D p l e R s m args below meth c H locs cells slots ls C hR hP hS hL
  exact lv_lshl  C.1 C.2.1 hd rfl (k D p l e R s m args below meth c H locs cells slots ls C hR hP hS hL)
theorem g_lcmp {nc ns d : Nat} {M : gx_M} {Q : Option Value → gx_W → Prop} {pc : Nat} {L st : List Value} {w : gx_W} {x y : Int64} (hd : gx_d M pc (.lcmp) 1) (k : gx_G nc ns d M Q (pc + 1) L (.int (lg_cmp x y) :: st) w) : gx_G nc ns d M Q (pc) L (.long y :: .long x :: st) w := by
  intro D p l e R s m args below meth c H locs cells slots ls C hR hP hS hL
  exact W.lcmp  C.1 C.2.1 hd  (k D p l e R s m args below meth c H locs cells slots ls C hR hP hS hL)
theorem g_dup {nc ns d : Nat} {M : gx_M} {Q : Option Value → gx_W → Prop} {pc : Nat} {L st : List Value} {w : gx_W} {a : Value} (hd : gx_d M pc (.dup) 1) (ha : a.category = 1) (k : gx_G nc ns d M Q (pc + 1) L (a :: a :: st) w) : gx_G nc ns d M Q (pc) L (a :: st) w := by
  intro D p l e R s m args below meth c H locs cells slots ls C hR hP hS hL
  exact lv_dup  C.1 C.2.1 hd ((gx_c_cat D a).trans ha) (k D p l e R s m args below meth c H locs cells slots ls C hR hP hS hL)
theorem g_pop {nc ns d : Nat} {M : gx_M} {Q : Option Value → gx_W → Prop} {pc : Nat} {L st : List Value} {w : gx_W} {a : Value} (hd : gx_d M pc (.pop) 1) (ha : a.category = 1) (k : gx_G nc ns d M Q (pc + 1) L (st) w) : gx_G nc ns d M Q (pc) L (a :: st) w := by
  intro D p l e R s m args below meth c H locs cells slots ls C hR hP hS hL
  exact lv_pop  C.1 C.2.1 hd ((gx_c_cat D a).trans ha) (k D p l e R s m args below meth c H locs cells slots ls C hR hP hS hL)
theorem g_dup2 {nc ns d : Nat} {M : gx_M} {Q : Option Value → gx_W → Prop} {pc : Nat} {L st : List Value} {w : gx_W} {a b : Value} (hd : gx_d M pc (.dup2) 1) (ha : a.category = 1) (hb : b.category = 1) (k : gx_G nc ns d M Q (pc + 1) L (a :: b :: a :: b :: st) w) : gx_G nc ns d M Q (pc) L (a :: b :: st) w := by
  intro D p l e R s m args below meth c H locs cells slots ls C hR hP hS hL
  exact lv_dup2_11  C.1 C.2.1 hd ((gx_c_cat D a).trans ha) ((gx_c_cat D b).trans hb) (k D p l e R s m args below meth c H locs cells slots ls C hR hP hS hL)
theorem g_dup2l {nc ns d : Nat} {M : gx_M} {Q : Option Value → gx_W → Prop} {pc : Nat} {L st : List Value} {w : gx_W} {a : Value} (hd : gx_d M pc (.dup2) 1) (ha : a.category = 2) (k : gx_G nc ns d M Q (pc + 1) L (a :: a :: st) w) : gx_G nc ns d M Q (pc) L (a :: st) w := by
  intro D p l e R s m args below meth c H locs cells slots ls C hR hP hS hL
  exact lv_dup2_2  C.1 C.2.1 hd ((gx_c_cat D a).trans ha) (k D p l e R s m args below meth c H locs cells slots ls C hR hP hS hL)
theorem g_dup_x1 {nc ns d : Nat} {M : gx_M} {Q : Option Value → gx_W → Prop} {pc : Nat} {L st : List Value} {w : gx_W} {a b : Value} (hd : gx_d M pc (.dup_x1) 1) (ha : a.category = 1) (hb : b.category = 1) (k : gx_G nc ns d M Q (pc + 1) L (a :: b :: a :: st) w) : gx_G nc ns d M Q (pc) L (a :: b :: st) w := by
  intro D p l e R s m args below meth c H locs cells slots ls C hR hP hS hL
  exact lv_dup_x1  C.1 C.2.1 hd ((gx_c_cat D a).trans ha) ((gx_c_cat D b).trans hb) (k D p l e R s m args below meth c H locs cells slots ls C hR hP hS hL)
theorem g_dup_x2 {nc ns d : Nat} {M : gx_M} {Q : Option Value → gx_W → Prop} {pc : Nat} {L st : List Value} {w : gx_W} {a b f : Value} (hd : gx_d M pc (.dup_x2) 1) (ha : a.category = 1) (hb : b.category = 1) (hf : f.category = 1) (k : gx_G nc ns d M Q (pc + 1) L (a :: b :: f :: a :: st) w) : gx_G nc ns d M Q (pc) L (a :: b :: f :: st) w := by
  intro D p l e R s m args below meth c H locs cells slots ls C hR hP hS hL
  exact lv_dup_x2  C.1 C.2.1 hd ((gx_c_cat D a).trans ha) ((gx_c_cat D b).trans hb) ((gx_c_cat D f).trans hf) (k D p l e R s m args below meth c H locs cells slots ls C hR hP hS hL)
theorem g_iload_n {nc ns d : Nat} {M : gx_M} {Q : Option Value → gx_W → Prop} {pc : Nat} {L st : List Value} {w : gx_W} {i : Fin 4} {x : Int32} (hd : gx_d M pc (.iload_n i) 1) (hl : L[(i : Nat)]? = some (.int x)) (k : gx_G nc ns d M Q (pc + 1) L (.int x :: st) w) : gx_G nc ns d M Q (pc) L (st) w := by
  intro D p l e R s m args below meth c H locs cells slots ls C hR hP hS hL
  exact lv_iload_n C.1 C.2.1 hd rfl (hL.2.2 _ _ hl (fun h => by cases h)) (k D p l e R s m args below meth c H locs cells slots ls C hR hP hS hL)
theorem g_iload {nc ns d : Nat} {M : gx_M} {Q : Option Value → gx_W → Prop} {pc : Nat} {L st : List Value} {w : gx_W} {i : Nat} {x : Int32} (hd : gx_d M pc (.iload i) 2) (hl : L[i]? = some (.int x)) (k : gx_G nc ns d M Q (pc + 2) L (.int x :: st) w) : gx_G nc ns d M Q (pc) L (st) w := by
  intro D p l e R s m args below meth c H locs cells slots ls C hR hP hS hL
  exact lv_iload C.1 C.2.1 hd (hL.2.2 _ _ hl (fun h => by cases h)) (k D p l e R s m args below meth c H locs cells slots ls C hR hP hS hL)
theorem g_lload_n {nc ns d : Nat} {M : gx_M} {Q : Option Value → gx_W → Prop} {pc : Nat} {L st : List Value} {w : gx_W} {i : Fin 4} {x : Int64} (hd : gx_d M pc (.lload_n i) 1) (hl : L[(i : Nat)]? = some (.long x)) (k : gx_G nc ns d M Q (pc + 1) L (.long x :: st) w) : gx_G nc ns d M Q (pc) L (st) w := by
  intro D p l e R s m args below meth c H locs cells slots ls C hR hP hS hL
  exact lv_lload_n C.1 C.2.1 hd rfl (hL.2.2 _ _ hl (fun h => by cases h)) (k D p l e R s m args below meth c H locs cells slots ls C hR hP hS hL)
theorem g_lload {nc ns d : Nat} {M : gx_M} {Q : Option Value → gx_W → Prop} {pc : Nat} {L st : List Value} {w : gx_W} {i : Nat} {x : Int64} (hd : gx_d M pc (.lload i) 2) (hl : L[i]? = some (.long x)) (k : gx_G nc ns d M Q (pc + 2) L (.long x :: st) w) : gx_G nc ns d M Q (pc) L (st) w := by
  intro D p l e R s m args below meth c H locs cells slots ls C hR hP hS hL
  exact lv_lload C.1 C.2.1 hd (hL.2.2 _ _ hl (fun h => by cases h)) (k D p l e R s m args below meth c H locs cells slots ls C hR hP hS hL)
theorem g_aload_n {nc ns d : Nat} {M : gx_M} {Q : Option Value → gx_W → Prop} {pc : Nat} {L st : List Value} {w : gx_W} {i : Fin 4} {x : Nat} (hd : gx_d M pc (.aload_n i) 1) (hl : L[(i : Nat)]? = some (.ref x)) (k : gx_G nc ns d M Q (pc + 1) L (.ref x :: st) w) : gx_G nc ns d M Q (pc) L (st) w := by
  intro D p l e R s m args below meth c H locs cells slots ls C hR hP hS hL
  exact lv_aload_n C.1 C.2.1 hd rfl (hL.2.2 _ _ hl (fun h => by cases h)) (k D p l e R s m args below meth c H locs cells slots ls C hR hP hS hL)
theorem g_aload {nc ns d : Nat} {M : gx_M} {Q : Option Value → gx_W → Prop} {pc : Nat} {L st : List Value} {w : gx_W} {i : Nat} {x : Nat} (hd : gx_d M pc (.aload i) 2) (hl : L[i]? = some (.ref x)) (k : gx_G nc ns d M Q (pc + 2) L (.ref x :: st) w) : gx_G nc ns d M Q (pc) L (st) w := by
  intro D p l e R s m args below meth c H locs cells slots ls C hR hP hS hL
  exact lv_aload C.1 C.2.1 hd (hL.2.2 _ _ hl (fun h => by cases h)) (k D p l e R s m args below meth c H locs cells slots ls C hR hP hS hL)
theorem g_aload_nN {nc ns d : Nat} {M : gx_M} {Q : Option Value → gx_W → Prop} {pc : Nat} {L st : List Value} {w : gx_W} {i : Fin 4} (hd : gx_d M pc (.aload_n i) 1) (hl : L[(i : Nat)]? = some .null) (k : gx_G nc ns d M Q (pc + 1) L (.null :: st) w) : gx_G nc ns d M Q (pc) L (st) w := by
  intro D p l e R s m args below meth c H locs cells slots ls C hR hP hS hL
  exact lv_aload_nN C.1 C.2.1 hd rfl (hL.2.2 _ _ hl (fun h => by cases h)) (k D p l e R s m args below meth c H locs cells slots ls C hR hP hS hL)
theorem g_aloadN {nc ns d : Nat} {M : gx_M} {Q : Option Value → gx_W → Prop} {pc : Nat} {L st : List Value} {w : gx_W} {i : Nat} (hd : gx_d M pc (.aload i) 2) (hl : L[i]? = some .null) (k : gx_G nc ns d M Q (pc + 2) L (.null :: st) w) : gx_G nc ns d M Q (pc) L (st) w := by
  intro D p l e R s m args below meth c H locs cells slots ls C hR hP hS hL
  exact lv_aloadN C.1 C.2.1 hd (hL.2.2 _ _ hl (fun h => by cases h)) (k D p l e R s m args below meth c H locs cells slots ls C hR hP hS hL)
theorem g_istore_n {nc ns d : Nat} {M : gx_M} {Q : Option Value → gx_W → Prop} {pc : Nat} {L st : List Value} {w : gx_W} {i : Fin 4} {x : Int32} (hd : gx_d M pc (.istore_n i) 1) (hlt : (i : Nat) < L.length) (hok : gx_ok L (i : Nat) = true) (k : gx_G nc ns d M Q (pc + 1) (L.set (i : Nat) (.int x)) (st) w) : gx_G nc ns d M Q (pc) L (.int x :: st) w := by
  intro D p l e R s m args below meth c H locs cells slots ls C hR hP hS hL
  exact lv_istore_n C.1 C.2.1 hd rfl (gx_ls_has hL) hlt rfl (fun ls' h' => k D p l e R s m args below meth c H locs cells slots ls' C hR hP hS (gx_ls_1 (v := .int x) hok h'))
theorem g_istore {nc ns d : Nat} {M : gx_M} {Q : Option Value → gx_W → Prop} {pc : Nat} {L st : List Value} {w : gx_W} {i : Nat} {x : Int32} (hd : gx_d M pc (.istore i) 2) (hlt : i < L.length) (hok : gx_ok L i = true) (k : gx_G nc ns d M Q (pc + 2) (L.set i (.int x)) (st) w) : gx_G nc ns d M Q (pc) L (.int x :: st) w := by
  intro D p l e R s m args below meth c H locs cells slots ls C hR hP hS hL
  exact lv_istore C.1 C.2.1 hd (gx_ls_has hL) hlt rfl (fun ls' h' => k D p l e R s m args below meth c H locs cells slots ls' C hR hP hS (gx_ls_1 (v := .int x) hok h'))
theorem g_astore_n {nc ns d : Nat} {M : gx_M} {Q : Option Value → gx_W → Prop} {pc : Nat} {L st : List Value} {w : gx_W} {i : Fin 4} {x : Nat} (hd : gx_d M pc (.astore_n i) 1) (hlt : (i : Nat) < L.length) (hok : gx_ok L (i : Nat) = true) (k : gx_G nc ns d M Q (pc + 1) (L.set (i : Nat) (.ref x)) (st) w) : gx_G nc ns d M Q (pc) L (.ref x :: st) w := by
  intro D p l e R s m args below meth c H locs cells slots ls C hR hP hS hL
  exact lv_astore_n C.1 C.2.1 hd rfl (gx_ls_has hL) hlt rfl (fun ls' h' => k D p l e R s m args below meth c H locs cells slots ls' C hR hP hS (gx_ls_1 (v := .ref x) hok h'))
theorem g_astore {nc ns d : Nat} {M : gx_M} {Q : Option Value → gx_W → Prop} {pc : Nat} {L st : List Value} {w : gx_W} {i : Nat} {x : Nat} (hd : gx_d M pc (.astore i) 2) (hlt : i < L.length) (hok : gx_ok L i = true) (k : gx_G nc ns d M Q (pc + 2) (L.set i (.ref x)) (st) w) : gx_G nc ns d M Q (pc) L (.ref x :: st) w := by
  intro D p l e R s m args below meth c H locs cells slots ls C hR hP hS hL
  exact lv_astore C.1 C.2.1 hd (gx_ls_has hL) hlt rfl (fun ls' h' => k D p l e R s m args below meth c H locs cells slots ls' C hR hP hS (gx_ls_1 (v := .ref x) hok h'))
theorem g_astore_nN {nc ns d : Nat} {M : gx_M} {Q : Option Value → gx_W → Prop} {pc : Nat} {L st : List Value} {w : gx_W} {i : Fin 4}  (hd : gx_d M pc (.astore_n i) 1) (hlt : (i : Nat) < L.length) (hok : gx_ok L (i : Nat) = true) (k : gx_G nc ns d M Q (pc + 1) (L.set (i : Nat) (.null)) (st) w) : gx_G nc ns d M Q (pc) L (.null :: st) w := by
  intro D p l e R s m args below meth c H locs cells slots ls C hR hP hS hL
  exact lv_astore_nN C.1 C.2.1 hd rfl (gx_ls_has hL) hlt rfl (fun ls' h' => k D p l e R s m args below meth c H locs cells slots ls' C hR hP hS (gx_ls_1 (v := .null) hok h'))
theorem g_astoreN {nc ns d : Nat} {M : gx_M} {Q : Option Value → gx_W → Prop} {pc : Nat} {L st : List Value} {w : gx_W} {i : Nat}  (hd : gx_d M pc (.astore i) 2) (hlt : i < L.length) (hok : gx_ok L i = true) (k : gx_G nc ns d M Q (pc + 2) (L.set i (.null)) (st) w) : gx_G nc ns d M Q (pc) L (.null :: st) w := by
  intro D p l e R s m args below meth c H locs cells slots ls C hR hP hS hL
  exact lv_astoreN C.1 C.2.1 hd (gx_ls_has hL) hlt rfl (fun ls' h' => k D p l e R s m args below meth c H locs cells slots ls' C hR hP hS (gx_ls_1 (v := .null) hok h'))
theorem g_lstore_n {nc ns d : Nat} {M : gx_M} {Q : Option Value → gx_W → Prop} {pc : Nat} {L st : List Value} {w : gx_W} {i : Fin 4} {x : Int64} (hd : gx_d M pc (.lstore_n i) 1) (hlt : (i : Nat) + 1 < L.length) (hok : gx_ok L (i : Nat) = true) (k : gx_G nc ns d M Q (pc + 1) ((L.set (i : Nat) (.long x)).set ((i : Nat) + 1) (.retAddr 0)) (st) w) : gx_G nc ns d M Q (pc) L (.long x :: st) w := by
  intro D p l e R s m args below meth c H locs cells slots ls C hR hP hS hL
  exact lv_lstore_n C.1 C.2.1 hd rfl (gx_ls_has hL) hlt rfl (fun ls' h' => k D p l e R s m args below meth c H locs cells slots ls' C hR hP hS (gx_ls_2 (v := .long x) hok h'))
theorem g_lstore {nc ns d : Nat} {M : gx_M} {Q : Option Value → gx_W → Prop} {pc : Nat} {L st : List Value} {w : gx_W} {i : Nat} {x : Int64} (hd : gx_d M pc (.lstore i) 2) (hlt : i + 1 < L.length) (hok : gx_ok L i = true) (k : gx_G nc ns d M Q (pc + 2) ((L.set i (.long x)).set (i + 1) (.retAddr 0)) (st) w) : gx_G nc ns d M Q (pc) L (.long x :: st) w := by
  intro D p l e R s m args below meth c H locs cells slots ls C hR hP hS hL
  exact lv_lstore C.1 C.2.1 hd (gx_ls_has hL) hlt rfl (fun ls' h' => k D p l e R s m args below meth c H locs cells slots ls' C hR hP hS (gx_ls_2 (v := .long x) hok h'))
theorem g_iinc {nc ns d : Nat} {M : gx_M} {Q : Option Value → gx_W → Prop} {pc : Nat} {L st : List Value} {w : gx_W} {i : Nat} {n : Int} {x : Int32} (hd : gx_d M pc (.iinc i n) 3) (hl : L[i]? = some (.int x)) (hok : gx_ok L i = true) (k : gx_G nc ns d M Q (pc + 3) (L.set i (.int (x + Int32.ofInt n))) (st) w) : gx_G nc ns d M Q (pc) L (st) w := by
  intro D p l e R s m args below meth c H locs cells slots ls C hR hP hS hL
  obtain ⟨z, hz⟩ := List.getElem?_of_mem (gx_as_mem (D := D) hl (fun h => by cases h))
  exact lv_iinc C.1 C.2.1 hd (gx_ls_has hL) hz rfl (gx_lt hl) rfl (fun ls' h' => k D p l e R s m args below meth c H locs cells slots ls' C hR hP hS (gx_ls_1 (v := .int (x + Int32.ofInt n)) hok h'))
theorem g_if_eq {nc ns d : Nat} {M : gx_M} {Q : Option Value → gx_W → Prop} {pc : Nat} {L st : List Value} {w : gx_W} {x : Int32} {off : Int} {tgt : Nat} (hd : gx_d M pc (.ifCond .eq off) 3) (ht : (pc : Int) + off = (tgt : Int)) (kt : x = 0 → gx_G nc ns d M Q (tgt) L (st) w) (kf : ¬ x = 0 → gx_G nc ns d M Q (pc + 3) L (st) w) : gx_G nc ns d M Q (pc) L (.int x :: st) w := by
  intro D p l e R s m args below meth c H locs cells slots ls C hR hP hS hL
  exact lv_if_eq C.1 C.2.1 hd ht (fun h => kt h D p l e R s m args below meth c H locs cells slots ls C hR hP hS hL) (fun h => kf h D p l e R s m args below meth c H locs cells slots ls C hR hP hS hL)
theorem g_icmp_eq {nc ns d : Nat} {M : gx_M} {Q : Option Value → gx_W → Prop} {pc : Nat} {L st : List Value} {w : gx_W} {x y : Int32} {off : Int} {tgt : Nat} (hd : gx_d M pc (.if_icmp .eq off) 3) (ht : (pc : Int) + off = (tgt : Int)) (kt : x = y → gx_G nc ns d M Q (tgt) L (st) w) (kf : ¬ x = y → gx_G nc ns d M Q (pc + 3) L (st) w) : gx_G nc ns d M Q (pc) L (.int y :: .int x :: st) w := by
  intro D p l e R s m args below meth c H locs cells slots ls C hR hP hS hL
  exact lv_icmp_eq C.1 C.2.1 hd ht (fun h => kt h D p l e R s m args below meth c H locs cells slots ls C hR hP hS hL) (fun h => kf h D p l e R s m args below meth c H locs cells slots ls C hR hP hS hL)
theorem g_if_ne {nc ns d : Nat} {M : gx_M} {Q : Option Value → gx_W → Prop} {pc : Nat} {L st : List Value} {w : gx_W} {x : Int32} {off : Int} {tgt : Nat} (hd : gx_d M pc (.ifCond .ne off) 3) (ht : (pc : Int) + off = (tgt : Int)) (kt : ¬ x = 0 → gx_G nc ns d M Q (tgt) L (st) w) (kf : x = 0 → gx_G nc ns d M Q (pc + 3) L (st) w) : gx_G nc ns d M Q (pc) L (.int x :: st) w := by
  intro D p l e R s m args below meth c H locs cells slots ls C hR hP hS hL
  exact lv_if_ne C.1 C.2.1 hd ht (fun h => kt h D p l e R s m args below meth c H locs cells slots ls C hR hP hS hL) (fun h => kf h D p l e R s m args below meth c H locs cells slots ls C hR hP hS hL)
theorem g_icmp_ne {nc ns d : Nat} {M : gx_M} {Q : Option Value → gx_W → Prop} {pc : Nat} {L st : List Value} {w : gx_W} {x y : Int32} {off : Int} {tgt : Nat} (hd : gx_d M pc (.if_icmp .ne off) 3) (ht : (pc : Int) + off = (tgt : Int)) (kt : ¬ x = y → gx_G nc ns d M Q (tgt) L (st) w) (kf : x = y → gx_G nc ns d M Q (pc + 3) L (st) w) : gx_G nc ns d M Q (pc) L (.int y :: .int x :: st) w := by
  intro D p l e R s m args below meth c H locs cells slots ls C hR hP hS hL
  exact lv_icmp_ne C.1 C.2.1 hd ht (fun h => kt h D p l e R s m args below meth c H locs cells slots ls C hR hP hS hL) (fun h => kf h D p l e R s m args below meth c H locs cells slots ls C hR hP hS hL)
theorem g_if_lt {nc ns d : Nat} {M : gx_M} {Q : Option Value → gx_W → Prop} {pc : Nat} {L st : List Value} {w : gx_W} {x : Int32} {off : Int} {tgt : Nat} (hd : gx_d M pc (.ifCond .lt off) 3) (ht : (pc : Int) + off = (tgt : Int)) (kt : x < 0 → gx_G nc ns d M Q (tgt) L (st) w) (kf : ¬ x < 0 → gx_G nc ns d M Q (pc + 3) L (st) w) : gx_G nc ns d M Q (pc) L (.int x :: st) w := by
  intro D p l e R s m args below meth c H locs cells slots ls C hR hP hS hL
  exact lv_if_lt C.1 C.2.1 hd ht (fun h => kt h D p l e R s m args below meth c H locs cells slots ls C hR hP hS hL) (fun h => kf h D p l e R s m args below meth c H locs cells slots ls C hR hP hS hL)
theorem g_icmp_lt {nc ns d : Nat} {M : gx_M} {Q : Option Value → gx_W → Prop} {pc : Nat} {L st : List Value} {w : gx_W} {x y : Int32} {off : Int} {tgt : Nat} (hd : gx_d M pc (.if_icmp .lt off) 3) (ht : (pc : Int) + off = (tgt : Int)) (kt : x < y → gx_G nc ns d M Q (tgt) L (st) w) (kf : ¬ x < y → gx_G nc ns d M Q (pc + 3) L (st) w) : gx_G nc ns d M Q (pc) L (.int y :: .int x :: st) w := by
  intro D p l e R s m args below meth c H locs cells slots ls C hR hP hS hL
  exact lv_icmp_lt C.1 C.2.1 hd ht (fun h => kt h D p l e R s m args below meth c H locs cells slots ls C hR hP hS hL) (fun h => kf h D p l e R s m args below meth c H locs cells slots ls C hR hP hS hL)
theorem g_if_ge {nc ns d : Nat} {M : gx_M} {Q : Option Value → gx_W → Prop} {pc : Nat} {L st : List Value} {w : gx_W} {x : Int32} {off : Int} {tgt : Nat} (hd : gx_d M pc (.ifCond .ge off) 3) (ht : (pc : Int) + off = (tgt : Int)) (kt : 0 ≤ x → gx_G nc ns d M Q (tgt) L (st) w) (kf : ¬ 0 ≤ x → gx_G nc ns d M Q (pc + 3) L (st) w) : gx_G nc ns d M Q (pc) L (.int x :: st) w := by
  intro D p l e R s m args below meth c H locs cells slots ls C hR hP hS hL
  exact lv_if_ge C.1 C.2.1 hd ht (fun h => kt h D p l e R s m args below meth c H locs cells slots ls C hR hP hS hL) (fun h => kf h D p l e R s m args below meth c H locs cells slots ls C hR hP hS hL)
theorem g_icmp_ge {nc ns d : Nat} {M : gx_M} {Q : Option Value → gx_W → Prop} {pc : Nat} {L st : List Value} {w : gx_W} {x y : Int32} {off : Int} {tgt : Nat} (hd : gx_d M pc (.if_icmp .ge off) 3) (ht : (pc : Int) + off = (tgt : Int)) (kt : y ≤ x → gx_G nc ns d M Q (tgt) L (st) w) (kf : ¬ y ≤ x → gx_G nc ns d M Q (pc + 3) L (st) w) : gx_G nc ns d M Q (pc) L (.int y :: .int x :: st) w := by
  intro D p l e R s m args below meth c H locs cells slots ls C hR hP hS hL
  exact lv_icmp_ge C.1 C.2.1 hd ht (fun h => kt h D p l e R s m args below meth c H locs cells slots ls C hR hP hS hL) (fun h => kf h D p l e R s m args below meth c H locs cells slots ls C hR hP hS hL)
theorem g_if_gt {nc ns d : Nat} {M : gx_M} {Q : Option Value → gx_W → Prop} {pc : Nat} {L st : List Value} {w : gx_W} {x : Int32} {off : Int} {tgt : Nat} (hd : gx_d M pc (.ifCond .gt off) 3) (ht : (pc : Int) + off = (tgt : Int)) (kt : 0 < x → gx_G nc ns d M Q (tgt) L (st) w) (kf : ¬ 0 < x → gx_G nc ns d M Q (pc + 3) L (st) w) : gx_G nc ns d M Q (pc) L (.int x :: st) w := by
  intro D p l e R s m args below meth c H locs cells slots ls C hR hP hS hL
  exact lv_if_gt C.1 C.2.1 hd ht (fun h => kt h D p l e R s m args below meth c H locs cells slots ls C hR hP hS hL) (fun h => kf h D p l e R s m args below meth c H locs cells slots ls C hR hP hS hL)
theorem g_icmp_gt {nc ns d : Nat} {M : gx_M} {Q : Option Value → gx_W → Prop} {pc : Nat} {L st : List Value} {w : gx_W} {x y : Int32} {off : Int} {tgt : Nat} (hd : gx_d M pc (.if_icmp .gt off) 3) (ht : (pc : Int) + off = (tgt : Int)) (kt : y < x → gx_G nc ns d M Q (tgt) L (st) w) (kf : ¬ y < x → gx_G nc ns d M Q (pc + 3) L (st) w) : gx_G nc ns d M Q (pc) L (.int y :: .int x :: st) w := by
  intro D p l e R s m args below meth c H locs cells slots ls C hR hP hS hL
  exact lv_icmp_gt C.1 C.2.1 hd ht (fun h => kt h D p l e R s m args below meth c H locs cells slots ls C hR hP hS hL) (fun h => kf h D p l e R s m args below meth c H locs cells slots ls C hR hP hS hL)
theorem g_if_le {nc ns d : Nat} {M : gx_M} {Q : Option Value → gx_W → Prop} {pc : Nat} {L st : List Value} {w : gx_W} {x : Int32} {off : Int} {tgt : Nat} (hd : gx_d M pc (.ifCond .le off) 3) (ht : (pc : Int) + off = (tgt : Int)) (kt : x ≤ 0 → gx_G nc ns d M Q (tgt) L (st) w) (kf : ¬ x ≤ 0 → gx_G nc ns d M Q (pc + 3) L (st) w) : gx_G nc ns d M Q (pc) L (.int x :: st) w := by
  intro D p l e R s m args below meth c H locs cells slots ls C hR hP hS hL
  exact lv_if_le C.1 C.2.1 hd ht (fun h => kt h D p l e R s m args below meth c H locs cells slots ls C hR hP hS hL) (fun h => kf h D p l e R s m args below meth c H locs cells slots ls C hR hP hS hL)
theorem g_icmp_le {nc ns d : Nat} {M : gx_M} {Q : Option Value → gx_W → Prop} {pc : Nat} {L st : List Value} {w : gx_W} {x y : Int32} {off : Int} {tgt : Nat} (hd : gx_d M pc (.if_icmp .le off) 3) (ht : (pc : Int) + off = (tgt : Int)) (kt : x ≤ y → gx_G nc ns d M Q (tgt) L (st) w) (kf : ¬ x ≤ y → gx_G nc ns d M Q (pc + 3) L (st) w) : gx_G nc ns d M Q (pc) L (.int y :: .int x :: st) w := by
  intro D p l e R s m args below meth c H locs cells slots ls C hR hP hS hL
  exact lv_icmp_le C.1 C.2.1 hd ht (fun h => kt h D p l e R s m args below meth c H locs cells slots ls C hR hP hS hL) (fun h => kf h D p l e R s m args below meth c H locs cells slots ls C hR hP hS hL)
theorem g_goto {nc ns d : Nat} {M : gx_M} {Q : Option Value → gx_W → Prop} {pc : Nat} {L st : List Value} {w : gx_W} {off : Int} {tgt : Nat} (hd : gx_d M pc (.goto off) 3) (ht : (pc : Int) + off = (tgt : Int)) (k : gx_G nc ns d M Q (tgt) L (st) w) : gx_G nc ns d M Q (pc) L (st) w := by
  intro D p l e R s m args below meth c H locs cells slots ls C hR hP hS hL
  exact lv_goto C.1 C.2.1 hd ht (k D p l e R s m args below meth c H locs cells slots ls C hR hP hS hL)
theorem g_ifnull {nc ns d : Nat} {M : gx_M} {Q : Option Value → gx_W → Prop} {pc : Nat} {L st : List Value} {w : gx_W} {x : Nat} {off : Int} (hd : gx_d M pc (.ifnull off) 3) (k : gx_G nc ns d M Q (pc + 3) L (st) w) : gx_G nc ns d M Q (pc) L (.ref x :: st) w := by
  intro D p l e R s m args below meth c H locs cells slots ls C hR hP hS hL
  exact lv_ifnull C.1 C.2.1 hd (k D p l e R s m args below meth c H locs cells slots ls C hR hP hS hL)
theorem g_ifnonnull {nc ns d : Nat} {M : gx_M} {Q : Option Value → gx_W → Prop} {pc : Nat} {L st : List Value} {w : gx_W} {x : Nat} {off : Int} {tgt : Nat} (hd : gx_d M pc (.ifnonnull off) 3) (ht : (pc : Int) + off = (tgt : Int)) (k : gx_G nc ns d M Q (tgt) L (st) w) : gx_G nc ns d M Q (pc) L (.ref x :: st) w := by
  intro D p l e R s m args below meth c H locs cells slots ls C hR hP hS hL
  exact lv_ifnonnull C.1 C.2.1 hd ht (k D p l e R s m args below meth c H locs cells slots ls C hR hP hS hL)
theorem g_ifnullN {nc ns d : Nat} {M : gx_M} {Q : Option Value → gx_W → Prop} {pc : Nat} {L st : List Value} {w : gx_W} {off : Int} {tgt : Nat} (hd : gx_d M pc (.ifnull off) 3) (ht : (pc : Int) + off = (tgt : Int)) (k : gx_G nc ns d M Q (tgt) L (st) w) : gx_G nc ns d M Q (pc) L (.null :: st) w := by
  intro D p l e R s m args below meth c H locs cells slots ls C hR hP hS hL
  exact lv_ifnullN C.1 C.2.1 hd ht (k D p l e R s m args below meth c H locs cells slots ls C hR hP hS hL)
theorem g_ifnonnullN {nc ns d : Nat} {M : gx_M} {Q : Option Value → gx_W → Prop} {pc : Nat} {L st : List Value} {w : gx_W} {off : Int} (hd : gx_d M pc (.ifnonnull off) 3) (k : gx_G nc ns d M Q (pc + 3) L (st) w) : gx_G nc ns d M Q (pc) L (.null :: st) w := by
  intro D p l e R s m args below meth c H locs cells slots ls C hR hP hS hL
  exact lv_ifnonnullN C.1 C.2.1 hd (k D p l e R s m args below meth c H locs cells slots ls C hR hP hS hL)
theorem g_tableIn {nc ns d : Nat} {M : gx_M} {Q : Option Value → gx_W → Prop} {pc : Nat} {L st : List Value} {w : gx_W} {x : Int32} {dflt lo hi : Int} {offs : Array Int} {len : Nat} {off : Int} {tgt : Nat} (hd : gx_d M pc (.tableswitch dflt lo hi offs) len) (h1 : ¬ x.toInt < lo) (h2 : ¬ hi < x.toInt) (ho : offs[(x.toInt - lo).toNat]? = some off) (ht : (pc : Int) + off = (tgt : Int)) (k : gx_G nc ns d M Q (tgt) L (st) w) : gx_G nc ns d M Q (pc) L (.int x :: st) w := by
  intro D p l e R s m args below meth c H locs cells slots ls C hR hP hS hL
  exact lv_tableIn C.1 C.2.1 hd h1 h2 ho ht (k D p l e R s m args below meth c H locs cells slots ls C hR hP hS hL)
theorem g_tableOut {nc ns d : Nat} {M : gx_M} {Q : Option Value → gx_W → Prop} {pc : Nat} {L st : List Value} {w : gx_W} {x : Int32} {dflt lo hi : Int} {offs : Array Int} {len : Nat} {tgt : Nat} (hd : gx_d M pc (.tableswitch dflt lo hi offs) len) (h : x.toInt < lo ∨ hi < x.toInt) (ht : (pc : Int) + dflt = (tgt : Int)) (k : gx_G nc ns d M Q (tgt) L (st) w) : gx_G nc ns d M Q (pc) L (.int x :: st) w := by
  intro D p l e R s m args below meth c H locs cells slots ls C hR hP hS hL
  exact lv_tableOut C.1 C.2.1 hd h ht (k D p l e R s m args below meth c H locs cells slots ls C hR hP hS hL)
theorem g_lookup {nc ns d : Nat} {M : gx_M} {Q : Option Value → gx_W → Prop} {pc : Nat} {L st : List Value} {w : gx_W} {x : Int32} {dflt : Int} {ps : Array (Int × Int)} {len : Nat} {off : Int} {tgt : Nat} (hd : gx_d M pc (.lookupswitch dflt ps) len) (hp : (ps.toList.zip (ps.toList.drop 1)).all (fun (a, next) => a.1 < next.1) = true) (ho : Op.lookupswitch.offset ps.toList dflt x.toInt = off) (ht : (pc : Int) + off = (tgt : Int)) (k : gx_G nc ns d M Q (tgt) L (st) w) : gx_G nc ns d M Q (pc) L (.int x :: st) w := by
  intro D p l e R s m args below meth c H locs cells slots ls C hR hP hS hL
  exact lv_lookup C.1 C.2.1 hd hp ho ht (k D p l e R s m args below meth c H locs cells slots ls C hR hP hS hL)
theorem g_ldc {nc ns d : Nat} {M : gx_M} {Q : Option Value → gx_W → Prop} {pc : Nat} {L st : List Value} {w : gx_W} {idx : Nat} {v : Int32} (hd : gx_d M pc (.ldc idx) 2) (hc : Cond.constant M.1.cls idx v ∈ gx_T) (k : gx_G nc ns d M Q (pc + 2) L (.int v :: st) w) : gx_G nc ns d M Q (pc) L (st) w := by
  intro D p l e R s m args below meth c H locs cells slots ls C hR hP hS hL
  exact lv_ldc C.1 C.2.1 C.2.2.2.2.1 (C.2.2.2.2.2.1 _ hc) hd (k D p l e R s m args below meth c H locs cells slots ls C hR hP hS hL)
theorem g_ldc2 {nc ns d : Nat} {M : gx_M} {Q : Option Value → gx_W → Prop} {pc : Nat} {L st : List Value} {w : gx_W} {idx : Nat} {v : Int64} (hd : gx_d M pc (.ldc2_w idx) 3) (hc : Cond.constantLong M.1.cls idx v ∈ gx_T) (k : gx_G nc ns d M Q (pc + 3) L (.long v :: st) w) : gx_G nc ns d M Q (pc) L (st) w := by
  intro D p l e R s m args below meth c H locs cells slots ls C hR hP hS hL
  exact lv_ldc2 C.1 C.2.1 C.2.2.2.2.1 (C.2.2.2.2.2.1 _ hc) hd (k D p l e R s m args below meth c H locs cells slots ls C hR hP hS hL)
end
section
/-! fields, arrays, statics -/
def gx_FL (own : String) (idx ci k : Nat) (b : Bool) : Prop := ∃ q : vw_C, gx_cl[ci]? = some q ∧ k < q.2.2 ∧ (gx_lay ci)[k]? = some b ∧ (Cond.fieldLink own idx (q.2.1 k).1 (q.2.1 k).2.1 (q.2.1 k).2.2.1 ∈ gx_T ∨ ∃ h, Cond.fieldLinkNest own idx (q.2.1 k).1 (q.2.1 k).2.1 (q.2.1 k).2.2.1 h ∈ gx_N)
/-- what a field of a class is: final or not, and its type -/
def gx_FT (ci k : Nat) (fin : Bool) (ty : FieldType) : Prop := ∃ q : vw_C, gx_cl[ci]? = some q ∧ (q.2.1 k).2.2.2 = fin ∧ parseFieldDescriptor (q.2.1 k).2.2.1 = some ty
theorem gx_ci {own : String} {idx ci k : Nat} {b : Bool} (h : gx_FL own idx ci k b) : ci < 20 := by
  obtain ⟨q, h1, -⟩ := h
  have h2 := (List.getElem?_eq_some_iff.mp h1).1
  exact Nat.lt_of_lt_of_le h2 (by decide)
theorem gx_e_obj {D : gx_D} {w : gx_W} {k ci n : Nat} (h : ci < 20) : gx_e D w k (ci, n) = .inr (ci, gx_fs D w k ci) := if_pos h
theorem gx_fs_at {D : gx_D} {w : gx_W} {r ci k : Nat} {b : Bool} (h : (gx_lay ci)[k]? = some b) : (gx_fs D w r ci)[k]? = some (if b then .int (w_i w r k) else gx_rv D (w_r w r k)) := by
  unfold gx_fs
  rw [List.getElem?_mapIdx, h]
  rfl
section GXH
variable {nc ns d : Nat} {M : gx_M} {Q : Option Value → gx_W → Prop} {pc : Nat} {L st : List Value} {w : gx_W}
theorem g_getv {idx ci k r n : Nat} {b : Bool} {v : Value} (hd : gx_d M pc (.getfield idx) 3) (hl : gx_FL M.1.cls idx ci k b) (hs : w.1[r]? = some (ci, n)) (hv : ∀ D, (if b then Value.int (w_i w r k) else gx_rv D (w_r w r k)) = gx_c D v) (kk : gx_G nc ns d M Q (pc + 3) L (v :: st) w) : gx_G nc ns d M Q pc L (.ref r :: st) w := by
  intro D p l e R s m args below meth c H locs cells slots ls C hR hP hS hL
  have hci := gx_ci hl
  obtain ⟨q, h1, h2, h3, h4⟩ := hl
  have hr := gx_hi hP hs (by omega)
  have he := gx_ws_at (D := D) hr hs
  rw [gx_e_obj hci] at he
  obtain ⟨f1, f2, -⟩ := gx_fact ci q h1
  have hts : ∀ w ∈ gx_T, w.before args s = true := fun w hw => C.2.2.2.2.2.1 w hw
  have hE := C.2.2.2.2.2.2.2.2.1
  have hfs := (gx_fs_at (D := D) (w := w) (r := r) h3).trans (congrArg some (hv D))
  have K := kk D p l e R s m args below meth c H locs cells slots ls C hR hP hS hL
  rcases h4 with h4 | ⟨h, h4⟩
  · exact va_get C.1 C.2.1 hts f1 C.2.2.2.2.1 hE.1 hP.2.2 (r - 6) he h1 k h2 (hts _ h4) (fun _ z => z) hfs hd K
  · exact va_getN C.1 C.2.1 hts f1 C.2.2.2.2.1 hE.1 hP.2.2 (r - 6) he h1 k h2 (va_Nw.use rfl (hE.2.1 _ h4)) (fun _ z => z) hfs hd K
theorem g_geti {idx ci k r n : Nat} (hd : gx_d M pc (.getfield idx) 3) (hl : gx_FL M.1.cls idx ci k true) (hs : w.1[r]? = some (ci, n)) (kk : gx_G nc ns d M Q (pc + 3) L (.int (w_i w r k) :: st) w) : gx_G nc ns d M Q pc L (.ref r :: st) w :=
  g_getv hd hl hs (v := .int (w_i w r k)) (fun _ => rfl) kk
theorem g_getr {idx ci k r n a : Nat} (hd : gx_d M pc (.getfield idx) 3) (hl : gx_FL M.1.cls idx ci k false) (hs : w.1[r]? = some (ci, n)) (ha : w_r w r k = some a) (kk : gx_G nc ns d M Q (pc + 3) L (.ref a :: st) w) : gx_G nc ns d M Q pc L (.ref r :: st) w :=
  g_getv hd hl hs (v := .ref a) (fun D => by simp [gx_rv, ha, va_rf, gx_c]) kk
end GXH
theorem gx_fs_set {D : gx_D} {w w' : gx_W} {r ci k : Nat} {v : Value} (h1 : ∀ j, j ≠ k → w_i w' r j = w_i w r j ∧ w_r w' r j = w_r w r j) (h2 : ∀ b, (gx_lay ci)[k]? = some b → (if b then Value.int (w_i w' r k) else gx_rv D (w_r w' r k)) = v) : gx_fs D w' r ci = (gx_fs D w r ci).set k v := by
  apply List.ext_getElem?
  intro j
  by_cases hj : k = j
  · subst hj
    by_cases hl : k < (gx_lay ci).length
    · rw [List.getElem?_set_self (by unfold gx_fs; rw [List.length_mapIdx]; exact hl)]
      have h := List.getElem?_eq_getElem hl
      rw [gx_fs_at h, h2 _ h]
    · rw [List.getElem?_eq_none (by unfold gx_fs; rw [List.length_mapIdx]; omega), List.getElem?_eq_none (by rw [List.length_set]; unfold gx_fs; rw [List.length_mapIdx]; omega)]
  · rw [List.getElem?_set_ne hj]
    unfold gx_fs
    rw [List.getElem?_mapIdx, List.getElem?_mapIdx, (h1 j (Ne.symm hj)).1, (h1 j (Ne.symm hj)).2]
theorem gx_e_ne {D : gx_D} {w w' : gx_W} {k' : Nat} (h1 : w_i w' k' = w_i w k') (h2 : w_r w' k' = w_r w k') (h3 : w_a w' k' = w_a w k') (h4 : w_l w' k' = w_l w k') (h5 : w_q w' k' = w_q w k') (c' : Nat × Nat) : gx_e D w' k' c' = gx_e D w k' c' := by
  unfold gx_e gx_fs
  rw [h1, h2, h3, h4, h5]
section GXP
variable {nc ns d : Nat} {M : gx_M} {Q : Option Value → gx_W → Prop} {pc : Nat} {L st : List Value} {w : gx_W}
theorem g_putv {idx ci k r n : Nat} {b : Bool} {fin : Bool} {ty : FieldType} {v : Value} {w' : gx_W} (hd : gx_d M pc (.putfield idx) 3) (hl : gx_FL M.1.cls idx ci k b) (hT : gx_FT ci k fin ty) (hf : fin = true → M.1.name = "<init>" ∧ ∃ q : vw_C, gx_cl[ci]? = some q ∧ (q.2.1 k).1 = M.1.cls) (hs : w.1[r]? = some (ci, n)) (hn : ∀ D, narrow ty (gx_c D v) = gx_c D v) (hfit : ∀ D, fits ty (gx_c D v) = true)
    (hw : w'.1 = w.1) (hw1 : ∀ j, j ≠ r → w_i w' j = w_i w j ∧ w_r w' j = w_r w j) (hw2 : ∀ j, w_a w' j = w_a w j ∧ w_l w' j = w_l w j ∧ w_q w' j = w_q w j) (hw3 : ∀ j, j ≠ k → w_i w' r j = w_i w r j ∧ w_r w' r j = w_r w r j) (hv : ∀ D, (if b then Value.int (w_i w' r k) else gx_rv D (w_r w' r k)) = gx_c D v)
    (kk : gx_G nc ns d M Q (pc + 3) L st w') : gx_G nc ns d M Q pc L (v :: .ref r :: st) w := by
  intro D p l e R s m args below meth c H locs cells slots ls C hR hP hS hL
  have hci := gx_ci hl
  obtain ⟨q, h1, h2, h3, h4⟩ := hl
  obtain ⟨q', t1, t2, t3⟩ := hT
  cases h1.symm.trans t1
  have hr := gx_hi hP hs (by omega)
  have hPat := gx_P_at (D := D) hP hr hs
  obtain ⟨f1, f2, ty0, f3⟩ := gx_fact ci q h1
  have hts : ∀ w ∈ gx_T, w.before args s = true := fun w hw => C.2.2.2.2.2.1 w hw
  have hE := C.2.2.2.2.2.2.2.2.1
  have hap := va_apart (own := M.1.cls) hts f1 ty0 f3 f2 hE.1 h1
  rw [gx_e_obj hci] at hPat
  obtain ⟨r', g1, cell, q1, q2, q3, q4⟩ := hPat
  cases h1.symm.trans g1
  obtain ⟨hSl, hfc, kC, hkC, hkind⟩ := hE.1.1 ci _ h1
  obtain ⟨cf, kf, fi, f, hi, hsl⟩ := hSl k h2
  have hlay := u_lays hts f1 h2
  have hst := (u_facts hfc hkC hlay hi).1
  have h6 := u_fits hfc hkC hkind hlay hi t3 (hn D) (hfit D)
  have hlen : k < (gx_fs D w r ci).length := by
    unfold gx_fs
    rw [List.length_mapIdx]
    exact (List.getElem?_eq_some_iff.mp h3).1
  have go : ∀ H' : Heap, H'[gx_f D r]? = some (cell.setSlot f.slot (gx_c D v)) → H'.size = H.size → (∀ q, q ≠ gx_f D r → H'[q]? = H[q]?) → W p l e R s m args below meth c H' (locs ++ [⟨gx_f D r, f.slot⟩]) cells slots (MQ below (gx_Q D Q) args s (cells + nc) (slots + ns) (gx_A D)) (F0 m (pc + 3) ls (st.map (gx_c D))) := by
    intro H' e1 e2 e3
    rw [hsl] at e1 ⊢
    have hA : gx_A D (gx_f D r) := by rw [gx_f_hi hr]; exact Nat.le_add_right _ _
    refine kk D p l e R s m args below meth c H' _ cells slots ls C hR (gx_P_set hP hr hs hw ?_ (fun k' _ => (hw2 k').1) e2 e3 ?_) (hS.put e2 e3 hA) hL
    · intro k' c' hne
      exact gx_e_ne (hw1 k' hne).1 (hw1 k' hne).2 (hw2 k').1 (hw2 k').2.1 (hw2 k').2.2 c'
    · rw [gx_e_obj hci, gx_fs_set (D := D) (v := gx_c D v) hw3 (fun b' hb' => by cases h3.symm.trans hb'; exact hv D)]
      exact ⟨_, h1, t_OB.to (V := updV (vp_V (gx_fs D w r ci)) k (gx_c D v)) ⟨_, e1, q2, q3, t_set q4 hap h2 (gx_c D v)⟩ (fun j _ => vp_updV_set hlen _ j)⟩
  have hlt : f.slot < cell.slots.size := by rw [hsl]; exact k2_hasslot (q4 k h2)
  cases hb : fin with
  | false =>
    have hlay2 := hts _ (f1 _ (u_in_lay h2))
    unfold u_lay at hlay2
    rw [if_neg (by rw [t2, hb]; decide)] at hlay2
    have h7 := u_store hfc hkC hkind hlay2 hi t3 (hn D) (hfit D)
    rcases h4 with h4 | ⟨h, h4⟩
    · exact W.putK C.1 C.2.1 (f := f) ⟨C.2.2.2.2.1, hts _ h4, ⟨_, _, _, hi⟩, hst⟩ (by rw [q2]; exact h7) q1 q3 hlt rfl rfl hd go
    · exact va_WputK C.1 C.2.1 (f := f) C.2.2.2.2.1 (va_Nw.use rfl (hE.2.1 _ h4)) hi hst (by rw [q2]; exact h7) q1 q3 hlt rfl rfl hd go
  | true =>
    obtain ⟨hi1, q'', z1, z2⟩ := hf hb
    cases h1.symm.trans z1
    have hlay2 := hts _ (f1 _ (u_in_lay h2))
    unfold u_lay at hlay2
    rw [if_pos (by rw [t2, hb])] at hlay2
    have hcf : m.cls = cf := by
      obtain ⟨_, _, c', _, _, _, -, -, hf', -, -, -, hown2, -⟩ := Cond.laysFinal_spec hlay2
      have e1 : c' = cf := by have := hi.symm.trans hf'; simp at this; exact this.1.symm
      rw [z2] at hown2
      rw [← e1]; exact Option.some.inj (C.2.2.2.2.1.symm.trans hown2)
    rcases h4 with h4 | ⟨h, h4⟩
    · exact W.putFinK C.1 C.2.1 C.2.2.2.2.1 (hts _ h4) hi hst hcf (C.2.2.2.2.2.2.2.1 hi1) (by rw [q2]; exact h6) q1 q3 hlt rfl rfl hd go
    · refine va_Wputf C.1 C.2.1 C.2.2.2.2.1 (va_Nw.use rfl (hE.2.1 _ h4)) hi hst (Or.inr ⟨hcf, C.2.2.2.2.2.2.2.1 hi1⟩) q1 (by rw [q3]; exact fun h => by cases h) hlt h6.1 (by rw [q2, q3]; exact h6.2) rfl rfl hd ?_
      have ha : gx_f D r < H.size := (Array.getElem?_eq_some_iff.mp q1).1
      refine go _ ?_ ?_ ?_
      · simp [Array.getElem?_setIfInBounds, ha]
      · simp
      · intro q hq
        simp [Array.getElem?_setIfInBounds, Ne.symm hq]
end GXP
end
section
/-! puts of ints and references, arrays -/
theorem va_up_row {α : Type} {f : Nat → α} {k j : Nat} {v : α} (h : j ≠ k) : va_up f k v j = f j := if_neg h
theorem va_up_at {α : Type} {f : Nat → α} {k : Nat} {v : α} : va_up f k v k = v := if_pos rfl
section GXQ
variable {nc ns d : Nat} {M : gx_M} {Q : Option Value → gx_W → Prop} {pc : Nat} {L st : List Value} {w : gx_W}
theorem g_puti {idx ci k r n : Nat} {v : Int32} (hd : gx_d M pc (.putfield idx) 3) (hl : gx_FL M.1.cls idx ci k true) (hT : gx_FT ci k false .int) (hs : w.1[r]? = some (ci, n)) (kk : gx_G nc ns d M Q (pc + 3) L st (s_i w r k v)) : gx_G nc ns d M Q pc L (.int v :: .ref r :: st) w :=
  g_putv (w' := s_i w r k v) hd hl hT (fun h => by cases h) hs (fun _ => rfl) (fun _ => rfl) rfl (fun j hj => ⟨va_up_row hj, rfl⟩) (fun _ => ⟨rfl, rfl, rfl⟩) (fun j hj => ⟨by show va_up w.2.1 r (va_up (w.2.1 r) k v) r j = _; rw [va_up_at, va_up_row hj]; rfl, rfl⟩) (fun D => by show (if true then Value.int (va_up w.2.1 r (va_up (w.2.1 r) k v) r k) else _) = _; rw [va_up_at, va_up_at]; rfl) kk
theorem g_putz {idx ci k r n : Nat} {v : Int32} (hd : gx_d M pc (.putfield idx) 3) (hl : gx_FL M.1.cls idx ci k true) (hT : gx_FT ci k false .boolean) (hn : v = 0 ∨ v = 1) (hs : w.1[r]? = some (ci, n)) (kk : gx_G nc ns d M Q (pc + 3) L st (s_i w r k v)) : gx_G nc ns d M Q pc L (.int v :: .ref r :: st) w :=
  g_putv (w' := s_i w r k v) hd hl hT (fun h => by cases h) hs (fun _ => by rcases hn with rfl | rfl <;> rfl) (fun _ => by rcases hn with rfl | rfl <;> rfl) rfl (fun j hj => ⟨va_up_row hj, rfl⟩) (fun _ => ⟨rfl, rfl, rfl⟩) (fun j hj => ⟨by show va_up w.2.1 r (va_up (w.2.1 r) k v) r j = _; rw [va_up_at, va_up_row hj]; rfl, rfl⟩) (fun D => by show (if true then Value.int (va_up w.2.1 r (va_up (w.2.1 r) k v) r k) else _) = _; rw [va_up_at, va_up_at]; rfl) kk
theorem g_putr {idx ci k r n a : Nat} {fin : Bool} {ty : FieldType} (hd : gx_d M pc (.putfield idx) 3) (hl : gx_FL M.1.cls idx ci k false) (hT : gx_FT ci k fin ty) (hty : ty.isReference = true) (hf : fin = true → M.1.name = "<init>" ∧ ∃ q : vw_C, gx_cl[ci]? = some q ∧ (q.2.1 k).1 = M.1.cls) (hs : w.1[r]? = some (ci, n)) (kk : gx_G nc ns d M Q (pc + 3) L st (s_r w r k (some a))) : gx_G nc ns d M Q pc L (.ref a :: .ref r :: st) w :=
  g_putv (w' := s_r w r k (some a)) hd hl hT hf hs (fun _ => by cases ty <;> first | rfl | cases hty) (fun _ => by cases ty <;> first | rfl | cases hty) rfl (fun j hj => ⟨rfl, va_up_row hj⟩) (fun _ => ⟨rfl, rfl, rfl⟩) (fun j hj => ⟨rfl, by show va_up w.2.2.1 r (va_up (w.2.2.1 r) k (some a)) r j = _; rw [va_up_at, va_up_row hj]; rfl⟩) (fun D => by show (if false then _ else gx_rv D (va_up w.2.2.1 r (va_up (w.2.2.1 r) k (some a)) r k)) = _; rw [va_up_at, va_up_at]; rfl) kk
/-! arrays of ints, bytes, shorts: kinds 20, 21, 22; of longs: 23; of references: 24, 25 -/
theorem gx_e_int {D : gx_D} {w : gx_W} {k a n : Nat} (h1 : 20 ≤ a) (h2 : a < 23) : gx_e D w k (a, n) = .inl (gx_y D a, n, .inl (w_a w k)) := by
  unfold gx_e
  rw [if_neg (by show ¬ a < 20; omega), if_pos (by show a < 23; omega)]
theorem gx_e_long {D : gx_D} {w : gx_W} {k n : Nat} : gx_e D w k (23, n) = .inl (gx_y D 23, n, .inr (.inl (w_l w k))) := rfl
theorem gx_e_ref {D : gx_D} {w : gx_W} {k a n : Nat} (h1 : 23 < a) : gx_e D w k (a, n) = .inl (gx_y D a, n, .inr (.inr (.inr (.inr (fun j => (w_q w k j).map (gx_f D)))))) := by
  unfold gx_e
  rw [if_neg (by show ¬ a < 20; omega), if_neg (by show ¬ a < 23; omega), if_neg (by show ¬ a = 23; omega)]
theorem g_iald {r n : Nat} {i : Int32} (hd : gx_d M pc .iaload 1) (hs : w.1[r]? = some (20, n)) (hi : vp_in i n) (kk : gx_G nc ns d M Q (pc + 1) L (.int (w_a w r i.toNatClampNeg) :: st) w) : gx_G nc ns d M Q pc L (.int i :: .ref r :: st) w := by
  intro D p l e R s m args below meth c H locs cells slots ls C hR hP hS hL
  have hr := gx_hi hP hs (by omega)
  have he := gx_ws_at (D := D) hr hs
  rw [gx_e_int (by omega) (by omega)] at he
  exact va_iald C.1 C.2.1 C.2.2.2.2.2.2.2.2.1.1 hP.2.2 (r - 6) 0 he rfl hi hd (kk D p l e R s m args below meth c H locs cells slots ls C hR hP hS hL)
theorem g_bald {r n : Nat} {i : Int32} (hd : gx_d M pc .baload 1) (hs : w.1[r]? = some (21, n)) (hi : vp_in i n) (kk : gx_G nc ns d M Q (pc + 1) L (.int (w_a w r i.toNatClampNeg) :: st) w) : gx_G nc ns d M Q pc L (.int i :: .ref r :: st) w := by
  intro D p l e R s m args below meth c H locs cells slots ls C hR hP hS hL
  have hr := gx_hi hP hs (by omega)
  have he := gx_ws_at (D := D) hr hs
  rw [gx_e_int (by omega) (by omega)] at he
  exact va_bald C.1 C.2.1 C.2.2.2.2.2.2.2.2.1.1 hP.2.2 (r - 6) 1 he rfl hi hd (kk D p l e R s m args below meth c H locs cells slots ls C hR hP hS hL)
theorem g_sald {r n : Nat} {i : Int32} (hd : gx_d M pc .saload 1) (hs : w.1[r]? = some (22, n)) (hi : vp_in i n) (kk : gx_G nc ns d M Q (pc + 1) L (.int (w_a w r i.toNatClampNeg) :: st) w) : gx_G nc ns d M Q pc L (.int i :: .ref r :: st) w := by
  intro D p l e R s m args below meth c H locs cells slots ls C hR hP hS hL
  have hr := gx_hi hP hs (by omega)
  have he := gx_ws_at (D := D) hr hs
  rw [gx_e_int (by omega) (by omega)] at he
  exact va_sald C.1 C.2.1 C.2.2.2.2.2.2.2.2.1.1 hP.2.2 (r - 6) 2 he rfl hi hd (kk D p l e R s m args below meth c H locs cells slots ls C hR hP hS hL)
theorem g_lald {r n : Nat} {i : Int32} (hd : gx_d M pc .laload 1) (hs : w.1[r]? = some (23, n)) (hi : vp_in i n) (kk : gx_G nc ns d M Q (pc + 1) L (.long (w_l w r i.toNatClampNeg) :: st) w) : gx_G nc ns d M Q pc L (.int i :: .ref r :: st) w := by
  intro D p l e R s m args below meth c H locs cells slots ls C hR hP hS hL
  have hr := gx_hi hP hs (by omega)
  have he := gx_ws_at (D := D) hr hs
  rw [gx_e_long] at he
  exact va_lald C.1 C.2.1 C.2.2.2.2.2.2.2.2.1.1 hP.2.2 (r - 6) 3 he rfl hi hd (kk D p l e R s m args below meth c H locs cells slots ls C hR hP hS hL)
theorem g_aald {r n a : Nat} {i : Int32} (hd : gx_d M pc .aaload 1) (hs : w.1[r]? = some (24, n) ∨ w.1[r]? = some (25, n)) (hi : vp_in i n) (ha : w_q w r i.toNatClampNeg = some a) (kk : gx_G nc ns d M Q (pc + 1) L (.ref a :: st) w) : gx_G nc ns d M Q pc L (.int i :: .ref r :: st) w := by
  intro D p l e R s m args below meth c H locs cells slots ls C hR hP hS hL
  have hE := C.2.2.2.2.2.2.2.2.1.1
  have hlt : i.toNatClampNeg < n := Nat.not_le.mp fun q => hi (Or.inr q)
  have K := kk D p l e R s m args below meth c H locs cells slots ls C hR hP hS hL
  have hv : va_rf ((w_q w r i.toNatClampNeg).map (gx_f D)) = .ref (gx_f D a) := by rw [ha]; rfl
  rcases hs with hs | hs
  · have hr := gx_hi hP hs (by omega)
    have he := gx_ws_at (D := D) hr hs
    rw [gx_e_ref (by omega)] at he
    exact W.aald (v := .ref (gx_f D a)) (ty := .object "CrossroadsChoose$Shelf") C.1 C.2.1 (hP.2.2 (r - 6) _ he) ((hE.2 4 _ rfl).1 n (fun j => va_rf ((w_q w r j).map (gx_f D)))) rfl (fun q => by cases q) (by show ¬ (i < 0 ∨ (arrV _ _ _).slots.size ≤ _); rw [arrV_size]; exact hi) (by show (arrV _ _ _).slots[_]? = _; rw [arrV_read _ _ hlt, hv]) rfl rfl hd K
  · have hr := gx_hi hP hs (by omega)
    have he := gx_ws_at (D := D) hr hs
    rw [gx_e_ref (by omega)] at he
    exact W.aald (v := .ref (gx_f D a)) (ty := .array .int) C.1 C.2.1 (hP.2.2 (r - 6) _ he) ((hE.2 5 _ rfl).1 n (fun j => va_rf ((w_q w r j).map (gx_f D)))) rfl (fun q => by cases q) (by show ¬ (i < 0 ∨ (arrV _ _ _).slots.size ≤ _); rw [arrV_size]; exact hi) (by show (arrV _ _ _).slots[_]? = _; rw [arrV_read _ _ hlt, hv]) rfl rfl hd K
/-- one row of the world's int arrays becomes another -/
theorem gx_P_sa {D : gx_D} {H H' : Heap} {r a n : Nat} {f : Nat → Int32} (hP : gx_P D w H) (hs : w.1[r]? = some (a, n)) (h1 : 20 ≤ a) (h2 : a < 23) (h4 : H'.size = H.size) (h5 : ∀ q, q ≠ gx_f D r → H'[q]? = H[q]?) (h6 : H'[gx_f D r]? = some (vp_cell (gx_y D a) (n, .inl f))) : gx_P D (s_a w r f) H' := by
  have hr := gx_hi hP hs (by omega)
  refine gx_P_set (w' := s_a w r f) hP hr hs rfl (fun k' c' hne => gx_e_ne (w := w) (w' := s_a w r f) rfl rfl (va_up_row (f := w.2.2.2.1) hne) rfl rfl c') (fun k' hk => va_up_row (f := w.2.2.2.1) (by omega)) h4 h5 ?_
  rw [gx_e_int h1 h2]
  show H'[gx_f D r]? = some (vp_cell (gx_y D a) (n, .inl (va_up w.2.2.2.1 r f r)))
  rw [va_up_at]
  exact h6
theorem gx_P_sl {D : gx_D} {H H' : Heap} {r n : Nat} {f : Nat → Int64} (hP : gx_P D w H) (hs : w.1[r]? = some (23, n)) (h4 : H'.size = H.size) (h5 : ∀ q, q ≠ gx_f D r → H'[q]? = H[q]?) (h6 : H'[gx_f D r]? = some (vp_cell (gx_y D 23) (n, .inr (.inl f)))) : gx_P D (s_l w r f) H' := by
  have hr := gx_hi hP hs (by omega)
  refine gx_P_set (w' := s_l w r f) hP hr hs rfl (fun k' c' hne => gx_e_ne (w := w) (w' := s_l w r f) rfl rfl rfl (va_up_row (f := w.2.2.2.2.1) hne) rfl c') (fun k' hk => rfl) h4 h5 ?_
  rw [gx_e_long]
  show H'[gx_f D r]? = some (vp_cell (gx_y D 23) (n, .inr (.inl (va_up w.2.2.2.2.1 r f r))))
  rw [va_up_at]
  exact h6
theorem gx_P_sq {D : gx_D} {H H' : Heap} {r a n : Nat} {f : Nat → Option Nat} (hP : gx_P D w H) (hs : w.1[r]? = some (a, n)) (h1 : 23 < a) (ha : a ≠ 30) (h4 : H'.size = H.size) (h5 : ∀ q, q ≠ gx_f D r → H'[q]? = H[q]?) (h6 : H'[gx_f D r]? = some (vp_cell (gx_y D a) (n, .inr (.inr (.inr (.inr (fun j => (f j).map (gx_f D)))))))) : gx_P D (s_q w r f) H' := by
  have hr := gx_hi hP hs ha
  refine gx_P_set (w' := s_q w r f) hP hr hs rfl (fun k' c' hne => gx_e_ne (w := w) (w' := s_q w r f) rfl rfl rfl rfl (va_up_row (f := w.2.2.2.2.2) hne) c') (fun k' hk => rfl) h4 h5 ?_
  rw [gx_e_ref h1]
  show H'[gx_f D r]? = some (vp_cell (gx_y D a) (n, .inr (.inr (.inr (.inr (fun j => (va_up w.2.2.2.2.2 r f r j).map (gx_f D)))))))
  rw [va_up_at]
  exact h6
theorem gx_A_hi {D : gx_D} {r : Nat} (h : 6 ≤ r) : gx_A D (gx_f D r) := by rw [gx_f_hi h]; exact Nat.le_add_right _ _
theorem g_iast {r n : Nat} {i x : Int32} (hd : gx_d M pc .iastore 1) (hs : w.1[r]? = some (20, n)) (hi : vp_in i n) (kk : gx_G nc ns d M Q (pc + 1) L st (s_a w r (va_up (w_a w r) i.toNatClampNeg x))) : gx_G nc ns d M Q pc L (.int x :: .int i :: .ref r :: st) w := by
  intro D p l e R s m args below meth c H locs cells slots ls C hR hP hS hL
  have hE := C.2.2.2.2.2.2.2.2.1.1
  have hr := gx_hi hP hs (by omega)
  have he := gx_ws_at (D := D) hr hs
  rw [gx_e_int (by omega) (by omega)] at he
  refine W.iast C.1 C.2.1 (hP.2.2 (r - 6) _ he) ((hE.2 0 _ rfl).1 n (fun j => .int (w_a w r j))) (fun q => by cases q) (by show ¬ (i < 0 ∨ (arrV _ _ _).slots.size ≤ _); rw [arrV_size]; exact hi) rfl rfl hd fun H1 e1 z oq => ?_
  refine kk D p l e R s m args below meth c H1 _ cells slots ls C hR (gx_P_sa hP hs (by omega) (by omega) z oq ?_) (hS.put z oq (gx_A_hi hr)) hL
  rw [e1, vp_cell_i, vp_cell_i, arrV_store]
  congr 2
  funext q
  by_cases hq : q = i.toNatClampNeg
  · subst hq
    simp [updV, va_up]
  · simp [updV, va_up, hq]
theorem g_bast {r n : Nat} {i x : Int32} (hd : gx_d M pc .bastore 1) (hs : w.1[r]? = some (21, n)) (hi : vp_in i n) (kk : gx_G nc ns d M Q (pc + 1) L st (s_a w r (va_up (w_a w r) i.toNatClampNeg (vp_nar .byte x)))) : gx_G nc ns d M Q pc L (.int x :: .int i :: .ref r :: st) w := by
  intro D p l e R s m args below meth c H locs cells slots ls C hR hP hS hL
  have hE := C.2.2.2.2.2.2.2.2.1.1
  have hr := gx_hi hP hs (by omega)
  have he := gx_ws_at (D := D) hr hs
  rw [gx_e_int (by omega) (by omega)] at he
  refine W.bast C.1 C.2.1 (hP.2.2 (r - 6) _ he) ((hE.2 1 _ rfl).1 n (fun j => .int (w_a w r j))) (fun q => by cases q) (by show ¬ (i < 0 ∨ (arrV _ _ _).slots.size ≤ _); rw [arrV_size]; exact hi) rfl rfl hd fun H1 e1 z oq => ?_
  refine kk D p l e R s m args below meth c H1 _ cells slots ls C hR (gx_P_sa hP hs (by omega) (by omega) z oq ?_) (hS.put z oq (gx_A_hi hr)) hL
  rw [e1, vp_cell_i, vp_cell_i, arrV_store]
  congr 2
  funext q
  by_cases hq : q = i.toNatClampNeg
  · subst hq
    simp [updV, va_up, vp_nar]
    try rfl
  · simp [updV, va_up, hq]
theorem g_sast {r n : Nat} {i x : Int32} (hd : gx_d M pc .sastore 1) (hs : w.1[r]? = some (22, n)) (hi : vp_in i n) (kk : gx_G nc ns d M Q (pc + 1) L st (s_a w r (va_up (w_a w r) i.toNatClampNeg (vp_nar .short x)))) : gx_G nc ns d M Q pc L (.int x :: .int i :: .ref r :: st) w := by
  intro D p l e R s m args below meth c H locs cells slots ls C hR hP hS hL
  have hE := C.2.2.2.2.2.2.2.2.1.1
  have hr := gx_hi hP hs (by omega)
  have he := gx_ws_at (D := D) hr hs
  rw [gx_e_int (by omega) (by omega)] at he
  refine W.sast C.1 C.2.1 (hP.2.2 (r - 6) _ he) ((hE.2 2 _ rfl).1 n (fun j => .int (w_a w r j))) (fun q => by cases q) (by show ¬ (i < 0 ∨ (arrV _ _ _).slots.size ≤ _); rw [arrV_size]; exact hi) rfl rfl hd fun H1 e1 z oq => ?_
  refine kk D p l e R s m args below meth c H1 _ cells slots ls C hR (gx_P_sa hP hs (by omega) (by omega) z oq ?_) (hS.put z oq (gx_A_hi hr)) hL
  rw [e1, vp_cell_i, vp_cell_i, arrV_store]
  congr 2
  funext q
  by_cases hq : q = i.toNatClampNeg
  · subst hq
    simp [updV, va_up, vp_nar]
    try rfl
  · simp [updV, va_up, hq]
theorem g_last {r n : Nat} {i : Int32} {x : Int64} (hd : gx_d M pc .lastore 1) (hs : w.1[r]? = some (23, n)) (hi : vp_in i n) (kk : gx_G nc ns d M Q (pc + 1) L st (s_l w r (va_up (w_l w r) i.toNatClampNeg x))) : gx_G nc ns d M Q pc L (.long x :: .int i :: .ref r :: st) w := by
  intro D p l e R s m args below meth c H locs cells slots ls C hR hP hS hL
  have hE := C.2.2.2.2.2.2.2.2.1.1
  have hr := gx_hi hP hs (by omega)
  have he := gx_ws_at (D := D) hr hs
  rw [gx_e_long] at he
  refine W.last C.1 C.2.1 (hP.2.2 (r - 6) _ he) ((hE.2 3 _ rfl).1 n (fun j => .long (w_l w r j))) (fun q => by cases q) (by show ¬ (i < 0 ∨ (arrV _ _ _).slots.size ≤ _); rw [arrV_size]; exact hi) rfl rfl hd fun H1 e1 z oq => ?_
  refine kk D p l e R s m args below meth c H1 _ cells slots ls C hR (gx_P_sl hP hs z oq ?_) (hS.put z oq (gx_A_hi hr)) hL
  rw [e1, vp_cell_l, vp_cell_l, arrV_store]
  congr 2
  funext q
  by_cases hq : q = i.toNatClampNeg
  · subst hq
    simp [updV, va_up]
  · simp [updV, va_up, hq]
/-- the length of an array of ints, longs -/
theorem g_alen {r a n : Nat} (hd : gx_d M pc .arraylength 1) (hs : w.1[r]? = some (a, n)) (ha : a = 20 ∨ a = 23) (kk : gx_G nc ns d M Q (pc + 1) L (.int (Int32.ofNat n) :: st) w) : gx_G nc ns d M Q pc L (.ref r :: st) w := by
  intro D p l e R s m args below meth c H locs cells slots ls C hR hP hS hL
  have hE := C.2.2.2.2.2.2.2.2.1.1
  have hr := gx_hi hP hs (by omega)
  have he := gx_ws_at (D := D) hr hs
  have K := kk D p l e R s m args below meth c H locs cells slots ls C hR hP hS hL
  rcases ha with rfl | rfl
  · rw [gx_e_int (by omega) (by omega)] at he
    exact va_alen C.1 C.2.1 hE hP.2.2 (r - 6) 0 he rfl rfl hd K
  · rw [gx_e_long] at he
    exact va_alen C.1 C.2.1 hE hP.2.2 (r - 6) 3 he rfl rfl hd K
/-- the arrays that are given: read alone -/
theorem g_rald {r n : Nat} {i : Int32} (hd : gx_d M pc .iaload 1) (hr : r < 6) (hs : w.1[r]? = some (30, n)) (hi : vp_in i n) (kk : gx_G nc ns d M Q (pc + 1) L (.int (w_a w r i.toNatClampNeg) :: st) w) : gx_G nc ns d M Q pc L (.int i :: .ref r :: st) w := by
  intro D p l e R s m args below meth c H locs cells slots ls C hR hP hS hL
  have h0 := hP.2.1 r hr
  have hn : gx_rn D r = n := by
    have := h0.1.symm.trans hs
    simpa using this
  have hT := C.2.2.2.2.2.2.2.2.2.1.1 r hr
  rw [hn] at hT
  have K := kk D p l e R s m args below meth c H locs cells slots ls C hR hP hS hL
  have ef : gx_f D r = gx_t D r := if_pos hr
  show W p l e R s m args below meth c H locs cells slots _ (F0 m pc ls (.int i :: .ref (gx_f D r) :: st.map (gx_c D)))
  rw [ef]
  exact va_ti (v := .int (w_a w r i.toNatClampNeg)) C.1 C.2.1 hT hS hi (by rw [h0.2]) hd K
theorem g_rlen {r n : Nat} (hd : gx_d M pc .arraylength 1) (hr : r < 6) (hs : w.1[r]? = some (30, n)) (kk : gx_G nc ns d M Q (pc + 1) L (.int (Int32.ofNat n) :: st) w) : gx_G nc ns d M Q pc L (.ref r :: st) w := by
  intro D p l e R s m args below meth c H locs cells slots ls C hR hP hS hL
  have h0 := hP.2.1 r hr
  have hn : gx_rn D r = n := by
    have := h0.1.symm.trans hs
    simpa using this
  have hT := C.2.2.2.2.2.2.2.2.2.1.1 r hr
  rw [hn] at hT
  have K := kk D p l e R s m args below meth c H locs cells slots ls C hR hP hS hL
  have ef : gx_f D r = gx_t D r := if_pos hr
  show W p l e R s m args below meth c H locs cells slots _ (F0 m pc ls (.ref (gx_f D r) :: st.map (gx_c D)))
  rw [ef]
  exact va_tlen C.1 C.2.1 hT hS rfl hd K
/-- a static field -/
theorem g_gets {idx a : Nat} {cl nm : String} (hd : gx_d M pc (.getstatic idx) 3) (hl : Cond.fieldLink M.1.cls idx cl nm "[I" ∈ gx_T ∨ ∃ h, Cond.fieldLinkNest M.1.cls idx cl nm "[I" h ∈ gx_N) (hq : (cl, nm, a) ∈ gx_st) (ha : a < 6) (kk : gx_G nc ns d M Q (pc + 3) L (.ref a :: st) w) : gx_G nc ns d M Q pc L st w := by
  intro D p l e R s m args below meth c H locs cells slots ls C hR hP hS hL
  have hE := C.2.2.2.2.2.2.2.2.1
  have hZ := C.2.2.2.2.2.2.2.2.2.1.2 _ hq
  have K := kk D p l e R s m args below meth c H locs cells slots ls C hR hP hS hL
  have ef : gx_f D a = gx_t D a := if_pos ha
  have K' : W p l e R s m args below meth c H locs cells slots (MQ below (gx_Q D Q) args s (cells + nc) (slots + ns) (gx_A D)) (F0 m (pc + 3) ls (.ref (gx_t D a) :: st.map (gx_c D))) := by
    rw [← ef]
    exact K
  rcases hl with h4 | ⟨h, h4⟩
  · exact va_gets C.1 C.2.1 hZ hS C.2.2.2.2.1 (C.2.2.2.2.2.1 _ h4) (fun _ z => z) hd K'
  · exact va_getsN C.1 C.2.1 hZ hS C.2.2.2.2.1 (va_Nw.use rfl (hE.2.1 _ h4)) (fun _ z => z) hd K'
end GXQ
end
section
/-! returns -/
section GXR
variable {nc ns d : Nat} {M : gx_M} {Q : Option Value → gx_W → Prop} {pc : Nat} {L st : List Value} {w : gx_W}
theorem g_iret {v : Int32} (hd : gx_d M pc .ireturn 1) (hr : M.2.2.2 = some .int) (hq : Q (some (.int v)) w) : gx_G nc ns d M Q pc L [.int v] w := by
  intro D p l e R s m args below meth c H locs cells slots ls C hR hP hS hL
  refine W.widen (k := cells + nc) (n := slots + ns) (by omega) (by omega) ?_
  exact W.iret C.1 C.2.1 (C.2.2.1.trans hr) (fun t ht hW => ⟨⟨some (.int v), w, rfl, hq, by rw [ht]; exact hP⟩, hS.F ht⟩) (fun q hq => hS.2.2 q hq) hd C.2.2.2.2.2.2.1
theorem g_zret {v : Int32} (hd : gx_d M pc .ireturn 1) (hr : M.2.2.2 = some .boolean) (hv : v = 0 ∨ v = 1) (hq : Q (some (.int v)) w) : gx_G nc ns d M Q pc L [.int v] w := by
  intro D p l e R s m args below meth c H locs cells slots ls C hR hP hS hL
  refine W.widen (k := cells + nc) (n := slots + ns) (by omega) (by omega) ?_
  exact W.zret (ty := .boolean) C.1 C.2.1 (C.2.2.1.trans hr) (by rcases hv with rfl | rfl <;> rfl) (fun t ht hW => ⟨⟨some (.int v), w, rfl, hq, by rw [ht]; exact hP⟩, hS.F ht⟩) (fun q hq => hS.2.2 q hq) hd C.2.2.2.2.2.2.1
theorem g_lret {v : Int64} (hd : gx_d M pc .lreturn 1) (hr : M.2.2.2 = some .long) (hq : Q (some (.long v)) w) : gx_G nc ns d M Q pc L [.long v] w := by
  intro D p l e R s m args below meth c H locs cells slots ls C hR hP hS hL
  refine W.widen (k := cells + nc) (n := slots + ns) (by omega) (by omega) ?_
  exact W.lret C.1 C.2.1 (C.2.2.1.trans hr) (fun t ht hW => ⟨⟨some (.long v), w, rfl, hq, by rw [ht]; exact hP⟩, hS.F ht⟩) (fun q hq => hS.2.2 q hq) hd C.2.2.2.2.2.2.1
theorem g_vret (hd : gx_d M pc .return_ 1) (hr : M.2.2.2 = none) (hq : Q none w) : gx_G nc ns d M Q pc L [] w := by
  intro D p l e R s m args below meth c H locs cells slots ls C hR hP hS hL
  refine W.widen (k := cells + nc) (n := slots + ns) (by omega) (by omega) ?_
  exact W.vret C.1 C.2.1 (C.2.2.1.trans hr) (fun t ht hW => ⟨⟨none, w, rfl, hq, by rw [ht]; exact hP⟩, hS.F ht⟩) (fun q hq => hS.2.2 q hq) hd C.2.2.2.2.2.2.1
theorem g_aret {a : Nat} {cn : String} (hd : gx_d M pc .areturn 1) (hr : M.2.2.2 = some (.object cn)) (hq : Q (some (.ref a)) w) : gx_G nc ns d M Q pc L [.ref a] w := by
  intro D p l e R s m args below meth c H locs cells slots ls C hR hP hS hL
  refine W.widen (k := cells + nc) (n := slots + ns) (by omega) (by omega) ?_
  exact W.aret (v := .ref (gx_f D a)) C.1 C.2.1 (C.2.2.1.trans hr) (Or.inl ⟨_, rfl⟩) (Or.inr ⟨_, rfl⟩) (fun t ht hW => ⟨⟨some (.ref a), w, rfl, hq, by rw [ht]; exact hP⟩, hS.F ht⟩) (fun q hq => hS.2.2 q hq) hd C.2.2.2.2.2.2.1
theorem g_aretN {cn : String} (hd : gx_d M pc .areturn 1) (hr : M.2.2.2 = some (.object cn)) (hq : Q (some .null) w) : gx_G nc ns d M Q pc L [.null] w := by
  intro D p l e R s m args below meth c H locs cells slots ls C hR hP hS hL
  refine W.widen (k := cells + nc) (n := slots + ns) (by omega) (by omega) ?_
  exact W.aret (v := .null) C.1 C.2.1 (C.2.2.1.trans hr) (Or.inl ⟨_, rfl⟩) (Or.inl rfl) (fun t ht hW => ⟨⟨some .null, w, rfl, hq, by rw [ht]; exact hP⟩, hS.F ht⟩) (fun q hq => hS.2.2 q hq) hd C.2.2.2.2.2.2.1
end GXR
/-! what moves with the tables -/
theorem gx_AOA_moved {t : FieldType} {A : Array Value} {u U : State} (hal : u.vm.Alike U.vm) (h : (Cond.arrayOver (.array t)).before A u = true) : (Cond.arrayOver (.array t)).before #[] U = true := by
  obtain ⟨comp, c, k, hcomp, hidx, hk, hkind, hname⟩ := arrayOverA_spec h
  obtain ⟨k', hk', hek'⟩ := hal.2.2 _ _ hk
  have hkind' : k'.kind = .array comp (.array t) := by rw [hek']; exact hkind
  have hname' : U.vm.findClass ("[" ++ (FieldType.array t).toString) = some c := by rw [hal.findClass]; exact hname
  have hcomp' : U.vm.findClass (FieldType.array t).toString = some comp := by rw [hal.findClass]; exact hcomp
  show (Cond.arrayOver (.array t)).holds #[] U none U [] = true
  simp only [Cond.holds, Cond.value, hcomp', Option.bind_some, beq_iff_eq]
  rw [Option.bind_eq_some_iff]
  refine ⟨c, (hal.findIdx?_eq _ (fun _ => rfl)).trans hidx, ?_⟩
  simp [hk', hkind', hname']
theorem gx_E_moved {D : gx_D} {s U : State} (hW : s.WarmedH U.vm) (h : gx_E D s) : gx_E D U := by
  refine ⟨va_K.moved hW.alike h.1, fun w hw => ?_, va_AO.moved hW.alike h.2.2.1, gx_AOA_moved hW.alike h.2.2.2⟩
  have h1 := h.2.1 w hw
  have h2 := (List.mem_filter.mp hw).2
  cases w <;> first | exact va_Nw.warmF hW h1 | exact va_Nw.warmM hW h1 | (simp [gx_isN] at h2)
theorem gx_R_moved {D : gx_D} {s U : State} {H H1 : Heap} (hW : s.WarmedH U.vm) (h : gx_R D s H) (hq : ∀ a : Nat, a < H.size → ¬ gx_A D a → H1[a]? = H[a]?) : gx_R D U H1 :=
  ⟨fun k hk => ((h.1 k hk).kept hq).moved hW.alike, fun q h1 => ((h.2 q h1).kept hq).moved hW.alike⟩
theorem gx_blind {D : gx_D} {as : List Value} {w : gx_W} : FrameBlind (gx_Pc D as w) := by
  intro a U g mk h
  obtain ⟨h1, h2, h3, h4⟩ := h
  refine ⟨h1, ⟨va_K.moved (u := U) (U := U.calling g mk a) (Vm.Alike.refl U.vm) h2.1, fun w hw => ?_, va_AO.moved (u := U) (U := U.calling g mk a) (Vm.Alike.refl U.vm) h2.2.2.1, gx_AOA_moved (u := U) (U := U.calling g mk a) (Vm.Alike.refl U.vm) h2.2.2.2⟩, ⟨fun k hk => va_T.moved (u := U) (U := U.calling g mk a) (Vm.Alike.refl U.vm) (h3.1 k hk), fun q hq => va_Z.moved (u := U) (U := U.calling g mk a) (Vm.Alike.refl U.vm) (h3.2 q hq)⟩, h4⟩
  have h5 := (List.mem_filter.mp hw).2
  cases w <;> first | exact va_Nw.same (u := U) (U := U.calling g mk a) rfl rfl (h2.2.1 _ hw) | (simp [gx_isN] at h5)
/-! the start of a method -/
def gx_lay0 : List Value → List Value
  | [] => []
  | v :: vs => if v.category = 2 then v :: .retAddr 0 :: gx_lay0 vs else v :: gx_lay0 vs
def gx_in (as : List Value) (n : Nat) : List Value := gx_lay0 as ++ List.replicate (n - (gx_lay0 as).length) (.retAddr 0)
theorem gx_lay0_len (D : gx_D) (as : List Value) : (lg_sl (as.map (gx_c D))).length = (gx_lay0 as).length := by
  induction as with
  | nil => rfl
  | cons v vs ih =>
    simp only [List.map_cons, lg_sl, List.flatMap_cons, List.length_append, gx_c_cat] at ih ⊢
    by_cases h : v.category = 2
    · simp only [h, if_true, gx_lay0, List.length_cons, List.length_nil]
      omega
    · simp only [h, if_false, gx_lay0, List.length_cons, List.length_nil]
      omega
theorem gx_lay0_mem (D : gx_D) (as : List Value) : ∀ (k i : Nat) (v : Value), (gx_lay0 as)[i]? = some v → v ≠ .retAddr 0 → (k + i, gx_c D v) ∈ lv_args k (as.map (gx_c D)) := by
  induction as with
  | nil => intro k i v h; simp [gx_lay0] at h
  | cons u us ih =>
    intro k i v h hv
    simp only [List.map_cons, lv_args, gx_c_cat]
    by_cases hc : u.category = 2
    · simp only [hc, if_true]
      simp only [gx_lay0, hc, if_true] at h
      match i, h with
      | 0, h => cases h; exact List.mem_cons_self
      | 1, h => cases h; exact absurd rfl hv
      | i + 2, h =>
        have := ih (k + 2) i v h hv
        rw [show k + 2 + i = k + (i + 2) by omega] at this
        exact List.mem_cons_of_mem _ this
    · simp only [hc, if_false]
      simp only [gx_lay0, hc, if_false] at h
      match i, h with
      | 0, h => cases h; exact List.mem_cons_self
      | i + 1, h =>
        have := ih (k + 1) i v h hv
        rw [show k + 1 + i = k + (i + 1) by omega] at this
        exact List.mem_cons_of_mem _ this
theorem gx_in_ls {D : gx_D} {as : List Value} {n : Nat} {ls : Array Slot} (h : lv_has ls n (lv_args 0 (as.map (gx_c D)))) (hn : (gx_lay0 as).length ≤ n) : gx_ls D ls (gx_in as n) := by
  refine ⟨?_, h.2.1, fun i v hi hv => ?_⟩
  · rw [h.1]
    unfold gx_in
    rw [List.length_append, List.length_replicate]
    omega
  · unfold gx_in at hi
    by_cases hl : i < (gx_lay0 as).length
    · rw [List.getElem?_append_left hl] at hi
      have := gx_lay0_mem D as 0 i v hi hv
      rw [Nat.zero_add] at this
      exact h.2.2 _ this
    · rw [List.getElem?_append_right (by omega)] at hi
      have := List.eq_of_mem_replicate (List.mem_of_getElem? hi)
      exact absurd this hv
theorem gx_C_of {nc ns d : Nat} {M : gx_M} {as : List Value} {w : gx_W} {Q : Option Value → gx_W → Prop} (hy : plainName M.1.cls = true) (hsz : (gx_lay0 as).length ≤ M.2.2.1) (h : gx_G nc ns d M Q 0 (gx_in as M.2.2.1) [] w) : gx_C nc ns d M as w Q := by
  intro D l
  refine Met.ofW (cc := M.2.1) (maxL := M.2.2.1) (ret := M.2.2.2) hy rfl ?_
  intro p e s m args below meth c s₁ B hml hv
  obtain ⟨rfl, hE, hR, hP⟩ := hv
  have hts := atoms_spec (ws := gx_all M) B.pre
  have hown : s.vm.findClass M.1.cls = some m.cls := findClass_of_methodNamed B.named
  have hl := lv_entry (as.map (gx_c D)) (n := M.2.2.1) (by rw [gx_lay0_len]; exact hsz)
  rw [lg_entry_eq]
  generalize (lg_sl (as.map (gx_c D)) ++ List.replicate (M.2.2.1 - (lg_sl (as.map (gx_c D))).length) Slot.unset).toArray = ls at hl ⊢
  have hz : gx_z D ≤ s.heap.size := by rw [← hP.1]; exact Nat.le_add_right _ _
  have K := h D p l e { frames := d, cells := nc, slots := ns, locals := 100 * d } s m (as.map (gx_c D)).toArray below meth c s.heap [] 0 0 ls ⟨B.exec, B.bytes, B.returns, hml, hown, fun w hw => hts w (List.mem_cons_of_mem _ hw), B.notSynchronized, fun h => (name_of_methodNamed B.named B.method).1.trans h, hE, hR, hz⟩ ⟨Nat.le_refl _, Nat.le_refl _, by show 0 + nc ≤ nc; omega, by show 0 + ns ≤ ns; omega⟩ hP va_S.rf (gx_in_ls hl hsz)
  rw [Nat.zero_add, Nat.zero_add] at K
  exact K
/-! calls -/
def gx_MI (M : gx_M) (n : Nat) : Prop := Cond.code M.1 M.2.1 M.2.2.1 M.2.2.2 ∈ gx_T ∧ Cond.initialized M.1.cls ∈ gx_T ∧ (M.1.cls ≠ "java/lang/invoke/MethodHandle" ∧ M.1.cls ≠ "java/lang/invoke/VarHandle") ∧ (parseMethodDescriptor M.1.desc).map (fun d => d.parameters.length) = some n ∧ M.2.2.1 ≤ 80
def gx_ML (own : String) (idx : Nat) (y : MethodName) : Prop := Cond.methodLink own idx y ∈ gx_T ∨ ∃ h, Cond.methodLinkNest own idx y h ∈ gx_N
def gx_MV (M : gx_M) : Prop := Cond.instanceMethod M.1 ∈ gx_T ∧ Cond.selects M.1.cls M.1 M.1 ∈ gx_T
section GXC
variable {p : Program} {l : Launch} {e : Env} {R : Room} {s : State} {m : MethodId} {args : Array Value} {below : List Frame} {meth : Method} {c : Code} {H : Heap} {locs : List Loc} {cells slots : Nat} {Qf : State → Prop}
theorem gx_after {D : gx_D} {mc ms pc : Nat} {ls : Array Slot} {st0 rest : List Value} {a : Array Value} {Q' : Option Value → gx_W → Prop} (hr : va_Run p l e R s m args below meth c H locs cells slots mc ms (F0 m pc ls st0) rest (gx_Q D Q' a) (gx_A D)) (hS : va_S (gx_A D) s.heap H locs)
    (kk : ∀ (r : Option Value) (w' : gx_W) (H1 : Heap) (locs1 : List Loc), Q' r w' → gx_P D w' H1 → va_S (gx_A D) s.heap H1 locs1 → W p l e R s m args below meth c H1 locs1 (cells + mc) (slots + ms) Qf (F0 m (pc + 3) ls ((r.map (gx_c D)).toList ++ rest))) : W p l e R s m args below meth c H locs cells slots Qf (F0 m pc ls st0) := by
  intro T hT X
  obtain ⟨v, st₀, t, T', Lc, h0, X', hL, e1, e2, ⟨⟨r, w', hv, hq, hP⟩, hz, hk⟩, st⟩ := hr T hT X
  have ev : v = r.map (gx_c D) := by injection hv
  subst ev
  rw [h0] at hz hk
  obtain ⟨t2, a1, b1⟩ := kk r w' T'.heap (locs ++ Lc) hq (by rw [e1]; exact hP)
    ⟨Nat.le_trans hS.1 (by rw [e1]; exact hz), fun q h1 h2 => by rw [e1, hk q (Nat.lt_of_lt_of_le h1 hS.1) h2]; exact hS.2.1 q h1 h2, fun q hq => by
      rcases List.mem_append.mp hq with h | h
      · exact hS.2.2 q h
      · exact hL q h⟩ T' rfl X'
  exact ⟨t2, st t2 a1, b1⟩
theorem gx_goodIn {M' : gx_M} {n : Nat} (hm : gx_MI M' n) : GoodIn gx_T (gx_all M') := by
  intro w hw
  have h : w ∈ gx_T := by
    rcases List.mem_cons.mp hw with rfl | h
    · exact hm.1
    · exact h
  exact ⟨h, good_of_word (gx_Tgood h)⟩
theorem gx_pre {D : gx_D} {M : gx_M} {as : List Value} {w : gx_W} (C : gx_ctx D M p s m args meth c) (hP : gx_P D w H) (hS : va_S (gx_A D) s.heap H locs) : ∀ U : State, U.heap = H → s.WarmedH U.vm → gx_Pc D as w (as.map (gx_c D)).toArray U := by
  intro U hU hW
  refine ⟨rfl, gx_E_moved hW C.2.2.2.2.2.2.2.2.1, ?_, by rw [hU]; exact hP⟩
  rw [hU]
  exact gx_R_moved hW C.2.2.2.2.2.2.2.2.2.1 hS.2.1
end GXC
section GXD
variable {nc ns mc ms d d' : Nat} {M M' : gx_M} {Q : Option Value → gx_W → Prop} {pc idx n : Nat} {L st stk as : List Value} {w : gx_W}
theorem gx_cat_sum (D : gx_D) (st : List Value) : ((st.map (gx_c D)).map fun v => v.category).sum = (st.map fun v => v.category).sum := by
  rw [List.map_map]
  congr 1
  exact List.map_congr_left fun v _ => gx_c_cat D v
theorem gx_cw {D : gx_D} {p : Program} {R : Room} {s : State} {m : MethodId} {args : Array Value} {meth : Method} {c : Code} {cells slots : Nat} (C : gx_ctx D M p s m args meth c) (hR : gx_rm (nc + mc) (ns + ms) d R cells slots) (hm : gx_MI M' n) (hdp : d' + 1 ≤ d) :
    d' + 1 ≤ R.frames ∧ 8 + (M'.2.2.1 + 11) + 100 * d' ≤ R.locals ∧ (∀ w ∈ gx_all M', ∀ (a' : Array Value) (U : State), s.WarmedH U.vm → w.before a' U = true) ∧ (Cond.code M'.1 M'.2.1 M'.2.2.1 M'.2.2.2).before args s = true ∧ (Cond.initialized M'.1.cls).before args s = true ∧ (∀ sig, parseMethodDescriptor M'.1.desc = some sig → n = sig.parameters.length) := by
  have hts := C.2.2.2.2.2.1
  refine ⟨Nat.le_trans hdp hR.1, ?_, pay_in hts (gx_goodIn hm), hts _ hm.1, hts _ hm.2.1, fun sig h => ?_⟩
  · have h1 := hR.2.1
    have h2 := hm.2.2.2.2
    omega
  · have h2 := hm.2.2.2.1
    rw [h] at h2
    exact (Option.some.inj h2).symm
theorem g_callS (hd : gx_d M pc (.invokestatic idx) 3) (hl : gx_ML M.1.cls idx M'.1) (hm : gx_MI M' n) (hst : Cond.static M'.1 ∈ gx_T) (hstk : stk = as.reverse ++ st) (hn : as.length = n) (hcat : (st.map fun v => v.category).sum ≤ 8) (hL0 : L.length = M.2.2.1) (hdp : d' + 1 ≤ d)
    (kk : gx_C mc ms d' M' as w (fun r w' => gx_G nc ns d M Q (pc + 3) L (r.toList ++ st) w')) : gx_G (nc + mc) (ns + ms) d M Q pc L stk w := by
  intro D p l e R s m args below meth c H locs cells slots ls C hR hP hS hL
  subst hstk
  have hts := C.2.2.2.2.2.1
  obtain ⟨c1, c2, c3, c4, c5, c6⟩ := gx_cw (M' := M') (d' := d') C hR hm hdp
  have hM := kk D l
  have hK : ∀ (r : Option Value) (w' : gx_W) (H1 : Heap) (locs1 : List Loc), gx_G nc ns d M Q (pc + 3) L (r.toList ++ st) w' → gx_P D w' H1 → va_S (gx_A D) s.heap H1 locs1 → W p l e R s m args below meth c H1 locs1 (cells + mc) (slots + ms) (MQ below (gx_Q D Q) args s (cells + (nc + mc)) (slots + (ns + ms)) (gx_A D)) (F0 m (pc + 3) ls ((r.map (gx_c D)).toList ++ st.map (gx_c D))) := by
    intro r w' H1 locs1 hG hP1 hS1
    have := hG D p l e R s m args below meth c H1 locs1 (cells + mc) (slots + ms) ls C ⟨hR.1, hR.2.1, by have := hR.2.2.1; omega, by have := hR.2.2.2; omega⟩ hP1 hS1 hL
    rw [show cells + mc + nc = cells + (nc + mc) by omega, show slots + ms + ns = slots + (ns + ms) by omega] at this
    cases r <;> exact this
  have hf : cells + mc ≤ R.cells ∧ slots + ms ≤ R.slots := ⟨by have := hR.2.2.1; omega, by have := hR.2.2.2; omega⟩
  have hpre : PreS s H (gx_Pc D as w) (as.map (gx_c D)) := ⟨gx_blind, gx_pre C hP hS⟩
  have hstack : (F0 m pc ls ((as.reverse ++ st).map (gx_c D))).stack = (as.map (gx_c D)).reverse ++ st.map (gx_c D) := by
    show (as.reverse ++ st).map (gx_c D) = _
    rw [List.map_append, List.map_reverse]
  have hsize : ls.size = M.2.2.1 := hL.1.trans hL0
  rcases hl with hl | ⟨h, hl⟩
  · exact gx_after (va_runS ⟨C.1, C.2.1, C.2.2.2.1, C.2.2.2.2.1, hts⟩ hM ⟨⟨rfl, rfl, c1, c2, c3, List.mem_cons_self, c4, c5, hm.2.2.1, c6, hts _ hl⟩, hts _ hst⟩ hpre rfl (by rw [List.length_map]; exact hn) hsize hstack (lv_room (by rw [gx_cat_sum]; exact hcat)) hd hf) hS hK
  · exact gx_after (va_runSN ⟨C.1, C.2.1, C.2.2.2.1, C.2.2.2.2.1, hts⟩ hM ⟨⟨⟨rfl, rfl, c1, c2, c3, List.mem_cons_self⟩, c4, c5, hm.2.2.1, c6, va_Nw.use rfl (C.2.2.2.2.2.2.2.2.1.2.1 _ hl)⟩, hts _ hst, trivial⟩ hpre rfl (by rw [List.length_map]; exact hn) hsize hstack (lv_room (by rw [gx_cat_sum]; exact hcat)) hd hf) hS hK
theorem g_callV {r ci k : Nat} (hd : gx_d M pc (.invokevirtual idx) 3) (hl : gx_ML M.1.cls idx M'.1) (hm : gx_MI M' n) (hv : gx_MV M') (hs : w.1[r]? = some (ci, k)) (hc : ∃ q : vw_C, gx_cl[ci]? = some q ∧ q.1 = M'.1.cls) (hstk : stk = as.reverse ++ .ref r :: st) (hn : as.length = n) (hcat : (st.map fun v => v.category).sum ≤ 8) (hL0 : L.length = M.2.2.1) (hdp : d' + 1 ≤ d)
    (kk : gx_C mc ms d' M' (.ref r :: as) w (fun r w' => gx_G nc ns d M Q (pc + 3) L (r.toList ++ st) w')) : gx_G (nc + mc) (ns + ms) d M Q pc L stk w := by
  intro D p l e R s m args below meth c H locs cells slots ls C hR hP hS hL
  subst hstk
  have hts := C.2.2.2.2.2.1
  obtain ⟨c1, c2, c3, c4, c5, c6⟩ := gx_cw (M' := M') (d' := d') C hR hm hdp
  have hM := kk D l
  have hK : ∀ (r : Option Value) (w' : gx_W) (H1 : Heap) (locs1 : List Loc), gx_G nc ns d M Q (pc + 3) L (r.toList ++ st) w' → gx_P D w' H1 → va_S (gx_A D) s.heap H1 locs1 → W p l e R s m args below meth c H1 locs1 (cells + mc) (slots + ms) (MQ below (gx_Q D Q) args s (cells + (nc + mc)) (slots + (ns + ms)) (gx_A D)) (F0 m (pc + 3) ls ((r.map (gx_c D)).toList ++ st.map (gx_c D))) := by
    intro r w' H1 locs1 hG hP1 hS1
    have := hG D p l e R s m args below meth c H1 locs1 (cells + mc) (slots + ms) ls C ⟨hR.1, hR.2.1, by have := hR.2.2.1; omega, by have := hR.2.2.2; omega⟩ hP1 hS1 hL
    rw [show cells + mc + nc = cells + (nc + mc) by omega, show slots + ms + ns = slots + (ns + ms) by omega] at this
    cases r <;> exact this
  have hf : cells + mc ≤ R.cells ∧ slots + ms ≤ R.slots := ⟨by have := hR.2.2.1; omega, by have := hR.2.2.2; omega⟩
  obtain ⟨q, hq1, hq2⟩ := hc
  have hci : ci < 20 := by
    have h2 := (List.getElem?_eq_some_iff.mp hq1).1
    exact Nat.lt_of_lt_of_le h2 (by decide)
  have hr := gx_hi hP hs (by omega)
  have he := gx_ws_at (D := D) hr hs
  rw [gx_e_obj hci] at he
  obtain ⟨cell, g1, g2, g3⟩ := va_recv C.2.2.2.2.2.2.2.2.1.1 hP.2.2 hq1 he
  rw [hq2] at g3
  have hpre : PreV s H M'.1.cls (gx_f D r) (gx_Pc D (.ref r :: as) w) (as.map (gx_c D)) := ⟨gx_blind, ⟨cell, g1, g2, g3⟩, gx_pre (as := .ref r :: as) C hP hS⟩
  have hstack : (F0 m pc ls ((as.reverse ++ .ref r :: st).map (gx_c D))).stack = (as.map (gx_c D)).reverse ++ .ref (gx_f D r) :: st.map (gx_c D) := by
    show (as.reverse ++ .ref r :: st).map (gx_c D) = _
    rw [List.map_append, List.map_reverse]
    rfl
  have hsize : ls.size = M.2.2.1 := hL.1.trans hL0
  rcases hl with hl | ⟨h, hl⟩
  · exact gx_after (va_runV ⟨C.1, C.2.1, C.2.2.2.1, C.2.2.2.2.1, hts⟩ hM ⟨⟨rfl, rfl, c1, c2, c3, List.mem_cons_self, c4, c5, hm.2.2.1, c6, hts _ hl⟩, hts _ hv.1, hts _ hv.2⟩ hpre rfl (by rw [List.length_map]; exact hn) hsize hstack (lv_room (by rw [gx_cat_sum]; exact hcat)) hd hf) hS hK
  · exact gx_after (va_runVN ⟨C.1, C.2.1, C.2.2.2.1, C.2.2.2.2.1, hts⟩ hM ⟨⟨⟨rfl, rfl, c1, c2, c3, List.mem_cons_self⟩, c4, c5, hm.2.2.1, c6, va_Nw.use rfl (C.2.2.2.2.2.2.2.2.1.2.1 _ hl)⟩, hts _ hv.1, hts _ hv.2⟩ hpre rfl (by rw [List.length_map]; exact hn) hsize hstack (lv_room (by rw [gx_cat_sum]; exact hcat)) hd hf) hS hK
/-- a constructor's call -/
theorem g_callI {r : Nat} (hd : gx_d M pc (.invokespecial idx) 3) (hl : gx_ML M.1.cls idx M'.1) (hm : gx_MI M' n) (hi : Cond.instanceMethod M'.1 ∈ gx_T) (hy : M'.1.name = "<init>") (hret : M'.2.2.2 = none) (hstk : stk = as.reverse ++ .ref r :: st) (hn : as.length = n) (hcat : (st.map fun v => v.category).sum ≤ 8) (hL0 : L.length = M.2.2.1) (hdp : d' + 1 ≤ d)
    (kk : gx_C mc ms d' M' (.ref r :: as) w (fun r w' => gx_G nc ns d M Q (pc + 3) L (r.toList ++ st) w')) : gx_G (nc + mc) (ns + ms) d M Q pc L stk w := by
  intro D p l e R s m args below meth c H locs cells slots ls C hR hP hS hL
  subst hstk
  have hts := C.2.2.2.2.2.1
  obtain ⟨c1, c2, c3, c4, c5, c6⟩ := gx_cw (M' := M') (d' := d') C hR hm hdp
  have hM := kk D l
  have hK : ∀ (r : Option Value) (w' : gx_W) (H1 : Heap) (locs1 : List Loc), gx_G nc ns d M Q (pc + 3) L (r.toList ++ st) w' → gx_P D w' H1 → va_S (gx_A D) s.heap H1 locs1 → W p l e R s m args below meth c H1 locs1 (cells + mc) (slots + ms) (MQ below (gx_Q D Q) args s (cells + (nc + mc)) (slots + (ns + ms)) (gx_A D)) (F0 m (pc + 3) ls ((r.map (gx_c D)).toList ++ st.map (gx_c D))) := by
    intro r w' H1 locs1 hG hP1 hS1
    have := hG D p l e R s m args below meth c H1 locs1 (cells + mc) (slots + ms) ls C ⟨hR.1, hR.2.1, by have := hR.2.2.1; omega, by have := hR.2.2.2; omega⟩ hP1 hS1 hL
    rw [show cells + mc + nc = cells + (nc + mc) by omega, show slots + ms + ns = slots + (ns + ms) by omega] at this
    cases r <;> exact this
  have hf : cells + mc ≤ R.cells ∧ slots + ms ≤ R.slots := ⟨by have := hR.2.2.1; omega, by have := hR.2.2.2; omega⟩
  have hpre : PreS s H (gx_Pc D (.ref r :: as) w) (.ref (gx_f D r) :: as.map (gx_c D)) := ⟨gx_blind, gx_pre (as := .ref r :: as) C hP hS⟩
  have hstack : (F0 m pc ls ((as.reverse ++ .ref r :: st).map (gx_c D))).stack = (as.map (gx_c D)).reverse ++ .ref (gx_f D r) :: st.map (gx_c D) := by
    show (as.reverse ++ .ref r :: st).map (gx_c D) = _
    rw [List.map_append, List.map_reverse]
    rfl
  have hsize : ls.size = M.2.2.1 := hL.1.trans hL0
  rw [hret] at c4
  have hcw : Cond.code M'.1 M'.2.1 M'.2.2.1 none ∈ gx_all M' := by rw [← hret]; exact List.mem_cons_self
  rcases hl with hl | ⟨h, hl⟩
  · exact gx_after (va_runI ⟨C.1, C.2.1, C.2.2.2.1, C.2.2.2.2.1, hts⟩ hM ⟨⟨rfl, rfl, c1, c2, c3, hcw, c4, c5, hm.2.2.1, c6, hts _ hl⟩, hy, hts _ hi⟩ hpre rfl (by rw [List.length_map]; exact hn) hsize hstack (lv_room (by rw [gx_cat_sum]; exact hcat)) hd hf) hS hK
  · exact gx_after (va_runIN ⟨C.1, C.2.1, C.2.2.2.1, C.2.2.2.2.1, hts⟩ hM ⟨⟨⟨rfl, rfl, c1, c2, c3, hcw⟩, c4, c5, hm.2.2.1, c6, va_Nw.use rfl (C.2.2.2.2.2.2.2.2.1.2.1 _ hl)⟩, hy, hts _ hi⟩ hpre rfl (by rw [List.length_map]; exact hn) hsize hstack (lv_room (by rw [gx_cat_sum]; exact hcat)) hd hf) hS hK
end GXD
end
section
/-! what makes cells -/
def a_new (w : gx_W) (c : Nat × Nat) : gx_W := (w.1 ++ [c], va_up w.2.1 w.1.length (fun _ => 0), va_up w.2.2.1 w.1.length (fun _ => none), va_up w.2.2.2.1 w.1.length (fun _ => 0), va_up w.2.2.2.2.1 w.1.length (fun _ => 0), va_up w.2.2.2.2.2 w.1.length (fun _ => none))
theorem gx_len {D : gx_D} {w : gx_W} {H : Heap} (hP : gx_P D w H) : 6 ≤ w.1.length := (List.getElem?_eq_some_iff.mp (hP.2.1 5 (by omega)).1).1
theorem gx_f_len {D : gx_D} {w : gx_W} {H : Heap} (hP : gx_P D w H) : gx_f D w.1.length = H.size := by rw [gx_f_hi (gx_len hP)]; exact hP.1
theorem gx_P_new {D : gx_D} {w : gx_W} {H H' : Heap} {c : Nat × Nat} (hP : gx_P D w H) (h1 : H'.size = H.size + 1) (h2 : ∀ q, q < H.size → H'[q]? = H[q]?) (h3 : va_at (gx_g D) gx_cl (H.size, gx_e D (a_new w c) w.1.length c) H') : gx_P D (a_new w c) H' := by
  have hl := gx_len hP
  have hsz := hP.1
  refine ⟨?_, fun k hk => ?_, fun i q hi => ?_⟩
  · show gx_z D + ((w.1 ++ [c]).length - 6) = _
    rw [List.length_append, h1, List.length_singleton]
    omega
  · have := hP.2.1 k hk
    refine ⟨?_, ?_⟩
    · show (w.1 ++ [c])[k]? = _
      rw [List.getElem?_append_left (by omega)]
      exact this.1
    · show va_up w.2.2.2.1 w.1.length (fun _ => 0) k = _
      rw [va_up_row (by omega)]
      exact this.2
  · rw [gx_ws_get] at hi
    obtain ⟨c', hc', rfl⟩ := Option.map_eq_some_iff.mp hi
    have hc2 : (w.1 ++ [c])[i + 6]? = some c' := hc'
    by_cases e : i + 6 < w.1.length
    · rw [List.getElem?_append_left e] at hc2
      rw [gx_e_ne (w := w) (w' := a_new w c) (va_up_row (f := w.2.1) (by omega)) (va_up_row (f := w.2.2.1) (by omega)) (va_up_row (f := w.2.2.2.1) (by omega)) (va_up_row (f := w.2.2.2.2.1) (by omega)) (va_up_row (f := w.2.2.2.2.2) (by omega)) c']
      have h := hP.2.2 i (gx_z D + i, gx_e D w (i + 6) c') (by rw [gx_ws_get, hc2]; rfl)
      exact h.kept (h2 _ h.lt)
    · rw [List.getElem?_append_right (by omega)] at hc2
      have e2 : i + 6 - w.1.length < 1 := (List.getElem?_eq_some_iff.mp hc2).1
      have e3 : i + 6 = w.1.length := by omega
      rw [e3, Nat.sub_self] at hc2
      cases hc2
      have e4 : gx_z D + i = H.size := by omega
      rw [e3, e4]
      exact h3
/-- the fields of a new object -/
theorem gx_dflt (ci : Nat) (q : vw_C) (h : gx_cl[ci]? = some q) : ∀ k, k < q.2.2 → (parseFieldDescriptor (q.2.1 k).2.2.1).map defaultValue = ((gx_lay ci)[k]?).map (fun b => if b then Value.int 0 else Value.null) := by
  match ci, h with
  | 0, h => cases h; decide +kernel
  | 1, h => cases h; decide +kernel
  | 2, h => cases h; decide +kernel
  | 3, h => cases h; decide +kernel
  | 4, h => cases h; decide +kernel
  | 5, h => cases h; decide +kernel
  | 6, h => cases h; decide +kernel
  | 7, h => cases h; decide +kernel
  | 8, h => cases h; decide +kernel
  | 9, h => cases h; decide +kernel
  | 10, h => cases h; decide +kernel
  | n + 11, h => simp [gx_cl] at h
section GXN
variable {nc ns d : Nat} {M : gx_M} {Q : Option Value → gx_W → Prop} {pc : Nat} {L st : List Value} {w : gx_W}
theorem g_new {idx ci : Nat} {q : vw_C} (hd : gx_d M pc (.new idx) 3) (hc : gx_cl[ci]? = some q) (hl : Cond.classLink M.1.cls idx q.1 ∈ gx_T) (hi : Cond.instantiable q.1 q.2.2 ∈ gx_T) (hini : Cond.initialized q.1 ∈ gx_T) (kk : gx_G nc ns d M Q (pc + 3) L (.ref w.1.length :: st) (a_new w (ci, 0))) : gx_G (nc + 1) (ns + q.2.2) d M Q pc L st w := by
  intro D p l e R s m args below meth c H locs cells slots ls C hR hP hS hL
  have hts : ∀ w ∈ gx_T, w.before args s = true := fun w hw => C.2.2.2.2.2.1 w hw
  have hE := C.2.2.2.2.2.2.2.2.1
  have hKn := hE.1.1 ci _ hc
  obtain ⟨f1, f2, ty0, f3⟩ := gx_fact ci q hc
  have hci : ci < 20 := by
    have h2 := (List.getElem?_eq_some_iff.mp hc).1
    exact Nat.lt_of_lt_of_le h2 (by decide)
  have r1 := hR.2.2.1
  have r2 := hR.2.2.2
  refine W.newcK C.1 C.2.1 C.2.2.2.2.1 (hts _ hl) (hts _ hi) (hts _ hini) rfl hd (by omega) (by omega) hKn.2.1 rfl fun H1 kC hkC e1 z1 o1 => ?_
  have K := kk D p l e R s m args below meth c H1 locs (cells + 1) (slots + q.2.2) ls C ⟨hR.1, hR.2.1, by omega, by omega⟩ (gx_P_new hP z1 o1 ?_) ⟨Nat.le_trans hS.1 (by omega), fun x h1 h2 => (o1 x (Nat.lt_of_lt_of_le h1 hS.1)).trans (hS.2.1 x h1 h2), hS.2.2⟩ hL
  · rw [show cells + 1 + nc = cells + (nc + 1) by omega, show slots + q.2.2 + ns = slots + (ns + q.2.2) by omega] at K
    have e2 : (Value.ref w.1.length :: st).map (gx_c D) = .ref H.size :: st.map (gx_c D) := by
      show Value.ref (gx_f D w.1.length) :: _ = _
      rw [gx_f_len hP]
    rw [e2] at K
    exact K
  · rw [gx_e_obj hci]
    refine ⟨q, hc, (u_born ty0 hts f1 hKn hkC e1 f3).to (fun j hj => ?_)⟩
    have h1 := gx_dflt ci q hc j hj
    rw [f3 j hj] at h1
    obtain ⟨b, hb, hb2⟩ := Option.map_eq_some_iff.mp h1.symm
    have h2 := gx_fs_at (D := D) (w := a_new w (ci, 0)) (r := w.1.length) hb
    unfold vp_V
    rw [List.getD_eq_getElem?_getD, h2, ← hb2]
    show _ = (if b = true then Value.int (va_up w.2.1 w.1.length (fun _ => 0) w.1.length j) else gx_rv D (va_up w.2.2.1 w.1.length (fun _ => none) w.1.length j))
    rw [va_up_at, va_up_at]
    cases b <;> rfl
/-- new arrays: ints, bytes, shorts, longs -/
theorem gx_P_arr {D : gx_D} {H H' : Heap} {n : Nat} {a : Nat} {x : vp_A} (hP : gx_P D w H) (h1 : H'.size = H.size + 1) (h2 : ∀ q, q < H.size → H'[q]? = H[q]?) (h3 : H'[H.size]? = some (vp_cell (gx_y D a) x)) (h4 : gx_e D (a_new w (a, n)) w.1.length (a, n) = .inl (gx_y D a, x)) : gx_P D (a_new w (a, n)) H' := by
  refine gx_P_new hP h1 h2 ?_
  rw [h4]
  exact h3
theorem g_newa_int {at_ : ArrayType} {n : Int32} {N : Nat} (hd : gx_d M pc (.newarray at_) 2) (hat : newarray.typeOf at_ = .int) (harr : Cond.arrayClass .int ∈ gx_T) (hn : ¬ n < 0) (hN : n.toNatClampNeg = N) (hb : N ≤ 1000) (kk : gx_G nc ns d M Q (pc + 2) L (.ref w.1.length :: st) (a_new w (20, N))) : gx_G (nc + 1) (ns + N) d M Q pc L (.int n :: st) w := by
  intro D p l e R s m args below meth c H locs cells slots ls C hR hP hS hL
  have hts : ∀ w ∈ gx_T, w.before args s = true := fun w hw => C.2.2.2.2.2.1 w hw
  have hE := C.2.2.2.2.2.2.2.2.1
  have r1 := hR.2.2.1
  have r2 := hR.2.2.2
  refine va_newaK C.1 C.2.1 (atype := at_) (by rw [hat]; exact hts _ harr) rfl hd rfl hn hN (by rw [hat]; show N * 4 ≤ 536870912; omega) (by omega) (by omega) rfl fun H1 cA e1 z1 o1 hAr hNm => ?_
  rw [hat] at e1 hNm
  have hcA : cA = gx_y D 20 := by
    have h := (hE.1.2 0 _ rfl).2
    exact Option.some.inj (hNm.symm.trans h)
  subst hcA
  have K := kk D p l e R s m args below meth c H1 locs (cells + 1) (slots + N) ls C ⟨hR.1, hR.2.1, by omega, by omega⟩ (gx_P_arr (x := (N, .inl (fun _ => 0))) hP z1 o1 e1 ?_) ⟨Nat.le_trans hS.1 (by omega), fun x h1 h2 => (o1 x (Nat.lt_of_lt_of_le h1 hS.1)).trans (hS.2.1 x h1 h2), hS.2.2⟩ hL
  · rw [show cells + 1 + nc = cells + (nc + 1) by omega, show slots + N + ns = slots + (ns + N) by omega] at K
    have e2 : (Value.ref w.1.length :: st).map (gx_c D) = .ref H.size :: st.map (gx_c D) := by
      show Value.ref (gx_f D w.1.length) :: _ = _
      rw [gx_f_len hP]
    rw [e2] at K
    exact K
  · unfold a_new
    rw [gx_e_int (by omega) (by omega)]
    show Sum.inl (gx_y D 20, N, Sum.inl (va_up w.2.2.2.1 w.1.length (fun _ => 0) w.1.length)) = _
    rw [va_up_at]
theorem g_newa_byte {at_ : ArrayType} {n : Int32} {N : Nat} (hd : gx_d M pc (.newarray at_) 2) (hat : newarray.typeOf at_ = .byte) (harr : Cond.arrayClass .byte ∈ gx_T) (hn : ¬ n < 0) (hN : n.toNatClampNeg = N) (hb : N ≤ 1000) (kk : gx_G nc ns d M Q (pc + 2) L (.ref w.1.length :: st) (a_new w (21, N))) : gx_G (nc + 1) (ns + N) d M Q pc L (.int n :: st) w := by
  intro D p l e R s m args below meth c H locs cells slots ls C hR hP hS hL
  have hts : ∀ w ∈ gx_T, w.before args s = true := fun w hw => C.2.2.2.2.2.1 w hw
  have hE := C.2.2.2.2.2.2.2.2.1
  have r1 := hR.2.2.1
  have r2 := hR.2.2.2
  refine va_newaK C.1 C.2.1 (atype := at_) (by rw [hat]; exact hts _ harr) rfl hd rfl hn hN (by rw [hat]; show N * 1 ≤ 536870912; omega) (by omega) (by omega) rfl fun H1 cA e1 z1 o1 hAr hNm => ?_
  rw [hat] at e1 hNm
  have hcA : cA = gx_y D 21 := by
    have h := (hE.1.2 1 _ rfl).2
    exact Option.some.inj (hNm.symm.trans h)
  subst hcA
  have K := kk D p l e R s m args below meth c H1 locs (cells + 1) (slots + N) ls C ⟨hR.1, hR.2.1, by omega, by omega⟩ (gx_P_arr (x := (N, .inl (fun _ => 0))) hP z1 o1 e1 ?_) ⟨Nat.le_trans hS.1 (by omega), fun x h1 h2 => (o1 x (Nat.lt_of_lt_of_le h1 hS.1)).trans (hS.2.1 x h1 h2), hS.2.2⟩ hL
  · rw [show cells + 1 + nc = cells + (nc + 1) by omega, show slots + N + ns = slots + (ns + N) by omega] at K
    have e2 : (Value.ref w.1.length :: st).map (gx_c D) = .ref H.size :: st.map (gx_c D) := by
      show Value.ref (gx_f D w.1.length) :: _ = _
      rw [gx_f_len hP]
    rw [e2] at K
    exact K
  · unfold a_new
    rw [gx_e_int (by omega) (by omega)]
    show Sum.inl (gx_y D 21, N, Sum.inl (va_up w.2.2.2.1 w.1.length (fun _ => 0) w.1.length)) = _
    rw [va_up_at]
theorem g_newa_short {at_ : ArrayType} {n : Int32} {N : Nat} (hd : gx_d M pc (.newarray at_) 2) (hat : newarray.typeOf at_ = .short) (harr : Cond.arrayClass .short ∈ gx_T) (hn : ¬ n < 0) (hN : n.toNatClampNeg = N) (hb : N ≤ 1000) (kk : gx_G nc ns d M Q (pc + 2) L (.ref w.1.length :: st) (a_new w (22, N))) : gx_G (nc + 1) (ns + N) d M Q pc L (.int n :: st) w := by
  intro D p l e R s m args below meth c H locs cells slots ls C hR hP hS hL
  have hts : ∀ w ∈ gx_T, w.before args s = true := fun w hw => C.2.2.2.2.2.1 w hw
  have hE := C.2.2.2.2.2.2.2.2.1
  have r1 := hR.2.2.1
  have r2 := hR.2.2.2
  refine va_newaK C.1 C.2.1 (atype := at_) (by rw [hat]; exact hts _ harr) rfl hd rfl hn hN (by rw [hat]; show N * 2 ≤ 536870912; omega) (by omega) (by omega) rfl fun H1 cA e1 z1 o1 hAr hNm => ?_
  rw [hat] at e1 hNm
  have hcA : cA = gx_y D 22 := by
    have h := (hE.1.2 2 _ rfl).2
    exact Option.some.inj (hNm.symm.trans h)
  subst hcA
  have K := kk D p l e R s m args below meth c H1 locs (cells + 1) (slots + N) ls C ⟨hR.1, hR.2.1, by omega, by omega⟩ (gx_P_arr (x := (N, .inl (fun _ => 0))) hP z1 o1 e1 ?_) ⟨Nat.le_trans hS.1 (by omega), fun x h1 h2 => (o1 x (Nat.lt_of_lt_of_le h1 hS.1)).trans (hS.2.1 x h1 h2), hS.2.2⟩ hL
  · rw [show cells + 1 + nc = cells + (nc + 1) by omega, show slots + N + ns = slots + (ns + N) by omega] at K
    have e2 : (Value.ref w.1.length :: st).map (gx_c D) = .ref H.size :: st.map (gx_c D) := by
      show Value.ref (gx_f D w.1.length) :: _ = _
      rw [gx_f_len hP]
    rw [e2] at K
    exact K
  · unfold a_new
    rw [gx_e_int (by omega) (by omega)]
    show Sum.inl (gx_y D 22, N, Sum.inl (va_up w.2.2.2.1 w.1.length (fun _ => 0) w.1.length)) = _
    rw [va_up_at]
theorem g_newa_long {at_ : ArrayType} {n : Int32} {N : Nat} (hd : gx_d M pc (.newarray at_) 2) (hat : newarray.typeOf at_ = .long) (harr : Cond.arrayClass .long ∈ gx_T) (hn : ¬ n < 0) (hN : n.toNatClampNeg = N) (hb : N ≤ 1000) (kk : gx_G nc ns d M Q (pc + 2) L (.ref w.1.length :: st) (a_new w (23, N))) : gx_G (nc + 1) (ns + N) d M Q pc L (.int n :: st) w := by
  intro D p l e R s m args below meth c H locs cells slots ls C hR hP hS hL
  have hts : ∀ w ∈ gx_T, w.before args s = true := fun w hw => C.2.2.2.2.2.1 w hw
  have hE := C.2.2.2.2.2.2.2.2.1
  have r1 := hR.2.2.1
  have r2 := hR.2.2.2
  refine va_newaK C.1 C.2.1 (atype := at_) (by rw [hat]; exact hts _ harr) rfl hd rfl hn hN (by rw [hat]; show N * 8 ≤ 536870912; omega) (by omega) (by omega) rfl fun H1 cA e1 z1 o1 hAr hNm => ?_
  rw [hat] at e1 hNm
  have hcA : cA = gx_y D 23 := by
    have h := (hE.1.2 3 _ rfl).2
    exact Option.some.inj (hNm.symm.trans h)
  subst hcA
  have K := kk D p l e R s m args below meth c H1 locs (cells + 1) (slots + N) ls C ⟨hR.1, hR.2.1, by omega, by omega⟩ (gx_P_arr (x := (N, .inr (.inl (fun _ => 0)))) hP z1 o1 e1 ?_) ⟨Nat.le_trans hS.1 (by omega), fun x h1 h2 => (o1 x (Nat.lt_of_lt_of_le h1 hS.1)).trans (hS.2.1 x h1 h2), hS.2.2⟩ hL
  · rw [show cells + 1 + nc = cells + (nc + 1) by omega, show slots + N + ns = slots + (ns + N) by omega] at K
    have e2 : (Value.ref w.1.length :: st).map (gx_c D) = .ref H.size :: st.map (gx_c D) := by
      show Value.ref (gx_f D w.1.length) :: _ = _
      rw [gx_f_len hP]
    rw [e2] at K
    exact K
  · unfold a_new
    show Sum.inl (gx_y D 23, N, Sum.inr (Sum.inl (va_up w.2.2.2.2.1 w.1.length (fun _ => 0) w.1.length))) = _
    rw [va_up_at]
/-- new Shelf[n] -/
theorem g_newq {idx : Nat} {n : Int32} {N : Nat} (hd : gx_d M pc (.anewarray idx) 3) (hl : Cond.classLink M.1.cls idx "CrossroadsChoose$Shelf" ∈ gx_T) (hn : ¬ n < 0) (hN : n.toNatClampNeg = N) (hb : N ≤ 1000) (kk : gx_G nc ns d M Q (pc + 3) L (.ref w.1.length :: st) (a_new w (24, N))) : gx_G (nc + 1) (ns + N) d M Q pc L (.int n :: st) w := by
  intro D p l e R s m args below meth c H locs cells slots ls C hR hP hS hL
  have hts : ∀ w ∈ gx_T, w.before args s = true := fun w hw => C.2.2.2.2.2.1 w hw
  have hE := C.2.2.2.2.2.2.2.2.1
  have r1 := hR.2.2.1
  have r2 := hR.2.2.2
  subst hN
  refine W.anew C.1 C.2.1 C.2.2.2.2.1 (hts _ hl) (va_AO.use hE.2.2.1) rfl hd rfl hn (by omega) (by omega) (by omega) fun cA kA comp g1 g2 g3 g4 => ?_
  have hcA : cA = gx_y D 24 := by
    obtain ⟨kA', comp', -, -, -, h⟩ := (hE.1.2 4 _ rfl).2
    exact Option.some.inj (g1.symm.trans h)
  subst hcA
  generalize hH1 : H.push ({ cls := gx_y D 24, slots := Array.replicate n.toNatClampNeg .null, vm := .none } : Cell) = H1
  have z1 : H1.size = H.size + 1 := by rw [← hH1, Array.size_push]
  have e1 : H1[H.size]? = some (vp_cell (gx_y D 24) (n.toNatClampNeg, .inr (.inr (.inr (.inr (fun _ => none)))))) := by
    rw [← hH1, Array.getElem?_push_size, vp_cell_q]
    show some _ = some (arrV (gx_y D 24) n.toNatClampNeg (fun _ => .null))
    rw [← arrV_new]
  have o1 : ∀ q, q < H.size → H1[q]? = H[q]? := fun q hq => by
    rw [← hH1, Array.getElem?_push, if_neg (Nat.ne_of_lt hq)]
  have K := kk D p l e R s m args below meth c H1 locs (cells + 1) (slots + n.toNatClampNeg) ls C ⟨hR.1, hR.2.1, by omega, by omega⟩ (gx_P_arr (x := (n.toNatClampNeg, .inr (.inr (.inr (.inr (fun _ => none)))))) hP z1 o1 e1 ?_) ⟨Nat.le_trans hS.1 (by omega), fun x h1 h2 => (o1 x (Nat.lt_of_lt_of_le h1 hS.1)).trans (hS.2.1 x h1 h2), hS.2.2⟩ hL
  · rw [show cells + 1 + nc = cells + (nc + 1) by omega, show slots + n.toNatClampNeg + ns = slots + (ns + n.toNatClampNeg) by omega] at K
    have e2 : (Value.ref w.1.length :: st).map (gx_c D) = .ref H.size :: st.map (gx_c D) := by
      show Value.ref (gx_f D w.1.length) :: _ = _
      rw [gx_f_len hP]
    rw [e2] at K
    exact K
  · rw [gx_e_ref (by omega)]
    show Sum.inl (gx_y D 24, n.toNatClampNeg, Sum.inr (Sum.inr (Sum.inr (Sum.inr (fun j => (va_up w.2.2.2.2.2 w.1.length (fun _ => none) w.1.length j).map (gx_f D)))))) = _
    rw [va_up_at]
    rfl
/-- a shelf comes into the row of shelves -/
theorem g_aast {r n v k : Nat} {i : Int32} (hd : gx_d M pc .aastore 1) (hs : w.1[r]? = some (24, n)) (hv : w.1[v]? = some (5, k)) (hi : vp_in i n) (kk : gx_G nc ns d M Q (pc + 1) L st (s_q w r (va_up (w_q w r) i.toNatClampNeg (some v)))) : gx_G nc ns d M Q pc L (.ref v :: .int i :: .ref r :: st) w := by
  intro D p l e R s m args below meth c H locs cells slots ls C hR hP hS hL
  have hE := C.2.2.2.2.2.2.2.2.1
  have hr := gx_hi hP hs (by omega)
  have hvv := gx_hi hP hv (by omega)
  have he := gx_ws_at (D := D) hr hs
  rw [gx_e_ref (by omega)] at he
  have hev := gx_ws_at (D := D) hvv hv
  rw [gx_e_obj (by omega)] at hev
  have hlt : i.toNatClampNeg < n := Nat.not_le.mp fun q => hi (Or.inr q)
  have h0 : ¬ i < 0 := fun q => hi (Or.inl q)
  obtain ⟨r', hr', cellV, g1, g2, g3, -⟩ := hP.2.2 (v - 6) _ hev
  have hcls := (hE.1.1 5 _ rfl).2
  obtain ⟨kA, comp, k1, k2, k3, -⟩ := (hE.1.2 4 _ rfl).2
  have hcomp : comp = (gx_g D).1 5 := Option.some.inj (k3.symm.trans hcls.1)
  subst hcomp
  obtain ⟨kC, hkC, -⟩ := hcls.2
  refine W.aast C.1 C.2.1 (hP.2.2 (r - 6) _ he) (fun q h => by cases h) (fun h => by cases h) k1 k2 rfl hkC ⟨h0, by show _ < (arrV _ _ _).slots.size; rw [arrV_size]; exact hlt⟩ g1 (fun q h => by rw [g3] at h; cases h) (by rw [g2]; exact hkC) (by rw [g2]; exact va_assign hcls) rfl rfl hd fun H1 e1 z oq => ?_
  refine kk D p l e R s m args below meth c H1 _ cells slots ls C hR (gx_P_sq hP hs (by omega) (by omega) z oq ?_) (hS.put z oq (gx_A_hi hr)) hL
  rw [e1, vp_cell_q, vp_cell_q, arrV_store]
  congr 2
  funext q
  by_cases hq : q = i.toNatClampNeg
  · subst hq
    simp [updV, va_up, va_rf]
  · simp [updV, va_up, hq]
/-- Object() -/
theorem g_objInit {idx r : Nat} (hd : gx_d M pc (.invokespecial idx) 3) (hl : Cond.methodLink M.1.cls idx Lib.objectInit ∈ gx_T) (hi : Cond.instanceMethod Lib.objectInit ∈ gx_T) (hc : Cond.code Lib.objectInit ⟨#[0xb1]⟩ 1 none ∈ gx_T) (hcat : (st.map fun v => v.category).sum ≤ 8) (hL0 : L.length = M.2.2.1) (h1 : 1 ≤ d) (kk : gx_G nc ns d M Q (pc + 3) L st w) : gx_G nc ns d M Q pc L (.ref r :: st) w := by
  intro D p l e R s m args below meth c H locs cells slots ls C hR hP hS hL
  have hts : ∀ w ∈ gx_T, w.before args s = true := fun w hw => C.2.2.2.2.2.1 w hw
  have r1 := hR.1
  have r2 := hR.2.1
  exact W.objInit C.1 C.2.1 C.2.2.2.2.1 (hts _ hl) (hts _ hi) (hts _ hc) rfl (by show ls.size = _; rw [hL.1, hL0, C.2.2.2.1]) rfl hd (by omega) (by show 2 * 0 + ((st.map (gx_c D)).map fun v => v.category).sum + 12 ≤ R.locals; rw [gx_cat_sum]; omega) (kk D p l e R s m args below meth c H locs cells slots ls C hR hP hS hL)
/-! System.arraycopy -/
def gx_CP (own : String) (idx : Nat) : Prop := Cond.methodLink own idx arraycopyName ∈ gx_T ∧ Cond.native arraycopyName ∈ gx_T ∧ Cond.static arraycopyName ∈ gx_T ∧ Cond.initialized "java/lang/System" ∈ gx_T
theorem gx_nn (z : Int32) (hz : ¬ z < 0) : z.toInt = (z.toNatClampNeg : Int) := by
  have hz0 : (0 : Int) ≤ z.toInt := by
    have := Int32.not_lt.mp hz
    simpa using Int32.le_iff_toInt_le.mp this
  show z.toInt = ((z.toInt.toNat : Nat) : Int)
  omega
theorem g_copyi {idx a b n0 n1 : Nat} {sp dp n : Int32} (hd : gx_d M pc (.invokestatic idx) 3) (hcp : gx_CP M.1.cls idx) (ha : w.1[a]? = some (20, n0)) (hb : w.1[b]? = some (20, n1)) (h1 : ¬ sp < 0) (h2 : ¬ dp < 0) (h3 : ¬ n < 0) (h4 : sp.toNatClampNeg + n.toNatClampNeg ≤ n0) (h5 : dp.toNatClampNeg + n.toNatClampNeg ≤ n1) (hcat : (st.map fun v => v.category).sum ≤ 8) (hL0 : L.length = M.2.2.1) (hd1 : 1 ≤ d)
    (kk : gx_G nc ns d M Q (pc + 3) L st (s_a w b (va_cpy (w_a w a) (w_a w b) sp.toNatClampNeg dp.toNatClampNeg n.toNatClampNeg))) : gx_G nc ns d M Q pc L (.int n :: .int dp :: .ref b :: .int sp :: .ref a :: st) w := by
  intro D p l e R s m args below meth c H locs cells slots ls C hR hP hS hL
  have hts : ∀ w ∈ gx_T, w.before args s = true := fun w hw => C.2.2.2.2.2.1 w hw
  have hE := C.2.2.2.2.2.2.2.2.1
  have hra := gx_hi hP ha (by omega)
  have hrb := gx_hi hP hb (by omega)
  have hea := gx_ws_at (D := D) hra ha
  have heb := gx_ws_at (D := D) hrb hb
  rw [gx_e_int (by omega) (by omega)] at hea heb
  have r1 := hR.1
  have r2 := hR.2.1
  have hsz : ls.size = c.maxLocals := by rw [hL.1, hL0, C.2.2.2.1]
  have hw60 : nativeFrameWords "java/lang/System" "arraycopy" 5 + 11 ≤ 60 := by decide +kernel
  have hloc : 2 * 0 + ((st.map (gx_c D)).map fun v => v.category).sum + (nativeFrameWords "java/lang/System" "arraycopy" 5 + 11) ≤ R.locals := by
    rw [gx_cat_sum]
    omega
  intro T hT X
  have hc0 : H[gx_f D a]? = some (vp_cell (gx_y D 20) (n0, .inl (w_a w a))) := hP.2.2 _ _ hea
  have hc1 : H[gx_f D b]? = some (vp_cell (gx_y D 20) (n1, .inl (w_a w b))) := hP.2.2 _ _ heb
  obtain ⟨-, k0, hk0, cm0, hkk0⟩ := (hE.1.2 0 _ rfl).1 n0 (fun j => .int (w_a w a j))
  obtain ⟨vm', X', step⟩ := X.arraycopy C.1 C.2.2.2.2.1 (hts _ hcp.1) (hts _ hcp.2.1) (hts _ hcp.2.2.1) (hts _ hcp.2.2.2) (src := gx_f D a) (dst := gx_f D b) (cs := vp_cell (gx_y D 20) (n0, .inl (w_a w a))) (cd := vp_cell (gx_y D 20) (n1, .inl (w_a w b))) (srcPos := sp) (destPos := dp) (n := n) (by rw [hT]; exact hc0) (by rw [hT]; exact hc1)
    (fun _ h => by cases h) (fun _ h => by cases h) (fun h => by cases h) (fun h => by cases h) hk0 hk0 hkk0 hkk0 (by simp [refKind]) h1 h2 h3
    (by rw [gx_nn sp h1, gx_nn n h3]; show ¬ _ > ((arrV (gx_y D 20) n0 (fun j => .int (w_a w a j))).slots.size : Int); rw [arrV_size]; omega)
    (by rw [gx_nn dp h2, gx_nn n h3]; show ¬ _ > ((arrV (gx_y D 20) n1 (fun j => .int (w_a w b j))).slots.size : Int); rw [arrV_size]; omega)
    (fun vm₁ _ i hi => by
      have e : (vp_cell (gx_y D 20) (n0, .inl (w_a w a))).slots.getD (sp.toNatClampNeg + i) .null = .int (w_a w a (sp.toNatClampNeg + i)) := by
        show (arrV (gx_y D 20) n0 (fun j => .int (w_a w a j))).slots.getD _ _ = _
        rw [Array.getD_eq_getD_getElem?, arrV_read _ _ (by omega)]
        rfl
      refine ⟨?_, ?_⟩
      · rw [e]
        rfl
      · rw [e]
        exact trivial)
    (g := F0 m pc ls ((.int n :: .int dp :: .ref b :: .int sp :: .ref a :: st).map (gx_c D))) rfl hsz (rest := st.map (gx_c D)) rfl (by rw [C.2.1]; exact hd) (by omega) hloc
  have e1 : copied (vp_cell (gx_y D 20) (n0, .inl (w_a w a))) (vp_cell (gx_y D 20) (n1, .inl (w_a w b))) sp dp n = vp_cell (gx_y D 20) (n1, .inl (va_cpy (w_a w a) (w_a w b) sp.toNatClampNeg dp.toNatClampNeg n.toNatClampNeg)) := va_copied (fun z => .int z) (gx_y D 20) (gx_y D 20) (w_a w a) (w_a w b) h4
  rw [e1] at X' step
  have hl : gx_f D b < H.size := (Array.getElem?_eq_some_iff.mp hc1).1
  generalize hcell : vp_cell (gx_y D 20) (n1, .inl (va_cpy (w_a w a) (w_a w b) sp.toNatClampNeg dp.toNatClampNeg n.toNatClampNeg)) = cell at X' step
  have hheap : ((T.setVm vm').setCell (gx_f D b) cell).heap = H.setIfInBounds (gx_f D b) cell := by rw [← hT]; rfl
  have oq : ∀ q : Nat, q ≠ gx_f D b → (H.setIfInBounds (gx_f D b) cell)[q]? = H[q]? := fun q hq => by simp [Array.getElem?_setIfInBounds, Ne.symm hq]
  obtain ⟨t, a1, b1⟩ := kk D p l e R s m args below meth c (H.setIfInBounds (gx_f D b) cell) _ cells slots ls C hR (gx_P_sa hP hb (by omega) (by omega) (by simp) oq (by rw [hcell]; simp [Array.getElem?_setIfInBounds, hl])) ⟨by simp; exact hS.1, fun q g1 g2 => by
      rw [oq q (fun e => g2 (by rw [e]; exact gx_A_hi hrb))]
      exact hS.2.1 q g1 g2, fun q hq => by
      rcases List.mem_append.mp hq with h | h
      · exact hS.2.2 q h
      · obtain ⟨z, -, hz⟩ := List.mem_map.mp h
        rw [← hz]
        exact gx_A_hi hrb⟩ hL _ hheap X'
  exact ⟨t, step t a1, b1⟩
theorem g_copyl {idx a b n0 n1 : Nat} {sp dp n : Int32} (hd : gx_d M pc (.invokestatic idx) 3) (hcp : gx_CP M.1.cls idx) (ha : w.1[a]? = some (23, n0)) (hb : w.1[b]? = some (23, n1)) (h1 : ¬ sp < 0) (h2 : ¬ dp < 0) (h3 : ¬ n < 0) (h4 : sp.toNatClampNeg + n.toNatClampNeg ≤ n0) (h5 : dp.toNatClampNeg + n.toNatClampNeg ≤ n1) (hcat : (st.map fun v => v.category).sum ≤ 8) (hL0 : L.length = M.2.2.1) (hd1 : 1 ≤ d)
    (kk : gx_G nc ns d M Q (pc + 3) L st (s_l w b (va_cpy (w_l w a) (w_l w b) sp.toNatClampNeg dp.toNatClampNeg n.toNatClampNeg))) : gx_G nc ns d M Q pc L (.int n :: .int dp :: .ref b :: .int sp :: .ref a :: st) w := by
  intro D p l e R s m args below meth c H locs cells slots ls C hR hP hS hL
  have hts : ∀ w ∈ gx_T, w.before args s = true := fun w hw => C.2.2.2.2.2.1 w hw
  have hE := C.2.2.2.2.2.2.2.2.1
  have hra := gx_hi hP ha (by omega)
  have hrb := gx_hi hP hb (by omega)
  have hea := gx_ws_at (D := D) hra ha
  have heb := gx_ws_at (D := D) hrb hb
  rw [gx_e_long] at hea heb
  have r1 := hR.1
  have r2 := hR.2.1
  have hsz : ls.size = c.maxLocals := by rw [hL.1, hL0, C.2.2.2.1]
  have hw60 : nativeFrameWords "java/lang/System" "arraycopy" 5 + 11 ≤ 60 := by decide +kernel
  have hloc : 2 * 0 + ((st.map (gx_c D)).map fun v => v.category).sum + (nativeFrameWords "java/lang/System" "arraycopy" 5 + 11) ≤ R.locals := by
    rw [gx_cat_sum]
    omega
  intro T hT X
  have hc0 : H[gx_f D a]? = some (vp_cell (gx_y D 23) (n0, .inr (.inl (w_l w a)))) := hP.2.2 _ _ hea
  have hc1 : H[gx_f D b]? = some (vp_cell (gx_y D 23) (n1, .inr (.inl (w_l w b)))) := hP.2.2 _ _ heb
  obtain ⟨-, k0, hk0, cm0, hkk0⟩ := (hE.1.2 3 _ rfl).1 n0 (fun j => .long (w_l w a j))
  obtain ⟨vm', X', step⟩ := X.arraycopy C.1 C.2.2.2.2.1 (hts _ hcp.1) (hts _ hcp.2.1) (hts _ hcp.2.2.1) (hts _ hcp.2.2.2) (src := gx_f D a) (dst := gx_f D b) (cs := vp_cell (gx_y D 23) (n0, .inr (.inl (w_l w a)))) (cd := vp_cell (gx_y D 23) (n1, .inr (.inl (w_l w b)))) (srcPos := sp) (destPos := dp) (n := n) (by rw [hT]; exact hc0) (by rw [hT]; exact hc1)
    (fun _ h => by cases h) (fun _ h => by cases h) (fun h => by cases h) (fun h => by cases h) hk0 hk0 hkk0 hkk0 (by simp [refKind]) h1 h2 h3
    (by rw [gx_nn sp h1, gx_nn n h3]; show ¬ _ > ((arrV (gx_y D 23) n0 (fun j => .long (w_l w a j))).slots.size : Int); rw [arrV_size]; omega)
    (by rw [gx_nn dp h2, gx_nn n h3]; show ¬ _ > ((arrV (gx_y D 23) n1 (fun j => .long (w_l w b j))).slots.size : Int); rw [arrV_size]; omega)
    (fun vm₁ _ i hi => by
      have e : (vp_cell (gx_y D 23) (n0, .inr (.inl (w_l w a)))).slots.getD (sp.toNatClampNeg + i) .null = .long (w_l w a (sp.toNatClampNeg + i)) := by
        show (arrV (gx_y D 23) n0 (fun j => .long (w_l w a j))).slots.getD _ _ = _
        rw [Array.getD_eq_getD_getElem?, arrV_read _ _ (by omega)]
        rfl
      refine ⟨?_, ?_⟩
      · rw [e]
        rfl
      · rw [e]
        exact trivial)
    (g := F0 m pc ls ((.int n :: .int dp :: .ref b :: .int sp :: .ref a :: st).map (gx_c D))) rfl hsz (rest := st.map (gx_c D)) rfl (by rw [C.2.1]; exact hd) (by omega) hloc
  have e1 : copied (vp_cell (gx_y D 23) (n0, .inr (.inl (w_l w a)))) (vp_cell (gx_y D 23) (n1, .inr (.inl (w_l w b)))) sp dp n = vp_cell (gx_y D 23) (n1, .inr (.inl (va_cpy (w_l w a) (w_l w b) sp.toNatClampNeg dp.toNatClampNeg n.toNatClampNeg))) := va_copied (fun z => .long z) (gx_y D 23) (gx_y D 23) (w_l w a) (w_l w b) h4
  rw [e1] at X' step
  have hl : gx_f D b < H.size := (Array.getElem?_eq_some_iff.mp hc1).1
  generalize hcell : vp_cell (gx_y D 23) (n1, .inr (.inl (va_cpy (w_l w a) (w_l w b) sp.toNatClampNeg dp.toNatClampNeg n.toNatClampNeg))) = cell at X' step
  have hheap : ((T.setVm vm').setCell (gx_f D b) cell).heap = H.setIfInBounds (gx_f D b) cell := by rw [← hT]; rfl
  have oq : ∀ q : Nat, q ≠ gx_f D b → (H.setIfInBounds (gx_f D b) cell)[q]? = H[q]? := fun q hq => by simp [Array.getElem?_setIfInBounds, Ne.symm hq]
  obtain ⟨t, a1, b1⟩ := kk D p l e R s m args below meth c (H.setIfInBounds (gx_f D b) cell) _ cells slots ls C hR (gx_P_sl hP hb (by simp) oq (by rw [hcell]; simp [Array.getElem?_setIfInBounds, hl])) ⟨by simp; exact hS.1, fun q g1 g2 => by
      rw [oq q (fun e => g2 (by rw [e]; exact gx_A_hi hrb))]
      exact hS.2.1 q g1 g2, fun q hq => by
      rcases List.mem_append.mp hq with h | h
      · exact hS.2.2 q h
      · obtain ⟨z, -, hz⟩ := List.mem_map.mp h
        rw [← hz]
        exact gx_A_hi hrb⟩ hL _ hheap X'
  exact ⟨t, step t a1, b1⟩
end GXN
/-! the judgement moves with what is asked of the end -/
theorem gx_G_mono {nc ns d : Nat} {M : gx_M} {Q Q' : Option Value → gx_W → Prop} {pc : Nat} {L st : List Value} {w : gx_W} (h : ∀ r w, Q r w → Q' r w) (k : gx_G nc ns d M Q pc L st w) : gx_G nc ns d M Q' pc L st w := by
  intro D p l e R s m args below meth c H locs cells slots ls C hR hP hS hL T hT X
  obtain ⟨t, a, o, b1, b2, ⟨⟨r, w', c1, c2, c3⟩, c4⟩, b4⟩ := k D p l e R s m args below meth c H locs cells slots ls C hR hP hS hL T hT X
  exact ⟨t, a, o, b1, b2, ⟨⟨r, w', c1, h r w' c2, c3⟩, c4⟩, b4⟩
end
section
/-! the world in which the law begins -/
def gx_tab : Nat → List Int32
  | 1 => [0, 0, -99, 0, 0, 0, 0, 1]
  | 2 => [9, 9, 99, 99, 9, 5, 9, 54]
  | 3 => [1, 1, 2, 6, 24, 120, 720]
  | 4 => [-1, 0, 0, 2, 1, 3, 0, 6]
  | 5 => [1, 10, 11, 2, 20, 0, 0, 0, 0, 30, 0, 0, 0, 41, 40, 0, 0, 0, 0, 50, 0, 0, 60, 61, 70, 0, 0, 0, 81, 80, 0, 0]
  | _ => []
def gx_w0 (Ls : Nat) (xs : Nat → Int32) : gx_W := ([(30, Ls), (30, 8), (30, 8), (30, 7), (30, 8), (30, 32)], fun _ _ => 0, fun _ _ => none, fun k => if k = 0 then xs else fun j => (gx_tab k).getD j 0, fun _ _ => 0, fun _ _ => none)
abbrev mL_law : gx_M := (x, code, maxLocals, ret)
end
section
/-! methods, links, fields: by program; the words of the tables in chunks of sixteen -/
theorem lm0 {α : Type} {a0 : α} {l : List α} : a0 ∈ a0 :: l := List.Mem.head _
theorem lm1 {α : Type} {a0 a1 : α} {l : List α} : a1 ∈ a0 :: a1 :: l := List.Mem.tail _ (List.Mem.head _)
theorem lm2 {α : Type} {a0 a1 a2 : α} {l : List α} : a2 ∈ a0 :: a1 :: a2 :: l := List.Mem.tail _ (List.Mem.tail _ (List.Mem.head _))
theorem lm3 {α : Type} {a0 a1 a2 a3 : α} {l : List α} : a3 ∈ a0 :: a1 :: a2 :: a3 :: l := List.Mem.tail _ (List.Mem.tail _ (List.Mem.tail _ (List.Mem.head _)))
theorem lm4 {α : Type} {a0 a1 a2 a3 a4 : α} {l : List α} : a4 ∈ a0 :: a1 :: a2 :: a3 :: a4 :: l := List.Mem.tail _ (List.Mem.tail _ (List.Mem.tail _ (List.Mem.tail _ (List.Mem.head _))))
theorem lm5 {α : Type} {a0 a1 a2 a3 a4 a5 : α} {l : List α} : a5 ∈ a0 :: a1 :: a2 :: a3 :: a4 :: a5 :: l := List.Mem.tail _ (List.Mem.tail _ (List.Mem.tail _ (List.Mem.tail _ (List.Mem.tail _ (List.Mem.head _)))))
theorem lm6 {α : Type} {a0 a1 a2 a3 a4 a5 a6 : α} {l : List α} : a6 ∈ a0 :: a1 :: a2 :: a3 :: a4 :: a5 :: a6 :: l := List.Mem.tail _ (List.Mem.tail _ (List.Mem.tail _ (List.Mem.tail _ (List.Mem.tail _ (List.Mem.tail _ (List.Mem.head _))))))
theorem lm7 {α : Type} {a0 a1 a2 a3 a4 a5 a6 a7 : α} {l : List α} : a7 ∈ a0 :: a1 :: a2 :: a3 :: a4 :: a5 :: a6 :: a7 :: l := List.Mem.tail _ (List.Mem.tail _ (List.Mem.tail _ (List.Mem.tail _ (List.Mem.tail _ (List.Mem.tail _ (List.Mem.tail _ (List.Mem.head _)))))))
theorem lm8 {α : Type} {a0 a1 a2 a3 a4 a5 a6 a7 a8 : α} {l : List α} : a8 ∈ a0 :: a1 :: a2 :: a3 :: a4 :: a5 :: a6 :: a7 :: a8 :: l := List.Mem.tail _ (List.Mem.tail _ (List.Mem.tail _ (List.Mem.tail _ (List.Mem.tail _ (List.Mem.tail _ (List.Mem.tail _ (List.Mem.tail _ (List.Mem.head _))))))))
theorem lm9 {α : Type} {a0 a1 a2 a3 a4 a5 a6 a7 a8 a9 : α} {l : List α} : a9 ∈ a0 :: a1 :: a2 :: a3 :: a4 :: a5 :: a6 :: a7 :: a8 :: a9 :: l := List.Mem.tail _ (List.Mem.tail _ (List.Mem.tail _ (List.Mem.tail _ (List.Mem.tail _ (List.Mem.tail _ (List.Mem.tail _ (List.Mem.tail _ (List.Mem.tail _ (List.Mem.head _)))))))))
theorem lm10 {α : Type} {a0 a1 a2 a3 a4 a5 a6 a7 a8 a9 a10 : α} {l : List α} : a10 ∈ a0 :: a1 :: a2 :: a3 :: a4 :: a5 :: a6 :: a7 :: a8 :: a9 :: a10 :: l := List.Mem.tail _ (List.Mem.tail _ (List.Mem.tail _ (List.Mem.tail _ (List.Mem.tail _ (List.Mem.tail _ (List.Mem.tail _ (List.Mem.tail _ (List.Mem.tail _ (List.Mem.tail _ (List.Mem.head _))))))))))
theorem lm11 {α : Type} {a0 a1 a2 a3 a4 a5 a6 a7 a8 a9 a10 a11 : α} {l : List α} : a11 ∈ a0 :: a1 :: a2 :: a3 :: a4 :: a5 :: a6 :: a7 :: a8 :: a9 :: a10 :: a11 :: l := List.Mem.tail _ (List.Mem.tail _ (List.Mem.tail _ (List.Mem.tail _ (List.Mem.tail _ (List.Mem.tail _ (List.Mem.tail _ (List.Mem.tail _ (List.Mem.tail _ (List.Mem.tail _ (List.Mem.tail _ (List.Mem.head _)))))))))))
theorem lm12 {α : Type} {a0 a1 a2 a3 a4 a5 a6 a7 a8 a9 a10 a11 a12 : α} {l : List α} : a12 ∈ a0 :: a1 :: a2 :: a3 :: a4 :: a5 :: a6 :: a7 :: a8 :: a9 :: a10 :: a11 :: a12 :: l := List.Mem.tail _ (List.Mem.tail _ (List.Mem.tail _ (List.Mem.tail _ (List.Mem.tail _ (List.Mem.tail _ (List.Mem.tail _ (List.Mem.tail _ (List.Mem.tail _ (List.Mem.tail _ (List.Mem.tail _ (List.Mem.tail _ (List.Mem.head _))))))))))))
theorem lm13 {α : Type} {a0 a1 a2 a3 a4 a5 a6 a7 a8 a9 a10 a11 a12 a13 : α} {l : List α} : a13 ∈ a0 :: a1 :: a2 :: a3 :: a4 :: a5 :: a6 :: a7 :: a8 :: a9 :: a10 :: a11 :: a12 :: a13 :: l := List.Mem.tail _ (List.Mem.tail _ (List.Mem.tail _ (List.Mem.tail _ (List.Mem.tail _ (List.Mem.tail _ (List.Mem.tail _ (List.Mem.tail _ (List.Mem.tail _ (List.Mem.tail _ (List.Mem.tail _ (List.Mem.tail _ (List.Mem.tail _ (List.Mem.head _)))))))))))))
theorem lm14 {α : Type} {a0 a1 a2 a3 a4 a5 a6 a7 a8 a9 a10 a11 a12 a13 a14 : α} {l : List α} : a14 ∈ a0 :: a1 :: a2 :: a3 :: a4 :: a5 :: a6 :: a7 :: a8 :: a9 :: a10 :: a11 :: a12 :: a13 :: a14 :: l := List.Mem.tail _ (List.Mem.tail _ (List.Mem.tail _ (List.Mem.tail _ (List.Mem.tail _ (List.Mem.tail _ (List.Mem.tail _ (List.Mem.tail _ (List.Mem.tail _ (List.Mem.tail _ (List.Mem.tail _ (List.Mem.tail _ (List.Mem.tail _ (List.Mem.tail _ (List.Mem.head _))))))))))))))
theorem lm15 {α : Type} {a0 a1 a2 a3 a4 a5 a6 a7 a8 a9 a10 a11 a12 a13 a14 a15 : α} {l : List α} : a15 ∈ a0 :: a1 :: a2 :: a3 :: a4 :: a5 :: a6 :: a7 :: a8 :: a9 :: a10 :: a11 :: a12 :: a13 :: a14 :: a15 :: l := List.Mem.tail _ (List.Mem.tail _ (List.Mem.tail _ (List.Mem.tail _ (List.Mem.tail _ (List.Mem.tail _ (List.Mem.tail _ (List.Mem.tail _ (List.Mem.tail _ (List.Mem.tail _ (List.Mem.tail _ (List.Mem.tail _ (List.Mem.tail _ (List.Mem.tail _ (List.Mem.tail _ (List.Mem.head _)))))))))))))))
theorem tk_1 {w : Cond} (h : w ∈ tables_1_1) : w ∈ lw_tbl := List.mem_append_right _ (show _ ∈ tables_1 from List.mem_append_left _ h)
theorem ck_1_0 (w : Cond) (h : w ∈ [(Jvm.Cond.initialized "CrossroadsChooseLaw"), (Jvm.Cond.initialized "CrossroadsChoose"), (Jvm.Cond.initialized "CrossroadsChoose$Tape"), (Jvm.Cond.initialized "CrossroadsChoose$Changes"), (Jvm.Cond.initialized "CrossroadsChoose$Image"), (Jvm.Cond.initialized "CrossroadsChoose$Bodies"), (Jvm.Cond.initialized "CrossroadsChoose$Law"), (Jvm.Cond.initialized "CrossroadsChoose$Crossing"), (Jvm.Cond.initialized "CrossroadsChoose$Thought"), (Jvm.Cond.initialized "CrossroadsChoose$Shelf"), (Jvm.Cond.initialized "CrossroadsChooseModel"), (Jvm.Cond.initialized "java/lang/System"), (Jvm.Cond.initialized "java/lang/Math"), (Jvm.Cond.initialized "java/util/Arrays"), (Jvm.Cond.initialized "CrossroadsChoose$Votes"), (Jvm.Cond.initialized "java/lang/Integer")]) : w ∈ lw_tbl := tk_1 (List.mem_of_mem_drop (i := 0) (List.mem_of_mem_take (i := 16) ((show (tables_1_1.drop 0).take 16 = [(Jvm.Cond.initialized "CrossroadsChooseLaw"), (Jvm.Cond.initialized "CrossroadsChoose"), (Jvm.Cond.initialized "CrossroadsChoose$Tape"), (Jvm.Cond.initialized "CrossroadsChoose$Changes"), (Jvm.Cond.initialized "CrossroadsChoose$Image"), (Jvm.Cond.initialized "CrossroadsChoose$Bodies"), (Jvm.Cond.initialized "CrossroadsChoose$Law"), (Jvm.Cond.initialized "CrossroadsChoose$Crossing"), (Jvm.Cond.initialized "CrossroadsChoose$Thought"), (Jvm.Cond.initialized "CrossroadsChoose$Shelf"), (Jvm.Cond.initialized "CrossroadsChooseModel"), (Jvm.Cond.initialized "java/lang/System"), (Jvm.Cond.initialized "java/lang/Math"), (Jvm.Cond.initialized "java/util/Arrays"), (Jvm.Cond.initialized "CrossroadsChoose$Votes"), (Jvm.Cond.initialized "java/lang/Integer")] from rfl) ▸ h)))
theorem ck_1_16 (w : Cond) (h : w ∈ [(Jvm.Cond.classLink "CrossroadsChooseLaw" (7 : Nat) "CrossroadsChoose"), (Jvm.Cond.instantiable "CrossroadsChoose" (11 : Nat)), (Jvm.Cond.methodLink "CrossroadsChooseLaw" (9 : Nat) ({ cls := "CrossroadsChoose", name := "<init>", desc := "()V" } : Jvm.MethodName)), (Jvm.Cond.instanceMethod ({ cls := "CrossroadsChoose", name := "<init>", desc := "()V" } : Jvm.MethodName)), (Jvm.Cond.code ({ cls := "CrossroadsChoose", name := "<init>", desc := "()V" } : Jvm.MethodName) prog_1_method_1_code (3 : Nat) (Option.none : Option Jvm.ClassFile.FieldType)), (Jvm.Cond.methodLink "CrossroadsChoose" (1 : Nat) ({ cls := "java/lang/Object", name := "<init>", desc := "()V" } : Jvm.MethodName)), (Jvm.Cond.instanceMethod ({ cls := "java/lang/Object", name := "<init>", desc := "()V" } : Jvm.MethodName)), (Jvm.Cond.code ({ cls := "java/lang/Object", name := "<init>", desc := "()V" } : Jvm.MethodName) object_method_1_code (1 : Nat) (Option.none : Option Jvm.ClassFile.FieldType)), (Jvm.Cond.classLink "CrossroadsChoose" (7 : Nat) "CrossroadsChoose$Tape"), (Jvm.Cond.instantiable "CrossroadsChoose$Tape" (3 : Nat)), (Jvm.Cond.methodLinkNest "CrossroadsChoose" (9 : Nat) ({ cls := "CrossroadsChoose$Tape", name := "<init>", desc := "()V" } : Jvm.MethodName) "CrossroadsChoose"), (Jvm.Cond.instanceMethod ({ cls := "CrossroadsChoose$Tape", name := "<init>", desc := "()V" } : Jvm.MethodName)), (Jvm.Cond.code ({ cls := "CrossroadsChoose$Tape", name := "<init>", desc := "()V" } : Jvm.MethodName) prog_8_method_1_code (1 : Nat) (Option.none : Option Jvm.ClassFile.FieldType)), (Jvm.Cond.methodLink "CrossroadsChoose$Tape" (1 : Nat) ({ cls := "java/lang/Object", name := "<init>", desc := "()V" } : Jvm.MethodName)), (Jvm.Cond.fieldLink "CrossroadsChoose$Tape" (9 : Nat) "CrossroadsChoose$Tape" "bytes" "[I"), (Jvm.Cond.fieldLink "CrossroadsChoose$Tape" (13 : Nat) "CrossroadsChoose$Tape" "length" "I")]) : w ∈ lw_tbl := tk_1 (List.mem_of_mem_drop (i := 16) (List.mem_of_mem_take (i := 16) ((show (tables_1_1.drop 16).take 16 = [(Jvm.Cond.classLink "CrossroadsChooseLaw" (7 : Nat) "CrossroadsChoose"), (Jvm.Cond.instantiable "CrossroadsChoose" (11 : Nat)), (Jvm.Cond.methodLink "CrossroadsChooseLaw" (9 : Nat) ({ cls := "CrossroadsChoose", name := "<init>", desc := "()V" } : Jvm.MethodName)), (Jvm.Cond.instanceMethod ({ cls := "CrossroadsChoose", name := "<init>", desc := "()V" } : Jvm.MethodName)), (Jvm.Cond.code ({ cls := "CrossroadsChoose", name := "<init>", desc := "()V" } : Jvm.MethodName) prog_1_method_1_code (3 : Nat) (Option.none : Option Jvm.ClassFile.FieldType)), (Jvm.Cond.methodLink "CrossroadsChoose" (1 : Nat) ({ cls := "java/lang/Object", name := "<init>", desc := "()V" } : Jvm.MethodName)), (Jvm.Cond.instanceMethod ({ cls := "java/lang/Object", name := "<init>", desc := "()V" } : Jvm.MethodName)), (Jvm.Cond.code ({ cls := "java/lang/Object", name := "<init>", desc := "()V" } : Jvm.MethodName) object_method_1_code (1 : Nat) (Option.none : Option Jvm.ClassFile.FieldType)), (Jvm.Cond.classLink "CrossroadsChoose" (7 : Nat) "CrossroadsChoose$Tape"), (Jvm.Cond.instantiable "CrossroadsChoose$Tape" (3 : Nat)), (Jvm.Cond.methodLinkNest "CrossroadsChoose" (9 : Nat) ({ cls := "CrossroadsChoose$Tape", name := "<init>", desc := "()V" } : Jvm.MethodName) "CrossroadsChoose"), (Jvm.Cond.instanceMethod ({ cls := "CrossroadsChoose$Tape", name := "<init>", desc := "()V" } : Jvm.MethodName)), (Jvm.Cond.code ({ cls := "CrossroadsChoose$Tape", name := "<init>", desc := "()V" } : Jvm.MethodName) prog_8_method_1_code (1 : Nat) (Option.none : Option Jvm.ClassFile.FieldType)), (Jvm.Cond.methodLink "CrossroadsChoose$Tape" (1 : Nat) ({ cls := "java/lang/Object", name := "<init>", desc := "()V" } : Jvm.MethodName)), (Jvm.Cond.fieldLink "CrossroadsChoose$Tape" (9 : Nat) "CrossroadsChoose$Tape" "bytes" "[I"), (Jvm.Cond.fieldLink "CrossroadsChoose$Tape" (13 : Nat) "CrossroadsChoose$Tape" "length" "I")] from rfl) ▸ h)))
theorem ck_1_32 (w : Cond) (h : w ∈ [(Jvm.Cond.fieldLinkNest "CrossroadsChoose" (341 : Nat) "CrossroadsChoose$Tape" "length" "I" "CrossroadsChoose"), (Jvm.Cond.fieldLink "CrossroadsChoose$Tape" (26 : Nat) "CrossroadsChoose$Tape" "place" "I"), (Jvm.Cond.laysFinal "CrossroadsChoose$Tape" "CrossroadsChoose$Tape" "bytes" "[I"), (Jvm.Cond.soleField "CrossroadsChoose$Tape" "bytes"), (Jvm.Cond.lays "CrossroadsChoose$Tape" "CrossroadsChoose$Tape" "length" "I"), (Jvm.Cond.soleField "CrossroadsChoose$Tape" "length"), (Jvm.Cond.lays "CrossroadsChoose$Tape" "CrossroadsChoose$Tape" "place" "I"), (Jvm.Cond.soleField "CrossroadsChoose$Tape" "place"), (Jvm.Cond.superclass "CrossroadsChoose$Tape" "java/lang/Object"), (Jvm.Cond.arrayClass Jvm.ClassFile.FieldType.int), (Jvm.Cond.classLink "CrossroadsChoose" (16 : Nat) "CrossroadsChoose$Changes"), (Jvm.Cond.instantiable "CrossroadsChoose$Changes" (6 : Nat)), (Jvm.Cond.methodLinkNest "CrossroadsChoose" (18 : Nat) ({ cls := "CrossroadsChoose$Changes", name := "<init>", desc := "()V" } : Jvm.MethodName) "CrossroadsChoose"), (Jvm.Cond.instanceMethod ({ cls := "CrossroadsChoose$Changes", name := "<init>", desc := "()V" } : Jvm.MethodName)), (Jvm.Cond.code ({ cls := "CrossroadsChoose$Changes", name := "<init>", desc := "()V" } : Jvm.MethodName) prog_3_method_1_code (1 : Nat) (Option.none : Option Jvm.ClassFile.FieldType)), (Jvm.Cond.methodLink "CrossroadsChoose$Changes" (1 : Nat) ({ cls := "java/lang/Object", name := "<init>", desc := "()V" } : Jvm.MethodName))]) : w ∈ lw_tbl := tk_1 (List.mem_of_mem_drop (i := 32) (List.mem_of_mem_take (i := 16) ((show (tables_1_1.drop 32).take 16 = [(Jvm.Cond.fieldLinkNest "CrossroadsChoose" (341 : Nat) "CrossroadsChoose$Tape" "length" "I" "CrossroadsChoose"), (Jvm.Cond.fieldLink "CrossroadsChoose$Tape" (26 : Nat) "CrossroadsChoose$Tape" "place" "I"), (Jvm.Cond.laysFinal "CrossroadsChoose$Tape" "CrossroadsChoose$Tape" "bytes" "[I"), (Jvm.Cond.soleField "CrossroadsChoose$Tape" "bytes"), (Jvm.Cond.lays "CrossroadsChoose$Tape" "CrossroadsChoose$Tape" "length" "I"), (Jvm.Cond.soleField "CrossroadsChoose$Tape" "length"), (Jvm.Cond.lays "CrossroadsChoose$Tape" "CrossroadsChoose$Tape" "place" "I"), (Jvm.Cond.soleField "CrossroadsChoose$Tape" "place"), (Jvm.Cond.superclass "CrossroadsChoose$Tape" "java/lang/Object"), (Jvm.Cond.arrayClass Jvm.ClassFile.FieldType.int), (Jvm.Cond.classLink "CrossroadsChoose" (16 : Nat) "CrossroadsChoose$Changes"), (Jvm.Cond.instantiable "CrossroadsChoose$Changes" (6 : Nat)), (Jvm.Cond.methodLinkNest "CrossroadsChoose" (18 : Nat) ({ cls := "CrossroadsChoose$Changes", name := "<init>", desc := "()V" } : Jvm.MethodName) "CrossroadsChoose"), (Jvm.Cond.instanceMethod ({ cls := "CrossroadsChoose$Changes", name := "<init>", desc := "()V" } : Jvm.MethodName)), (Jvm.Cond.code ({ cls := "CrossroadsChoose$Changes", name := "<init>", desc := "()V" } : Jvm.MethodName) prog_3_method_1_code (1 : Nat) (Option.none : Option Jvm.ClassFile.FieldType)), (Jvm.Cond.methodLink "CrossroadsChoose$Changes" (1 : Nat) ({ cls := "java/lang/Object", name := "<init>", desc := "()V" } : Jvm.MethodName))] from rfl) ▸ h)))
theorem ck_1_48 (w : Cond) (h : w ∈ [(Jvm.Cond.fieldLink "CrossroadsChoose$Changes" (9 : Nat) "CrossroadsChoose$Changes" "numbers" "[I"), (Jvm.Cond.fieldLink "CrossroadsChoose$Changes" (13 : Nat) "CrossroadsChoose$Changes" "whats" "[I"), (Jvm.Cond.fieldLink "CrossroadsChoose$Changes" (16 : Nat) "CrossroadsChoose$Changes" "olds" "[I"), (Jvm.Cond.fieldLink "CrossroadsChoose$Changes" (19 : Nat) "CrossroadsChoose$Changes" "fresh" "[I"), (Jvm.Cond.fieldLink "CrossroadsChoose$Changes" (22 : Nat) "CrossroadsChoose$Changes" "done" "I"), (Jvm.Cond.fieldLinkNest "CrossroadsChoose" (281 : Nat) "CrossroadsChoose$Changes" "done" "I" "CrossroadsChoose"), (Jvm.Cond.fieldLink "CrossroadsChoose$Changes" (30 : Nat) "CrossroadsChoose$Changes" "known" "I"), (Jvm.Cond.fieldLinkNest "CrossroadsChoose" (287 : Nat) "CrossroadsChoose$Changes" "known" "I" "CrossroadsChoose"), (Jvm.Cond.laysFinal "CrossroadsChoose$Changes" "CrossroadsChoose$Changes" "numbers" "[I"), (Jvm.Cond.soleField "CrossroadsChoose$Changes" "numbers"), (Jvm.Cond.laysFinal "CrossroadsChoose$Changes" "CrossroadsChoose$Changes" "whats" "[I"), (Jvm.Cond.soleField "CrossroadsChoose$Changes" "whats"), (Jvm.Cond.laysFinal "CrossroadsChoose$Changes" "CrossroadsChoose$Changes" "olds" "[I"), (Jvm.Cond.soleField "CrossroadsChoose$Changes" "olds"), (Jvm.Cond.laysFinal "CrossroadsChoose$Changes" "CrossroadsChoose$Changes" "fresh" "[I"), (Jvm.Cond.soleField "CrossroadsChoose$Changes" "fresh")]) : w ∈ lw_tbl := tk_1 (List.mem_of_mem_drop (i := 48) (List.mem_of_mem_take (i := 16) ((show (tables_1_1.drop 48).take 16 = [(Jvm.Cond.fieldLink "CrossroadsChoose$Changes" (9 : Nat) "CrossroadsChoose$Changes" "numbers" "[I"), (Jvm.Cond.fieldLink "CrossroadsChoose$Changes" (13 : Nat) "CrossroadsChoose$Changes" "whats" "[I"), (Jvm.Cond.fieldLink "CrossroadsChoose$Changes" (16 : Nat) "CrossroadsChoose$Changes" "olds" "[I"), (Jvm.Cond.fieldLink "CrossroadsChoose$Changes" (19 : Nat) "CrossroadsChoose$Changes" "fresh" "[I"), (Jvm.Cond.fieldLink "CrossroadsChoose$Changes" (22 : Nat) "CrossroadsChoose$Changes" "done" "I"), (Jvm.Cond.fieldLinkNest "CrossroadsChoose" (281 : Nat) "CrossroadsChoose$Changes" "done" "I" "CrossroadsChoose"), (Jvm.Cond.fieldLink "CrossroadsChoose$Changes" (30 : Nat) "CrossroadsChoose$Changes" "known" "I"), (Jvm.Cond.fieldLinkNest "CrossroadsChoose" (287 : Nat) "CrossroadsChoose$Changes" "known" "I" "CrossroadsChoose"), (Jvm.Cond.laysFinal "CrossroadsChoose$Changes" "CrossroadsChoose$Changes" "numbers" "[I"), (Jvm.Cond.soleField "CrossroadsChoose$Changes" "numbers"), (Jvm.Cond.laysFinal "CrossroadsChoose$Changes" "CrossroadsChoose$Changes" "whats" "[I"), (Jvm.Cond.soleField "CrossroadsChoose$Changes" "whats"), (Jvm.Cond.laysFinal "CrossroadsChoose$Changes" "CrossroadsChoose$Changes" "olds" "[I"), (Jvm.Cond.soleField "CrossroadsChoose$Changes" "olds"), (Jvm.Cond.laysFinal "CrossroadsChoose$Changes" "CrossroadsChoose$Changes" "fresh" "[I"), (Jvm.Cond.soleField "CrossroadsChoose$Changes" "fresh")] from rfl) ▸ h)))
theorem ck_1_64 (w : Cond) (h : w ∈ [(Jvm.Cond.lays "CrossroadsChoose$Changes" "CrossroadsChoose$Changes" "done" "I"), (Jvm.Cond.soleField "CrossroadsChoose$Changes" "done"), (Jvm.Cond.lays "CrossroadsChoose$Changes" "CrossroadsChoose$Changes" "known" "I"), (Jvm.Cond.soleField "CrossroadsChoose$Changes" "known"), (Jvm.Cond.superclass "CrossroadsChoose$Changes" "java/lang/Object"), (Jvm.Cond.classLink "CrossroadsChoose" (23 : Nat) "CrossroadsChoose$Image"), (Jvm.Cond.instantiable "CrossroadsChoose$Image" (4 : Nat)), (Jvm.Cond.methodLinkNest "CrossroadsChoose" (25 : Nat) ({ cls := "CrossroadsChoose$Image", name := "<init>", desc := "()V" } : Jvm.MethodName) "CrossroadsChoose"), (Jvm.Cond.instanceMethod ({ cls := "CrossroadsChoose$Image", name := "<init>", desc := "()V" } : Jvm.MethodName)), (Jvm.Cond.code ({ cls := "CrossroadsChoose$Image", name := "<init>", desc := "()V" } : Jvm.MethodName) prog_5_method_1_code (1 : Nat) (Option.none : Option Jvm.ClassFile.FieldType)), (Jvm.Cond.methodLink "CrossroadsChoose$Image" (3 : Nat) ({ cls := "java/lang/Object", name := "<init>", desc := "()V" } : Jvm.MethodName)), (Jvm.Cond.fieldLink "CrossroadsChoose$Image" (9 : Nat) "CrossroadsChoose$Image" "waits" "[I"), (Jvm.Cond.fieldLinkNest "CrossroadsChoose" (267 : Nat) "CrossroadsChoose$Image" "waits" "[I" "CrossroadsChoose"), (Jvm.Cond.fieldLink "CrossroadsChoose$Image" (15 : Nat) "CrossroadsChoose$Image" "ledger" "[I"), (Jvm.Cond.fieldLinkNest "CrossroadsChoose" (270 : Nat) "CrossroadsChoose$Image" "ledger" "[I" "CrossroadsChoose"), (Jvm.Cond.fieldLinkNest "CrossroadsChoose" (262 : Nat) "CrossroadsChoose$Image" "there" "Z" "CrossroadsChoose")]) : w ∈ lw_tbl := tk_1 (List.mem_of_mem_drop (i := 64) (List.mem_of_mem_take (i := 16) ((show (tables_1_1.drop 64).take 16 = [(Jvm.Cond.lays "CrossroadsChoose$Changes" "CrossroadsChoose$Changes" "done" "I"), (Jvm.Cond.soleField "CrossroadsChoose$Changes" "done"), (Jvm.Cond.lays "CrossroadsChoose$Changes" "CrossroadsChoose$Changes" "known" "I"), (Jvm.Cond.soleField "CrossroadsChoose$Changes" "known"), (Jvm.Cond.superclass "CrossroadsChoose$Changes" "java/lang/Object"), (Jvm.Cond.classLink "CrossroadsChoose" (23 : Nat) "CrossroadsChoose$Image"), (Jvm.Cond.instantiable "CrossroadsChoose$Image" (4 : Nat)), (Jvm.Cond.methodLinkNest "CrossroadsChoose" (25 : Nat) ({ cls := "CrossroadsChoose$Image", name := "<init>", desc := "()V" } : Jvm.MethodName) "CrossroadsChoose"), (Jvm.Cond.instanceMethod ({ cls := "CrossroadsChoose$Image", name := "<init>", desc := "()V" } : Jvm.MethodName)), (Jvm.Cond.code ({ cls := "CrossroadsChoose$Image", name := "<init>", desc := "()V" } : Jvm.MethodName) prog_5_method_1_code (1 : Nat) (Option.none : Option Jvm.ClassFile.FieldType)), (Jvm.Cond.methodLink "CrossroadsChoose$Image" (3 : Nat) ({ cls := "java/lang/Object", name := "<init>", desc := "()V" } : Jvm.MethodName)), (Jvm.Cond.fieldLink "CrossroadsChoose$Image" (9 : Nat) "CrossroadsChoose$Image" "waits" "[I"), (Jvm.Cond.fieldLinkNest "CrossroadsChoose" (267 : Nat) "CrossroadsChoose$Image" "waits" "[I" "CrossroadsChoose"), (Jvm.Cond.fieldLink "CrossroadsChoose$Image" (15 : Nat) "CrossroadsChoose$Image" "ledger" "[I"), (Jvm.Cond.fieldLinkNest "CrossroadsChoose" (270 : Nat) "CrossroadsChoose$Image" "ledger" "[I" "CrossroadsChoose"), (Jvm.Cond.fieldLinkNest "CrossroadsChoose" (262 : Nat) "CrossroadsChoose$Image" "there" "Z" "CrossroadsChoose")] from rfl) ▸ h)))
theorem ck_1_80 (w : Cond) (h : w ∈ [(Jvm.Cond.fieldLinkNest "CrossroadsChoose" (266 : Nat) "CrossroadsChoose$Image" "roads" "I" "CrossroadsChoose"), (Jvm.Cond.laysFinal "CrossroadsChoose$Image" "CrossroadsChoose$Image" "waits" "[I"), (Jvm.Cond.soleField "CrossroadsChoose$Image" "waits"), (Jvm.Cond.laysFinal "CrossroadsChoose$Image" "CrossroadsChoose$Image" "ledger" "[I"), (Jvm.Cond.soleField "CrossroadsChoose$Image" "ledger"), (Jvm.Cond.lays "CrossroadsChoose$Image" "CrossroadsChoose$Image" "there" "Z"), (Jvm.Cond.soleField "CrossroadsChoose$Image" "there"), (Jvm.Cond.lays "CrossroadsChoose$Image" "CrossroadsChoose$Image" "roads" "I"), (Jvm.Cond.soleField "CrossroadsChoose$Image" "roads"), (Jvm.Cond.superclass "CrossroadsChoose$Image" "java/lang/Object"), (Jvm.Cond.classLink "CrossroadsChoose" (30 : Nat) "CrossroadsChoose$Bodies"), (Jvm.Cond.instantiable "CrossroadsChoose$Bodies" (4 : Nat)), (Jvm.Cond.methodLinkNest "CrossroadsChoose" (32 : Nat) ({ cls := "CrossroadsChoose$Bodies", name := "<init>", desc := "()V" } : Jvm.MethodName) "CrossroadsChoose"), (Jvm.Cond.instanceMethod ({ cls := "CrossroadsChoose$Bodies", name := "<init>", desc := "()V" } : Jvm.MethodName)), (Jvm.Cond.code ({ cls := "CrossroadsChoose$Bodies", name := "<init>", desc := "()V" } : Jvm.MethodName) prog_2_method_1_code (1 : Nat) (Option.none : Option Jvm.ClassFile.FieldType)), (Jvm.Cond.methodLink "CrossroadsChoose$Bodies" (3 : Nat) ({ cls := "java/lang/Object", name := "<init>", desc := "()V" } : Jvm.MethodName))]) : w ∈ lw_tbl := tk_1 (List.mem_of_mem_drop (i := 80) (List.mem_of_mem_take (i := 16) ((show (tables_1_1.drop 80).take 16 = [(Jvm.Cond.fieldLinkNest "CrossroadsChoose" (266 : Nat) "CrossroadsChoose$Image" "roads" "I" "CrossroadsChoose"), (Jvm.Cond.laysFinal "CrossroadsChoose$Image" "CrossroadsChoose$Image" "waits" "[I"), (Jvm.Cond.soleField "CrossroadsChoose$Image" "waits"), (Jvm.Cond.laysFinal "CrossroadsChoose$Image" "CrossroadsChoose$Image" "ledger" "[I"), (Jvm.Cond.soleField "CrossroadsChoose$Image" "ledger"), (Jvm.Cond.lays "CrossroadsChoose$Image" "CrossroadsChoose$Image" "there" "Z"), (Jvm.Cond.soleField "CrossroadsChoose$Image" "there"), (Jvm.Cond.lays "CrossroadsChoose$Image" "CrossroadsChoose$Image" "roads" "I"), (Jvm.Cond.soleField "CrossroadsChoose$Image" "roads"), (Jvm.Cond.superclass "CrossroadsChoose$Image" "java/lang/Object"), (Jvm.Cond.classLink "CrossroadsChoose" (30 : Nat) "CrossroadsChoose$Bodies"), (Jvm.Cond.instantiable "CrossroadsChoose$Bodies" (4 : Nat)), (Jvm.Cond.methodLinkNest "CrossroadsChoose" (32 : Nat) ({ cls := "CrossroadsChoose$Bodies", name := "<init>", desc := "()V" } : Jvm.MethodName) "CrossroadsChoose"), (Jvm.Cond.instanceMethod ({ cls := "CrossroadsChoose$Bodies", name := "<init>", desc := "()V" } : Jvm.MethodName)), (Jvm.Cond.code ({ cls := "CrossroadsChoose$Bodies", name := "<init>", desc := "()V" } : Jvm.MethodName) prog_2_method_1_code (1 : Nat) (Option.none : Option Jvm.ClassFile.FieldType)), (Jvm.Cond.methodLink "CrossroadsChoose$Bodies" (3 : Nat) ({ cls := "java/lang/Object", name := "<init>", desc := "()V" } : Jvm.MethodName))] from rfl) ▸ h)))
theorem ck_1_96 (w : Cond) (h : w ∈ [(Jvm.Cond.fieldLink "CrossroadsChoose$Bodies" (11 : Nat) "CrossroadsChoose$Bodies" "kinds" "[I"), (Jvm.Cond.fieldLink "CrossroadsChoose$Bodies" (15 : Nat) "CrossroadsChoose$Bodies" "trace" "[I"), (Jvm.Cond.fieldLink "CrossroadsChoose$Bodies" (18 : Nat) "CrossroadsChoose$Bodies" "many" "I"), (Jvm.Cond.fieldLinkNest "CrossroadsChoose" (342 : Nat) "CrossroadsChoose$Bodies" "many" "I" "CrossroadsChoose"), (Jvm.Cond.fieldLink "CrossroadsChoose$Bodies" (30 : Nat) "CrossroadsChoose$Bodies" "ran" "I"), (Jvm.Cond.fieldLinkNest "CrossroadsChoose" (345 : Nat) "CrossroadsChoose$Bodies" "ran" "I" "CrossroadsChoose"), (Jvm.Cond.laysFinal "CrossroadsChoose$Bodies" "CrossroadsChoose$Bodies" "kinds" "[I"), (Jvm.Cond.soleField "CrossroadsChoose$Bodies" "kinds"), (Jvm.Cond.laysFinal "CrossroadsChoose$Bodies" "CrossroadsChoose$Bodies" "trace" "[I"), (Jvm.Cond.soleField "CrossroadsChoose$Bodies" "trace"), (Jvm.Cond.lays "CrossroadsChoose$Bodies" "CrossroadsChoose$Bodies" "many" "I"), (Jvm.Cond.soleField "CrossroadsChoose$Bodies" "many"), (Jvm.Cond.lays "CrossroadsChoose$Bodies" "CrossroadsChoose$Bodies" "ran" "I"), (Jvm.Cond.soleField "CrossroadsChoose$Bodies" "ran"), (Jvm.Cond.superclass "CrossroadsChoose$Bodies" "java/lang/Object"), (Jvm.Cond.classLink "CrossroadsChoose" (37 : Nat) "CrossroadsChoose$Shelf")]) : w ∈ lw_tbl := tk_1 (List.mem_of_mem_drop (i := 96) (List.mem_of_mem_take (i := 16) ((show (tables_1_1.drop 96).take 16 = [(Jvm.Cond.fieldLink "CrossroadsChoose$Bodies" (11 : Nat) "CrossroadsChoose$Bodies" "kinds" "[I"), (Jvm.Cond.fieldLink "CrossroadsChoose$Bodies" (15 : Nat) "CrossroadsChoose$Bodies" "trace" "[I"), (Jvm.Cond.fieldLink "CrossroadsChoose$Bodies" (18 : Nat) "CrossroadsChoose$Bodies" "many" "I"), (Jvm.Cond.fieldLinkNest "CrossroadsChoose" (342 : Nat) "CrossroadsChoose$Bodies" "many" "I" "CrossroadsChoose"), (Jvm.Cond.fieldLink "CrossroadsChoose$Bodies" (30 : Nat) "CrossroadsChoose$Bodies" "ran" "I"), (Jvm.Cond.fieldLinkNest "CrossroadsChoose" (345 : Nat) "CrossroadsChoose$Bodies" "ran" "I" "CrossroadsChoose"), (Jvm.Cond.laysFinal "CrossroadsChoose$Bodies" "CrossroadsChoose$Bodies" "kinds" "[I"), (Jvm.Cond.soleField "CrossroadsChoose$Bodies" "kinds"), (Jvm.Cond.laysFinal "CrossroadsChoose$Bodies" "CrossroadsChoose$Bodies" "trace" "[I"), (Jvm.Cond.soleField "CrossroadsChoose$Bodies" "trace"), (Jvm.Cond.lays "CrossroadsChoose$Bodies" "CrossroadsChoose$Bodies" "many" "I"), (Jvm.Cond.soleField "CrossroadsChoose$Bodies" "many"), (Jvm.Cond.lays "CrossroadsChoose$Bodies" "CrossroadsChoose$Bodies" "ran" "I"), (Jvm.Cond.soleField "CrossroadsChoose$Bodies" "ran"), (Jvm.Cond.superclass "CrossroadsChoose$Bodies" "java/lang/Object"), (Jvm.Cond.classLink "CrossroadsChoose" (37 : Nat) "CrossroadsChoose$Shelf")] from rfl) ▸ h)))
theorem ck_1_112 (w : Cond) (h : w ∈ [(Jvm.Cond.arrayOver (Jvm.ClassFile.FieldType.object "CrossroadsChoose$Shelf")), (Jvm.Cond.classLink "CrossroadsChoose" (50 : Nat) "[[I"), (Jvm.Cond.arrayOver (Jvm.ClassFile.FieldType.array Jvm.ClassFile.FieldType.int)), (Jvm.Cond.classLink "CrossroadsChoose" (55 : Nat) "CrossroadsChoose$Law"), (Jvm.Cond.instantiable "CrossroadsChoose$Law" (6 : Nat)), (Jvm.Cond.methodLinkNest "CrossroadsChoose" (57 : Nat) ({ cls := "CrossroadsChoose$Law", name := "<init>", desc := "()V" } : Jvm.MethodName) "CrossroadsChoose"), (Jvm.Cond.instanceMethod ({ cls := "CrossroadsChoose$Law", name := "<init>", desc := "()V" } : Jvm.MethodName)), (Jvm.Cond.code ({ cls := "CrossroadsChoose$Law", name := "<init>", desc := "()V" } : Jvm.MethodName) prog_6_method_1_code (1 : Nat) (Option.none : Option Jvm.ClassFile.FieldType)), (Jvm.Cond.methodLink "CrossroadsChoose$Law" (1 : Nat) ({ cls := "java/lang/Object", name := "<init>", desc := "()V" } : Jvm.MethodName)), (Jvm.Cond.fieldLink "CrossroadsChoose$Law" (9 : Nat) "CrossroadsChoose$Law" "signs" "[I"), (Jvm.Cond.fieldLink "CrossroadsChoose$Law" (13 : Nat) "CrossroadsChoose$Law" "values" "[I"), (Jvm.Cond.fieldLink "CrossroadsChoose$Law" (16 : Nat) "CrossroadsChoose$Law" "stack" "[I"), (Jvm.Cond.fieldLink "CrossroadsChoose$Law" (19 : Nat) "CrossroadsChoose$Law" "names" "[I"), (Jvm.Cond.fieldLink "CrossroadsChoose$Law" (22 : Nat) "CrossroadsChoose$Law" "steps" "I"), (Jvm.Cond.fieldLink "CrossroadsChoose$Law" (26 : Nat) "CrossroadsChoose$Law" "top" "I"), (Jvm.Cond.laysFinal "CrossroadsChoose$Law" "CrossroadsChoose$Law" "signs" "[I")]) : w ∈ lw_tbl := tk_1 (List.mem_of_mem_drop (i := 112) (List.mem_of_mem_take (i := 16) ((show (tables_1_1.drop 112).take 16 = [(Jvm.Cond.arrayOver (Jvm.ClassFile.FieldType.object "CrossroadsChoose$Shelf")), (Jvm.Cond.classLink "CrossroadsChoose" (50 : Nat) "[[I"), (Jvm.Cond.arrayOver (Jvm.ClassFile.FieldType.array Jvm.ClassFile.FieldType.int)), (Jvm.Cond.classLink "CrossroadsChoose" (55 : Nat) "CrossroadsChoose$Law"), (Jvm.Cond.instantiable "CrossroadsChoose$Law" (6 : Nat)), (Jvm.Cond.methodLinkNest "CrossroadsChoose" (57 : Nat) ({ cls := "CrossroadsChoose$Law", name := "<init>", desc := "()V" } : Jvm.MethodName) "CrossroadsChoose"), (Jvm.Cond.instanceMethod ({ cls := "CrossroadsChoose$Law", name := "<init>", desc := "()V" } : Jvm.MethodName)), (Jvm.Cond.code ({ cls := "CrossroadsChoose$Law", name := "<init>", desc := "()V" } : Jvm.MethodName) prog_6_method_1_code (1 : Nat) (Option.none : Option Jvm.ClassFile.FieldType)), (Jvm.Cond.methodLink "CrossroadsChoose$Law" (1 : Nat) ({ cls := "java/lang/Object", name := "<init>", desc := "()V" } : Jvm.MethodName)), (Jvm.Cond.fieldLink "CrossroadsChoose$Law" (9 : Nat) "CrossroadsChoose$Law" "signs" "[I"), (Jvm.Cond.fieldLink "CrossroadsChoose$Law" (13 : Nat) "CrossroadsChoose$Law" "values" "[I"), (Jvm.Cond.fieldLink "CrossroadsChoose$Law" (16 : Nat) "CrossroadsChoose$Law" "stack" "[I"), (Jvm.Cond.fieldLink "CrossroadsChoose$Law" (19 : Nat) "CrossroadsChoose$Law" "names" "[I"), (Jvm.Cond.fieldLink "CrossroadsChoose$Law" (22 : Nat) "CrossroadsChoose$Law" "steps" "I"), (Jvm.Cond.fieldLink "CrossroadsChoose$Law" (26 : Nat) "CrossroadsChoose$Law" "top" "I"), (Jvm.Cond.laysFinal "CrossroadsChoose$Law" "CrossroadsChoose$Law" "signs" "[I")] from rfl) ▸ h)))
theorem ck_1_128 (w : Cond) (h : w ∈ [(Jvm.Cond.soleField "CrossroadsChoose$Law" "signs"), (Jvm.Cond.laysFinal "CrossroadsChoose$Law" "CrossroadsChoose$Law" "values" "[I"), (Jvm.Cond.soleField "CrossroadsChoose$Law" "values"), (Jvm.Cond.laysFinal "CrossroadsChoose$Law" "CrossroadsChoose$Law" "stack" "[I"), (Jvm.Cond.soleField "CrossroadsChoose$Law" "stack"), (Jvm.Cond.laysFinal "CrossroadsChoose$Law" "CrossroadsChoose$Law" "names" "[I"), (Jvm.Cond.soleField "CrossroadsChoose$Law" "names"), (Jvm.Cond.lays "CrossroadsChoose$Law" "CrossroadsChoose$Law" "steps" "I"), (Jvm.Cond.soleField "CrossroadsChoose$Law" "steps"), (Jvm.Cond.lays "CrossroadsChoose$Law" "CrossroadsChoose$Law" "top" "I"), (Jvm.Cond.soleField "CrossroadsChoose$Law" "top"), (Jvm.Cond.superclass "CrossroadsChoose$Law" "java/lang/Object"), (Jvm.Cond.classLink "CrossroadsChoose" (62 : Nat) "CrossroadsChoose$Crossing"), (Jvm.Cond.instantiable "CrossroadsChoose$Crossing" (3 : Nat)), (Jvm.Cond.methodLink "CrossroadsChoose" (64 : Nat) ({ cls := "CrossroadsChoose$Crossing", name := "<init>", desc := "(LCrossroadsChoose$Law;)V" } : Jvm.MethodName)), (Jvm.Cond.instanceMethod ({ cls := "CrossroadsChoose$Crossing", name := "<init>", desc := "(LCrossroadsChoose$Law;)V" } : Jvm.MethodName))]) : w ∈ lw_tbl := tk_1 (List.mem_of_mem_drop (i := 128) (List.mem_of_mem_take (i := 16) ((show (tables_1_1.drop 128).take 16 = [(Jvm.Cond.soleField "CrossroadsChoose$Law" "signs"), (Jvm.Cond.laysFinal "CrossroadsChoose$Law" "CrossroadsChoose$Law" "values" "[I"), (Jvm.Cond.soleField "CrossroadsChoose$Law" "values"), (Jvm.Cond.laysFinal "CrossroadsChoose$Law" "CrossroadsChoose$Law" "stack" "[I"), (Jvm.Cond.soleField "CrossroadsChoose$Law" "stack"), (Jvm.Cond.laysFinal "CrossroadsChoose$Law" "CrossroadsChoose$Law" "names" "[I"), (Jvm.Cond.soleField "CrossroadsChoose$Law" "names"), (Jvm.Cond.lays "CrossroadsChoose$Law" "CrossroadsChoose$Law" "steps" "I"), (Jvm.Cond.soleField "CrossroadsChoose$Law" "steps"), (Jvm.Cond.lays "CrossroadsChoose$Law" "CrossroadsChoose$Law" "top" "I"), (Jvm.Cond.soleField "CrossroadsChoose$Law" "top"), (Jvm.Cond.superclass "CrossroadsChoose$Law" "java/lang/Object"), (Jvm.Cond.classLink "CrossroadsChoose" (62 : Nat) "CrossroadsChoose$Crossing"), (Jvm.Cond.instantiable "CrossroadsChoose$Crossing" (3 : Nat)), (Jvm.Cond.methodLink "CrossroadsChoose" (64 : Nat) ({ cls := "CrossroadsChoose$Crossing", name := "<init>", desc := "(LCrossroadsChoose$Law;)V" } : Jvm.MethodName)), (Jvm.Cond.instanceMethod ({ cls := "CrossroadsChoose$Crossing", name := "<init>", desc := "(LCrossroadsChoose$Law;)V" } : Jvm.MethodName))] from rfl) ▸ h)))
theorem ck_1_144 (w : Cond) (h : w ∈ [(Jvm.Cond.code ({ cls := "CrossroadsChoose$Crossing", name := "<init>", desc := "(LCrossroadsChoose$Law;)V" } : Jvm.MethodName) prog_4_method_1_code (2 : Nat) (Option.none : Option Jvm.ClassFile.FieldType)), (Jvm.Cond.methodLink "CrossroadsChoose$Crossing" (5 : Nat) ({ cls := "java/lang/Object", name := "<init>", desc := "()V" } : Jvm.MethodName)), (Jvm.Cond.fieldLink "CrossroadsChoose$Crossing" (11 : Nat) "CrossroadsChoose$Crossing" "numbers" "[I"), (Jvm.Cond.fieldLink "CrossroadsChoose$Crossing" (19 : Nat) "CrossroadsChoose$Crossing" "roads" "I"), (Jvm.Cond.fieldLinkNest "CrossroadsChoose$Votes" (9 : Nat) "CrossroadsChoose$Crossing" "roads" "I" "CrossroadsChoose"), (Jvm.Cond.fieldLinkNest "CrossroadsChoose$Thought" (54 : Nat) "CrossroadsChoose$Crossing" "roads" "I" "CrossroadsChoose"), (Jvm.Cond.fieldLinkNest "CrossroadsChoose" (196 : Nat) "CrossroadsChoose$Crossing" "roads" "I" "CrossroadsChoose"), (Jvm.Cond.fieldLink "CrossroadsChoose$Crossing" (15 : Nat) "CrossroadsChoose$Crossing" "law" "LCrossroadsChoose$Law;"), (Jvm.Cond.fieldLinkNest "CrossroadsChoose" (132 : Nat) "CrossroadsChoose$Crossing" "law" "LCrossroadsChoose$Law;" "CrossroadsChoose"), (Jvm.Cond.laysFinal "CrossroadsChoose$Crossing" "CrossroadsChoose$Crossing" "numbers" "[I"), (Jvm.Cond.soleField "CrossroadsChoose$Crossing" "numbers"), (Jvm.Cond.lays "CrossroadsChoose$Crossing" "CrossroadsChoose$Crossing" "roads" "I"), (Jvm.Cond.soleField "CrossroadsChoose$Crossing" "roads"), (Jvm.Cond.lays "CrossroadsChoose$Crossing" "CrossroadsChoose$Crossing" "law" "LCrossroadsChoose$Law;"), (Jvm.Cond.soleField "CrossroadsChoose$Crossing" "law"), (Jvm.Cond.superclass "CrossroadsChoose$Crossing" "java/lang/Object")]) : w ∈ lw_tbl := tk_1 (List.mem_of_mem_drop (i := 144) (List.mem_of_mem_take (i := 16) ((show (tables_1_1.drop 144).take 16 = [(Jvm.Cond.code ({ cls := "CrossroadsChoose$Crossing", name := "<init>", desc := "(LCrossroadsChoose$Law;)V" } : Jvm.MethodName) prog_4_method_1_code (2 : Nat) (Option.none : Option Jvm.ClassFile.FieldType)), (Jvm.Cond.methodLink "CrossroadsChoose$Crossing" (5 : Nat) ({ cls := "java/lang/Object", name := "<init>", desc := "()V" } : Jvm.MethodName)), (Jvm.Cond.fieldLink "CrossroadsChoose$Crossing" (11 : Nat) "CrossroadsChoose$Crossing" "numbers" "[I"), (Jvm.Cond.fieldLink "CrossroadsChoose$Crossing" (19 : Nat) "CrossroadsChoose$Crossing" "roads" "I"), (Jvm.Cond.fieldLinkNest "CrossroadsChoose$Votes" (9 : Nat) "CrossroadsChoose$Crossing" "roads" "I" "CrossroadsChoose"), (Jvm.Cond.fieldLinkNest "CrossroadsChoose$Thought" (54 : Nat) "CrossroadsChoose$Crossing" "roads" "I" "CrossroadsChoose"), (Jvm.Cond.fieldLinkNest "CrossroadsChoose" (196 : Nat) "CrossroadsChoose$Crossing" "roads" "I" "CrossroadsChoose"), (Jvm.Cond.fieldLink "CrossroadsChoose$Crossing" (15 : Nat) "CrossroadsChoose$Crossing" "law" "LCrossroadsChoose$Law;"), (Jvm.Cond.fieldLinkNest "CrossroadsChoose" (132 : Nat) "CrossroadsChoose$Crossing" "law" "LCrossroadsChoose$Law;" "CrossroadsChoose"), (Jvm.Cond.laysFinal "CrossroadsChoose$Crossing" "CrossroadsChoose$Crossing" "numbers" "[I"), (Jvm.Cond.soleField "CrossroadsChoose$Crossing" "numbers"), (Jvm.Cond.lays "CrossroadsChoose$Crossing" "CrossroadsChoose$Crossing" "roads" "I"), (Jvm.Cond.soleField "CrossroadsChoose$Crossing" "roads"), (Jvm.Cond.lays "CrossroadsChoose$Crossing" "CrossroadsChoose$Crossing" "law" "LCrossroadsChoose$Law;"), (Jvm.Cond.soleField "CrossroadsChoose$Crossing" "law"), (Jvm.Cond.superclass "CrossroadsChoose$Crossing" "java/lang/Object")] from rfl) ▸ h)))
theorem ck_1_160 (w : Cond) (h : w ∈ [(Jvm.Cond.classLink "CrossroadsChoose" (71 : Nat) "CrossroadsChoose$Thought"), (Jvm.Cond.instantiable "CrossroadsChoose$Thought" (7 : Nat)), (Jvm.Cond.methodLink "CrossroadsChoose" (73 : Nat) ({ cls := "CrossroadsChoose$Thought", name := "<init>", desc := "(LCrossroadsChoose$Law;)V" } : Jvm.MethodName)), (Jvm.Cond.instanceMethod ({ cls := "CrossroadsChoose$Thought", name := "<init>", desc := "(LCrossroadsChoose$Law;)V" } : Jvm.MethodName)), (Jvm.Cond.code ({ cls := "CrossroadsChoose$Thought", name := "<init>", desc := "(LCrossroadsChoose$Law;)V" } : Jvm.MethodName) prog_9_method_1_code (2 : Nat) (Option.none : Option Jvm.ClassFile.FieldType)), (Jvm.Cond.methodLink "CrossroadsChoose$Thought" (3 : Nat) ({ cls := "java/lang/Object", name := "<init>", desc := "()V" } : Jvm.MethodName)), (Jvm.Cond.classLink "CrossroadsChoose$Thought" (21 : Nat) "CrossroadsChoose$Crossing"), (Jvm.Cond.methodLink "CrossroadsChoose$Thought" (23 : Nat) ({ cls := "CrossroadsChoose$Crossing", name := "<init>", desc := "(LCrossroadsChoose$Law;)V" } : Jvm.MethodName)), (Jvm.Cond.fieldLink "CrossroadsChoose$Thought" (26 : Nat) "CrossroadsChoose$Thought" "crossing" "LCrossroadsChoose$Crossing;"), (Jvm.Cond.fieldLinkNest "CrossroadsChoose" (165 : Nat) "CrossroadsChoose$Thought" "crossing" "LCrossroadsChoose$Crossing;" "CrossroadsChoose"), (Jvm.Cond.fieldLink "CrossroadsChoose$Thought" (9 : Nat) "CrossroadsChoose$Thought" "had" "[I"), (Jvm.Cond.fieldLinkNest "CrossroadsChoose" (168 : Nat) "CrossroadsChoose$Thought" "had" "[I" "CrossroadsChoose"), (Jvm.Cond.fieldLink "CrossroadsChoose$Thought" (15 : Nat) "CrossroadsChoose$Thought" "first" "[I"), (Jvm.Cond.fieldLinkNest "CrossroadsChoose" (171 : Nat) "CrossroadsChoose$Thought" "first" "[I" "CrossroadsChoose"), (Jvm.Cond.fieldLink "CrossroadsChoose$Thought" (18 : Nat) "CrossroadsChoose$Thought" "longest" "[I"), (Jvm.Cond.fieldLinkNest "CrossroadsChoose" (174 : Nat) "CrossroadsChoose$Thought" "longest" "[I" "CrossroadsChoose")]) : w ∈ lw_tbl := tk_1 (List.mem_of_mem_drop (i := 160) (List.mem_of_mem_take (i := 16) ((show (tables_1_1.drop 160).take 16 = [(Jvm.Cond.classLink "CrossroadsChoose" (71 : Nat) "CrossroadsChoose$Thought"), (Jvm.Cond.instantiable "CrossroadsChoose$Thought" (7 : Nat)), (Jvm.Cond.methodLink "CrossroadsChoose" (73 : Nat) ({ cls := "CrossroadsChoose$Thought", name := "<init>", desc := "(LCrossroadsChoose$Law;)V" } : Jvm.MethodName)), (Jvm.Cond.instanceMethod ({ cls := "CrossroadsChoose$Thought", name := "<init>", desc := "(LCrossroadsChoose$Law;)V" } : Jvm.MethodName)), (Jvm.Cond.code ({ cls := "CrossroadsChoose$Thought", name := "<init>", desc := "(LCrossroadsChoose$Law;)V" } : Jvm.MethodName) prog_9_method_1_code (2 : Nat) (Option.none : Option Jvm.ClassFile.FieldType)), (Jvm.Cond.methodLink "CrossroadsChoose$Thought" (3 : Nat) ({ cls := "java/lang/Object", name := "<init>", desc := "()V" } : Jvm.MethodName)), (Jvm.Cond.classLink "CrossroadsChoose$Thought" (21 : Nat) "CrossroadsChoose$Crossing"), (Jvm.Cond.methodLink "CrossroadsChoose$Thought" (23 : Nat) ({ cls := "CrossroadsChoose$Crossing", name := "<init>", desc := "(LCrossroadsChoose$Law;)V" } : Jvm.MethodName)), (Jvm.Cond.fieldLink "CrossroadsChoose$Thought" (26 : Nat) "CrossroadsChoose$Thought" "crossing" "LCrossroadsChoose$Crossing;"), (Jvm.Cond.fieldLinkNest "CrossroadsChoose" (165 : Nat) "CrossroadsChoose$Thought" "crossing" "LCrossroadsChoose$Crossing;" "CrossroadsChoose"), (Jvm.Cond.fieldLink "CrossroadsChoose$Thought" (9 : Nat) "CrossroadsChoose$Thought" "had" "[I"), (Jvm.Cond.fieldLinkNest "CrossroadsChoose" (168 : Nat) "CrossroadsChoose$Thought" "had" "[I" "CrossroadsChoose"), (Jvm.Cond.fieldLink "CrossroadsChoose$Thought" (15 : Nat) "CrossroadsChoose$Thought" "first" "[I"), (Jvm.Cond.fieldLinkNest "CrossroadsChoose" (171 : Nat) "CrossroadsChoose$Thought" "first" "[I" "CrossroadsChoose"), (Jvm.Cond.fieldLink "CrossroadsChoose$Thought" (18 : Nat) "CrossroadsChoose$Thought" "longest" "[I"), (Jvm.Cond.fieldLinkNest "CrossroadsChoose" (174 : Nat) "CrossroadsChoose$Thought" "longest" "[I" "CrossroadsChoose")] from rfl) ▸ h)))
theorem ck_1_176 (w : Cond) (h : w ∈ [(Jvm.Cond.fieldLink "CrossroadsChoose$Thought" (44 : Nat) "CrossroadsChoose$Thought" "comers" "I"), (Jvm.Cond.fieldLink "CrossroadsChoose$Thought" (48 : Nat) "CrossroadsChoose$Thought" "latest" "I"), (Jvm.Cond.fieldLinkNest "CrossroadsChoose" (161 : Nat) "CrossroadsChoose$Thought" "latest" "I" "CrossroadsChoose"), (Jvm.Cond.fieldLink "CrossroadsChoose$Thought" (51 : Nat) "CrossroadsChoose$Thought" "worth" "I"), (Jvm.Cond.fieldLinkNest "CrossroadsChoose" (249 : Nat) "CrossroadsChoose$Thought" "worth" "I" "CrossroadsChoose"), (Jvm.Cond.laysFinal "CrossroadsChoose$Thought" "CrossroadsChoose$Thought" "crossing" "LCrossroadsChoose$Crossing;"), (Jvm.Cond.soleField "CrossroadsChoose$Thought" "crossing"), (Jvm.Cond.laysFinal "CrossroadsChoose$Thought" "CrossroadsChoose$Thought" "had" "[I"), (Jvm.Cond.soleField "CrossroadsChoose$Thought" "had"), (Jvm.Cond.laysFinal "CrossroadsChoose$Thought" "CrossroadsChoose$Thought" "first" "[I"), (Jvm.Cond.soleField "CrossroadsChoose$Thought" "first"), (Jvm.Cond.laysFinal "CrossroadsChoose$Thought" "CrossroadsChoose$Thought" "longest" "[I"), (Jvm.Cond.soleField "CrossroadsChoose$Thought" "longest"), (Jvm.Cond.lays "CrossroadsChoose$Thought" "CrossroadsChoose$Thought" "comers" "I"), (Jvm.Cond.soleField "CrossroadsChoose$Thought" "comers"), (Jvm.Cond.lays "CrossroadsChoose$Thought" "CrossroadsChoose$Thought" "latest" "I")]) : w ∈ lw_tbl := tk_1 (List.mem_of_mem_drop (i := 176) (List.mem_of_mem_take (i := 16) ((show (tables_1_1.drop 176).take 16 = [(Jvm.Cond.fieldLink "CrossroadsChoose$Thought" (44 : Nat) "CrossroadsChoose$Thought" "comers" "I"), (Jvm.Cond.fieldLink "CrossroadsChoose$Thought" (48 : Nat) "CrossroadsChoose$Thought" "latest" "I"), (Jvm.Cond.fieldLinkNest "CrossroadsChoose" (161 : Nat) "CrossroadsChoose$Thought" "latest" "I" "CrossroadsChoose"), (Jvm.Cond.fieldLink "CrossroadsChoose$Thought" (51 : Nat) "CrossroadsChoose$Thought" "worth" "I"), (Jvm.Cond.fieldLinkNest "CrossroadsChoose" (249 : Nat) "CrossroadsChoose$Thought" "worth" "I" "CrossroadsChoose"), (Jvm.Cond.laysFinal "CrossroadsChoose$Thought" "CrossroadsChoose$Thought" "crossing" "LCrossroadsChoose$Crossing;"), (Jvm.Cond.soleField "CrossroadsChoose$Thought" "crossing"), (Jvm.Cond.laysFinal "CrossroadsChoose$Thought" "CrossroadsChoose$Thought" "had" "[I"), (Jvm.Cond.soleField "CrossroadsChoose$Thought" "had"), (Jvm.Cond.laysFinal "CrossroadsChoose$Thought" "CrossroadsChoose$Thought" "first" "[I"), (Jvm.Cond.soleField "CrossroadsChoose$Thought" "first"), (Jvm.Cond.laysFinal "CrossroadsChoose$Thought" "CrossroadsChoose$Thought" "longest" "[I"), (Jvm.Cond.soleField "CrossroadsChoose$Thought" "longest"), (Jvm.Cond.lays "CrossroadsChoose$Thought" "CrossroadsChoose$Thought" "comers" "I"), (Jvm.Cond.soleField "CrossroadsChoose$Thought" "comers"), (Jvm.Cond.lays "CrossroadsChoose$Thought" "CrossroadsChoose$Thought" "latest" "I")] from rfl) ▸ h)))
theorem ck_1_192 (w : Cond) (h : w ∈ [(Jvm.Cond.soleField "CrossroadsChoose$Thought" "latest"), (Jvm.Cond.lays "CrossroadsChoose$Thought" "CrossroadsChoose$Thought" "worth" "I"), (Jvm.Cond.soleField "CrossroadsChoose$Thought" "worth"), (Jvm.Cond.superclass "CrossroadsChoose$Thought" "java/lang/Object"), (Jvm.Cond.instantiable "CrossroadsChoose$Shelf" (5 : Nat)), (Jvm.Cond.methodLinkNest "CrossroadsChoose" (78 : Nat) ({ cls := "CrossroadsChoose$Shelf", name := "<init>", desc := "()V" } : Jvm.MethodName) "CrossroadsChoose"), (Jvm.Cond.instanceMethod ({ cls := "CrossroadsChoose$Shelf", name := "<init>", desc := "()V" } : Jvm.MethodName)), (Jvm.Cond.code ({ cls := "CrossroadsChoose$Shelf", name := "<init>", desc := "()V" } : Jvm.MethodName) prog_7_method_1_code (1 : Nat) (Option.none : Option Jvm.ClassFile.FieldType)), (Jvm.Cond.methodLink "CrossroadsChoose$Shelf" (3 : Nat) ({ cls := "java/lang/Object", name := "<init>", desc := "()V" } : Jvm.MethodName)), (Jvm.Cond.fieldLink "CrossroadsChoose$Shelf" (9 : Nat) "CrossroadsChoose$Shelf" "elements" "[J"), (Jvm.Cond.fieldLinkNest "CrossroadsChoose" (325 : Nat) "CrossroadsChoose$Shelf" "elements" "[J" "CrossroadsChoose"), (Jvm.Cond.fieldLink "CrossroadsChoose$Shelf" (15 : Nat) "CrossroadsChoose$Shelf" "holds" "I"), (Jvm.Cond.fieldLink "CrossroadsChoose$Shelf" (25 : Nat) "CrossroadsChoose$Shelf" "body" "I"), (Jvm.Cond.fieldLinkNest "CrossroadsChoose" (332 : Nat) "CrossroadsChoose$Shelf" "body" "I" "CrossroadsChoose"), (Jvm.Cond.fieldLink "CrossroadsChoose$Shelf" (19 : Nat) "CrossroadsChoose$Shelf" "sort" "I"), (Jvm.Cond.fieldLinkNest "CrossroadsChoose" (348 : Nat) "CrossroadsChoose$Shelf" "sort" "I" "CrossroadsChoose")]) : w ∈ lw_tbl := tk_1 (List.mem_of_mem_drop (i := 192) (List.mem_of_mem_take (i := 16) ((show (tables_1_1.drop 192).take 16 = [(Jvm.Cond.soleField "CrossroadsChoose$Thought" "latest"), (Jvm.Cond.lays "CrossroadsChoose$Thought" "CrossroadsChoose$Thought" "worth" "I"), (Jvm.Cond.soleField "CrossroadsChoose$Thought" "worth"), (Jvm.Cond.superclass "CrossroadsChoose$Thought" "java/lang/Object"), (Jvm.Cond.instantiable "CrossroadsChoose$Shelf" (5 : Nat)), (Jvm.Cond.methodLinkNest "CrossroadsChoose" (78 : Nat) ({ cls := "CrossroadsChoose$Shelf", name := "<init>", desc := "()V" } : Jvm.MethodName) "CrossroadsChoose"), (Jvm.Cond.instanceMethod ({ cls := "CrossroadsChoose$Shelf", name := "<init>", desc := "()V" } : Jvm.MethodName)), (Jvm.Cond.code ({ cls := "CrossroadsChoose$Shelf", name := "<init>", desc := "()V" } : Jvm.MethodName) prog_7_method_1_code (1 : Nat) (Option.none : Option Jvm.ClassFile.FieldType)), (Jvm.Cond.methodLink "CrossroadsChoose$Shelf" (3 : Nat) ({ cls := "java/lang/Object", name := "<init>", desc := "()V" } : Jvm.MethodName)), (Jvm.Cond.fieldLink "CrossroadsChoose$Shelf" (9 : Nat) "CrossroadsChoose$Shelf" "elements" "[J"), (Jvm.Cond.fieldLinkNest "CrossroadsChoose" (325 : Nat) "CrossroadsChoose$Shelf" "elements" "[J" "CrossroadsChoose"), (Jvm.Cond.fieldLink "CrossroadsChoose$Shelf" (15 : Nat) "CrossroadsChoose$Shelf" "holds" "I"), (Jvm.Cond.fieldLink "CrossroadsChoose$Shelf" (25 : Nat) "CrossroadsChoose$Shelf" "body" "I"), (Jvm.Cond.fieldLinkNest "CrossroadsChoose" (332 : Nat) "CrossroadsChoose$Shelf" "body" "I" "CrossroadsChoose"), (Jvm.Cond.fieldLink "CrossroadsChoose$Shelf" (19 : Nat) "CrossroadsChoose$Shelf" "sort" "I"), (Jvm.Cond.fieldLinkNest "CrossroadsChoose" (348 : Nat) "CrossroadsChoose$Shelf" "sort" "I" "CrossroadsChoose")] from rfl) ▸ h)))
theorem ck_1_208 (w : Cond) (h : w ∈ [(Jvm.Cond.fieldLink "CrossroadsChoose$Shelf" (22 : Nat) "CrossroadsChoose$Shelf" "length" "I"), (Jvm.Cond.fieldLinkNest "CrossroadsChoose" (246 : Nat) "CrossroadsChoose$Shelf" "length" "I" "CrossroadsChoose"), (Jvm.Cond.laysFinal "CrossroadsChoose$Shelf" "CrossroadsChoose$Shelf" "elements" "[J"), (Jvm.Cond.soleField "CrossroadsChoose$Shelf" "elements"), (Jvm.Cond.lays "CrossroadsChoose$Shelf" "CrossroadsChoose$Shelf" "holds" "I"), (Jvm.Cond.soleField "CrossroadsChoose$Shelf" "holds"), (Jvm.Cond.lays "CrossroadsChoose$Shelf" "CrossroadsChoose$Shelf" "body" "I"), (Jvm.Cond.soleField "CrossroadsChoose$Shelf" "body"), (Jvm.Cond.lays "CrossroadsChoose$Shelf" "CrossroadsChoose$Shelf" "sort" "I"), (Jvm.Cond.soleField "CrossroadsChoose$Shelf" "sort"), (Jvm.Cond.lays "CrossroadsChoose$Shelf" "CrossroadsChoose$Shelf" "length" "I"), (Jvm.Cond.soleField "CrossroadsChoose$Shelf" "length"), (Jvm.Cond.superclass "CrossroadsChoose$Shelf" "java/lang/Object"), (Jvm.Cond.arrayClass Jvm.ClassFile.FieldType.long), (Jvm.Cond.fieldLink "CrossroadsChoose" (67 : Nat) "CrossroadsChoose" "now" "LCrossroadsChoose$Crossing;"), (Jvm.Cond.fieldLink "CrossroadsChoose" (74 : Nat) "CrossroadsChoose" "thought" "LCrossroadsChoose$Thought;")]) : w ∈ lw_tbl := tk_1 (List.mem_of_mem_drop (i := 208) (List.mem_of_mem_take (i := 16) ((show (tables_1_1.drop 208).take 16 = [(Jvm.Cond.fieldLink "CrossroadsChoose$Shelf" (22 : Nat) "CrossroadsChoose$Shelf" "length" "I"), (Jvm.Cond.fieldLinkNest "CrossroadsChoose" (246 : Nat) "CrossroadsChoose$Shelf" "length" "I" "CrossroadsChoose"), (Jvm.Cond.laysFinal "CrossroadsChoose$Shelf" "CrossroadsChoose$Shelf" "elements" "[J"), (Jvm.Cond.soleField "CrossroadsChoose$Shelf" "elements"), (Jvm.Cond.lays "CrossroadsChoose$Shelf" "CrossroadsChoose$Shelf" "holds" "I"), (Jvm.Cond.soleField "CrossroadsChoose$Shelf" "holds"), (Jvm.Cond.lays "CrossroadsChoose$Shelf" "CrossroadsChoose$Shelf" "body" "I"), (Jvm.Cond.soleField "CrossroadsChoose$Shelf" "body"), (Jvm.Cond.lays "CrossroadsChoose$Shelf" "CrossroadsChoose$Shelf" "sort" "I"), (Jvm.Cond.soleField "CrossroadsChoose$Shelf" "sort"), (Jvm.Cond.lays "CrossroadsChoose$Shelf" "CrossroadsChoose$Shelf" "length" "I"), (Jvm.Cond.soleField "CrossroadsChoose$Shelf" "length"), (Jvm.Cond.superclass "CrossroadsChoose$Shelf" "java/lang/Object"), (Jvm.Cond.arrayClass Jvm.ClassFile.FieldType.long), (Jvm.Cond.fieldLink "CrossroadsChoose" (67 : Nat) "CrossroadsChoose" "now" "LCrossroadsChoose$Crossing;"), (Jvm.Cond.fieldLink "CrossroadsChoose" (74 : Nat) "CrossroadsChoose" "thought" "LCrossroadsChoose$Thought;")] from rfl) ▸ h)))
theorem ck_1_224 (w : Cond) (h : w ∈ [(Jvm.Cond.fieldLink "CrossroadsChoose" (10 : Nat) "CrossroadsChoose" "tape" "LCrossroadsChoose$Tape;"), (Jvm.Cond.fieldLink "CrossroadsChoose" (19 : Nat) "CrossroadsChoose" "changes" "LCrossroadsChoose$Changes;"), (Jvm.Cond.fieldLink "CrossroadsChoose" (26 : Nat) "CrossroadsChoose" "kept" "LCrossroadsChoose$Image;"), (Jvm.Cond.fieldLink "CrossroadsChoose" (33 : Nat) "CrossroadsChoose" "bodies" "LCrossroadsChoose$Bodies;"), (Jvm.Cond.fieldLink "CrossroadsChoose" (39 : Nat) "CrossroadsChoose" "shelves" "[LCrossroadsChoose$Shelf;"), (Jvm.Cond.fieldLink "CrossroadsChoose" (43 : Nat) "CrossroadsChoose" "ledger" "[I"), (Jvm.Cond.fieldLink "CrossroadsChoose" (47 : Nat) "CrossroadsChoose" "sentAhead" "[I"), (Jvm.Cond.fieldLink "CrossroadsChoose" (52 : Nat) "CrossroadsChoose" "waitsAhead" "[[I"), (Jvm.Cond.fieldLink "CrossroadsChoose" (58 : Nat) "CrossroadsChoose" "draft" "LCrossroadsChoose$Law;"), (Jvm.Cond.laysFinal "CrossroadsChoose" "CrossroadsChoose" "now" "LCrossroadsChoose$Crossing;"), (Jvm.Cond.soleField "CrossroadsChoose" "now"), (Jvm.Cond.laysFinal "CrossroadsChoose" "CrossroadsChoose" "thought" "LCrossroadsChoose$Thought;"), (Jvm.Cond.soleField "CrossroadsChoose" "thought"), (Jvm.Cond.laysFinal "CrossroadsChoose" "CrossroadsChoose" "tape" "LCrossroadsChoose$Tape;"), (Jvm.Cond.soleField "CrossroadsChoose" "tape"), (Jvm.Cond.laysFinal "CrossroadsChoose" "CrossroadsChoose" "changes" "LCrossroadsChoose$Changes;")]) : w ∈ lw_tbl := tk_1 (List.mem_of_mem_drop (i := 224) (List.mem_of_mem_take (i := 16) ((show (tables_1_1.drop 224).take 16 = [(Jvm.Cond.fieldLink "CrossroadsChoose" (10 : Nat) "CrossroadsChoose" "tape" "LCrossroadsChoose$Tape;"), (Jvm.Cond.fieldLink "CrossroadsChoose" (19 : Nat) "CrossroadsChoose" "changes" "LCrossroadsChoose$Changes;"), (Jvm.Cond.fieldLink "CrossroadsChoose" (26 : Nat) "CrossroadsChoose" "kept" "LCrossroadsChoose$Image;"), (Jvm.Cond.fieldLink "CrossroadsChoose" (33 : Nat) "CrossroadsChoose" "bodies" "LCrossroadsChoose$Bodies;"), (Jvm.Cond.fieldLink "CrossroadsChoose" (39 : Nat) "CrossroadsChoose" "shelves" "[LCrossroadsChoose$Shelf;"), (Jvm.Cond.fieldLink "CrossroadsChoose" (43 : Nat) "CrossroadsChoose" "ledger" "[I"), (Jvm.Cond.fieldLink "CrossroadsChoose" (47 : Nat) "CrossroadsChoose" "sentAhead" "[I"), (Jvm.Cond.fieldLink "CrossroadsChoose" (52 : Nat) "CrossroadsChoose" "waitsAhead" "[[I"), (Jvm.Cond.fieldLink "CrossroadsChoose" (58 : Nat) "CrossroadsChoose" "draft" "LCrossroadsChoose$Law;"), (Jvm.Cond.laysFinal "CrossroadsChoose" "CrossroadsChoose" "now" "LCrossroadsChoose$Crossing;"), (Jvm.Cond.soleField "CrossroadsChoose" "now"), (Jvm.Cond.laysFinal "CrossroadsChoose" "CrossroadsChoose" "thought" "LCrossroadsChoose$Thought;"), (Jvm.Cond.soleField "CrossroadsChoose" "thought"), (Jvm.Cond.laysFinal "CrossroadsChoose" "CrossroadsChoose" "tape" "LCrossroadsChoose$Tape;"), (Jvm.Cond.soleField "CrossroadsChoose" "tape"), (Jvm.Cond.laysFinal "CrossroadsChoose" "CrossroadsChoose" "changes" "LCrossroadsChoose$Changes;")] from rfl) ▸ h)))
theorem tk_2 {w : Cond} (h : w ∈ tables_1_2) : w ∈ lw_tbl := List.mem_append_right _ (show _ ∈ tables_1 from List.mem_append_right _ (List.mem_append_left _ h))
theorem ck_2_0 (w : Cond) (h : w ∈ [(Jvm.Cond.soleField "CrossroadsChoose" "changes"), (Jvm.Cond.laysFinal "CrossroadsChoose" "CrossroadsChoose" "kept" "LCrossroadsChoose$Image;"), (Jvm.Cond.soleField "CrossroadsChoose" "kept"), (Jvm.Cond.laysFinal "CrossroadsChoose" "CrossroadsChoose" "bodies" "LCrossroadsChoose$Bodies;"), (Jvm.Cond.soleField "CrossroadsChoose" "bodies"), (Jvm.Cond.laysFinal "CrossroadsChoose" "CrossroadsChoose" "shelves" "[LCrossroadsChoose$Shelf;"), (Jvm.Cond.soleField "CrossroadsChoose" "shelves"), (Jvm.Cond.laysFinal "CrossroadsChoose" "CrossroadsChoose" "ledger" "[I"), (Jvm.Cond.soleField "CrossroadsChoose" "ledger"), (Jvm.Cond.laysFinal "CrossroadsChoose" "CrossroadsChoose" "sentAhead" "[I"), (Jvm.Cond.soleField "CrossroadsChoose" "sentAhead"), (Jvm.Cond.laysFinal "CrossroadsChoose" "CrossroadsChoose" "waitsAhead" "[[I"), (Jvm.Cond.soleField "CrossroadsChoose" "waitsAhead"), (Jvm.Cond.lays "CrossroadsChoose" "CrossroadsChoose" "draft" "LCrossroadsChoose$Law;"), (Jvm.Cond.soleField "CrossroadsChoose" "draft"), (Jvm.Cond.superclass "CrossroadsChoose" "java/lang/Object")]) : w ∈ lw_tbl := tk_2 (List.mem_of_mem_drop (i := 0) (List.mem_of_mem_take (i := 16) ((show (tables_1_2.drop 0).take 16 = [(Jvm.Cond.soleField "CrossroadsChoose" "changes"), (Jvm.Cond.laysFinal "CrossroadsChoose" "CrossroadsChoose" "kept" "LCrossroadsChoose$Image;"), (Jvm.Cond.soleField "CrossroadsChoose" "kept"), (Jvm.Cond.laysFinal "CrossroadsChoose" "CrossroadsChoose" "bodies" "LCrossroadsChoose$Bodies;"), (Jvm.Cond.soleField "CrossroadsChoose" "bodies"), (Jvm.Cond.laysFinal "CrossroadsChoose" "CrossroadsChoose" "shelves" "[LCrossroadsChoose$Shelf;"), (Jvm.Cond.soleField "CrossroadsChoose" "shelves"), (Jvm.Cond.laysFinal "CrossroadsChoose" "CrossroadsChoose" "ledger" "[I"), (Jvm.Cond.soleField "CrossroadsChoose" "ledger"), (Jvm.Cond.laysFinal "CrossroadsChoose" "CrossroadsChoose" "sentAhead" "[I"), (Jvm.Cond.soleField "CrossroadsChoose" "sentAhead"), (Jvm.Cond.laysFinal "CrossroadsChoose" "CrossroadsChoose" "waitsAhead" "[[I"), (Jvm.Cond.soleField "CrossroadsChoose" "waitsAhead"), (Jvm.Cond.lays "CrossroadsChoose" "CrossroadsChoose" "draft" "LCrossroadsChoose$Law;"), (Jvm.Cond.soleField "CrossroadsChoose" "draft"), (Jvm.Cond.superclass "CrossroadsChoose" "java/lang/Object")] from rfl) ▸ h)))
theorem ck_2_16 (w : Cond) (h : w ∈ [(Jvm.Cond.methodLink "CrossroadsChooseLaw" (13 : Nat) ({ cls := "CrossroadsChoose", name := "road", desc := "(II)I" } : Jvm.MethodName)), (Jvm.Cond.instanceMethod ({ cls := "CrossroadsChoose", name := "road", desc := "(II)I" } : Jvm.MethodName)), (Jvm.Cond.selects "CrossroadsChoose" ({ cls := "CrossroadsChoose", name := "road", desc := "(II)I" } : Jvm.MethodName) ({ cls := "CrossroadsChoose", name := "road", desc := "(II)I" } : Jvm.MethodName)), (Jvm.Cond.code ({ cls := "CrossroadsChoose", name := "road", desc := "(II)I" } : Jvm.MethodName) prog_1_method_2_code (3 : Nat) (Option.some Jvm.ClassFile.FieldType.int)), (Jvm.Cond.methodLink "CrossroadsChoose" (79 : Nat) ({ cls := "CrossroadsChoose", name := "fits", desc := "(II)Z" } : Jvm.MethodName)), (Jvm.Cond.static ({ cls := "CrossroadsChoose", name := "fits", desc := "(II)Z" } : Jvm.MethodName)), (Jvm.Cond.code ({ cls := "CrossroadsChoose", name := "fits", desc := "(II)Z" } : Jvm.MethodName) prog_1_method_9_code (2 : Nat) (Option.some Jvm.ClassFile.FieldType.boolean)), (Jvm.Cond.fieldLink "CrossroadsChoose" (135 : Nat) "CrossroadsChoose" "LOWEST" "[I"), (Jvm.Cond.laysStatic "CrossroadsChoose" "LOWEST" "[I"), (Jvm.Cond.fieldLink "CrossroadsChoose" (138 : Nat) "CrossroadsChoose" "HIGHEST" "[I"), (Jvm.Cond.laysStatic "CrossroadsChoose" "HIGHEST" "[I"), (Jvm.Cond.methodLink "CrossroadsChoose" (83 : Nat) ({ cls := "CrossroadsChoose$Crossing", name := "isFull", desc := "()Z" } : Jvm.MethodName)), (Jvm.Cond.instanceMethod ({ cls := "CrossroadsChoose$Crossing", name := "isFull", desc := "()Z" } : Jvm.MethodName)), (Jvm.Cond.selects "CrossroadsChoose$Crossing" ({ cls := "CrossroadsChoose$Crossing", name := "isFull", desc := "()Z" } : Jvm.MethodName) ({ cls := "CrossroadsChoose$Crossing", name := "isFull", desc := "()Z" } : Jvm.MethodName)), (Jvm.Cond.code ({ cls := "CrossroadsChoose$Crossing", name := "isFull", desc := "()Z" } : Jvm.MethodName) prog_4_method_3_code (1 : Nat) (Option.some Jvm.ClassFile.FieldType.boolean)), (Jvm.Cond.methodLink "CrossroadsChoose" (87 : Nat) ({ cls := "CrossroadsChoose$Crossing", name := "add", desc := "(III)I" } : Jvm.MethodName))]) : w ∈ lw_tbl := tk_2 (List.mem_of_mem_drop (i := 16) (List.mem_of_mem_take (i := 16) ((show (tables_1_2.drop 16).take 16 = [(Jvm.Cond.methodLink "CrossroadsChooseLaw" (13 : Nat) ({ cls := "CrossroadsChoose", name := "road", desc := "(II)I" } : Jvm.MethodName)), (Jvm.Cond.instanceMethod ({ cls := "CrossroadsChoose", name := "road", desc := "(II)I" } : Jvm.MethodName)), (Jvm.Cond.selects "CrossroadsChoose" ({ cls := "CrossroadsChoose", name := "road", desc := "(II)I" } : Jvm.MethodName) ({ cls := "CrossroadsChoose", name := "road", desc := "(II)I" } : Jvm.MethodName)), (Jvm.Cond.code ({ cls := "CrossroadsChoose", name := "road", desc := "(II)I" } : Jvm.MethodName) prog_1_method_2_code (3 : Nat) (Option.some Jvm.ClassFile.FieldType.int)), (Jvm.Cond.methodLink "CrossroadsChoose" (79 : Nat) ({ cls := "CrossroadsChoose", name := "fits", desc := "(II)Z" } : Jvm.MethodName)), (Jvm.Cond.static ({ cls := "CrossroadsChoose", name := "fits", desc := "(II)Z" } : Jvm.MethodName)), (Jvm.Cond.code ({ cls := "CrossroadsChoose", name := "fits", desc := "(II)Z" } : Jvm.MethodName) prog_1_method_9_code (2 : Nat) (Option.some Jvm.ClassFile.FieldType.boolean)), (Jvm.Cond.fieldLink "CrossroadsChoose" (135 : Nat) "CrossroadsChoose" "LOWEST" "[I"), (Jvm.Cond.laysStatic "CrossroadsChoose" "LOWEST" "[I"), (Jvm.Cond.fieldLink "CrossroadsChoose" (138 : Nat) "CrossroadsChoose" "HIGHEST" "[I"), (Jvm.Cond.laysStatic "CrossroadsChoose" "HIGHEST" "[I"), (Jvm.Cond.methodLink "CrossroadsChoose" (83 : Nat) ({ cls := "CrossroadsChoose$Crossing", name := "isFull", desc := "()Z" } : Jvm.MethodName)), (Jvm.Cond.instanceMethod ({ cls := "CrossroadsChoose$Crossing", name := "isFull", desc := "()Z" } : Jvm.MethodName)), (Jvm.Cond.selects "CrossroadsChoose$Crossing" ({ cls := "CrossroadsChoose$Crossing", name := "isFull", desc := "()Z" } : Jvm.MethodName) ({ cls := "CrossroadsChoose$Crossing", name := "isFull", desc := "()Z" } : Jvm.MethodName)), (Jvm.Cond.code ({ cls := "CrossroadsChoose$Crossing", name := "isFull", desc := "()Z" } : Jvm.MethodName) prog_4_method_3_code (1 : Nat) (Option.some Jvm.ClassFile.FieldType.boolean)), (Jvm.Cond.methodLink "CrossroadsChoose" (87 : Nat) ({ cls := "CrossroadsChoose$Crossing", name := "add", desc := "(III)I" } : Jvm.MethodName))] from rfl) ▸ h)))
theorem ck_2_32 (w : Cond) (h : w ∈ [(Jvm.Cond.instanceMethod ({ cls := "CrossroadsChoose$Crossing", name := "add", desc := "(III)I" } : Jvm.MethodName)), (Jvm.Cond.selects "CrossroadsChoose$Crossing" ({ cls := "CrossroadsChoose$Crossing", name := "add", desc := "(III)I" } : Jvm.MethodName) ({ cls := "CrossroadsChoose$Crossing", name := "add", desc := "(III)I" } : Jvm.MethodName)), (Jvm.Cond.code ({ cls := "CrossroadsChoose$Crossing", name := "add", desc := "(III)I" } : Jvm.MethodName) prog_4_method_5_code (5 : Nat) (Option.some Jvm.ClassFile.FieldType.int)), (Jvm.Cond.methodLink "CrossroadsChoose$Crossing" (23 : Nat) ({ cls := "CrossroadsChoose$Crossing", name := "isFull", desc := "()Z" } : Jvm.MethodName)), (Jvm.Cond.methodLink "CrossroadsChoose$Crossing" (27 : Nat) ({ cls := "CrossroadsChoose$Crossing", name := "become", desc := "(III)V" } : Jvm.MethodName)), (Jvm.Cond.instanceMethod ({ cls := "CrossroadsChoose$Crossing", name := "become", desc := "(III)V" } : Jvm.MethodName)), (Jvm.Cond.selects "CrossroadsChoose$Crossing" ({ cls := "CrossroadsChoose$Crossing", name := "become", desc := "(III)V" } : Jvm.MethodName) ({ cls := "CrossroadsChoose$Crossing", name := "become", desc := "(III)V" } : Jvm.MethodName)), (Jvm.Cond.code ({ cls := "CrossroadsChoose$Crossing", name := "become", desc := "(III)V" } : Jvm.MethodName) prog_4_method_8_code (5 : Nat) (Option.none : Option Jvm.ClassFile.FieldType)), (Jvm.Cond.methodLink "CrossroadsChoose$Crossing" (31 : Nat) ({ cls := "CrossroadsChoose$Crossing", name := "placeOf", desc := "(II)I" } : Jvm.MethodName)), (Jvm.Cond.privateMethod ({ cls := "CrossroadsChoose$Crossing", name := "placeOf", desc := "(II)I" } : Jvm.MethodName)), (Jvm.Cond.instanceMethod ({ cls := "CrossroadsChoose$Crossing", name := "placeOf", desc := "(II)I" } : Jvm.MethodName)), (Jvm.Cond.code ({ cls := "CrossroadsChoose$Crossing", name := "placeOf", desc := "(II)I" } : Jvm.MethodName) prog_4_method_6_code (3 : Nat) (Option.some Jvm.ClassFile.FieldType.int)), (Jvm.Cond.methodLink "CrossroadsChooseLaw" (18 : Nat) ({ cls := "CrossroadsChoose", name := "roads", desc := "(III)I" } : Jvm.MethodName)), (Jvm.Cond.instanceMethod ({ cls := "CrossroadsChoose", name := "roads", desc := "(III)I" } : Jvm.MethodName)), (Jvm.Cond.selects "CrossroadsChoose" ({ cls := "CrossroadsChoose", name := "roads", desc := "(III)I" } : Jvm.MethodName) ({ cls := "CrossroadsChoose", name := "roads", desc := "(III)I" } : Jvm.MethodName)), (Jvm.Cond.code ({ cls := "CrossroadsChoose", name := "roads", desc := "(III)I" } : Jvm.MethodName) prog_1_method_3_code (6 : Nat) (Option.some Jvm.ClassFile.FieldType.int))]) : w ∈ lw_tbl := tk_2 (List.mem_of_mem_drop (i := 32) (List.mem_of_mem_take (i := 16) ((show (tables_1_2.drop 32).take 16 = [(Jvm.Cond.instanceMethod ({ cls := "CrossroadsChoose$Crossing", name := "add", desc := "(III)I" } : Jvm.MethodName)), (Jvm.Cond.selects "CrossroadsChoose$Crossing" ({ cls := "CrossroadsChoose$Crossing", name := "add", desc := "(III)I" } : Jvm.MethodName) ({ cls := "CrossroadsChoose$Crossing", name := "add", desc := "(III)I" } : Jvm.MethodName)), (Jvm.Cond.code ({ cls := "CrossroadsChoose$Crossing", name := "add", desc := "(III)I" } : Jvm.MethodName) prog_4_method_5_code (5 : Nat) (Option.some Jvm.ClassFile.FieldType.int)), (Jvm.Cond.methodLink "CrossroadsChoose$Crossing" (23 : Nat) ({ cls := "CrossroadsChoose$Crossing", name := "isFull", desc := "()Z" } : Jvm.MethodName)), (Jvm.Cond.methodLink "CrossroadsChoose$Crossing" (27 : Nat) ({ cls := "CrossroadsChoose$Crossing", name := "become", desc := "(III)V" } : Jvm.MethodName)), (Jvm.Cond.instanceMethod ({ cls := "CrossroadsChoose$Crossing", name := "become", desc := "(III)V" } : Jvm.MethodName)), (Jvm.Cond.selects "CrossroadsChoose$Crossing" ({ cls := "CrossroadsChoose$Crossing", name := "become", desc := "(III)V" } : Jvm.MethodName) ({ cls := "CrossroadsChoose$Crossing", name := "become", desc := "(III)V" } : Jvm.MethodName)), (Jvm.Cond.code ({ cls := "CrossroadsChoose$Crossing", name := "become", desc := "(III)V" } : Jvm.MethodName) prog_4_method_8_code (5 : Nat) (Option.none : Option Jvm.ClassFile.FieldType)), (Jvm.Cond.methodLink "CrossroadsChoose$Crossing" (31 : Nat) ({ cls := "CrossroadsChoose$Crossing", name := "placeOf", desc := "(II)I" } : Jvm.MethodName)), (Jvm.Cond.privateMethod ({ cls := "CrossroadsChoose$Crossing", name := "placeOf", desc := "(II)I" } : Jvm.MethodName)), (Jvm.Cond.instanceMethod ({ cls := "CrossroadsChoose$Crossing", name := "placeOf", desc := "(II)I" } : Jvm.MethodName)), (Jvm.Cond.code ({ cls := "CrossroadsChoose$Crossing", name := "placeOf", desc := "(II)I" } : Jvm.MethodName) prog_4_method_6_code (3 : Nat) (Option.some Jvm.ClassFile.FieldType.int)), (Jvm.Cond.methodLink "CrossroadsChooseLaw" (18 : Nat) ({ cls := "CrossroadsChoose", name := "roads", desc := "(III)I" } : Jvm.MethodName)), (Jvm.Cond.instanceMethod ({ cls := "CrossroadsChoose", name := "roads", desc := "(III)I" } : Jvm.MethodName)), (Jvm.Cond.selects "CrossroadsChoose" ({ cls := "CrossroadsChoose", name := "roads", desc := "(III)I" } : Jvm.MethodName) ({ cls := "CrossroadsChoose", name := "roads", desc := "(III)I" } : Jvm.MethodName)), (Jvm.Cond.code ({ cls := "CrossroadsChoose", name := "roads", desc := "(III)I" } : Jvm.MethodName) prog_1_method_3_code (6 : Nat) (Option.some Jvm.ClassFile.FieldType.int))] from rfl) ▸ h)))
theorem ck_2_48 (w : Cond) (h : w ∈ [(Jvm.Cond.methodLink "CrossroadsChoose" (91 : Nat) ({ cls := "CrossroadsChoose", name := "shelfAt", desc := "(I)LCrossroadsChoose$Shelf;" } : Jvm.MethodName)), (Jvm.Cond.privateMethod ({ cls := "CrossroadsChoose", name := "shelfAt", desc := "(I)LCrossroadsChoose$Shelf;" } : Jvm.MethodName)), (Jvm.Cond.instanceMethod ({ cls := "CrossroadsChoose", name := "shelfAt", desc := "(I)LCrossroadsChoose$Shelf;" } : Jvm.MethodName)), (Jvm.Cond.code ({ cls := "CrossroadsChoose", name := "shelfAt", desc := "(I)LCrossroadsChoose$Shelf;" } : Jvm.MethodName) prog_1_method_56_code (2 : Nat) (Option.some (Jvm.ClassFile.FieldType.object "CrossroadsChoose$Shelf"))), (Jvm.Cond.methodLink "CrossroadsChoose" (95 : Nat) ({ cls := "CrossroadsChoose$Shelf", name := "holdsNothing", desc := "()Z" } : Jvm.MethodName)), (Jvm.Cond.instanceMethod ({ cls := "CrossroadsChoose$Shelf", name := "holdsNothing", desc := "()Z" } : Jvm.MethodName)), (Jvm.Cond.selects "CrossroadsChoose$Shelf" ({ cls := "CrossroadsChoose$Shelf", name := "holdsNothing", desc := "()Z" } : Jvm.MethodName) ({ cls := "CrossroadsChoose$Shelf", name := "holdsNothing", desc := "()Z" } : Jvm.MethodName)), (Jvm.Cond.code ({ cls := "CrossroadsChoose$Shelf", name := "holdsNothing", desc := "()Z" } : Jvm.MethodName) prog_7_method_2_code (1 : Nat) (Option.some Jvm.ClassFile.FieldType.boolean)), (Jvm.Cond.methodLink "CrossroadsChoose" (98 : Nat) ({ cls := "CrossroadsChoose$Shelf", name := "holdsBytes", desc := "()Z" } : Jvm.MethodName)), (Jvm.Cond.instanceMethod ({ cls := "CrossroadsChoose$Shelf", name := "holdsBytes", desc := "()Z" } : Jvm.MethodName)), (Jvm.Cond.selects "CrossroadsChoose$Shelf" ({ cls := "CrossroadsChoose$Shelf", name := "holdsBytes", desc := "()Z" } : Jvm.MethodName) ({ cls := "CrossroadsChoose$Shelf", name := "holdsBytes", desc := "()Z" } : Jvm.MethodName)), (Jvm.Cond.code ({ cls := "CrossroadsChoose$Shelf", name := "holdsBytes", desc := "()Z" } : Jvm.MethodName) prog_7_method_4_code (1 : Nat) (Option.some Jvm.ClassFile.FieldType.boolean)), (Jvm.Cond.methodLink "CrossroadsChoose" (101 : Nat) ({ cls := "CrossroadsChoose", name := "addedFrom", desc := "(LCrossroadsChoose$Shelf;I)Z" } : Jvm.MethodName)), (Jvm.Cond.privateMethod ({ cls := "CrossroadsChoose", name := "addedFrom", desc := "(LCrossroadsChoose$Shelf;I)Z" } : Jvm.MethodName)), (Jvm.Cond.instanceMethod ({ cls := "CrossroadsChoose", name := "addedFrom", desc := "(LCrossroadsChoose$Shelf;I)Z" } : Jvm.MethodName)), (Jvm.Cond.code ({ cls := "CrossroadsChoose", name := "addedFrom", desc := "(LCrossroadsChoose$Shelf;I)Z" } : Jvm.MethodName) prog_1_method_4_code (6 : Nat) (Option.some Jvm.ClassFile.FieldType.boolean))]) : w ∈ lw_tbl := tk_2 (List.mem_of_mem_drop (i := 48) (List.mem_of_mem_take (i := 16) ((show (tables_1_2.drop 48).take 16 = [(Jvm.Cond.methodLink "CrossroadsChoose" (91 : Nat) ({ cls := "CrossroadsChoose", name := "shelfAt", desc := "(I)LCrossroadsChoose$Shelf;" } : Jvm.MethodName)), (Jvm.Cond.privateMethod ({ cls := "CrossroadsChoose", name := "shelfAt", desc := "(I)LCrossroadsChoose$Shelf;" } : Jvm.MethodName)), (Jvm.Cond.instanceMethod ({ cls := "CrossroadsChoose", name := "shelfAt", desc := "(I)LCrossroadsChoose$Shelf;" } : Jvm.MethodName)), (Jvm.Cond.code ({ cls := "CrossroadsChoose", name := "shelfAt", desc := "(I)LCrossroadsChoose$Shelf;" } : Jvm.MethodName) prog_1_method_56_code (2 : Nat) (Option.some (Jvm.ClassFile.FieldType.object "CrossroadsChoose$Shelf"))), (Jvm.Cond.methodLink "CrossroadsChoose" (95 : Nat) ({ cls := "CrossroadsChoose$Shelf", name := "holdsNothing", desc := "()Z" } : Jvm.MethodName)), (Jvm.Cond.instanceMethod ({ cls := "CrossroadsChoose$Shelf", name := "holdsNothing", desc := "()Z" } : Jvm.MethodName)), (Jvm.Cond.selects "CrossroadsChoose$Shelf" ({ cls := "CrossroadsChoose$Shelf", name := "holdsNothing", desc := "()Z" } : Jvm.MethodName) ({ cls := "CrossroadsChoose$Shelf", name := "holdsNothing", desc := "()Z" } : Jvm.MethodName)), (Jvm.Cond.code ({ cls := "CrossroadsChoose$Shelf", name := "holdsNothing", desc := "()Z" } : Jvm.MethodName) prog_7_method_2_code (1 : Nat) (Option.some Jvm.ClassFile.FieldType.boolean)), (Jvm.Cond.methodLink "CrossroadsChoose" (98 : Nat) ({ cls := "CrossroadsChoose$Shelf", name := "holdsBytes", desc := "()Z" } : Jvm.MethodName)), (Jvm.Cond.instanceMethod ({ cls := "CrossroadsChoose$Shelf", name := "holdsBytes", desc := "()Z" } : Jvm.MethodName)), (Jvm.Cond.selects "CrossroadsChoose$Shelf" ({ cls := "CrossroadsChoose$Shelf", name := "holdsBytes", desc := "()Z" } : Jvm.MethodName) ({ cls := "CrossroadsChoose$Shelf", name := "holdsBytes", desc := "()Z" } : Jvm.MethodName)), (Jvm.Cond.code ({ cls := "CrossroadsChoose$Shelf", name := "holdsBytes", desc := "()Z" } : Jvm.MethodName) prog_7_method_4_code (1 : Nat) (Option.some Jvm.ClassFile.FieldType.boolean)), (Jvm.Cond.methodLink "CrossroadsChoose" (101 : Nat) ({ cls := "CrossroadsChoose", name := "addedFrom", desc := "(LCrossroadsChoose$Shelf;I)Z" } : Jvm.MethodName)), (Jvm.Cond.privateMethod ({ cls := "CrossroadsChoose", name := "addedFrom", desc := "(LCrossroadsChoose$Shelf;I)Z" } : Jvm.MethodName)), (Jvm.Cond.instanceMethod ({ cls := "CrossroadsChoose", name := "addedFrom", desc := "(LCrossroadsChoose$Shelf;I)Z" } : Jvm.MethodName)), (Jvm.Cond.code ({ cls := "CrossroadsChoose", name := "addedFrom", desc := "(LCrossroadsChoose$Shelf;I)Z" } : Jvm.MethodName) prog_1_method_4_code (6 : Nat) (Option.some Jvm.ClassFile.FieldType.boolean))] from rfl) ▸ h)))
theorem ck_2_64 (w : Cond) (h : w ∈ [(Jvm.Cond.methodLink "CrossroadsChoose" (105 : Nat) ({ cls := "CrossroadsChoose$Shelf", name := "hasRoom", desc := "(II)Z" } : Jvm.MethodName)), (Jvm.Cond.instanceMethod ({ cls := "CrossroadsChoose$Shelf", name := "hasRoom", desc := "(II)Z" } : Jvm.MethodName)), (Jvm.Cond.selects "CrossroadsChoose$Shelf" ({ cls := "CrossroadsChoose$Shelf", name := "hasRoom", desc := "(II)Z" } : Jvm.MethodName) ({ cls := "CrossroadsChoose$Shelf", name := "hasRoom", desc := "(II)Z" } : Jvm.MethodName)), (Jvm.Cond.code ({ cls := "CrossroadsChoose$Shelf", name := "hasRoom", desc := "(II)Z" } : Jvm.MethodName) prog_7_method_8_code (3 : Nat) (Option.some Jvm.ClassFile.FieldType.boolean)), (Jvm.Cond.methodLink "CrossroadsChoose" (108 : Nat) ({ cls := "CrossroadsChoose$Shelf", name := "small", desc := "(I)I" } : Jvm.MethodName)), (Jvm.Cond.instanceMethod ({ cls := "CrossroadsChoose$Shelf", name := "small", desc := "(I)I" } : Jvm.MethodName)), (Jvm.Cond.selects "CrossroadsChoose$Shelf" ({ cls := "CrossroadsChoose$Shelf", name := "small", desc := "(I)I" } : Jvm.MethodName) ({ cls := "CrossroadsChoose$Shelf", name := "small", desc := "(I)I" } : Jvm.MethodName)), (Jvm.Cond.code ({ cls := "CrossroadsChoose$Shelf", name := "small", desc := "(I)I" } : Jvm.MethodName) prog_7_method_10_code (2 : Nat) (Option.some Jvm.ClassFile.FieldType.int)), (Jvm.Cond.methodLink "CrossroadsChoose$Shelf" (47 : Nat) ({ cls := "CrossroadsChoose$Shelf", name := "valueAt", desc := "(I)J" } : Jvm.MethodName)), (Jvm.Cond.instanceMethod ({ cls := "CrossroadsChoose$Shelf", name := "valueAt", desc := "(I)J" } : Jvm.MethodName)), (Jvm.Cond.selects "CrossroadsChoose$Shelf" ({ cls := "CrossroadsChoose$Shelf", name := "valueAt", desc := "(I)J" } : Jvm.MethodName) ({ cls := "CrossroadsChoose$Shelf", name := "valueAt", desc := "(I)J" } : Jvm.MethodName)), (Jvm.Cond.code ({ cls := "CrossroadsChoose$Shelf", name := "valueAt", desc := "(I)J" } : Jvm.MethodName) prog_7_method_9_code (2 : Nat) (Option.some Jvm.ClassFile.FieldType.long)), (Jvm.Cond.methodLink "CrossroadsChoose$Shelf" (43 : Nat) ({ cls := "CrossroadsChoose$Shelf", name := "hasRoom", desc := "(II)Z" } : Jvm.MethodName)), (Jvm.Cond.methodLink "CrossroadsChooseLaw" (23 : Nat) ({ cls := "CrossroadsChoose", name := "mend", desc := "(III)I" } : Jvm.MethodName)), (Jvm.Cond.instanceMethod ({ cls := "CrossroadsChoose", name := "mend", desc := "(III)I" } : Jvm.MethodName)), (Jvm.Cond.selects "CrossroadsChoose" ({ cls := "CrossroadsChoose", name := "mend", desc := "(III)I" } : Jvm.MethodName) ({ cls := "CrossroadsChoose", name := "mend", desc := "(III)I" } : Jvm.MethodName))]) : w ∈ lw_tbl := tk_2 (List.mem_of_mem_drop (i := 64) (List.mem_of_mem_take (i := 16) ((show (tables_1_2.drop 64).take 16 = [(Jvm.Cond.methodLink "CrossroadsChoose" (105 : Nat) ({ cls := "CrossroadsChoose$Shelf", name := "hasRoom", desc := "(II)Z" } : Jvm.MethodName)), (Jvm.Cond.instanceMethod ({ cls := "CrossroadsChoose$Shelf", name := "hasRoom", desc := "(II)Z" } : Jvm.MethodName)), (Jvm.Cond.selects "CrossroadsChoose$Shelf" ({ cls := "CrossroadsChoose$Shelf", name := "hasRoom", desc := "(II)Z" } : Jvm.MethodName) ({ cls := "CrossroadsChoose$Shelf", name := "hasRoom", desc := "(II)Z" } : Jvm.MethodName)), (Jvm.Cond.code ({ cls := "CrossroadsChoose$Shelf", name := "hasRoom", desc := "(II)Z" } : Jvm.MethodName) prog_7_method_8_code (3 : Nat) (Option.some Jvm.ClassFile.FieldType.boolean)), (Jvm.Cond.methodLink "CrossroadsChoose" (108 : Nat) ({ cls := "CrossroadsChoose$Shelf", name := "small", desc := "(I)I" } : Jvm.MethodName)), (Jvm.Cond.instanceMethod ({ cls := "CrossroadsChoose$Shelf", name := "small", desc := "(I)I" } : Jvm.MethodName)), (Jvm.Cond.selects "CrossroadsChoose$Shelf" ({ cls := "CrossroadsChoose$Shelf", name := "small", desc := "(I)I" } : Jvm.MethodName) ({ cls := "CrossroadsChoose$Shelf", name := "small", desc := "(I)I" } : Jvm.MethodName)), (Jvm.Cond.code ({ cls := "CrossroadsChoose$Shelf", name := "small", desc := "(I)I" } : Jvm.MethodName) prog_7_method_10_code (2 : Nat) (Option.some Jvm.ClassFile.FieldType.int)), (Jvm.Cond.methodLink "CrossroadsChoose$Shelf" (47 : Nat) ({ cls := "CrossroadsChoose$Shelf", name := "valueAt", desc := "(I)J" } : Jvm.MethodName)), (Jvm.Cond.instanceMethod ({ cls := "CrossroadsChoose$Shelf", name := "valueAt", desc := "(I)J" } : Jvm.MethodName)), (Jvm.Cond.selects "CrossroadsChoose$Shelf" ({ cls := "CrossroadsChoose$Shelf", name := "valueAt", desc := "(I)J" } : Jvm.MethodName) ({ cls := "CrossroadsChoose$Shelf", name := "valueAt", desc := "(I)J" } : Jvm.MethodName)), (Jvm.Cond.code ({ cls := "CrossroadsChoose$Shelf", name := "valueAt", desc := "(I)J" } : Jvm.MethodName) prog_7_method_9_code (2 : Nat) (Option.some Jvm.ClassFile.FieldType.long)), (Jvm.Cond.methodLink "CrossroadsChoose$Shelf" (43 : Nat) ({ cls := "CrossroadsChoose$Shelf", name := "hasRoom", desc := "(II)Z" } : Jvm.MethodName)), (Jvm.Cond.methodLink "CrossroadsChooseLaw" (23 : Nat) ({ cls := "CrossroadsChoose", name := "mend", desc := "(III)I" } : Jvm.MethodName)), (Jvm.Cond.instanceMethod ({ cls := "CrossroadsChoose", name := "mend", desc := "(III)I" } : Jvm.MethodName)), (Jvm.Cond.selects "CrossroadsChoose" ({ cls := "CrossroadsChoose", name := "mend", desc := "(III)I" } : Jvm.MethodName) ({ cls := "CrossroadsChoose", name := "mend", desc := "(III)I" } : Jvm.MethodName))] from rfl) ▸ h)))
theorem ck_2_80 (w : Cond) (h : w ∈ [(Jvm.Cond.code ({ cls := "CrossroadsChoose", name := "mend", desc := "(III)I" } : Jvm.MethodName) prog_1_method_5_code (5 : Nat) (Option.some Jvm.ClassFile.FieldType.int)), (Jvm.Cond.methodLink "CrossroadsChoose" (112 : Nat) ({ cls := "CrossroadsChoose$Crossing", name := "number", desc := "(II)I" } : Jvm.MethodName)), (Jvm.Cond.instanceMethod ({ cls := "CrossroadsChoose$Crossing", name := "number", desc := "(II)I" } : Jvm.MethodName)), (Jvm.Cond.selects "CrossroadsChoose$Crossing" ({ cls := "CrossroadsChoose$Crossing", name := "number", desc := "(II)I" } : Jvm.MethodName) ({ cls := "CrossroadsChoose$Crossing", name := "number", desc := "(II)I" } : Jvm.MethodName)), (Jvm.Cond.code ({ cls := "CrossroadsChoose$Crossing", name := "number", desc := "(II)I" } : Jvm.MethodName) prog_4_method_7_code (4 : Nat) (Option.some Jvm.ClassFile.FieldType.int)), (Jvm.Cond.constant "CrossroadsChoose$Crossing" (35 : Nat) (-2000000000 : Int32)), (Jvm.Cond.constant "CrossroadsChoose" (116 : Nat) (-2000000000 : Int32)), (Jvm.Cond.methodLink "CrossroadsChoose" (117 : Nat) ({ cls := "CrossroadsChoose$Changes", name := "note", desc := "(IIII)V" } : Jvm.MethodName)), (Jvm.Cond.instanceMethod ({ cls := "CrossroadsChoose$Changes", name := "note", desc := "(IIII)V" } : Jvm.MethodName)), (Jvm.Cond.selects "CrossroadsChoose$Changes" ({ cls := "CrossroadsChoose$Changes", name := "note", desc := "(IIII)V" } : Jvm.MethodName) ({ cls := "CrossroadsChoose$Changes", name := "note", desc := "(IIII)V" } : Jvm.MethodName)), (Jvm.Cond.code ({ cls := "CrossroadsChoose$Changes", name := "note", desc := "(IIII)V" } : Jvm.MethodName) prog_3_method_2_code (5 : Nat) (Option.none : Option Jvm.ClassFile.FieldType)), (Jvm.Cond.methodLink "CrossroadsChoose$Changes" (26 : Nat) ({ cls := "CrossroadsChoose$Changes", name := "dropFirst", desc := "([I)V" } : Jvm.MethodName)), (Jvm.Cond.static ({ cls := "CrossroadsChoose$Changes", name := "dropFirst", desc := "([I)V" } : Jvm.MethodName)), (Jvm.Cond.code ({ cls := "CrossroadsChoose$Changes", name := "dropFirst", desc := "([I)V" } : Jvm.MethodName) prog_3_method_3_code (1 : Nat) (Option.none : Option Jvm.ClassFile.FieldType)), (Jvm.Cond.methodLink "CrossroadsChoose$Changes" (33 : Nat) ({ cls := "java/lang/System", name := "arraycopy", desc := "(Ljava/lang/Object;ILjava/lang/Object;II)V" } : Jvm.MethodName)), (Jvm.Cond.static ({ cls := "java/lang/System", name := "arraycopy", desc := "(Ljava/lang/Object;ILjava/lang/Object;II)V" } : Jvm.MethodName))]) : w ∈ lw_tbl := tk_2 (List.mem_of_mem_drop (i := 80) (List.mem_of_mem_take (i := 16) ((show (tables_1_2.drop 80).take 16 = [(Jvm.Cond.code ({ cls := "CrossroadsChoose", name := "mend", desc := "(III)I" } : Jvm.MethodName) prog_1_method_5_code (5 : Nat) (Option.some Jvm.ClassFile.FieldType.int)), (Jvm.Cond.methodLink "CrossroadsChoose" (112 : Nat) ({ cls := "CrossroadsChoose$Crossing", name := "number", desc := "(II)I" } : Jvm.MethodName)), (Jvm.Cond.instanceMethod ({ cls := "CrossroadsChoose$Crossing", name := "number", desc := "(II)I" } : Jvm.MethodName)), (Jvm.Cond.selects "CrossroadsChoose$Crossing" ({ cls := "CrossroadsChoose$Crossing", name := "number", desc := "(II)I" } : Jvm.MethodName) ({ cls := "CrossroadsChoose$Crossing", name := "number", desc := "(II)I" } : Jvm.MethodName)), (Jvm.Cond.code ({ cls := "CrossroadsChoose$Crossing", name := "number", desc := "(II)I" } : Jvm.MethodName) prog_4_method_7_code (4 : Nat) (Option.some Jvm.ClassFile.FieldType.int)), (Jvm.Cond.constant "CrossroadsChoose$Crossing" (35 : Nat) (-2000000000 : Int32)), (Jvm.Cond.constant "CrossroadsChoose" (116 : Nat) (-2000000000 : Int32)), (Jvm.Cond.methodLink "CrossroadsChoose" (117 : Nat) ({ cls := "CrossroadsChoose$Changes", name := "note", desc := "(IIII)V" } : Jvm.MethodName)), (Jvm.Cond.instanceMethod ({ cls := "CrossroadsChoose$Changes", name := "note", desc := "(IIII)V" } : Jvm.MethodName)), (Jvm.Cond.selects "CrossroadsChoose$Changes" ({ cls := "CrossroadsChoose$Changes", name := "note", desc := "(IIII)V" } : Jvm.MethodName) ({ cls := "CrossroadsChoose$Changes", name := "note", desc := "(IIII)V" } : Jvm.MethodName)), (Jvm.Cond.code ({ cls := "CrossroadsChoose$Changes", name := "note", desc := "(IIII)V" } : Jvm.MethodName) prog_3_method_2_code (5 : Nat) (Option.none : Option Jvm.ClassFile.FieldType)), (Jvm.Cond.methodLink "CrossroadsChoose$Changes" (26 : Nat) ({ cls := "CrossroadsChoose$Changes", name := "dropFirst", desc := "([I)V" } : Jvm.MethodName)), (Jvm.Cond.static ({ cls := "CrossroadsChoose$Changes", name := "dropFirst", desc := "([I)V" } : Jvm.MethodName)), (Jvm.Cond.code ({ cls := "CrossroadsChoose$Changes", name := "dropFirst", desc := "([I)V" } : Jvm.MethodName) prog_3_method_3_code (1 : Nat) (Option.none : Option Jvm.ClassFile.FieldType)), (Jvm.Cond.methodLink "CrossroadsChoose$Changes" (33 : Nat) ({ cls := "java/lang/System", name := "arraycopy", desc := "(Ljava/lang/Object;ILjava/lang/Object;II)V" } : Jvm.MethodName)), (Jvm.Cond.static ({ cls := "java/lang/System", name := "arraycopy", desc := "(Ljava/lang/Object;ILjava/lang/Object;II)V" } : Jvm.MethodName))] from rfl) ▸ h)))
theorem ck_2_96 (w : Cond) (h : w ∈ [(Jvm.Cond.native ({ cls := "java/lang/System", name := "arraycopy", desc := "(Ljava/lang/Object;ILjava/lang/Object;II)V" } : Jvm.MethodName)), (Jvm.Cond.methodLink "CrossroadsChoose" (121 : Nat) ({ cls := "CrossroadsChoose$Crossing", name := "become", desc := "(III)V" } : Jvm.MethodName)), (Jvm.Cond.methodLink "CrossroadsChooseLaw" (27 : Nat) ({ cls := "CrossroadsChoose", name := "of", desc := "(II)I" } : Jvm.MethodName)), (Jvm.Cond.instanceMethod ({ cls := "CrossroadsChoose", name := "of", desc := "(II)I" } : Jvm.MethodName)), (Jvm.Cond.selects "CrossroadsChoose" ({ cls := "CrossroadsChoose", name := "of", desc := "(II)I" } : Jvm.MethodName) ({ cls := "CrossroadsChoose", name := "of", desc := "(II)I" } : Jvm.MethodName)), (Jvm.Cond.code ({ cls := "CrossroadsChoose", name := "of", desc := "(II)I" } : Jvm.MethodName) prog_1_method_6_code (3 : Nat) (Option.some Jvm.ClassFile.FieldType.int)), (Jvm.Cond.methodLink "CrossroadsChooseLaw" (31 : Nat) ({ cls := "CrossroadsChoose", name := "feed", desc := "(I)I" } : Jvm.MethodName)), (Jvm.Cond.instanceMethod ({ cls := "CrossroadsChoose", name := "feed", desc := "(I)I" } : Jvm.MethodName)), (Jvm.Cond.selects "CrossroadsChoose" ({ cls := "CrossroadsChoose", name := "feed", desc := "(I)I" } : Jvm.MethodName) ({ cls := "CrossroadsChoose", name := "feed", desc := "(I)I" } : Jvm.MethodName)), (Jvm.Cond.code ({ cls := "CrossroadsChoose", name := "feed", desc := "(I)I" } : Jvm.MethodName) prog_1_method_7_code (2 : Nat) (Option.some Jvm.ClassFile.FieldType.int)), (Jvm.Cond.methodLink "CrossroadsChoose" (125 : Nat) ({ cls := "CrossroadsChoose$Tape", name := "isFull", desc := "()Z" } : Jvm.MethodName)), (Jvm.Cond.instanceMethod ({ cls := "CrossroadsChoose$Tape", name := "isFull", desc := "()Z" } : Jvm.MethodName)), (Jvm.Cond.selects "CrossroadsChoose$Tape" ({ cls := "CrossroadsChoose$Tape", name := "isFull", desc := "()Z" } : Jvm.MethodName) ({ cls := "CrossroadsChoose$Tape", name := "isFull", desc := "()Z" } : Jvm.MethodName)), (Jvm.Cond.code ({ cls := "CrossroadsChoose$Tape", name := "isFull", desc := "()Z" } : Jvm.MethodName) prog_8_method_2_code (1 : Nat) (Option.some Jvm.ClassFile.FieldType.boolean)), (Jvm.Cond.methodLink "CrossroadsChoose" (126 : Nat) ({ cls := "CrossroadsChoose$Tape", name := "add", desc := "(I)I" } : Jvm.MethodName)), (Jvm.Cond.instanceMethod ({ cls := "CrossroadsChoose$Tape", name := "add", desc := "(I)I" } : Jvm.MethodName))]) : w ∈ lw_tbl := tk_2 (List.mem_of_mem_drop (i := 96) (List.mem_of_mem_take (i := 16) ((show (tables_1_2.drop 96).take 16 = [(Jvm.Cond.native ({ cls := "java/lang/System", name := "arraycopy", desc := "(Ljava/lang/Object;ILjava/lang/Object;II)V" } : Jvm.MethodName)), (Jvm.Cond.methodLink "CrossroadsChoose" (121 : Nat) ({ cls := "CrossroadsChoose$Crossing", name := "become", desc := "(III)V" } : Jvm.MethodName)), (Jvm.Cond.methodLink "CrossroadsChooseLaw" (27 : Nat) ({ cls := "CrossroadsChoose", name := "of", desc := "(II)I" } : Jvm.MethodName)), (Jvm.Cond.instanceMethod ({ cls := "CrossroadsChoose", name := "of", desc := "(II)I" } : Jvm.MethodName)), (Jvm.Cond.selects "CrossroadsChoose" ({ cls := "CrossroadsChoose", name := "of", desc := "(II)I" } : Jvm.MethodName) ({ cls := "CrossroadsChoose", name := "of", desc := "(II)I" } : Jvm.MethodName)), (Jvm.Cond.code ({ cls := "CrossroadsChoose", name := "of", desc := "(II)I" } : Jvm.MethodName) prog_1_method_6_code (3 : Nat) (Option.some Jvm.ClassFile.FieldType.int)), (Jvm.Cond.methodLink "CrossroadsChooseLaw" (31 : Nat) ({ cls := "CrossroadsChoose", name := "feed", desc := "(I)I" } : Jvm.MethodName)), (Jvm.Cond.instanceMethod ({ cls := "CrossroadsChoose", name := "feed", desc := "(I)I" } : Jvm.MethodName)), (Jvm.Cond.selects "CrossroadsChoose" ({ cls := "CrossroadsChoose", name := "feed", desc := "(I)I" } : Jvm.MethodName) ({ cls := "CrossroadsChoose", name := "feed", desc := "(I)I" } : Jvm.MethodName)), (Jvm.Cond.code ({ cls := "CrossroadsChoose", name := "feed", desc := "(I)I" } : Jvm.MethodName) prog_1_method_7_code (2 : Nat) (Option.some Jvm.ClassFile.FieldType.int)), (Jvm.Cond.methodLink "CrossroadsChoose" (125 : Nat) ({ cls := "CrossroadsChoose$Tape", name := "isFull", desc := "()Z" } : Jvm.MethodName)), (Jvm.Cond.instanceMethod ({ cls := "CrossroadsChoose$Tape", name := "isFull", desc := "()Z" } : Jvm.MethodName)), (Jvm.Cond.selects "CrossroadsChoose$Tape" ({ cls := "CrossroadsChoose$Tape", name := "isFull", desc := "()Z" } : Jvm.MethodName) ({ cls := "CrossroadsChoose$Tape", name := "isFull", desc := "()Z" } : Jvm.MethodName)), (Jvm.Cond.code ({ cls := "CrossroadsChoose$Tape", name := "isFull", desc := "()Z" } : Jvm.MethodName) prog_8_method_2_code (1 : Nat) (Option.some Jvm.ClassFile.FieldType.boolean)), (Jvm.Cond.methodLink "CrossroadsChoose" (126 : Nat) ({ cls := "CrossroadsChoose$Tape", name := "add", desc := "(I)I" } : Jvm.MethodName)), (Jvm.Cond.instanceMethod ({ cls := "CrossroadsChoose$Tape", name := "add", desc := "(I)I" } : Jvm.MethodName))] from rfl) ▸ h)))
theorem ck_2_112 (w : Cond) (h : w ∈ [(Jvm.Cond.selects "CrossroadsChoose$Tape" ({ cls := "CrossroadsChoose$Tape", name := "add", desc := "(I)I" } : Jvm.MethodName) ({ cls := "CrossroadsChoose$Tape", name := "add", desc := "(I)I" } : Jvm.MethodName)), (Jvm.Cond.code ({ cls := "CrossroadsChoose$Tape", name := "add", desc := "(I)I" } : Jvm.MethodName) prog_8_method_3_code (2 : Nat) (Option.some Jvm.ClassFile.FieldType.int)), (Jvm.Cond.methodLink "CrossroadsChoose$Tape" (17 : Nat) ({ cls := "CrossroadsChoose$Tape", name := "isFull", desc := "()Z" } : Jvm.MethodName)), (Jvm.Cond.methodLink "CrossroadsChooseLaw" (36 : Nat) ({ cls := "CrossroadsChoose", name := "law", desc := "()I" } : Jvm.MethodName)), (Jvm.Cond.instanceMethod ({ cls := "CrossroadsChoose", name := "law", desc := "()I" } : Jvm.MethodName)), (Jvm.Cond.selects "CrossroadsChoose" ({ cls := "CrossroadsChoose", name := "law", desc := "()I" } : Jvm.MethodName) ({ cls := "CrossroadsChoose", name := "law", desc := "()I" } : Jvm.MethodName)), (Jvm.Cond.code ({ cls := "CrossroadsChoose", name := "law", desc := "()I" } : Jvm.MethodName) prog_1_method_8_code (3 : Nat) (Option.some Jvm.ClassFile.FieldType.int)), (Jvm.Cond.methodLink "CrossroadsChoose" (128 : Nat) ({ cls := "CrossroadsChoose$Tape", name := "readInto", desc := "(LCrossroadsChoose$Law;)I" } : Jvm.MethodName)), (Jvm.Cond.instanceMethod ({ cls := "CrossroadsChoose$Tape", name := "readInto", desc := "(LCrossroadsChoose$Law;)I" } : Jvm.MethodName)), (Jvm.Cond.selects "CrossroadsChoose$Tape" ({ cls := "CrossroadsChoose$Tape", name := "readInto", desc := "(LCrossroadsChoose$Law;)I" } : Jvm.MethodName) ({ cls := "CrossroadsChoose$Tape", name := "readInto", desc := "(LCrossroadsChoose$Law;)I" } : Jvm.MethodName)), (Jvm.Cond.code ({ cls := "CrossroadsChoose$Tape", name := "readInto", desc := "(LCrossroadsChoose$Law;)I" } : Jvm.MethodName) prog_8_method_4_code (4 : Nat) (Option.some Jvm.ClassFile.FieldType.int)), (Jvm.Cond.methodLink "CrossroadsChoose$Tape" (21 : Nat) ({ cls := "CrossroadsChoose$Law", name := "clear", desc := "()V" } : Jvm.MethodName)), (Jvm.Cond.instanceMethod ({ cls := "CrossroadsChoose$Law", name := "clear", desc := "()V" } : Jvm.MethodName)), (Jvm.Cond.selects "CrossroadsChoose$Law" ({ cls := "CrossroadsChoose$Law", name := "clear", desc := "()V" } : Jvm.MethodName) ({ cls := "CrossroadsChoose$Law", name := "clear", desc := "()V" } : Jvm.MethodName)), (Jvm.Cond.code ({ cls := "CrossroadsChoose$Law", name := "clear", desc := "()V" } : Jvm.MethodName) prog_6_method_3_code (1 : Nat) (Option.none : Option Jvm.ClassFile.FieldType)), (Jvm.Cond.methodLink "CrossroadsChoose$Tape" (29 : Nat) ({ cls := "CrossroadsChoose$Tape", name := "readLines", desc := "(LCrossroadsChoose$Law;)Z" } : Jvm.MethodName))]) : w ∈ lw_tbl := tk_2 (List.mem_of_mem_drop (i := 112) (List.mem_of_mem_take (i := 16) ((show (tables_1_2.drop 112).take 16 = [(Jvm.Cond.selects "CrossroadsChoose$Tape" ({ cls := "CrossroadsChoose$Tape", name := "add", desc := "(I)I" } : Jvm.MethodName) ({ cls := "CrossroadsChoose$Tape", name := "add", desc := "(I)I" } : Jvm.MethodName)), (Jvm.Cond.code ({ cls := "CrossroadsChoose$Tape", name := "add", desc := "(I)I" } : Jvm.MethodName) prog_8_method_3_code (2 : Nat) (Option.some Jvm.ClassFile.FieldType.int)), (Jvm.Cond.methodLink "CrossroadsChoose$Tape" (17 : Nat) ({ cls := "CrossroadsChoose$Tape", name := "isFull", desc := "()Z" } : Jvm.MethodName)), (Jvm.Cond.methodLink "CrossroadsChooseLaw" (36 : Nat) ({ cls := "CrossroadsChoose", name := "law", desc := "()I" } : Jvm.MethodName)), (Jvm.Cond.instanceMethod ({ cls := "CrossroadsChoose", name := "law", desc := "()I" } : Jvm.MethodName)), (Jvm.Cond.selects "CrossroadsChoose" ({ cls := "CrossroadsChoose", name := "law", desc := "()I" } : Jvm.MethodName) ({ cls := "CrossroadsChoose", name := "law", desc := "()I" } : Jvm.MethodName)), (Jvm.Cond.code ({ cls := "CrossroadsChoose", name := "law", desc := "()I" } : Jvm.MethodName) prog_1_method_8_code (3 : Nat) (Option.some Jvm.ClassFile.FieldType.int)), (Jvm.Cond.methodLink "CrossroadsChoose" (128 : Nat) ({ cls := "CrossroadsChoose$Tape", name := "readInto", desc := "(LCrossroadsChoose$Law;)I" } : Jvm.MethodName)), (Jvm.Cond.instanceMethod ({ cls := "CrossroadsChoose$Tape", name := "readInto", desc := "(LCrossroadsChoose$Law;)I" } : Jvm.MethodName)), (Jvm.Cond.selects "CrossroadsChoose$Tape" ({ cls := "CrossroadsChoose$Tape", name := "readInto", desc := "(LCrossroadsChoose$Law;)I" } : Jvm.MethodName) ({ cls := "CrossroadsChoose$Tape", name := "readInto", desc := "(LCrossroadsChoose$Law;)I" } : Jvm.MethodName)), (Jvm.Cond.code ({ cls := "CrossroadsChoose$Tape", name := "readInto", desc := "(LCrossroadsChoose$Law;)I" } : Jvm.MethodName) prog_8_method_4_code (4 : Nat) (Option.some Jvm.ClassFile.FieldType.int)), (Jvm.Cond.methodLink "CrossroadsChoose$Tape" (21 : Nat) ({ cls := "CrossroadsChoose$Law", name := "clear", desc := "()V" } : Jvm.MethodName)), (Jvm.Cond.instanceMethod ({ cls := "CrossroadsChoose$Law", name := "clear", desc := "()V" } : Jvm.MethodName)), (Jvm.Cond.selects "CrossroadsChoose$Law" ({ cls := "CrossroadsChoose$Law", name := "clear", desc := "()V" } : Jvm.MethodName) ({ cls := "CrossroadsChoose$Law", name := "clear", desc := "()V" } : Jvm.MethodName)), (Jvm.Cond.code ({ cls := "CrossroadsChoose$Law", name := "clear", desc := "()V" } : Jvm.MethodName) prog_6_method_3_code (1 : Nat) (Option.none : Option Jvm.ClassFile.FieldType)), (Jvm.Cond.methodLink "CrossroadsChoose$Tape" (29 : Nat) ({ cls := "CrossroadsChoose$Tape", name := "readLines", desc := "(LCrossroadsChoose$Law;)Z" } : Jvm.MethodName))] from rfl) ▸ h)))
theorem ck_2_128 (w : Cond) (h : w ∈ [(Jvm.Cond.privateMethod ({ cls := "CrossroadsChoose$Tape", name := "readLines", desc := "(LCrossroadsChoose$Law;)Z" } : Jvm.MethodName)), (Jvm.Cond.instanceMethod ({ cls := "CrossroadsChoose$Tape", name := "readLines", desc := "(LCrossroadsChoose$Law;)Z" } : Jvm.MethodName)), (Jvm.Cond.code ({ cls := "CrossroadsChoose$Tape", name := "readLines", desc := "(LCrossroadsChoose$Law;)Z" } : Jvm.MethodName) prog_8_method_6_code (3 : Nat) (Option.some Jvm.ClassFile.FieldType.boolean)), (Jvm.Cond.methodLink "CrossroadsChoose$Tape" (33 : Nat) ({ cls := "CrossroadsChoose$Tape", name := "readLine", desc := "(LCrossroadsChoose$Law;)Z" } : Jvm.MethodName)), (Jvm.Cond.privateMethod ({ cls := "CrossroadsChoose$Tape", name := "readLine", desc := "(LCrossroadsChoose$Law;)Z" } : Jvm.MethodName)), (Jvm.Cond.instanceMethod ({ cls := "CrossroadsChoose$Tape", name := "readLine", desc := "(LCrossroadsChoose$Law;)Z" } : Jvm.MethodName)), (Jvm.Cond.code ({ cls := "CrossroadsChoose$Tape", name := "readLine", desc := "(LCrossroadsChoose$Law;)Z" } : Jvm.MethodName) prog_8_method_7_code (2 : Nat) (Option.some Jvm.ClassFile.FieldType.boolean)), (Jvm.Cond.methodLink "CrossroadsChoose$Tape" (40 : Nat) ({ cls := "CrossroadsChoose$Tape", name := "readJoined", desc := "(LCrossroadsChoose$Law;II)Z" } : Jvm.MethodName)), (Jvm.Cond.privateMethod ({ cls := "CrossroadsChoose$Tape", name := "readJoined", desc := "(LCrossroadsChoose$Law;II)Z" } : Jvm.MethodName)), (Jvm.Cond.instanceMethod ({ cls := "CrossroadsChoose$Tape", name := "readJoined", desc := "(LCrossroadsChoose$Law;II)Z" } : Jvm.MethodName)), (Jvm.Cond.code ({ cls := "CrossroadsChoose$Tape", name := "readJoined", desc := "(LCrossroadsChoose$Law;II)Z" } : Jvm.MethodName) prog_8_method_8_code (7 : Nat) (Option.some Jvm.ClassFile.FieldType.boolean)), (Jvm.Cond.methodLink "CrossroadsChoose$Tape" (48 : Nat) ({ cls := "CrossroadsChoose$Tape", name := "readOperand", desc := "(LCrossroadsChoose$Law;I)Z" } : Jvm.MethodName)), (Jvm.Cond.privateMethod ({ cls := "CrossroadsChoose$Tape", name := "readOperand", desc := "(LCrossroadsChoose$Law;I)Z" } : Jvm.MethodName)), (Jvm.Cond.instanceMethod ({ cls := "CrossroadsChoose$Tape", name := "readOperand", desc := "(LCrossroadsChoose$Law;I)Z" } : Jvm.MethodName)), (Jvm.Cond.code ({ cls := "CrossroadsChoose$Tape", name := "readOperand", desc := "(LCrossroadsChoose$Law;I)Z" } : Jvm.MethodName) prog_8_method_10_code (6 : Nat) (Option.some Jvm.ClassFile.FieldType.boolean)), (Jvm.Cond.methodLink "CrossroadsChoose$Tape" (36 : Nat) ({ cls := "CrossroadsChoose$Tape", name := "here", desc := "()I" } : Jvm.MethodName))]) : w ∈ lw_tbl := tk_2 (List.mem_of_mem_drop (i := 128) (List.mem_of_mem_take (i := 16) ((show (tables_1_2.drop 128).take 16 = [(Jvm.Cond.privateMethod ({ cls := "CrossroadsChoose$Tape", name := "readLines", desc := "(LCrossroadsChoose$Law;)Z" } : Jvm.MethodName)), (Jvm.Cond.instanceMethod ({ cls := "CrossroadsChoose$Tape", name := "readLines", desc := "(LCrossroadsChoose$Law;)Z" } : Jvm.MethodName)), (Jvm.Cond.code ({ cls := "CrossroadsChoose$Tape", name := "readLines", desc := "(LCrossroadsChoose$Law;)Z" } : Jvm.MethodName) prog_8_method_6_code (3 : Nat) (Option.some Jvm.ClassFile.FieldType.boolean)), (Jvm.Cond.methodLink "CrossroadsChoose$Tape" (33 : Nat) ({ cls := "CrossroadsChoose$Tape", name := "readLine", desc := "(LCrossroadsChoose$Law;)Z" } : Jvm.MethodName)), (Jvm.Cond.privateMethod ({ cls := "CrossroadsChoose$Tape", name := "readLine", desc := "(LCrossroadsChoose$Law;)Z" } : Jvm.MethodName)), (Jvm.Cond.instanceMethod ({ cls := "CrossroadsChoose$Tape", name := "readLine", desc := "(LCrossroadsChoose$Law;)Z" } : Jvm.MethodName)), (Jvm.Cond.code ({ cls := "CrossroadsChoose$Tape", name := "readLine", desc := "(LCrossroadsChoose$Law;)Z" } : Jvm.MethodName) prog_8_method_7_code (2 : Nat) (Option.some Jvm.ClassFile.FieldType.boolean)), (Jvm.Cond.methodLink "CrossroadsChoose$Tape" (40 : Nat) ({ cls := "CrossroadsChoose$Tape", name := "readJoined", desc := "(LCrossroadsChoose$Law;II)Z" } : Jvm.MethodName)), (Jvm.Cond.privateMethod ({ cls := "CrossroadsChoose$Tape", name := "readJoined", desc := "(LCrossroadsChoose$Law;II)Z" } : Jvm.MethodName)), (Jvm.Cond.instanceMethod ({ cls := "CrossroadsChoose$Tape", name := "readJoined", desc := "(LCrossroadsChoose$Law;II)Z" } : Jvm.MethodName)), (Jvm.Cond.code ({ cls := "CrossroadsChoose$Tape", name := "readJoined", desc := "(LCrossroadsChoose$Law;II)Z" } : Jvm.MethodName) prog_8_method_8_code (7 : Nat) (Option.some Jvm.ClassFile.FieldType.boolean)), (Jvm.Cond.methodLink "CrossroadsChoose$Tape" (48 : Nat) ({ cls := "CrossroadsChoose$Tape", name := "readOperand", desc := "(LCrossroadsChoose$Law;I)Z" } : Jvm.MethodName)), (Jvm.Cond.privateMethod ({ cls := "CrossroadsChoose$Tape", name := "readOperand", desc := "(LCrossroadsChoose$Law;I)Z" } : Jvm.MethodName)), (Jvm.Cond.instanceMethod ({ cls := "CrossroadsChoose$Tape", name := "readOperand", desc := "(LCrossroadsChoose$Law;I)Z" } : Jvm.MethodName)), (Jvm.Cond.code ({ cls := "CrossroadsChoose$Tape", name := "readOperand", desc := "(LCrossroadsChoose$Law;I)Z" } : Jvm.MethodName) prog_8_method_10_code (6 : Nat) (Option.some Jvm.ClassFile.FieldType.boolean)), (Jvm.Cond.methodLink "CrossroadsChoose$Tape" (36 : Nat) ({ cls := "CrossroadsChoose$Tape", name := "here", desc := "()I" } : Jvm.MethodName))] from rfl) ▸ h)))
theorem ck_2_144 (w : Cond) (h : w ∈ [(Jvm.Cond.privateMethod ({ cls := "CrossroadsChoose$Tape", name := "here", desc := "()I" } : Jvm.MethodName)), (Jvm.Cond.instanceMethod ({ cls := "CrossroadsChoose$Tape", name := "here", desc := "()I" } : Jvm.MethodName)), (Jvm.Cond.code ({ cls := "CrossroadsChoose$Tape", name := "here", desc := "()I" } : Jvm.MethodName) prog_8_method_5_code (1 : Nat) (Option.some Jvm.ClassFile.FieldType.int)), (Jvm.Cond.methodLink "CrossroadsChoose$Tape" (56 : Nat) ({ cls := "CrossroadsChoose$Tape", name := "isDigit", desc := "(I)Z" } : Jvm.MethodName)), (Jvm.Cond.static ({ cls := "CrossroadsChoose$Tape", name := "isDigit", desc := "(I)Z" } : Jvm.MethodName)), (Jvm.Cond.code ({ cls := "CrossroadsChoose$Tape", name := "isDigit", desc := "(I)Z" } : Jvm.MethodName) prog_8_method_14_code (1 : Nat) (Option.some Jvm.ClassFile.FieldType.boolean)), (Jvm.Cond.methodLink "CrossroadsChoose$Tape" (60 : Nat) ({ cls := "CrossroadsChoose$Tape", name := "readNumber", desc := "(LCrossroadsChoose$Law;)V" } : Jvm.MethodName)), (Jvm.Cond.privateMethod ({ cls := "CrossroadsChoose$Tape", name := "readNumber", desc := "(LCrossroadsChoose$Law;)V" } : Jvm.MethodName)), (Jvm.Cond.instanceMethod ({ cls := "CrossroadsChoose$Tape", name := "readNumber", desc := "(LCrossroadsChoose$Law;)V" } : Jvm.MethodName)), (Jvm.Cond.code ({ cls := "CrossroadsChoose$Tape", name := "readNumber", desc := "(LCrossroadsChoose$Law;)V" } : Jvm.MethodName) prog_8_method_13_code (4 : Nat) (Option.none : Option Jvm.ClassFile.FieldType)), (Jvm.Cond.methodLink "CrossroadsChoose$Tape" (44 : Nat) ({ cls := "CrossroadsChoose$Law", name := "add", desc := "(II)V" } : Jvm.MethodName)), (Jvm.Cond.instanceMethod ({ cls := "CrossroadsChoose$Law", name := "add", desc := "(II)V" } : Jvm.MethodName)), (Jvm.Cond.selects "CrossroadsChoose$Law" ({ cls := "CrossroadsChoose$Law", name := "add", desc := "(II)V" } : Jvm.MethodName) ({ cls := "CrossroadsChoose$Law", name := "add", desc := "(II)V" } : Jvm.MethodName)), (Jvm.Cond.code ({ cls := "CrossroadsChoose$Law", name := "add", desc := "(II)V" } : Jvm.MethodName) prog_6_method_4_code (3 : Nat) (Option.none : Option Jvm.ClassFile.FieldType)), (Jvm.Cond.methodLink "CrossroadsChoose$Tape" (64 : Nat) ({ cls := "CrossroadsChoose$Tape", name := "nameOf", desc := "(I)I" } : Jvm.MethodName)), (Jvm.Cond.static ({ cls := "CrossroadsChoose$Tape", name := "nameOf", desc := "(I)I" } : Jvm.MethodName))]) : w ∈ lw_tbl := tk_2 (List.mem_of_mem_drop (i := 144) (List.mem_of_mem_take (i := 16) ((show (tables_1_2.drop 144).take 16 = [(Jvm.Cond.privateMethod ({ cls := "CrossroadsChoose$Tape", name := "here", desc := "()I" } : Jvm.MethodName)), (Jvm.Cond.instanceMethod ({ cls := "CrossroadsChoose$Tape", name := "here", desc := "()I" } : Jvm.MethodName)), (Jvm.Cond.code ({ cls := "CrossroadsChoose$Tape", name := "here", desc := "()I" } : Jvm.MethodName) prog_8_method_5_code (1 : Nat) (Option.some Jvm.ClassFile.FieldType.int)), (Jvm.Cond.methodLink "CrossroadsChoose$Tape" (56 : Nat) ({ cls := "CrossroadsChoose$Tape", name := "isDigit", desc := "(I)Z" } : Jvm.MethodName)), (Jvm.Cond.static ({ cls := "CrossroadsChoose$Tape", name := "isDigit", desc := "(I)Z" } : Jvm.MethodName)), (Jvm.Cond.code ({ cls := "CrossroadsChoose$Tape", name := "isDigit", desc := "(I)Z" } : Jvm.MethodName) prog_8_method_14_code (1 : Nat) (Option.some Jvm.ClassFile.FieldType.boolean)), (Jvm.Cond.methodLink "CrossroadsChoose$Tape" (60 : Nat) ({ cls := "CrossroadsChoose$Tape", name := "readNumber", desc := "(LCrossroadsChoose$Law;)V" } : Jvm.MethodName)), (Jvm.Cond.privateMethod ({ cls := "CrossroadsChoose$Tape", name := "readNumber", desc := "(LCrossroadsChoose$Law;)V" } : Jvm.MethodName)), (Jvm.Cond.instanceMethod ({ cls := "CrossroadsChoose$Tape", name := "readNumber", desc := "(LCrossroadsChoose$Law;)V" } : Jvm.MethodName)), (Jvm.Cond.code ({ cls := "CrossroadsChoose$Tape", name := "readNumber", desc := "(LCrossroadsChoose$Law;)V" } : Jvm.MethodName) prog_8_method_13_code (4 : Nat) (Option.none : Option Jvm.ClassFile.FieldType)), (Jvm.Cond.methodLink "CrossroadsChoose$Tape" (44 : Nat) ({ cls := "CrossroadsChoose$Law", name := "add", desc := "(II)V" } : Jvm.MethodName)), (Jvm.Cond.instanceMethod ({ cls := "CrossroadsChoose$Law", name := "add", desc := "(II)V" } : Jvm.MethodName)), (Jvm.Cond.selects "CrossroadsChoose$Law" ({ cls := "CrossroadsChoose$Law", name := "add", desc := "(II)V" } : Jvm.MethodName) ({ cls := "CrossroadsChoose$Law", name := "add", desc := "(II)V" } : Jvm.MethodName)), (Jvm.Cond.code ({ cls := "CrossroadsChoose$Law", name := "add", desc := "(II)V" } : Jvm.MethodName) prog_6_method_4_code (3 : Nat) (Option.none : Option Jvm.ClassFile.FieldType)), (Jvm.Cond.methodLink "CrossroadsChoose$Tape" (64 : Nat) ({ cls := "CrossroadsChoose$Tape", name := "nameOf", desc := "(I)I" } : Jvm.MethodName)), (Jvm.Cond.static ({ cls := "CrossroadsChoose$Tape", name := "nameOf", desc := "(I)I" } : Jvm.MethodName))] from rfl) ▸ h)))
theorem ck_2_160 (w : Cond) (h : w ∈ [(Jvm.Cond.code ({ cls := "CrossroadsChoose$Tape", name := "nameOf", desc := "(I)I" } : Jvm.MethodName) prog_8_method_15_code (1 : Nat) (Option.some Jvm.ClassFile.FieldType.int)), (Jvm.Cond.methodLink "CrossroadsChoose$Tape" (68 : Nat) ({ cls := "CrossroadsChoose$Tape", name := "readBracket", desc := "(LCrossroadsChoose$Law;I)Z" } : Jvm.MethodName)), (Jvm.Cond.privateMethod ({ cls := "CrossroadsChoose$Tape", name := "readBracket", desc := "(LCrossroadsChoose$Law;I)Z" } : Jvm.MethodName)), (Jvm.Cond.instanceMethod ({ cls := "CrossroadsChoose$Tape", name := "readBracket", desc := "(LCrossroadsChoose$Law;I)Z" } : Jvm.MethodName)), (Jvm.Cond.code ({ cls := "CrossroadsChoose$Tape", name := "readBracket", desc := "(LCrossroadsChoose$Law;I)Z" } : Jvm.MethodName) prog_8_method_11_code (3 : Nat) (Option.some Jvm.ClassFile.FieldType.boolean)), (Jvm.Cond.methodLink "CrossroadsChoose$Tape" (71 : Nat) ({ cls := "CrossroadsChoose$Tape", name := "readSigned", desc := "(LCrossroadsChoose$Law;II)Z" } : Jvm.MethodName)), (Jvm.Cond.privateMethod ({ cls := "CrossroadsChoose$Tape", name := "readSigned", desc := "(LCrossroadsChoose$Law;II)Z" } : Jvm.MethodName)), (Jvm.Cond.instanceMethod ({ cls := "CrossroadsChoose$Tape", name := "readSigned", desc := "(LCrossroadsChoose$Law;II)Z" } : Jvm.MethodName)), (Jvm.Cond.code ({ cls := "CrossroadsChoose$Tape", name := "readSigned", desc := "(LCrossroadsChoose$Law;II)Z" } : Jvm.MethodName) prog_8_method_12_code (4 : Nat) (Option.some Jvm.ClassFile.FieldType.boolean)), (Jvm.Cond.methodLink "CrossroadsChoose$Tape" (52 : Nat) ({ cls := "CrossroadsChoose$Tape", name := "joins", desc := "(II)Z" } : Jvm.MethodName)), (Jvm.Cond.static ({ cls := "CrossroadsChoose$Tape", name := "joins", desc := "(II)Z" } : Jvm.MethodName)), (Jvm.Cond.code ({ cls := "CrossroadsChoose$Tape", name := "joins", desc := "(II)Z" } : Jvm.MethodName) prog_8_method_9_code (2 : Nat) (Option.some Jvm.ClassFile.FieldType.boolean)), (Jvm.Cond.methodLink "CrossroadsChooseLaw" (41 : Nat) ({ cls := "CrossroadsChoose", name := "pull", desc := "(II)I" } : Jvm.MethodName)), (Jvm.Cond.instanceMethod ({ cls := "CrossroadsChoose", name := "pull", desc := "(II)I" } : Jvm.MethodName)), (Jvm.Cond.selects "CrossroadsChoose" ({ cls := "CrossroadsChoose", name := "pull", desc := "(II)I" } : Jvm.MethodName) ({ cls := "CrossroadsChoose", name := "pull", desc := "(II)I" } : Jvm.MethodName)), (Jvm.Cond.code ({ cls := "CrossroadsChoose", name := "pull", desc := "(II)I" } : Jvm.MethodName) prog_1_method_10_code (3 : Nat) (Option.some Jvm.ClassFile.FieldType.int))]) : w ∈ lw_tbl := tk_2 (List.mem_of_mem_drop (i := 160) (List.mem_of_mem_take (i := 16) ((show (tables_1_2.drop 160).take 16 = [(Jvm.Cond.code ({ cls := "CrossroadsChoose$Tape", name := "nameOf", desc := "(I)I" } : Jvm.MethodName) prog_8_method_15_code (1 : Nat) (Option.some Jvm.ClassFile.FieldType.int)), (Jvm.Cond.methodLink "CrossroadsChoose$Tape" (68 : Nat) ({ cls := "CrossroadsChoose$Tape", name := "readBracket", desc := "(LCrossroadsChoose$Law;I)Z" } : Jvm.MethodName)), (Jvm.Cond.privateMethod ({ cls := "CrossroadsChoose$Tape", name := "readBracket", desc := "(LCrossroadsChoose$Law;I)Z" } : Jvm.MethodName)), (Jvm.Cond.instanceMethod ({ cls := "CrossroadsChoose$Tape", name := "readBracket", desc := "(LCrossroadsChoose$Law;I)Z" } : Jvm.MethodName)), (Jvm.Cond.code ({ cls := "CrossroadsChoose$Tape", name := "readBracket", desc := "(LCrossroadsChoose$Law;I)Z" } : Jvm.MethodName) prog_8_method_11_code (3 : Nat) (Option.some Jvm.ClassFile.FieldType.boolean)), (Jvm.Cond.methodLink "CrossroadsChoose$Tape" (71 : Nat) ({ cls := "CrossroadsChoose$Tape", name := "readSigned", desc := "(LCrossroadsChoose$Law;II)Z" } : Jvm.MethodName)), (Jvm.Cond.privateMethod ({ cls := "CrossroadsChoose$Tape", name := "readSigned", desc := "(LCrossroadsChoose$Law;II)Z" } : Jvm.MethodName)), (Jvm.Cond.instanceMethod ({ cls := "CrossroadsChoose$Tape", name := "readSigned", desc := "(LCrossroadsChoose$Law;II)Z" } : Jvm.MethodName)), (Jvm.Cond.code ({ cls := "CrossroadsChoose$Tape", name := "readSigned", desc := "(LCrossroadsChoose$Law;II)Z" } : Jvm.MethodName) prog_8_method_12_code (4 : Nat) (Option.some Jvm.ClassFile.FieldType.boolean)), (Jvm.Cond.methodLink "CrossroadsChoose$Tape" (52 : Nat) ({ cls := "CrossroadsChoose$Tape", name := "joins", desc := "(II)Z" } : Jvm.MethodName)), (Jvm.Cond.static ({ cls := "CrossroadsChoose$Tape", name := "joins", desc := "(II)Z" } : Jvm.MethodName)), (Jvm.Cond.code ({ cls := "CrossroadsChoose$Tape", name := "joins", desc := "(II)Z" } : Jvm.MethodName) prog_8_method_9_code (2 : Nat) (Option.some Jvm.ClassFile.FieldType.boolean)), (Jvm.Cond.methodLink "CrossroadsChooseLaw" (41 : Nat) ({ cls := "CrossroadsChoose", name := "pull", desc := "(II)I" } : Jvm.MethodName)), (Jvm.Cond.instanceMethod ({ cls := "CrossroadsChoose", name := "pull", desc := "(II)I" } : Jvm.MethodName)), (Jvm.Cond.selects "CrossroadsChoose" ({ cls := "CrossroadsChoose", name := "pull", desc := "(II)I" } : Jvm.MethodName) ({ cls := "CrossroadsChoose", name := "pull", desc := "(II)I" } : Jvm.MethodName)), (Jvm.Cond.code ({ cls := "CrossroadsChoose", name := "pull", desc := "(II)I" } : Jvm.MethodName) prog_1_method_10_code (3 : Nat) (Option.some Jvm.ClassFile.FieldType.int))] from rfl) ▸ h)))
theorem ck_2_176 (w : Cond) (h : w ∈ [(Jvm.Cond.methodLink "CrossroadsChoose" (141 : Nat) ({ cls := "CrossroadsChoose$Crossing", name := "isRoad", desc := "(I)Z" } : Jvm.MethodName)), (Jvm.Cond.instanceMethod ({ cls := "CrossroadsChoose$Crossing", name := "isRoad", desc := "(I)Z" } : Jvm.MethodName)), (Jvm.Cond.selects "CrossroadsChoose$Crossing" ({ cls := "CrossroadsChoose$Crossing", name := "isRoad", desc := "(I)Z" } : Jvm.MethodName) ({ cls := "CrossroadsChoose$Crossing", name := "isRoad", desc := "(I)Z" } : Jvm.MethodName)), (Jvm.Cond.code ({ cls := "CrossroadsChoose$Crossing", name := "isRoad", desc := "(I)Z" } : Jvm.MethodName) prog_4_method_2_code (2 : Nat) (Option.some Jvm.ClassFile.FieldType.boolean)), (Jvm.Cond.methodLink "CrossroadsChoose" (145 : Nat) ({ cls := "CrossroadsChoose", name := "isComer", desc := "(I)Z" } : Jvm.MethodName)), (Jvm.Cond.static ({ cls := "CrossroadsChoose", name := "isComer", desc := "(I)Z" } : Jvm.MethodName)), (Jvm.Cond.code ({ cls := "CrossroadsChoose", name := "isComer", desc := "(I)Z" } : Jvm.MethodName) prog_1_method_22_code (1 : Nat) (Option.some Jvm.ClassFile.FieldType.boolean)), (Jvm.Cond.methodLink "CrossroadsChoose" (148 : Nat) ({ cls := "CrossroadsChoose$Crossing", name := "wants", desc := "(II)I" } : Jvm.MethodName)), (Jvm.Cond.instanceMethod ({ cls := "CrossroadsChoose$Crossing", name := "wants", desc := "(II)I" } : Jvm.MethodName)), (Jvm.Cond.selects "CrossroadsChoose$Crossing" ({ cls := "CrossroadsChoose$Crossing", name := "wants", desc := "(II)I" } : Jvm.MethodName) ({ cls := "CrossroadsChoose$Crossing", name := "wants", desc := "(II)I" } : Jvm.MethodName)), (Jvm.Cond.code ({ cls := "CrossroadsChoose$Crossing", name := "wants", desc := "(II)I" } : Jvm.MethodName) prog_4_method_13_code (8 : Nat) (Option.some Jvm.ClassFile.FieldType.int)), (Jvm.Cond.methodLink "CrossroadsChoose$Crossing" (50 : Nat) ({ cls := "CrossroadsChoose$Crossing", name := "number", desc := "(II)I" } : Jvm.MethodName)), (Jvm.Cond.methodLink "CrossroadsChoose$Crossing" (57 : Nat) ({ cls := "CrossroadsChoose$Law", name := "isTold", desc := "()Z" } : Jvm.MethodName)), (Jvm.Cond.instanceMethod ({ cls := "CrossroadsChoose$Law", name := "isTold", desc := "()Z" } : Jvm.MethodName)), (Jvm.Cond.selects "CrossroadsChoose$Law" ({ cls := "CrossroadsChoose$Law", name := "isTold", desc := "()Z" } : Jvm.MethodName) ({ cls := "CrossroadsChoose$Law", name := "isTold", desc := "()Z" } : Jvm.MethodName)), (Jvm.Cond.code ({ cls := "CrossroadsChoose$Law", name := "isTold", desc := "()Z" } : Jvm.MethodName) prog_6_method_2_code (1 : Nat) (Option.some Jvm.ClassFile.FieldType.boolean))]) : w ∈ lw_tbl := tk_2 (List.mem_of_mem_drop (i := 176) (List.mem_of_mem_take (i := 16) ((show (tables_1_2.drop 176).take 16 = [(Jvm.Cond.methodLink "CrossroadsChoose" (141 : Nat) ({ cls := "CrossroadsChoose$Crossing", name := "isRoad", desc := "(I)Z" } : Jvm.MethodName)), (Jvm.Cond.instanceMethod ({ cls := "CrossroadsChoose$Crossing", name := "isRoad", desc := "(I)Z" } : Jvm.MethodName)), (Jvm.Cond.selects "CrossroadsChoose$Crossing" ({ cls := "CrossroadsChoose$Crossing", name := "isRoad", desc := "(I)Z" } : Jvm.MethodName) ({ cls := "CrossroadsChoose$Crossing", name := "isRoad", desc := "(I)Z" } : Jvm.MethodName)), (Jvm.Cond.code ({ cls := "CrossroadsChoose$Crossing", name := "isRoad", desc := "(I)Z" } : Jvm.MethodName) prog_4_method_2_code (2 : Nat) (Option.some Jvm.ClassFile.FieldType.boolean)), (Jvm.Cond.methodLink "CrossroadsChoose" (145 : Nat) ({ cls := "CrossroadsChoose", name := "isComer", desc := "(I)Z" } : Jvm.MethodName)), (Jvm.Cond.static ({ cls := "CrossroadsChoose", name := "isComer", desc := "(I)Z" } : Jvm.MethodName)), (Jvm.Cond.code ({ cls := "CrossroadsChoose", name := "isComer", desc := "(I)Z" } : Jvm.MethodName) prog_1_method_22_code (1 : Nat) (Option.some Jvm.ClassFile.FieldType.boolean)), (Jvm.Cond.methodLink "CrossroadsChoose" (148 : Nat) ({ cls := "CrossroadsChoose$Crossing", name := "wants", desc := "(II)I" } : Jvm.MethodName)), (Jvm.Cond.instanceMethod ({ cls := "CrossroadsChoose$Crossing", name := "wants", desc := "(II)I" } : Jvm.MethodName)), (Jvm.Cond.selects "CrossroadsChoose$Crossing" ({ cls := "CrossroadsChoose$Crossing", name := "wants", desc := "(II)I" } : Jvm.MethodName) ({ cls := "CrossroadsChoose$Crossing", name := "wants", desc := "(II)I" } : Jvm.MethodName)), (Jvm.Cond.code ({ cls := "CrossroadsChoose$Crossing", name := "wants", desc := "(II)I" } : Jvm.MethodName) prog_4_method_13_code (8 : Nat) (Option.some Jvm.ClassFile.FieldType.int)), (Jvm.Cond.methodLink "CrossroadsChoose$Crossing" (50 : Nat) ({ cls := "CrossroadsChoose$Crossing", name := "number", desc := "(II)I" } : Jvm.MethodName)), (Jvm.Cond.methodLink "CrossroadsChoose$Crossing" (57 : Nat) ({ cls := "CrossroadsChoose$Law", name := "isTold", desc := "()Z" } : Jvm.MethodName)), (Jvm.Cond.instanceMethod ({ cls := "CrossroadsChoose$Law", name := "isTold", desc := "()Z" } : Jvm.MethodName)), (Jvm.Cond.selects "CrossroadsChoose$Law" ({ cls := "CrossroadsChoose$Law", name := "isTold", desc := "()Z" } : Jvm.MethodName) ({ cls := "CrossroadsChoose$Law", name := "isTold", desc := "()Z" } : Jvm.MethodName)), (Jvm.Cond.code ({ cls := "CrossroadsChoose$Law", name := "isTold", desc := "()Z" } : Jvm.MethodName) prog_6_method_2_code (1 : Nat) (Option.some Jvm.ClassFile.FieldType.boolean))] from rfl) ▸ h)))
theorem ck_2_192 (w : Cond) (h : w ∈ [(Jvm.Cond.methodLink "CrossroadsChoose$Crossing" (62 : Nat) ({ cls := "CrossroadsChoose$Law", name := "gives", desc := "(IIIIII)I" } : Jvm.MethodName)), (Jvm.Cond.instanceMethod ({ cls := "CrossroadsChoose$Law", name := "gives", desc := "(IIIIII)I" } : Jvm.MethodName)), (Jvm.Cond.selects "CrossroadsChoose$Law" ({ cls := "CrossroadsChoose$Law", name := "gives", desc := "(IIIIII)I" } : Jvm.MethodName) ({ cls := "CrossroadsChoose$Law", name := "gives", desc := "(IIIIII)I" } : Jvm.MethodName)), (Jvm.Cond.code ({ cls := "CrossroadsChoose$Law", name := "gives", desc := "(IIIIII)I" } : Jvm.MethodName) prog_6_method_5_code (12 : Nat) (Option.some Jvm.ClassFile.FieldType.int)), (Jvm.Cond.methodLink "CrossroadsChoose$Law" (29 : Nat) ({ cls := "CrossroadsChoose$Law", name := "take", desc := "()I" } : Jvm.MethodName)), (Jvm.Cond.privateMethod ({ cls := "CrossroadsChoose$Law", name := "take", desc := "()I" } : Jvm.MethodName)), (Jvm.Cond.instanceMethod ({ cls := "CrossroadsChoose$Law", name := "take", desc := "()I" } : Jvm.MethodName)), (Jvm.Cond.code ({ cls := "CrossroadsChoose$Law", name := "take", desc := "()I" } : Jvm.MethodName) prog_6_method_8_code (1 : Nat) (Option.some Jvm.ClassFile.FieldType.int)), (Jvm.Cond.methodLink "CrossroadsChoose$Law" (33 : Nat) ({ cls := "CrossroadsChoose$Law", name := "lay", desc := "(I)V" } : Jvm.MethodName)), (Jvm.Cond.privateMethod ({ cls := "CrossroadsChoose$Law", name := "lay", desc := "(I)V" } : Jvm.MethodName)), (Jvm.Cond.instanceMethod ({ cls := "CrossroadsChoose$Law", name := "lay", desc := "(I)V" } : Jvm.MethodName)), (Jvm.Cond.code ({ cls := "CrossroadsChoose$Law", name := "lay", desc := "(I)V" } : Jvm.MethodName) prog_6_method_7_code (2 : Nat) (Option.none : Option Jvm.ClassFile.FieldType)), (Jvm.Cond.methodLink "CrossroadsChoose$Law" (37 : Nat) ({ cls := "CrossroadsChoose$Law", name := "named", desc := "(I)I" } : Jvm.MethodName)), (Jvm.Cond.privateMethod ({ cls := "CrossroadsChoose$Law", name := "named", desc := "(I)I" } : Jvm.MethodName)), (Jvm.Cond.instanceMethod ({ cls := "CrossroadsChoose$Law", name := "named", desc := "(I)I" } : Jvm.MethodName)), (Jvm.Cond.code ({ cls := "CrossroadsChoose$Law", name := "named", desc := "(I)I" } : Jvm.MethodName) prog_6_method_6_code (2 : Nat) (Option.some Jvm.ClassFile.FieldType.int))]) : w ∈ lw_tbl := tk_2 (List.mem_of_mem_drop (i := 192) (List.mem_of_mem_take (i := 16) ((show (tables_1_2.drop 192).take 16 = [(Jvm.Cond.methodLink "CrossroadsChoose$Crossing" (62 : Nat) ({ cls := "CrossroadsChoose$Law", name := "gives", desc := "(IIIIII)I" } : Jvm.MethodName)), (Jvm.Cond.instanceMethod ({ cls := "CrossroadsChoose$Law", name := "gives", desc := "(IIIIII)I" } : Jvm.MethodName)), (Jvm.Cond.selects "CrossroadsChoose$Law" ({ cls := "CrossroadsChoose$Law", name := "gives", desc := "(IIIIII)I" } : Jvm.MethodName) ({ cls := "CrossroadsChoose$Law", name := "gives", desc := "(IIIIII)I" } : Jvm.MethodName)), (Jvm.Cond.code ({ cls := "CrossroadsChoose$Law", name := "gives", desc := "(IIIIII)I" } : Jvm.MethodName) prog_6_method_5_code (12 : Nat) (Option.some Jvm.ClassFile.FieldType.int)), (Jvm.Cond.methodLink "CrossroadsChoose$Law" (29 : Nat) ({ cls := "CrossroadsChoose$Law", name := "take", desc := "()I" } : Jvm.MethodName)), (Jvm.Cond.privateMethod ({ cls := "CrossroadsChoose$Law", name := "take", desc := "()I" } : Jvm.MethodName)), (Jvm.Cond.instanceMethod ({ cls := "CrossroadsChoose$Law", name := "take", desc := "()I" } : Jvm.MethodName)), (Jvm.Cond.code ({ cls := "CrossroadsChoose$Law", name := "take", desc := "()I" } : Jvm.MethodName) prog_6_method_8_code (1 : Nat) (Option.some Jvm.ClassFile.FieldType.int)), (Jvm.Cond.methodLink "CrossroadsChoose$Law" (33 : Nat) ({ cls := "CrossroadsChoose$Law", name := "lay", desc := "(I)V" } : Jvm.MethodName)), (Jvm.Cond.privateMethod ({ cls := "CrossroadsChoose$Law", name := "lay", desc := "(I)V" } : Jvm.MethodName)), (Jvm.Cond.instanceMethod ({ cls := "CrossroadsChoose$Law", name := "lay", desc := "(I)V" } : Jvm.MethodName)), (Jvm.Cond.code ({ cls := "CrossroadsChoose$Law", name := "lay", desc := "(I)V" } : Jvm.MethodName) prog_6_method_7_code (2 : Nat) (Option.none : Option Jvm.ClassFile.FieldType)), (Jvm.Cond.methodLink "CrossroadsChoose$Law" (37 : Nat) ({ cls := "CrossroadsChoose$Law", name := "named", desc := "(I)I" } : Jvm.MethodName)), (Jvm.Cond.privateMethod ({ cls := "CrossroadsChoose$Law", name := "named", desc := "(I)I" } : Jvm.MethodName)), (Jvm.Cond.instanceMethod ({ cls := "CrossroadsChoose$Law", name := "named", desc := "(I)I" } : Jvm.MethodName)), (Jvm.Cond.code ({ cls := "CrossroadsChoose$Law", name := "named", desc := "(I)I" } : Jvm.MethodName) prog_6_method_6_code (2 : Nat) (Option.some Jvm.ClassFile.FieldType.int))] from rfl) ▸ h)))
theorem ck_2_208 (w : Cond) (h : w ∈ [(Jvm.Cond.methodLink "CrossroadsChoose$Law" (41 : Nat) ({ cls := "CrossroadsChoose$Law", name := "joined", desc := "(III)I" } : Jvm.MethodName)), (Jvm.Cond.static ({ cls := "CrossroadsChoose$Law", name := "joined", desc := "(III)I" } : Jvm.MethodName)), (Jvm.Cond.code ({ cls := "CrossroadsChoose$Law", name := "joined", desc := "(III)I" } : Jvm.MethodName) prog_6_method_9_code (3 : Nat) (Option.some Jvm.ClassFile.FieldType.int)), (Jvm.Cond.methodLink "CrossroadsChoose$Crossing" (42 : Nat) ({ cls := "java/lang/Math", name := "min", desc := "(II)I" } : Jvm.MethodName)), (Jvm.Cond.static ({ cls := "java/lang/Math", name := "min", desc := "(II)I" } : Jvm.MethodName)), (Jvm.Cond.code ({ cls := "java/lang/Math", name := "min", desc := "(II)I" } : Jvm.MethodName) prog_14_method_69_code (2 : Nat) (Option.some Jvm.ClassFile.FieldType.int)), (Jvm.Cond.methodLink "CrossroadsChoose$Crossing" (47 : Nat) ({ cls := "java/lang/Math", name := "max", desc := "(II)I" } : Jvm.MethodName)), (Jvm.Cond.static ({ cls := "java/lang/Math", name := "max", desc := "(II)I" } : Jvm.MethodName)), (Jvm.Cond.code ({ cls := "java/lang/Math", name := "max", desc := "(II)I" } : Jvm.MethodName) prog_14_method_65_code (2 : Nat) (Option.some Jvm.ClassFile.FieldType.int)), (Jvm.Cond.methodLink "CrossroadsChooseLaw" (45 : Nat) ({ cls := "CrossroadsChoose", name := "has", desc := "(I)I" } : Jvm.MethodName)), (Jvm.Cond.instanceMethod ({ cls := "CrossroadsChoose", name := "has", desc := "(I)I" } : Jvm.MethodName)), (Jvm.Cond.selects "CrossroadsChoose" ({ cls := "CrossroadsChoose", name := "has", desc := "(I)I" } : Jvm.MethodName) ({ cls := "CrossroadsChoose", name := "has", desc := "(I)I" } : Jvm.MethodName)), (Jvm.Cond.code ({ cls := "CrossroadsChoose", name := "has", desc := "(I)I" } : Jvm.MethodName) prog_1_method_11_code (2 : Nat) (Option.some Jvm.ClassFile.FieldType.int)), (Jvm.Cond.methodLink "CrossroadsChoose" (151 : Nat) ({ cls := "CrossroadsChoose$Crossing", name := "haver", desc := "(I)I" } : Jvm.MethodName)), (Jvm.Cond.instanceMethod ({ cls := "CrossroadsChoose$Crossing", name := "haver", desc := "(I)I" } : Jvm.MethodName)), (Jvm.Cond.selects "CrossroadsChoose$Crossing" ({ cls := "CrossroadsChoose$Crossing", name := "haver", desc := "(I)I" } : Jvm.MethodName) ({ cls := "CrossroadsChoose$Crossing", name := "haver", desc := "(I)I" } : Jvm.MethodName))]) : w ∈ lw_tbl := tk_2 (List.mem_of_mem_drop (i := 208) (List.mem_of_mem_take (i := 16) ((show (tables_1_2.drop 208).take 16 = [(Jvm.Cond.methodLink "CrossroadsChoose$Law" (41 : Nat) ({ cls := "CrossroadsChoose$Law", name := "joined", desc := "(III)I" } : Jvm.MethodName)), (Jvm.Cond.static ({ cls := "CrossroadsChoose$Law", name := "joined", desc := "(III)I" } : Jvm.MethodName)), (Jvm.Cond.code ({ cls := "CrossroadsChoose$Law", name := "joined", desc := "(III)I" } : Jvm.MethodName) prog_6_method_9_code (3 : Nat) (Option.some Jvm.ClassFile.FieldType.int)), (Jvm.Cond.methodLink "CrossroadsChoose$Crossing" (42 : Nat) ({ cls := "java/lang/Math", name := "min", desc := "(II)I" } : Jvm.MethodName)), (Jvm.Cond.static ({ cls := "java/lang/Math", name := "min", desc := "(II)I" } : Jvm.MethodName)), (Jvm.Cond.code ({ cls := "java/lang/Math", name := "min", desc := "(II)I" } : Jvm.MethodName) prog_14_method_69_code (2 : Nat) (Option.some Jvm.ClassFile.FieldType.int)), (Jvm.Cond.methodLink "CrossroadsChoose$Crossing" (47 : Nat) ({ cls := "java/lang/Math", name := "max", desc := "(II)I" } : Jvm.MethodName)), (Jvm.Cond.static ({ cls := "java/lang/Math", name := "max", desc := "(II)I" } : Jvm.MethodName)), (Jvm.Cond.code ({ cls := "java/lang/Math", name := "max", desc := "(II)I" } : Jvm.MethodName) prog_14_method_65_code (2 : Nat) (Option.some Jvm.ClassFile.FieldType.int)), (Jvm.Cond.methodLink "CrossroadsChooseLaw" (45 : Nat) ({ cls := "CrossroadsChoose", name := "has", desc := "(I)I" } : Jvm.MethodName)), (Jvm.Cond.instanceMethod ({ cls := "CrossroadsChoose", name := "has", desc := "(I)I" } : Jvm.MethodName)), (Jvm.Cond.selects "CrossroadsChoose" ({ cls := "CrossroadsChoose", name := "has", desc := "(I)I" } : Jvm.MethodName) ({ cls := "CrossroadsChoose", name := "has", desc := "(I)I" } : Jvm.MethodName)), (Jvm.Cond.code ({ cls := "CrossroadsChoose", name := "has", desc := "(I)I" } : Jvm.MethodName) prog_1_method_11_code (2 : Nat) (Option.some Jvm.ClassFile.FieldType.int)), (Jvm.Cond.methodLink "CrossroadsChoose" (151 : Nat) ({ cls := "CrossroadsChoose$Crossing", name := "haver", desc := "(I)I" } : Jvm.MethodName)), (Jvm.Cond.instanceMethod ({ cls := "CrossroadsChoose$Crossing", name := "haver", desc := "(I)I" } : Jvm.MethodName)), (Jvm.Cond.selects "CrossroadsChoose$Crossing" ({ cls := "CrossroadsChoose$Crossing", name := "haver", desc := "(I)I" } : Jvm.MethodName) ({ cls := "CrossroadsChoose$Crossing", name := "haver", desc := "(I)I" } : Jvm.MethodName))] from rfl) ▸ h)))
theorem ck_2_224 (w : Cond) (h : w ∈ [(Jvm.Cond.code ({ cls := "CrossroadsChoose$Crossing", name := "haver", desc := "(I)I" } : Jvm.MethodName) prog_4_method_14_code (2 : Nat) (Option.some Jvm.ClassFile.FieldType.int)), (Jvm.Cond.methodLink "CrossroadsChoose$Crossing" (66 : Nat) ({ cls := "CrossroadsChoose$Crossing", name := "isRunner", desc := "(I)Z" } : Jvm.MethodName)), (Jvm.Cond.instanceMethod ({ cls := "CrossroadsChoose$Crossing", name := "isRunner", desc := "(I)Z" } : Jvm.MethodName)), (Jvm.Cond.selects "CrossroadsChoose$Crossing" ({ cls := "CrossroadsChoose$Crossing", name := "isRunner", desc := "(I)Z" } : Jvm.MethodName) ({ cls := "CrossroadsChoose$Crossing", name := "isRunner", desc := "(I)Z" } : Jvm.MethodName)), (Jvm.Cond.code ({ cls := "CrossroadsChoose$Crossing", name := "isRunner", desc := "(I)Z" } : Jvm.MethodName) prog_4_method_12_code (2 : Nat) (Option.some Jvm.ClassFile.FieldType.boolean)), (Jvm.Cond.methodLink "CrossroadsChoose$Crossing" (53 : Nat) ({ cls := "CrossroadsChoose$Crossing", name := "isRoad", desc := "(I)Z" } : Jvm.MethodName)), (Jvm.Cond.methodLink "CrossroadsChoose$Crossing" (69 : Nat) ({ cls := "CrossroadsChoose$Crossing", name := "wanter", desc := "(II)I" } : Jvm.MethodName)), (Jvm.Cond.privateMethod ({ cls := "CrossroadsChoose$Crossing", name := "wanter", desc := "(II)I" } : Jvm.MethodName)), (Jvm.Cond.instanceMethod ({ cls := "CrossroadsChoose$Crossing", name := "wanter", desc := "(II)I" } : Jvm.MethodName)), (Jvm.Cond.code ({ cls := "CrossroadsChoose$Crossing", name := "wanter", desc := "(II)I" } : Jvm.MethodName) prog_4_method_15_code (7 : Nat) (Option.some Jvm.ClassFile.FieldType.int)), (Jvm.Cond.methodLink "CrossroadsChoose$Crossing" (72 : Nat) ({ cls := "CrossroadsChoose$Crossing", name := "wants", desc := "(II)I" } : Jvm.MethodName)), (Jvm.Cond.methodLink "CrossroadsChooseLaw" (49 : Nat) ({ cls := "CrossroadsChoose", name := "last", desc := "(II)I" } : Jvm.MethodName)), (Jvm.Cond.instanceMethod ({ cls := "CrossroadsChoose", name := "last", desc := "(II)I" } : Jvm.MethodName)), (Jvm.Cond.selects "CrossroadsChoose" ({ cls := "CrossroadsChoose", name := "last", desc := "(II)I" } : Jvm.MethodName) ({ cls := "CrossroadsChoose", name := "last", desc := "(II)I" } : Jvm.MethodName)), (Jvm.Cond.code ({ cls := "CrossroadsChoose", name := "last", desc := "(II)I" } : Jvm.MethodName) prog_1_method_12_code (4 : Nat) (Option.some Jvm.ClassFile.FieldType.int)), (Jvm.Cond.methodLink "CrossroadsChoose" (154 : Nat) ({ cls := "CrossroadsChoose", name := "dayRefusal", desc := "(II)I" } : Jvm.MethodName))]) : w ∈ lw_tbl := tk_2 (List.mem_of_mem_drop (i := 224) (List.mem_of_mem_take (i := 16) ((show (tables_1_2.drop 224).take 16 = [(Jvm.Cond.code ({ cls := "CrossroadsChoose$Crossing", name := "haver", desc := "(I)I" } : Jvm.MethodName) prog_4_method_14_code (2 : Nat) (Option.some Jvm.ClassFile.FieldType.int)), (Jvm.Cond.methodLink "CrossroadsChoose$Crossing" (66 : Nat) ({ cls := "CrossroadsChoose$Crossing", name := "isRunner", desc := "(I)Z" } : Jvm.MethodName)), (Jvm.Cond.instanceMethod ({ cls := "CrossroadsChoose$Crossing", name := "isRunner", desc := "(I)Z" } : Jvm.MethodName)), (Jvm.Cond.selects "CrossroadsChoose$Crossing" ({ cls := "CrossroadsChoose$Crossing", name := "isRunner", desc := "(I)Z" } : Jvm.MethodName) ({ cls := "CrossroadsChoose$Crossing", name := "isRunner", desc := "(I)Z" } : Jvm.MethodName)), (Jvm.Cond.code ({ cls := "CrossroadsChoose$Crossing", name := "isRunner", desc := "(I)Z" } : Jvm.MethodName) prog_4_method_12_code (2 : Nat) (Option.some Jvm.ClassFile.FieldType.boolean)), (Jvm.Cond.methodLink "CrossroadsChoose$Crossing" (53 : Nat) ({ cls := "CrossroadsChoose$Crossing", name := "isRoad", desc := "(I)Z" } : Jvm.MethodName)), (Jvm.Cond.methodLink "CrossroadsChoose$Crossing" (69 : Nat) ({ cls := "CrossroadsChoose$Crossing", name := "wanter", desc := "(II)I" } : Jvm.MethodName)), (Jvm.Cond.privateMethod ({ cls := "CrossroadsChoose$Crossing", name := "wanter", desc := "(II)I" } : Jvm.MethodName)), (Jvm.Cond.instanceMethod ({ cls := "CrossroadsChoose$Crossing", name := "wanter", desc := "(II)I" } : Jvm.MethodName)), (Jvm.Cond.code ({ cls := "CrossroadsChoose$Crossing", name := "wanter", desc := "(II)I" } : Jvm.MethodName) prog_4_method_15_code (7 : Nat) (Option.some Jvm.ClassFile.FieldType.int)), (Jvm.Cond.methodLink "CrossroadsChoose$Crossing" (72 : Nat) ({ cls := "CrossroadsChoose$Crossing", name := "wants", desc := "(II)I" } : Jvm.MethodName)), (Jvm.Cond.methodLink "CrossroadsChooseLaw" (49 : Nat) ({ cls := "CrossroadsChoose", name := "last", desc := "(II)I" } : Jvm.MethodName)), (Jvm.Cond.instanceMethod ({ cls := "CrossroadsChoose", name := "last", desc := "(II)I" } : Jvm.MethodName)), (Jvm.Cond.selects "CrossroadsChoose" ({ cls := "CrossroadsChoose", name := "last", desc := "(II)I" } : Jvm.MethodName) ({ cls := "CrossroadsChoose", name := "last", desc := "(II)I" } : Jvm.MethodName)), (Jvm.Cond.code ({ cls := "CrossroadsChoose", name := "last", desc := "(II)I" } : Jvm.MethodName) prog_1_method_12_code (4 : Nat) (Option.some Jvm.ClassFile.FieldType.int)), (Jvm.Cond.methodLink "CrossroadsChoose" (154 : Nat) ({ cls := "CrossroadsChoose", name := "dayRefusal", desc := "(II)I" } : Jvm.MethodName))] from rfl) ▸ h)))
theorem tk_3 {w : Cond} (h : w ∈ tables_1_3) : w ∈ lw_tbl := List.mem_append_right _ (show _ ∈ tables_1 from List.mem_append_right _ (List.mem_append_right _ (List.mem_append_left _ h)))
theorem ck_3_0 (w : Cond) (h : w ∈ [(Jvm.Cond.privateMethod ({ cls := "CrossroadsChoose", name := "dayRefusal", desc := "(II)I" } : Jvm.MethodName)), (Jvm.Cond.instanceMethod ({ cls := "CrossroadsChoose", name := "dayRefusal", desc := "(II)I" } : Jvm.MethodName)), (Jvm.Cond.code ({ cls := "CrossroadsChoose", name := "dayRefusal", desc := "(II)I" } : Jvm.MethodName) prog_1_method_24_code (3 : Nat) (Option.some Jvm.ClassFile.FieldType.int)), (Jvm.Cond.methodLink "CrossroadsChoose" (216 : Nat) ({ cls := "CrossroadsChoose", name := "bytesRefusal", desc := "(I)I" } : Jvm.MethodName)), (Jvm.Cond.privateMethod ({ cls := "CrossroadsChoose", name := "bytesRefusal", desc := "(I)I" } : Jvm.MethodName)), (Jvm.Cond.instanceMethod ({ cls := "CrossroadsChoose", name := "bytesRefusal", desc := "(I)I" } : Jvm.MethodName)), (Jvm.Cond.code ({ cls := "CrossroadsChoose", name := "bytesRefusal", desc := "(I)I" } : Jvm.MethodName) prog_1_method_25_code (4 : Nat) (Option.some Jvm.ClassFile.FieldType.int)), (Jvm.Cond.methodLink "CrossroadsChoose" (219 : Nat) ({ cls := "CrossroadsChoose", name := "rowRefusal", desc := "(I)I" } : Jvm.MethodName)), (Jvm.Cond.privateMethod ({ cls := "CrossroadsChoose", name := "rowRefusal", desc := "(I)I" } : Jvm.MethodName)), (Jvm.Cond.instanceMethod ({ cls := "CrossroadsChoose", name := "rowRefusal", desc := "(I)I" } : Jvm.MethodName)), (Jvm.Cond.code ({ cls := "CrossroadsChoose", name := "rowRefusal", desc := "(I)I" } : Jvm.MethodName) prog_1_method_57_code (3 : Nat) (Option.some Jvm.ClassFile.FieldType.int)), (Jvm.Cond.methodLink "CrossroadsChoose" (329 : Nat) ({ cls := "CrossroadsChoose$Shelf", name := "holdsRow", desc := "()Z" } : Jvm.MethodName)), (Jvm.Cond.instanceMethod ({ cls := "CrossroadsChoose$Shelf", name := "holdsRow", desc := "()Z" } : Jvm.MethodName)), (Jvm.Cond.selects "CrossroadsChoose$Shelf" ({ cls := "CrossroadsChoose$Shelf", name := "holdsRow", desc := "()Z" } : Jvm.MethodName) ({ cls := "CrossroadsChoose$Shelf", name := "holdsRow", desc := "()Z" } : Jvm.MethodName)), (Jvm.Cond.code ({ cls := "CrossroadsChoose$Shelf", name := "holdsRow", desc := "()Z" } : Jvm.MethodName) prog_7_method_3_code (1 : Nat) (Option.some Jvm.ClassFile.FieldType.boolean)), (Jvm.Cond.methodLink "CrossroadsChoose" (157 : Nat) ({ cls := "CrossroadsChoose", name := "thinkDay", desc := "(LCrossroadsChoose$Shelf;I)V" } : Jvm.MethodName))]) : w ∈ lw_tbl := tk_3 (List.mem_of_mem_drop (i := 0) (List.mem_of_mem_take (i := 16) ((show (tables_1_3.drop 0).take 16 = [(Jvm.Cond.privateMethod ({ cls := "CrossroadsChoose", name := "dayRefusal", desc := "(II)I" } : Jvm.MethodName)), (Jvm.Cond.instanceMethod ({ cls := "CrossroadsChoose", name := "dayRefusal", desc := "(II)I" } : Jvm.MethodName)), (Jvm.Cond.code ({ cls := "CrossroadsChoose", name := "dayRefusal", desc := "(II)I" } : Jvm.MethodName) prog_1_method_24_code (3 : Nat) (Option.some Jvm.ClassFile.FieldType.int)), (Jvm.Cond.methodLink "CrossroadsChoose" (216 : Nat) ({ cls := "CrossroadsChoose", name := "bytesRefusal", desc := "(I)I" } : Jvm.MethodName)), (Jvm.Cond.privateMethod ({ cls := "CrossroadsChoose", name := "bytesRefusal", desc := "(I)I" } : Jvm.MethodName)), (Jvm.Cond.instanceMethod ({ cls := "CrossroadsChoose", name := "bytesRefusal", desc := "(I)I" } : Jvm.MethodName)), (Jvm.Cond.code ({ cls := "CrossroadsChoose", name := "bytesRefusal", desc := "(I)I" } : Jvm.MethodName) prog_1_method_25_code (4 : Nat) (Option.some Jvm.ClassFile.FieldType.int)), (Jvm.Cond.methodLink "CrossroadsChoose" (219 : Nat) ({ cls := "CrossroadsChoose", name := "rowRefusal", desc := "(I)I" } : Jvm.MethodName)), (Jvm.Cond.privateMethod ({ cls := "CrossroadsChoose", name := "rowRefusal", desc := "(I)I" } : Jvm.MethodName)), (Jvm.Cond.instanceMethod ({ cls := "CrossroadsChoose", name := "rowRefusal", desc := "(I)I" } : Jvm.MethodName)), (Jvm.Cond.code ({ cls := "CrossroadsChoose", name := "rowRefusal", desc := "(I)I" } : Jvm.MethodName) prog_1_method_57_code (3 : Nat) (Option.some Jvm.ClassFile.FieldType.int)), (Jvm.Cond.methodLink "CrossroadsChoose" (329 : Nat) ({ cls := "CrossroadsChoose$Shelf", name := "holdsRow", desc := "()Z" } : Jvm.MethodName)), (Jvm.Cond.instanceMethod ({ cls := "CrossroadsChoose$Shelf", name := "holdsRow", desc := "()Z" } : Jvm.MethodName)), (Jvm.Cond.selects "CrossroadsChoose$Shelf" ({ cls := "CrossroadsChoose$Shelf", name := "holdsRow", desc := "()Z" } : Jvm.MethodName) ({ cls := "CrossroadsChoose$Shelf", name := "holdsRow", desc := "()Z" } : Jvm.MethodName)), (Jvm.Cond.code ({ cls := "CrossroadsChoose$Shelf", name := "holdsRow", desc := "()Z" } : Jvm.MethodName) prog_7_method_3_code (1 : Nat) (Option.some Jvm.ClassFile.FieldType.boolean)), (Jvm.Cond.methodLink "CrossroadsChoose" (157 : Nat) ({ cls := "CrossroadsChoose", name := "thinkDay", desc := "(LCrossroadsChoose$Shelf;I)V" } : Jvm.MethodName))] from rfl) ▸ h)))
theorem ck_3_16 (w : Cond) (h : w ∈ [(Jvm.Cond.privateMethod ({ cls := "CrossroadsChoose", name := "thinkDay", desc := "(LCrossroadsChoose$Shelf;I)V" } : Jvm.MethodName)), (Jvm.Cond.instanceMethod ({ cls := "CrossroadsChoose", name := "thinkDay", desc := "(LCrossroadsChoose$Shelf;I)V" } : Jvm.MethodName)), (Jvm.Cond.code ({ cls := "CrossroadsChoose", name := "thinkDay", desc := "(LCrossroadsChoose$Shelf;I)V" } : Jvm.MethodName) prog_1_method_26_code (5 : Nat) (Option.none : Option Jvm.ClassFile.FieldType)), (Jvm.Cond.methodLink "CrossroadsChoose" (184 : Nat) ({ cls := "CrossroadsChoose$Thought", name := "begin", desc := "(LCrossroadsChoose$Crossing;)V" } : Jvm.MethodName)), (Jvm.Cond.instanceMethod ({ cls := "CrossroadsChoose$Thought", name := "begin", desc := "(LCrossroadsChoose$Crossing;)V" } : Jvm.MethodName)), (Jvm.Cond.selects "CrossroadsChoose$Thought" ({ cls := "CrossroadsChoose$Thought", name := "begin", desc := "(LCrossroadsChoose$Crossing;)V" } : Jvm.MethodName) ({ cls := "CrossroadsChoose$Thought", name := "begin", desc := "(LCrossroadsChoose$Crossing;)V" } : Jvm.MethodName)), (Jvm.Cond.code ({ cls := "CrossroadsChoose$Thought", name := "begin", desc := "(LCrossroadsChoose$Crossing;)V" } : Jvm.MethodName) prog_9_method_2_code (2 : Nat) (Option.none : Option Jvm.ClassFile.FieldType)), (Jvm.Cond.methodLink "CrossroadsChoose$Thought" (30 : Nat) ({ cls := "CrossroadsChoose$Crossing", name := "copy", desc := "(LCrossroadsChoose$Crossing;)V" } : Jvm.MethodName)), (Jvm.Cond.instanceMethod ({ cls := "CrossroadsChoose$Crossing", name := "copy", desc := "(LCrossroadsChoose$Crossing;)V" } : Jvm.MethodName)), (Jvm.Cond.selects "CrossroadsChoose$Crossing" ({ cls := "CrossroadsChoose$Crossing", name := "copy", desc := "(LCrossroadsChoose$Crossing;)V" } : Jvm.MethodName) ({ cls := "CrossroadsChoose$Crossing", name := "copy", desc := "(LCrossroadsChoose$Crossing;)V" } : Jvm.MethodName)), (Jvm.Cond.code ({ cls := "CrossroadsChoose$Crossing", name := "copy", desc := "(LCrossroadsChoose$Crossing;)V" } : Jvm.MethodName) prog_4_method_9_code (2 : Nat) (Option.none : Option Jvm.ClassFile.FieldType)), (Jvm.Cond.methodLink "CrossroadsChoose$Crossing" (36 : Nat) ({ cls := "java/lang/System", name := "arraycopy", desc := "(Ljava/lang/Object;ILjava/lang/Object;II)V" } : Jvm.MethodName)), (Jvm.Cond.methodLink "CrossroadsChoose$Thought" (34 : Nat) ({ cls := "java/util/Arrays", name := "fill", desc := "([II)V" } : Jvm.MethodName)), (Jvm.Cond.static ({ cls := "java/util/Arrays", name := "fill", desc := "([II)V" } : Jvm.MethodName)), (Jvm.Cond.code ({ cls := "java/util/Arrays", name := "fill", desc := "([II)V" } : Jvm.MethodName) prog_16_method_103_code (4 : Nat) (Option.none : Option Jvm.ClassFile.FieldType)), (Jvm.Cond.methodLink "CrossroadsChoose$Thought" (40 : Nat) ({ cls := "CrossroadsChoose$Crossing", name := "giveWaits", desc := "([I)V" } : Jvm.MethodName))]) : w ∈ lw_tbl := tk_3 (List.mem_of_mem_drop (i := 16) (List.mem_of_mem_take (i := 16) ((show (tables_1_3.drop 16).take 16 = [(Jvm.Cond.privateMethod ({ cls := "CrossroadsChoose", name := "thinkDay", desc := "(LCrossroadsChoose$Shelf;I)V" } : Jvm.MethodName)), (Jvm.Cond.instanceMethod ({ cls := "CrossroadsChoose", name := "thinkDay", desc := "(LCrossroadsChoose$Shelf;I)V" } : Jvm.MethodName)), (Jvm.Cond.code ({ cls := "CrossroadsChoose", name := "thinkDay", desc := "(LCrossroadsChoose$Shelf;I)V" } : Jvm.MethodName) prog_1_method_26_code (5 : Nat) (Option.none : Option Jvm.ClassFile.FieldType)), (Jvm.Cond.methodLink "CrossroadsChoose" (184 : Nat) ({ cls := "CrossroadsChoose$Thought", name := "begin", desc := "(LCrossroadsChoose$Crossing;)V" } : Jvm.MethodName)), (Jvm.Cond.instanceMethod ({ cls := "CrossroadsChoose$Thought", name := "begin", desc := "(LCrossroadsChoose$Crossing;)V" } : Jvm.MethodName)), (Jvm.Cond.selects "CrossroadsChoose$Thought" ({ cls := "CrossroadsChoose$Thought", name := "begin", desc := "(LCrossroadsChoose$Crossing;)V" } : Jvm.MethodName) ({ cls := "CrossroadsChoose$Thought", name := "begin", desc := "(LCrossroadsChoose$Crossing;)V" } : Jvm.MethodName)), (Jvm.Cond.code ({ cls := "CrossroadsChoose$Thought", name := "begin", desc := "(LCrossroadsChoose$Crossing;)V" } : Jvm.MethodName) prog_9_method_2_code (2 : Nat) (Option.none : Option Jvm.ClassFile.FieldType)), (Jvm.Cond.methodLink "CrossroadsChoose$Thought" (30 : Nat) ({ cls := "CrossroadsChoose$Crossing", name := "copy", desc := "(LCrossroadsChoose$Crossing;)V" } : Jvm.MethodName)), (Jvm.Cond.instanceMethod ({ cls := "CrossroadsChoose$Crossing", name := "copy", desc := "(LCrossroadsChoose$Crossing;)V" } : Jvm.MethodName)), (Jvm.Cond.selects "CrossroadsChoose$Crossing" ({ cls := "CrossroadsChoose$Crossing", name := "copy", desc := "(LCrossroadsChoose$Crossing;)V" } : Jvm.MethodName) ({ cls := "CrossroadsChoose$Crossing", name := "copy", desc := "(LCrossroadsChoose$Crossing;)V" } : Jvm.MethodName)), (Jvm.Cond.code ({ cls := "CrossroadsChoose$Crossing", name := "copy", desc := "(LCrossroadsChoose$Crossing;)V" } : Jvm.MethodName) prog_4_method_9_code (2 : Nat) (Option.none : Option Jvm.ClassFile.FieldType)), (Jvm.Cond.methodLink "CrossroadsChoose$Crossing" (36 : Nat) ({ cls := "java/lang/System", name := "arraycopy", desc := "(Ljava/lang/Object;ILjava/lang/Object;II)V" } : Jvm.MethodName)), (Jvm.Cond.methodLink "CrossroadsChoose$Thought" (34 : Nat) ({ cls := "java/util/Arrays", name := "fill", desc := "([II)V" } : Jvm.MethodName)), (Jvm.Cond.static ({ cls := "java/util/Arrays", name := "fill", desc := "([II)V" } : Jvm.MethodName)), (Jvm.Cond.code ({ cls := "java/util/Arrays", name := "fill", desc := "([II)V" } : Jvm.MethodName) prog_16_method_103_code (4 : Nat) (Option.none : Option Jvm.ClassFile.FieldType)), (Jvm.Cond.methodLink "CrossroadsChoose$Thought" (40 : Nat) ({ cls := "CrossroadsChoose$Crossing", name := "giveWaits", desc := "([I)V" } : Jvm.MethodName))] from rfl) ▸ h)))
theorem ck_3_32 (w : Cond) (h : w ∈ [(Jvm.Cond.instanceMethod ({ cls := "CrossroadsChoose$Crossing", name := "giveWaits", desc := "([I)V" } : Jvm.MethodName)), (Jvm.Cond.selects "CrossroadsChoose$Crossing" ({ cls := "CrossroadsChoose$Crossing", name := "giveWaits", desc := "([I)V" } : Jvm.MethodName) ({ cls := "CrossroadsChoose$Crossing", name := "giveWaits", desc := "([I)V" } : Jvm.MethodName)), (Jvm.Cond.code ({ cls := "CrossroadsChoose$Crossing", name := "giveWaits", desc := "([I)V" } : Jvm.MethodName) prog_4_method_10_code (2 : Nat) (Option.none : Option Jvm.ClassFile.FieldType)), (Jvm.Cond.methodLink "CrossroadsChoose" (222 : Nat) ({ cls := "CrossroadsChoose$Shelf", name := "comers", desc := "(I)I" } : Jvm.MethodName)), (Jvm.Cond.instanceMethod ({ cls := "CrossroadsChoose$Shelf", name := "comers", desc := "(I)I" } : Jvm.MethodName)), (Jvm.Cond.selects "CrossroadsChoose$Shelf" ({ cls := "CrossroadsChoose$Shelf", name := "comers", desc := "(I)I" } : Jvm.MethodName) ({ cls := "CrossroadsChoose$Shelf", name := "comers", desc := "(I)I" } : Jvm.MethodName)), (Jvm.Cond.code ({ cls := "CrossroadsChoose$Shelf", name := "comers", desc := "(I)I" } : Jvm.MethodName) prog_7_method_13_code (3 : Nat) (Option.some Jvm.ClassFile.FieldType.int)), (Jvm.Cond.methodLink "CrossroadsChoose$Shelf" (55 : Nat) ({ cls := "CrossroadsChoose$Shelf", name := "small", desc := "(I)I" } : Jvm.MethodName)), (Jvm.Cond.methodLinkNest "CrossroadsChoose$Shelf" (59 : Nat) ({ cls := "CrossroadsChoose", name := "isComer", desc := "(I)Z" } : Jvm.MethodName) "CrossroadsChoose"), (Jvm.Cond.methodLink "CrossroadsChoose" (207 : Nat) ({ cls := "CrossroadsChoose$Thought", name := "meet", desc := "(I)I" } : Jvm.MethodName)), (Jvm.Cond.instanceMethod ({ cls := "CrossroadsChoose$Thought", name := "meet", desc := "(I)I" } : Jvm.MethodName)), (Jvm.Cond.selects "CrossroadsChoose$Thought" ({ cls := "CrossroadsChoose$Thought", name := "meet", desc := "(I)I" } : Jvm.MethodName) ({ cls := "CrossroadsChoose$Thought", name := "meet", desc := "(I)I" } : Jvm.MethodName)), (Jvm.Cond.code ({ cls := "CrossroadsChoose$Thought", name := "meet", desc := "(I)I" } : Jvm.MethodName) prog_9_method_4_code (3 : Nat) (Option.some Jvm.ClassFile.FieldType.int)), (Jvm.Cond.methodLink "CrossroadsChoose$Thought" (65 : Nat) ({ cls := "CrossroadsChoose$Crossing", name := "haver", desc := "(I)I" } : Jvm.MethodName)), (Jvm.Cond.methodLink "CrossroadsChoose$Thought" (69 : Nat) ({ cls := "CrossroadsChoose$Crossing", name := "settle", desc := "(I)V" } : Jvm.MethodName)), (Jvm.Cond.instanceMethod ({ cls := "CrossroadsChoose$Crossing", name := "settle", desc := "(I)V" } : Jvm.MethodName))]) : w ∈ lw_tbl := tk_3 (List.mem_of_mem_drop (i := 32) (List.mem_of_mem_take (i := 16) ((show (tables_1_3.drop 32).take 16 = [(Jvm.Cond.instanceMethod ({ cls := "CrossroadsChoose$Crossing", name := "giveWaits", desc := "([I)V" } : Jvm.MethodName)), (Jvm.Cond.selects "CrossroadsChoose$Crossing" ({ cls := "CrossroadsChoose$Crossing", name := "giveWaits", desc := "([I)V" } : Jvm.MethodName) ({ cls := "CrossroadsChoose$Crossing", name := "giveWaits", desc := "([I)V" } : Jvm.MethodName)), (Jvm.Cond.code ({ cls := "CrossroadsChoose$Crossing", name := "giveWaits", desc := "([I)V" } : Jvm.MethodName) prog_4_method_10_code (2 : Nat) (Option.none : Option Jvm.ClassFile.FieldType)), (Jvm.Cond.methodLink "CrossroadsChoose" (222 : Nat) ({ cls := "CrossroadsChoose$Shelf", name := "comers", desc := "(I)I" } : Jvm.MethodName)), (Jvm.Cond.instanceMethod ({ cls := "CrossroadsChoose$Shelf", name := "comers", desc := "(I)I" } : Jvm.MethodName)), (Jvm.Cond.selects "CrossroadsChoose$Shelf" ({ cls := "CrossroadsChoose$Shelf", name := "comers", desc := "(I)I" } : Jvm.MethodName) ({ cls := "CrossroadsChoose$Shelf", name := "comers", desc := "(I)I" } : Jvm.MethodName)), (Jvm.Cond.code ({ cls := "CrossroadsChoose$Shelf", name := "comers", desc := "(I)I" } : Jvm.MethodName) prog_7_method_13_code (3 : Nat) (Option.some Jvm.ClassFile.FieldType.int)), (Jvm.Cond.methodLink "CrossroadsChoose$Shelf" (55 : Nat) ({ cls := "CrossroadsChoose$Shelf", name := "small", desc := "(I)I" } : Jvm.MethodName)), (Jvm.Cond.methodLinkNest "CrossroadsChoose$Shelf" (59 : Nat) ({ cls := "CrossroadsChoose", name := "isComer", desc := "(I)Z" } : Jvm.MethodName) "CrossroadsChoose"), (Jvm.Cond.methodLink "CrossroadsChoose" (207 : Nat) ({ cls := "CrossroadsChoose$Thought", name := "meet", desc := "(I)I" } : Jvm.MethodName)), (Jvm.Cond.instanceMethod ({ cls := "CrossroadsChoose$Thought", name := "meet", desc := "(I)I" } : Jvm.MethodName)), (Jvm.Cond.selects "CrossroadsChoose$Thought" ({ cls := "CrossroadsChoose$Thought", name := "meet", desc := "(I)I" } : Jvm.MethodName) ({ cls := "CrossroadsChoose$Thought", name := "meet", desc := "(I)I" } : Jvm.MethodName)), (Jvm.Cond.code ({ cls := "CrossroadsChoose$Thought", name := "meet", desc := "(I)I" } : Jvm.MethodName) prog_9_method_4_code (3 : Nat) (Option.some Jvm.ClassFile.FieldType.int)), (Jvm.Cond.methodLink "CrossroadsChoose$Thought" (65 : Nat) ({ cls := "CrossroadsChoose$Crossing", name := "haver", desc := "(I)I" } : Jvm.MethodName)), (Jvm.Cond.methodLink "CrossroadsChoose$Thought" (69 : Nat) ({ cls := "CrossroadsChoose$Crossing", name := "settle", desc := "(I)V" } : Jvm.MethodName)), (Jvm.Cond.instanceMethod ({ cls := "CrossroadsChoose$Crossing", name := "settle", desc := "(I)V" } : Jvm.MethodName))] from rfl) ▸ h)))
theorem ck_3_48 (w : Cond) (h : w ∈ [(Jvm.Cond.selects "CrossroadsChoose$Crossing" ({ cls := "CrossroadsChoose$Crossing", name := "settle", desc := "(I)V" } : Jvm.MethodName) ({ cls := "CrossroadsChoose$Crossing", name := "settle", desc := "(I)V" } : Jvm.MethodName)), (Jvm.Cond.code ({ cls := "CrossroadsChoose$Crossing", name := "settle", desc := "(I)V" } : Jvm.MethodName) prog_4_method_18_code (4 : Nat) (Option.none : Option Jvm.ClassFile.FieldType)), (Jvm.Cond.fieldLinkNest "CrossroadsChoose$Crossing" (79 : Nat) "CrossroadsChoose" "HIGHEST" "[I" "CrossroadsChoose"), (Jvm.Cond.methodLink "CrossroadsChoose$Thought" (57 : Nat) ({ cls := "CrossroadsChoose$Crossing", name := "number", desc := "(II)I" } : Jvm.MethodName)), (Jvm.Cond.methodLink "CrossroadsChoose$Thought" (73 : Nat) ({ cls := "CrossroadsChoose$Thought", name := "noteWaits", desc := "()V" } : Jvm.MethodName)), (Jvm.Cond.privateMethod ({ cls := "CrossroadsChoose$Thought", name := "noteWaits", desc := "()V" } : Jvm.MethodName)), (Jvm.Cond.instanceMethod ({ cls := "CrossroadsChoose$Thought", name := "noteWaits", desc := "()V" } : Jvm.MethodName)), (Jvm.Cond.code ({ cls := "CrossroadsChoose$Thought", name := "noteWaits", desc := "()V" } : Jvm.MethodName) prog_9_method_5_code (2 : Nat) (Option.none : Option Jvm.ClassFile.FieldType)), (Jvm.Cond.methodLink "CrossroadsChoose$Thought" (76 : Nat) ({ cls := "java/lang/Math", name := "max", desc := "(II)I" } : Jvm.MethodName)), (Jvm.Cond.methodLink "CrossroadsChooseLaw" (53 : Nat) ({ cls := "CrossroadsChoose", name := "day", desc := "(IIII)I" } : Jvm.MethodName)), (Jvm.Cond.instanceMethod ({ cls := "CrossroadsChoose", name := "day", desc := "(IIII)I" } : Jvm.MethodName)), (Jvm.Cond.selects "CrossroadsChoose" ({ cls := "CrossroadsChoose", name := "day", desc := "(IIII)I" } : Jvm.MethodName) ({ cls := "CrossroadsChoose", name := "day", desc := "(IIII)I" } : Jvm.MethodName)), (Jvm.Cond.code ({ cls := "CrossroadsChoose", name := "day", desc := "(IIII)I" } : Jvm.MethodName) prog_1_method_13_code (6 : Nat) (Option.some Jvm.ClassFile.FieldType.int)), (Jvm.Cond.methodLink "CrossroadsChooseLaw" (58 : Nat) ({ cls := "CrossroadsChoose", name := "unlike", desc := "(II)I" } : Jvm.MethodName)), (Jvm.Cond.instanceMethod ({ cls := "CrossroadsChoose", name := "unlike", desc := "(II)I" } : Jvm.MethodName)), (Jvm.Cond.selects "CrossroadsChoose" ({ cls := "CrossroadsChoose", name := "unlike", desc := "(II)I" } : Jvm.MethodName) ({ cls := "CrossroadsChoose", name := "unlike", desc := "(II)I" } : Jvm.MethodName))]) : w ∈ lw_tbl := tk_3 (List.mem_of_mem_drop (i := 48) (List.mem_of_mem_take (i := 16) ((show (tables_1_3.drop 48).take 16 = [(Jvm.Cond.selects "CrossroadsChoose$Crossing" ({ cls := "CrossroadsChoose$Crossing", name := "settle", desc := "(I)V" } : Jvm.MethodName) ({ cls := "CrossroadsChoose$Crossing", name := "settle", desc := "(I)V" } : Jvm.MethodName)), (Jvm.Cond.code ({ cls := "CrossroadsChoose$Crossing", name := "settle", desc := "(I)V" } : Jvm.MethodName) prog_4_method_18_code (4 : Nat) (Option.none : Option Jvm.ClassFile.FieldType)), (Jvm.Cond.fieldLinkNest "CrossroadsChoose$Crossing" (79 : Nat) "CrossroadsChoose" "HIGHEST" "[I" "CrossroadsChoose"), (Jvm.Cond.methodLink "CrossroadsChoose$Thought" (57 : Nat) ({ cls := "CrossroadsChoose$Crossing", name := "number", desc := "(II)I" } : Jvm.MethodName)), (Jvm.Cond.methodLink "CrossroadsChoose$Thought" (73 : Nat) ({ cls := "CrossroadsChoose$Thought", name := "noteWaits", desc := "()V" } : Jvm.MethodName)), (Jvm.Cond.privateMethod ({ cls := "CrossroadsChoose$Thought", name := "noteWaits", desc := "()V" } : Jvm.MethodName)), (Jvm.Cond.instanceMethod ({ cls := "CrossroadsChoose$Thought", name := "noteWaits", desc := "()V" } : Jvm.MethodName)), (Jvm.Cond.code ({ cls := "CrossroadsChoose$Thought", name := "noteWaits", desc := "()V" } : Jvm.MethodName) prog_9_method_5_code (2 : Nat) (Option.none : Option Jvm.ClassFile.FieldType)), (Jvm.Cond.methodLink "CrossroadsChoose$Thought" (76 : Nat) ({ cls := "java/lang/Math", name := "max", desc := "(II)I" } : Jvm.MethodName)), (Jvm.Cond.methodLink "CrossroadsChooseLaw" (53 : Nat) ({ cls := "CrossroadsChoose", name := "day", desc := "(IIII)I" } : Jvm.MethodName)), (Jvm.Cond.instanceMethod ({ cls := "CrossroadsChoose", name := "day", desc := "(IIII)I" } : Jvm.MethodName)), (Jvm.Cond.selects "CrossroadsChoose" ({ cls := "CrossroadsChoose", name := "day", desc := "(IIII)I" } : Jvm.MethodName) ({ cls := "CrossroadsChoose", name := "day", desc := "(IIII)I" } : Jvm.MethodName)), (Jvm.Cond.code ({ cls := "CrossroadsChoose", name := "day", desc := "(IIII)I" } : Jvm.MethodName) prog_1_method_13_code (6 : Nat) (Option.some Jvm.ClassFile.FieldType.int)), (Jvm.Cond.methodLink "CrossroadsChooseLaw" (58 : Nat) ({ cls := "CrossroadsChoose", name := "unlike", desc := "(II)I" } : Jvm.MethodName)), (Jvm.Cond.instanceMethod ({ cls := "CrossroadsChoose", name := "unlike", desc := "(II)I" } : Jvm.MethodName)), (Jvm.Cond.selects "CrossroadsChoose" ({ cls := "CrossroadsChoose", name := "unlike", desc := "(II)I" } : Jvm.MethodName) ({ cls := "CrossroadsChoose", name := "unlike", desc := "(II)I" } : Jvm.MethodName))] from rfl) ▸ h)))
theorem ck_3_64 (w : Cond) (h : w ∈ [(Jvm.Cond.code ({ cls := "CrossroadsChoose", name := "unlike", desc := "(II)I" } : Jvm.MethodName) prog_1_method_14_code (4 : Nat) (Option.some Jvm.ClassFile.FieldType.int)), (Jvm.Cond.methodLink "CrossroadsChoose" (177 : Nat) ({ cls := "CrossroadsChoose$Thought", name := "unlikeness", desc := "()I" } : Jvm.MethodName)), (Jvm.Cond.instanceMethod ({ cls := "CrossroadsChoose$Thought", name := "unlikeness", desc := "()I" } : Jvm.MethodName)), (Jvm.Cond.selects "CrossroadsChoose$Thought" ({ cls := "CrossroadsChoose$Thought", name := "unlikeness", desc := "()I" } : Jvm.MethodName) ({ cls := "CrossroadsChoose$Thought", name := "unlikeness", desc := "()I" } : Jvm.MethodName)), (Jvm.Cond.code ({ cls := "CrossroadsChoose$Thought", name := "unlikeness", desc := "()I" } : Jvm.MethodName) prog_9_method_6_code (4 : Nat) (Option.some Jvm.ClassFile.FieldType.int)), (Jvm.Cond.methodLink "CrossroadsChoose$Thought" (81 : Nat) ({ cls := "java/lang/Math", name := "min", desc := "(II)I" } : Jvm.MethodName)), (Jvm.Cond.methodLink "CrossroadsChooseLaw" (62 : Nat) ({ cls := "CrossroadsChoose", name := "how", desc := "(II)I" } : Jvm.MethodName)), (Jvm.Cond.instanceMethod ({ cls := "CrossroadsChoose", name := "how", desc := "(II)I" } : Jvm.MethodName)), (Jvm.Cond.selects "CrossroadsChoose" ({ cls := "CrossroadsChoose", name := "how", desc := "(II)I" } : Jvm.MethodName) ({ cls := "CrossroadsChoose", name := "how", desc := "(II)I" } : Jvm.MethodName)), (Jvm.Cond.code ({ cls := "CrossroadsChoose", name := "how", desc := "(II)I" } : Jvm.MethodName) prog_1_method_15_code (6 : Nat) (Option.some Jvm.ClassFile.FieldType.int)), (Jvm.Cond.methodLink "CrossroadsChooseLaw" (66 : Nat) ({ cls := "CrossroadsChoose", name := "ahead", desc := "(II)I" } : Jvm.MethodName)), (Jvm.Cond.instanceMethod ({ cls := "CrossroadsChoose", name := "ahead", desc := "(II)I" } : Jvm.MethodName)), (Jvm.Cond.selects "CrossroadsChoose" ({ cls := "CrossroadsChoose", name := "ahead", desc := "(II)I" } : Jvm.MethodName) ({ cls := "CrossroadsChoose", name := "ahead", desc := "(II)I" } : Jvm.MethodName)), (Jvm.Cond.code ({ cls := "CrossroadsChoose", name := "ahead", desc := "(II)I" } : Jvm.MethodName) prog_1_method_16_code (4 : Nat) (Option.some Jvm.ClassFile.FieldType.int)), (Jvm.Cond.methodLink "CrossroadsChoose" (181 : Nat) ({ cls := "CrossroadsChoose", name := "isPair", desc := "(I)Z" } : Jvm.MethodName)), (Jvm.Cond.privateMethod ({ cls := "CrossroadsChoose", name := "isPair", desc := "(I)Z" } : Jvm.MethodName))]) : w ∈ lw_tbl := tk_3 (List.mem_of_mem_drop (i := 64) (List.mem_of_mem_take (i := 16) ((show (tables_1_3.drop 64).take 16 = [(Jvm.Cond.code ({ cls := "CrossroadsChoose", name := "unlike", desc := "(II)I" } : Jvm.MethodName) prog_1_method_14_code (4 : Nat) (Option.some Jvm.ClassFile.FieldType.int)), (Jvm.Cond.methodLink "CrossroadsChoose" (177 : Nat) ({ cls := "CrossroadsChoose$Thought", name := "unlikeness", desc := "()I" } : Jvm.MethodName)), (Jvm.Cond.instanceMethod ({ cls := "CrossroadsChoose$Thought", name := "unlikeness", desc := "()I" } : Jvm.MethodName)), (Jvm.Cond.selects "CrossroadsChoose$Thought" ({ cls := "CrossroadsChoose$Thought", name := "unlikeness", desc := "()I" } : Jvm.MethodName) ({ cls := "CrossroadsChoose$Thought", name := "unlikeness", desc := "()I" } : Jvm.MethodName)), (Jvm.Cond.code ({ cls := "CrossroadsChoose$Thought", name := "unlikeness", desc := "()I" } : Jvm.MethodName) prog_9_method_6_code (4 : Nat) (Option.some Jvm.ClassFile.FieldType.int)), (Jvm.Cond.methodLink "CrossroadsChoose$Thought" (81 : Nat) ({ cls := "java/lang/Math", name := "min", desc := "(II)I" } : Jvm.MethodName)), (Jvm.Cond.methodLink "CrossroadsChooseLaw" (62 : Nat) ({ cls := "CrossroadsChoose", name := "how", desc := "(II)I" } : Jvm.MethodName)), (Jvm.Cond.instanceMethod ({ cls := "CrossroadsChoose", name := "how", desc := "(II)I" } : Jvm.MethodName)), (Jvm.Cond.selects "CrossroadsChoose" ({ cls := "CrossroadsChoose", name := "how", desc := "(II)I" } : Jvm.MethodName) ({ cls := "CrossroadsChoose", name := "how", desc := "(II)I" } : Jvm.MethodName)), (Jvm.Cond.code ({ cls := "CrossroadsChoose", name := "how", desc := "(II)I" } : Jvm.MethodName) prog_1_method_15_code (6 : Nat) (Option.some Jvm.ClassFile.FieldType.int)), (Jvm.Cond.methodLink "CrossroadsChooseLaw" (66 : Nat) ({ cls := "CrossroadsChoose", name := "ahead", desc := "(II)I" } : Jvm.MethodName)), (Jvm.Cond.instanceMethod ({ cls := "CrossroadsChoose", name := "ahead", desc := "(II)I" } : Jvm.MethodName)), (Jvm.Cond.selects "CrossroadsChoose" ({ cls := "CrossroadsChoose", name := "ahead", desc := "(II)I" } : Jvm.MethodName) ({ cls := "CrossroadsChoose", name := "ahead", desc := "(II)I" } : Jvm.MethodName)), (Jvm.Cond.code ({ cls := "CrossroadsChoose", name := "ahead", desc := "(II)I" } : Jvm.MethodName) prog_1_method_16_code (4 : Nat) (Option.some Jvm.ClassFile.FieldType.int)), (Jvm.Cond.methodLink "CrossroadsChoose" (181 : Nat) ({ cls := "CrossroadsChoose", name := "isPair", desc := "(I)Z" } : Jvm.MethodName)), (Jvm.Cond.privateMethod ({ cls := "CrossroadsChoose", name := "isPair", desc := "(I)Z" } : Jvm.MethodName))] from rfl) ▸ h)))
theorem ck_3_80 (w : Cond) (h : w ∈ [(Jvm.Cond.instanceMethod ({ cls := "CrossroadsChoose", name := "isPair", desc := "(I)Z" } : Jvm.MethodName)), (Jvm.Cond.code ({ cls := "CrossroadsChoose", name := "isPair", desc := "(I)Z" } : Jvm.MethodName) prog_1_method_23_code (2 : Nat) (Option.some Jvm.ClassFile.FieldType.boolean)), (Jvm.Cond.methodLink "CrossroadsChoose" (188 : Nat) ({ cls := "CrossroadsChoose", name := "reaches", desc := "(III)Z" } : Jvm.MethodName)), (Jvm.Cond.privateMethod ({ cls := "CrossroadsChoose", name := "reaches", desc := "(III)Z" } : Jvm.MethodName)), (Jvm.Cond.instanceMethod ({ cls := "CrossroadsChoose", name := "reaches", desc := "(III)Z" } : Jvm.MethodName)), (Jvm.Cond.code ({ cls := "CrossroadsChoose", name := "reaches", desc := "(III)Z" } : Jvm.MethodName) prog_1_method_17_code (9 : Nat) (Option.some Jvm.ClassFile.FieldType.boolean)), (Jvm.Cond.methodLink "CrossroadsChoose" (192 : Nat) ({ cls := "CrossroadsChoose$Crossing", name := "giveWaits", desc := "([I)V" } : Jvm.MethodName)), (Jvm.Cond.methodLink "CrossroadsChoose" (199 : Nat) ({ cls := "CrossroadsChoose$Crossing", name := "settle", desc := "(I)V" } : Jvm.MethodName)), (Jvm.Cond.methodLink "CrossroadsChoose" (203 : Nat) ({ cls := "CrossroadsChoose$Crossing", name := "takeWaits", desc := "([II)V" } : Jvm.MethodName)), (Jvm.Cond.instanceMethod ({ cls := "CrossroadsChoose$Crossing", name := "takeWaits", desc := "([II)V" } : Jvm.MethodName)), (Jvm.Cond.selects "CrossroadsChoose$Crossing" ({ cls := "CrossroadsChoose$Crossing", name := "takeWaits", desc := "([II)V" } : Jvm.MethodName) ({ cls := "CrossroadsChoose$Crossing", name := "takeWaits", desc := "([II)V" } : Jvm.MethodName)), (Jvm.Cond.code ({ cls := "CrossroadsChoose$Crossing", name := "takeWaits", desc := "([II)V" } : Jvm.MethodName) prog_4_method_11_code (4 : Nat) (Option.none : Option Jvm.ClassFile.FieldType)), (Jvm.Cond.methodLink "CrossroadsChooseLaw" (70 : Nat) ({ cls := "CrossroadsChoose", name := "again", desc := "(I)I" } : Jvm.MethodName)), (Jvm.Cond.instanceMethod ({ cls := "CrossroadsChoose", name := "again", desc := "(I)I" } : Jvm.MethodName)), (Jvm.Cond.selects "CrossroadsChoose" ({ cls := "CrossroadsChoose", name := "again", desc := "(I)I" } : Jvm.MethodName) ({ cls := "CrossroadsChoose", name := "again", desc := "(I)I" } : Jvm.MethodName)), (Jvm.Cond.code ({ cls := "CrossroadsChoose", name := "again", desc := "(I)I" } : Jvm.MethodName) prog_1_method_18_code (3 : Nat) (Option.some Jvm.ClassFile.FieldType.int))]) : w ∈ lw_tbl := tk_3 (List.mem_of_mem_drop (i := 80) (List.mem_of_mem_take (i := 16) ((show (tables_1_3.drop 80).take 16 = [(Jvm.Cond.instanceMethod ({ cls := "CrossroadsChoose", name := "isPair", desc := "(I)Z" } : Jvm.MethodName)), (Jvm.Cond.code ({ cls := "CrossroadsChoose", name := "isPair", desc := "(I)Z" } : Jvm.MethodName) prog_1_method_23_code (2 : Nat) (Option.some Jvm.ClassFile.FieldType.boolean)), (Jvm.Cond.methodLink "CrossroadsChoose" (188 : Nat) ({ cls := "CrossroadsChoose", name := "reaches", desc := "(III)Z" } : Jvm.MethodName)), (Jvm.Cond.privateMethod ({ cls := "CrossroadsChoose", name := "reaches", desc := "(III)Z" } : Jvm.MethodName)), (Jvm.Cond.instanceMethod ({ cls := "CrossroadsChoose", name := "reaches", desc := "(III)Z" } : Jvm.MethodName)), (Jvm.Cond.code ({ cls := "CrossroadsChoose", name := "reaches", desc := "(III)Z" } : Jvm.MethodName) prog_1_method_17_code (9 : Nat) (Option.some Jvm.ClassFile.FieldType.boolean)), (Jvm.Cond.methodLink "CrossroadsChoose" (192 : Nat) ({ cls := "CrossroadsChoose$Crossing", name := "giveWaits", desc := "([I)V" } : Jvm.MethodName)), (Jvm.Cond.methodLink "CrossroadsChoose" (199 : Nat) ({ cls := "CrossroadsChoose$Crossing", name := "settle", desc := "(I)V" } : Jvm.MethodName)), (Jvm.Cond.methodLink "CrossroadsChoose" (203 : Nat) ({ cls := "CrossroadsChoose$Crossing", name := "takeWaits", desc := "([II)V" } : Jvm.MethodName)), (Jvm.Cond.instanceMethod ({ cls := "CrossroadsChoose$Crossing", name := "takeWaits", desc := "([II)V" } : Jvm.MethodName)), (Jvm.Cond.selects "CrossroadsChoose$Crossing" ({ cls := "CrossroadsChoose$Crossing", name := "takeWaits", desc := "([II)V" } : Jvm.MethodName) ({ cls := "CrossroadsChoose$Crossing", name := "takeWaits", desc := "([II)V" } : Jvm.MethodName)), (Jvm.Cond.code ({ cls := "CrossroadsChoose$Crossing", name := "takeWaits", desc := "([II)V" } : Jvm.MethodName) prog_4_method_11_code (4 : Nat) (Option.none : Option Jvm.ClassFile.FieldType)), (Jvm.Cond.methodLink "CrossroadsChooseLaw" (70 : Nat) ({ cls := "CrossroadsChoose", name := "again", desc := "(I)I" } : Jvm.MethodName)), (Jvm.Cond.instanceMethod ({ cls := "CrossroadsChoose", name := "again", desc := "(I)I" } : Jvm.MethodName)), (Jvm.Cond.selects "CrossroadsChoose" ({ cls := "CrossroadsChoose", name := "again", desc := "(I)I" } : Jvm.MethodName) ({ cls := "CrossroadsChoose", name := "again", desc := "(I)I" } : Jvm.MethodName)), (Jvm.Cond.code ({ cls := "CrossroadsChoose", name := "again", desc := "(I)I" } : Jvm.MethodName) prog_1_method_18_code (3 : Nat) (Option.some Jvm.ClassFile.FieldType.int))] from rfl) ▸ h)))
theorem ck_3_96 (w : Cond) (h : w ∈ [(Jvm.Cond.methodLink "CrossroadsChooseLaw" (74 : Nat) ({ cls := "CrossroadsChoose", name := "green", desc := "()I" } : Jvm.MethodName)), (Jvm.Cond.instanceMethod ({ cls := "CrossroadsChoose", name := "green", desc := "()I" } : Jvm.MethodName)), (Jvm.Cond.selects "CrossroadsChoose" ({ cls := "CrossroadsChoose", name := "green", desc := "()I" } : Jvm.MethodName) ({ cls := "CrossroadsChoose", name := "green", desc := "()I" } : Jvm.MethodName)), (Jvm.Cond.code ({ cls := "CrossroadsChoose", name := "green", desc := "()I" } : Jvm.MethodName) prog_1_method_19_code (4 : Nat) (Option.some Jvm.ClassFile.FieldType.int)), (Jvm.Cond.methodLink "CrossroadsChoose" (210 : Nat) ({ cls := "CrossroadsChoose$Crossing", name := "allRoads", desc := "()I" } : Jvm.MethodName)), (Jvm.Cond.instanceMethod ({ cls := "CrossroadsChoose$Crossing", name := "allRoads", desc := "()I" } : Jvm.MethodName)), (Jvm.Cond.selects "CrossroadsChoose$Crossing" ({ cls := "CrossroadsChoose$Crossing", name := "allRoads", desc := "()I" } : Jvm.MethodName) ({ cls := "CrossroadsChoose$Crossing", name := "allRoads", desc := "()I" } : Jvm.MethodName)), (Jvm.Cond.code ({ cls := "CrossroadsChoose$Crossing", name := "allRoads", desc := "()I" } : Jvm.MethodName) prog_4_method_4_code (1 : Nat) (Option.some Jvm.ClassFile.FieldType.int)), (Jvm.Cond.methodLink "CrossroadsChooseLaw" (78 : Nat) ({ cls := "CrossroadsChoose", name := "second", desc := "(II)I" } : Jvm.MethodName)), (Jvm.Cond.instanceMethod ({ cls := "CrossroadsChoose", name := "second", desc := "(II)I" } : Jvm.MethodName)), (Jvm.Cond.selects "CrossroadsChoose" ({ cls := "CrossroadsChoose", name := "second", desc := "(II)I" } : Jvm.MethodName) ({ cls := "CrossroadsChoose", name := "second", desc := "(II)I" } : Jvm.MethodName)), (Jvm.Cond.code ({ cls := "CrossroadsChoose", name := "second", desc := "(II)I" } : Jvm.MethodName) prog_1_method_20_code (3 : Nat) (Option.some Jvm.ClassFile.FieldType.int)), (Jvm.Cond.methodLink "CrossroadsChoose" (213 : Nat) ({ cls := "CrossroadsChoose$Crossing", name := "asked", desc := "(II)I" } : Jvm.MethodName)), (Jvm.Cond.instanceMethod ({ cls := "CrossroadsChoose$Crossing", name := "asked", desc := "(II)I" } : Jvm.MethodName)), (Jvm.Cond.selects "CrossroadsChoose$Crossing" ({ cls := "CrossroadsChoose$Crossing", name := "asked", desc := "(II)I" } : Jvm.MethodName) ({ cls := "CrossroadsChoose$Crossing", name := "asked", desc := "(II)I" } : Jvm.MethodName)), (Jvm.Cond.code ({ cls := "CrossroadsChoose$Crossing", name := "asked", desc := "(II)I" } : Jvm.MethodName) prog_4_method_16_code (6 : Nat) (Option.some Jvm.ClassFile.FieldType.int))]) : w ∈ lw_tbl := tk_3 (List.mem_of_mem_drop (i := 96) (List.mem_of_mem_take (i := 16) ((show (tables_1_3.drop 96).take 16 = [(Jvm.Cond.methodLink "CrossroadsChooseLaw" (74 : Nat) ({ cls := "CrossroadsChoose", name := "green", desc := "()I" } : Jvm.MethodName)), (Jvm.Cond.instanceMethod ({ cls := "CrossroadsChoose", name := "green", desc := "()I" } : Jvm.MethodName)), (Jvm.Cond.selects "CrossroadsChoose" ({ cls := "CrossroadsChoose", name := "green", desc := "()I" } : Jvm.MethodName) ({ cls := "CrossroadsChoose", name := "green", desc := "()I" } : Jvm.MethodName)), (Jvm.Cond.code ({ cls := "CrossroadsChoose", name := "green", desc := "()I" } : Jvm.MethodName) prog_1_method_19_code (4 : Nat) (Option.some Jvm.ClassFile.FieldType.int)), (Jvm.Cond.methodLink "CrossroadsChoose" (210 : Nat) ({ cls := "CrossroadsChoose$Crossing", name := "allRoads", desc := "()I" } : Jvm.MethodName)), (Jvm.Cond.instanceMethod ({ cls := "CrossroadsChoose$Crossing", name := "allRoads", desc := "()I" } : Jvm.MethodName)), (Jvm.Cond.selects "CrossroadsChoose$Crossing" ({ cls := "CrossroadsChoose$Crossing", name := "allRoads", desc := "()I" } : Jvm.MethodName) ({ cls := "CrossroadsChoose$Crossing", name := "allRoads", desc := "()I" } : Jvm.MethodName)), (Jvm.Cond.code ({ cls := "CrossroadsChoose$Crossing", name := "allRoads", desc := "()I" } : Jvm.MethodName) prog_4_method_4_code (1 : Nat) (Option.some Jvm.ClassFile.FieldType.int)), (Jvm.Cond.methodLink "CrossroadsChooseLaw" (78 : Nat) ({ cls := "CrossroadsChoose", name := "second", desc := "(II)I" } : Jvm.MethodName)), (Jvm.Cond.instanceMethod ({ cls := "CrossroadsChoose", name := "second", desc := "(II)I" } : Jvm.MethodName)), (Jvm.Cond.selects "CrossroadsChoose" ({ cls := "CrossroadsChoose", name := "second", desc := "(II)I" } : Jvm.MethodName) ({ cls := "CrossroadsChoose", name := "second", desc := "(II)I" } : Jvm.MethodName)), (Jvm.Cond.code ({ cls := "CrossroadsChoose", name := "second", desc := "(II)I" } : Jvm.MethodName) prog_1_method_20_code (3 : Nat) (Option.some Jvm.ClassFile.FieldType.int)), (Jvm.Cond.methodLink "CrossroadsChoose" (213 : Nat) ({ cls := "CrossroadsChoose$Crossing", name := "asked", desc := "(II)I" } : Jvm.MethodName)), (Jvm.Cond.instanceMethod ({ cls := "CrossroadsChoose$Crossing", name := "asked", desc := "(II)I" } : Jvm.MethodName)), (Jvm.Cond.selects "CrossroadsChoose$Crossing" ({ cls := "CrossroadsChoose$Crossing", name := "asked", desc := "(II)I" } : Jvm.MethodName) ({ cls := "CrossroadsChoose$Crossing", name := "asked", desc := "(II)I" } : Jvm.MethodName)), (Jvm.Cond.code ({ cls := "CrossroadsChoose$Crossing", name := "asked", desc := "(II)I" } : Jvm.MethodName) prog_4_method_16_code (6 : Nat) (Option.some Jvm.ClassFile.FieldType.int))] from rfl) ▸ h)))
theorem ck_3_112 (w : Cond) (h : w ∈ [(Jvm.Cond.methodLink "CrossroadsChooseLaw" (82 : Nat) ({ cls := "CrossroadsChoose", name := "sit", desc := "(II)I" } : Jvm.MethodName)), (Jvm.Cond.instanceMethod ({ cls := "CrossroadsChoose", name := "sit", desc := "(II)I" } : Jvm.MethodName)), (Jvm.Cond.selects "CrossroadsChoose" ({ cls := "CrossroadsChoose", name := "sit", desc := "(II)I" } : Jvm.MethodName) ({ cls := "CrossroadsChoose", name := "sit", desc := "(II)I" } : Jvm.MethodName)), (Jvm.Cond.code ({ cls := "CrossroadsChoose", name := "sit", desc := "(II)I" } : Jvm.MethodName) prog_1_method_21_code (8 : Nat) (Option.some Jvm.ClassFile.FieldType.int)), (Jvm.Cond.methodLink "CrossroadsChooseLaw" (86 : Nat) ({ cls := "CrossroadsChoose", name := "power", desc := "(II)J" } : Jvm.MethodName)), (Jvm.Cond.instanceMethod ({ cls := "CrossroadsChoose", name := "power", desc := "(II)J" } : Jvm.MethodName)), (Jvm.Cond.selects "CrossroadsChoose" ({ cls := "CrossroadsChoose", name := "power", desc := "(II)J" } : Jvm.MethodName) ({ cls := "CrossroadsChoose", name := "power", desc := "(II)J" } : Jvm.MethodName)), (Jvm.Cond.code ({ cls := "CrossroadsChoose", name := "power", desc := "(II)J" } : Jvm.MethodName) prog_1_method_27_code (3 : Nat) (Option.some Jvm.ClassFile.FieldType.long)), (Jvm.Cond.constantLong "CrossroadsChoose" (227 : Nat) (-9223372036854775808 : Int64)), (Jvm.Cond.methodLink "CrossroadsChoose" (229 : Nat) ({ cls := "CrossroadsChoose$Votes", name := "powerOf", desc := "(LCrossroadsChoose$Crossing;II)J" } : Jvm.MethodName)), (Jvm.Cond.static ({ cls := "CrossroadsChoose$Votes", name := "powerOf", desc := "(LCrossroadsChoose$Crossing;II)J" } : Jvm.MethodName)), (Jvm.Cond.code ({ cls := "CrossroadsChoose$Votes", name := "powerOf", desc := "(LCrossroadsChoose$Crossing;II)J" } : Jvm.MethodName) prog_10_method_5_code (8 : Nat) (Option.some Jvm.ClassFile.FieldType.long)), (Jvm.Cond.methodLink "CrossroadsChoose$Votes" (29 : Nat) ({ cls := "CrossroadsChoose$Votes", name := "ordersOf", desc := "(I)I" } : Jvm.MethodName)), (Jvm.Cond.static ({ cls := "CrossroadsChoose$Votes", name := "ordersOf", desc := "(I)I" } : Jvm.MethodName)), (Jvm.Cond.code ({ cls := "CrossroadsChoose$Votes", name := "ordersOf", desc := "(I)I" } : Jvm.MethodName) prog_10_method_4_code (1 : Nat) (Option.some Jvm.ClassFile.FieldType.int)), (Jvm.Cond.fieldLink "CrossroadsChoose$Votes" (25 : Nat) "CrossroadsChoose$Votes" "ORDERS" "[I")]) : w ∈ lw_tbl := tk_3 (List.mem_of_mem_drop (i := 112) (List.mem_of_mem_take (i := 16) ((show (tables_1_3.drop 112).take 16 = [(Jvm.Cond.methodLink "CrossroadsChooseLaw" (82 : Nat) ({ cls := "CrossroadsChoose", name := "sit", desc := "(II)I" } : Jvm.MethodName)), (Jvm.Cond.instanceMethod ({ cls := "CrossroadsChoose", name := "sit", desc := "(II)I" } : Jvm.MethodName)), (Jvm.Cond.selects "CrossroadsChoose" ({ cls := "CrossroadsChoose", name := "sit", desc := "(II)I" } : Jvm.MethodName) ({ cls := "CrossroadsChoose", name := "sit", desc := "(II)I" } : Jvm.MethodName)), (Jvm.Cond.code ({ cls := "CrossroadsChoose", name := "sit", desc := "(II)I" } : Jvm.MethodName) prog_1_method_21_code (8 : Nat) (Option.some Jvm.ClassFile.FieldType.int)), (Jvm.Cond.methodLink "CrossroadsChooseLaw" (86 : Nat) ({ cls := "CrossroadsChoose", name := "power", desc := "(II)J" } : Jvm.MethodName)), (Jvm.Cond.instanceMethod ({ cls := "CrossroadsChoose", name := "power", desc := "(II)J" } : Jvm.MethodName)), (Jvm.Cond.selects "CrossroadsChoose" ({ cls := "CrossroadsChoose", name := "power", desc := "(II)J" } : Jvm.MethodName) ({ cls := "CrossroadsChoose", name := "power", desc := "(II)J" } : Jvm.MethodName)), (Jvm.Cond.code ({ cls := "CrossroadsChoose", name := "power", desc := "(II)J" } : Jvm.MethodName) prog_1_method_27_code (3 : Nat) (Option.some Jvm.ClassFile.FieldType.long)), (Jvm.Cond.constantLong "CrossroadsChoose" (227 : Nat) (-9223372036854775808 : Int64)), (Jvm.Cond.methodLink "CrossroadsChoose" (229 : Nat) ({ cls := "CrossroadsChoose$Votes", name := "powerOf", desc := "(LCrossroadsChoose$Crossing;II)J" } : Jvm.MethodName)), (Jvm.Cond.static ({ cls := "CrossroadsChoose$Votes", name := "powerOf", desc := "(LCrossroadsChoose$Crossing;II)J" } : Jvm.MethodName)), (Jvm.Cond.code ({ cls := "CrossroadsChoose$Votes", name := "powerOf", desc := "(LCrossroadsChoose$Crossing;II)J" } : Jvm.MethodName) prog_10_method_5_code (8 : Nat) (Option.some Jvm.ClassFile.FieldType.long)), (Jvm.Cond.methodLink "CrossroadsChoose$Votes" (29 : Nat) ({ cls := "CrossroadsChoose$Votes", name := "ordersOf", desc := "(I)I" } : Jvm.MethodName)), (Jvm.Cond.static ({ cls := "CrossroadsChoose$Votes", name := "ordersOf", desc := "(I)I" } : Jvm.MethodName)), (Jvm.Cond.code ({ cls := "CrossroadsChoose$Votes", name := "ordersOf", desc := "(I)I" } : Jvm.MethodName) prog_10_method_4_code (1 : Nat) (Option.some Jvm.ClassFile.FieldType.int)), (Jvm.Cond.fieldLink "CrossroadsChoose$Votes" (25 : Nat) "CrossroadsChoose$Votes" "ORDERS" "[I")] from rfl) ▸ h)))
theorem ck_3_128 (w : Cond) (h : w ∈ [(Jvm.Cond.laysStatic "CrossroadsChoose$Votes" "ORDERS" "[I"), (Jvm.Cond.methodLink "CrossroadsChoose$Votes" (19 : Nat) ({ cls := "CrossroadsChoose$Votes", name := "wins", desc := "(LCrossroadsChoose$Crossing;I)Z" } : Jvm.MethodName)), (Jvm.Cond.static ({ cls := "CrossroadsChoose$Votes", name := "wins", desc := "(LCrossroadsChoose$Crossing;I)Z" } : Jvm.MethodName)), (Jvm.Cond.code ({ cls := "CrossroadsChoose$Votes", name := "wins", desc := "(LCrossroadsChoose$Crossing;I)Z" } : Jvm.MethodName) prog_10_method_2_code (4 : Nat) (Option.some Jvm.ClassFile.FieldType.boolean)), (Jvm.Cond.methodLink "CrossroadsChoose$Votes" (15 : Nat) ({ cls := "CrossroadsChoose$Crossing", name := "number", desc := "(II)I" } : Jvm.MethodName)), (Jvm.Cond.methodLink "CrossroadsChoose$Votes" (33 : Nat) ({ cls := "java/lang/Integer", name := "bitCount", desc := "(I)I" } : Jvm.MethodName)), (Jvm.Cond.static ({ cls := "java/lang/Integer", name := "bitCount", desc := "(I)I" } : Jvm.MethodName)), (Jvm.Cond.code ({ cls := "java/lang/Integer", name := "bitCount", desc := "(I)I" } : Jvm.MethodName) prog_13_method_49_code (1 : Nat) (Option.some Jvm.ClassFile.FieldType.int)), (Jvm.Cond.constant "java/lang/Integer" (265 : Nat) (1431655765 : Int32)), (Jvm.Cond.constant "java/lang/Integer" (266 : Nat) (858993459 : Int32)), (Jvm.Cond.constant "java/lang/Integer" (267 : Nat) (252645135 : Int32)), (Jvm.Cond.methodLink "CrossroadsChoose$Votes" (38 : Nat) ({ cls := "CrossroadsChoose$Votes", name := "sharedDivisor", desc := "(II)I" } : Jvm.MethodName)), (Jvm.Cond.static ({ cls := "CrossroadsChoose$Votes", name := "sharedDivisor", desc := "(II)I" } : Jvm.MethodName)), (Jvm.Cond.code ({ cls := "CrossroadsChoose$Votes", name := "sharedDivisor", desc := "(II)I" } : Jvm.MethodName) prog_10_method_6_code (3 : Nat) (Option.some Jvm.ClassFile.FieldType.int)), (Jvm.Cond.methodLink "CrossroadsChooseLaw" (91 : Nat) ({ cls := "CrossroadsChoose", name := "winning", desc := "(I)I" } : Jvm.MethodName)), (Jvm.Cond.instanceMethod ({ cls := "CrossroadsChoose", name := "winning", desc := "(I)I" } : Jvm.MethodName))]) : w ∈ lw_tbl := tk_3 (List.mem_of_mem_drop (i := 128) (List.mem_of_mem_take (i := 16) ((show (tables_1_3.drop 128).take 16 = [(Jvm.Cond.laysStatic "CrossroadsChoose$Votes" "ORDERS" "[I"), (Jvm.Cond.methodLink "CrossroadsChoose$Votes" (19 : Nat) ({ cls := "CrossroadsChoose$Votes", name := "wins", desc := "(LCrossroadsChoose$Crossing;I)Z" } : Jvm.MethodName)), (Jvm.Cond.static ({ cls := "CrossroadsChoose$Votes", name := "wins", desc := "(LCrossroadsChoose$Crossing;I)Z" } : Jvm.MethodName)), (Jvm.Cond.code ({ cls := "CrossroadsChoose$Votes", name := "wins", desc := "(LCrossroadsChoose$Crossing;I)Z" } : Jvm.MethodName) prog_10_method_2_code (4 : Nat) (Option.some Jvm.ClassFile.FieldType.boolean)), (Jvm.Cond.methodLink "CrossroadsChoose$Votes" (15 : Nat) ({ cls := "CrossroadsChoose$Crossing", name := "number", desc := "(II)I" } : Jvm.MethodName)), (Jvm.Cond.methodLink "CrossroadsChoose$Votes" (33 : Nat) ({ cls := "java/lang/Integer", name := "bitCount", desc := "(I)I" } : Jvm.MethodName)), (Jvm.Cond.static ({ cls := "java/lang/Integer", name := "bitCount", desc := "(I)I" } : Jvm.MethodName)), (Jvm.Cond.code ({ cls := "java/lang/Integer", name := "bitCount", desc := "(I)I" } : Jvm.MethodName) prog_13_method_49_code (1 : Nat) (Option.some Jvm.ClassFile.FieldType.int)), (Jvm.Cond.constant "java/lang/Integer" (265 : Nat) (1431655765 : Int32)), (Jvm.Cond.constant "java/lang/Integer" (266 : Nat) (858993459 : Int32)), (Jvm.Cond.constant "java/lang/Integer" (267 : Nat) (252645135 : Int32)), (Jvm.Cond.methodLink "CrossroadsChoose$Votes" (38 : Nat) ({ cls := "CrossroadsChoose$Votes", name := "sharedDivisor", desc := "(II)I" } : Jvm.MethodName)), (Jvm.Cond.static ({ cls := "CrossroadsChoose$Votes", name := "sharedDivisor", desc := "(II)I" } : Jvm.MethodName)), (Jvm.Cond.code ({ cls := "CrossroadsChoose$Votes", name := "sharedDivisor", desc := "(II)I" } : Jvm.MethodName) prog_10_method_6_code (3 : Nat) (Option.some Jvm.ClassFile.FieldType.int)), (Jvm.Cond.methodLink "CrossroadsChooseLaw" (91 : Nat) ({ cls := "CrossroadsChoose", name := "winning", desc := "(I)I" } : Jvm.MethodName)), (Jvm.Cond.instanceMethod ({ cls := "CrossroadsChoose", name := "winning", desc := "(I)I" } : Jvm.MethodName))] from rfl) ▸ h)))
theorem ck_3_144 (w : Cond) (h : w ∈ [(Jvm.Cond.selects "CrossroadsChoose" ({ cls := "CrossroadsChoose", name := "winning", desc := "(I)I" } : Jvm.MethodName) ({ cls := "CrossroadsChoose", name := "winning", desc := "(I)I" } : Jvm.MethodName)), (Jvm.Cond.code ({ cls := "CrossroadsChoose", name := "winning", desc := "(I)I" } : Jvm.MethodName) prog_1_method_28_code (2 : Nat) (Option.some Jvm.ClassFile.FieldType.int)), (Jvm.Cond.methodLink "CrossroadsChoose" (235 : Nat) ({ cls := "CrossroadsChoose$Votes", name := "winners", desc := "(LCrossroadsChoose$Crossing;I)I" } : Jvm.MethodName)), (Jvm.Cond.static ({ cls := "CrossroadsChoose$Votes", name := "winners", desc := "(LCrossroadsChoose$Crossing;I)I" } : Jvm.MethodName)), (Jvm.Cond.code ({ cls := "CrossroadsChoose$Votes", name := "winners", desc := "(LCrossroadsChoose$Crossing;I)I" } : Jvm.MethodName) prog_10_method_7_code (9 : Nat) (Option.some Jvm.ClassFile.FieldType.int)), (Jvm.Cond.methodLink "CrossroadsChoose$Votes" (41 : Nat) ({ cls := "CrossroadsChoose$Crossing", name := "allRoads", desc := "()I" } : Jvm.MethodName)), (Jvm.Cond.methodLink "CrossroadsChoose$Votes" (45 : Nat) ({ cls := "CrossroadsChoose$Votes", name := "winsBarely", desc := "(LCrossroadsChoose$Crossing;I)Z" } : Jvm.MethodName)), (Jvm.Cond.static ({ cls := "CrossroadsChoose$Votes", name := "winsBarely", desc := "(LCrossroadsChoose$Crossing;I)Z" } : Jvm.MethodName)), (Jvm.Cond.code ({ cls := "CrossroadsChoose$Votes", name := "winsBarely", desc := "(LCrossroadsChoose$Crossing;I)Z" } : Jvm.MethodName) prog_10_method_3_code (3 : Nat) (Option.some Jvm.ClassFile.FieldType.boolean)), (Jvm.Cond.methodLink "CrossroadsChooseLaw" (95 : Nat) ({ cls := "CrossroadsChoose", name := "more", desc := "(I)I" } : Jvm.MethodName)), (Jvm.Cond.instanceMethod ({ cls := "CrossroadsChoose", name := "more", desc := "(I)I" } : Jvm.MethodName)), (Jvm.Cond.selects "CrossroadsChoose" ({ cls := "CrossroadsChoose", name := "more", desc := "(I)I" } : Jvm.MethodName) ({ cls := "CrossroadsChoose", name := "more", desc := "(I)I" } : Jvm.MethodName)), (Jvm.Cond.code ({ cls := "CrossroadsChoose", name := "more", desc := "(I)I" } : Jvm.MethodName) prog_1_method_29_code (3 : Nat) (Option.some Jvm.ClassFile.FieldType.int)), (Jvm.Cond.methodLink "CrossroadsChooseLaw" (99 : Nat) ({ cls := "CrossroadsChoose", name := "whatever", desc := "(II)I" } : Jvm.MethodName)), (Jvm.Cond.instanceMethod ({ cls := "CrossroadsChoose", name := "whatever", desc := "(II)I" } : Jvm.MethodName)), (Jvm.Cond.selects "CrossroadsChoose" ({ cls := "CrossroadsChoose", name := "whatever", desc := "(II)I" } : Jvm.MethodName) ({ cls := "CrossroadsChoose", name := "whatever", desc := "(II)I" } : Jvm.MethodName))]) : w ∈ lw_tbl := tk_3 (List.mem_of_mem_drop (i := 144) (List.mem_of_mem_take (i := 16) ((show (tables_1_3.drop 144).take 16 = [(Jvm.Cond.selects "CrossroadsChoose" ({ cls := "CrossroadsChoose", name := "winning", desc := "(I)I" } : Jvm.MethodName) ({ cls := "CrossroadsChoose", name := "winning", desc := "(I)I" } : Jvm.MethodName)), (Jvm.Cond.code ({ cls := "CrossroadsChoose", name := "winning", desc := "(I)I" } : Jvm.MethodName) prog_1_method_28_code (2 : Nat) (Option.some Jvm.ClassFile.FieldType.int)), (Jvm.Cond.methodLink "CrossroadsChoose" (235 : Nat) ({ cls := "CrossroadsChoose$Votes", name := "winners", desc := "(LCrossroadsChoose$Crossing;I)I" } : Jvm.MethodName)), (Jvm.Cond.static ({ cls := "CrossroadsChoose$Votes", name := "winners", desc := "(LCrossroadsChoose$Crossing;I)I" } : Jvm.MethodName)), (Jvm.Cond.code ({ cls := "CrossroadsChoose$Votes", name := "winners", desc := "(LCrossroadsChoose$Crossing;I)I" } : Jvm.MethodName) prog_10_method_7_code (9 : Nat) (Option.some Jvm.ClassFile.FieldType.int)), (Jvm.Cond.methodLink "CrossroadsChoose$Votes" (41 : Nat) ({ cls := "CrossroadsChoose$Crossing", name := "allRoads", desc := "()I" } : Jvm.MethodName)), (Jvm.Cond.methodLink "CrossroadsChoose$Votes" (45 : Nat) ({ cls := "CrossroadsChoose$Votes", name := "winsBarely", desc := "(LCrossroadsChoose$Crossing;I)Z" } : Jvm.MethodName)), (Jvm.Cond.static ({ cls := "CrossroadsChoose$Votes", name := "winsBarely", desc := "(LCrossroadsChoose$Crossing;I)Z" } : Jvm.MethodName)), (Jvm.Cond.code ({ cls := "CrossroadsChoose$Votes", name := "winsBarely", desc := "(LCrossroadsChoose$Crossing;I)Z" } : Jvm.MethodName) prog_10_method_3_code (3 : Nat) (Option.some Jvm.ClassFile.FieldType.boolean)), (Jvm.Cond.methodLink "CrossroadsChooseLaw" (95 : Nat) ({ cls := "CrossroadsChoose", name := "more", desc := "(I)I" } : Jvm.MethodName)), (Jvm.Cond.instanceMethod ({ cls := "CrossroadsChoose", name := "more", desc := "(I)I" } : Jvm.MethodName)), (Jvm.Cond.selects "CrossroadsChoose" ({ cls := "CrossroadsChoose", name := "more", desc := "(I)I" } : Jvm.MethodName) ({ cls := "CrossroadsChoose", name := "more", desc := "(I)I" } : Jvm.MethodName)), (Jvm.Cond.code ({ cls := "CrossroadsChoose", name := "more", desc := "(I)I" } : Jvm.MethodName) prog_1_method_29_code (3 : Nat) (Option.some Jvm.ClassFile.FieldType.int)), (Jvm.Cond.methodLink "CrossroadsChooseLaw" (99 : Nat) ({ cls := "CrossroadsChoose", name := "whatever", desc := "(II)I" } : Jvm.MethodName)), (Jvm.Cond.instanceMethod ({ cls := "CrossroadsChoose", name := "whatever", desc := "(II)I" } : Jvm.MethodName)), (Jvm.Cond.selects "CrossroadsChoose" ({ cls := "CrossroadsChoose", name := "whatever", desc := "(II)I" } : Jvm.MethodName) ({ cls := "CrossroadsChoose", name := "whatever", desc := "(II)I" } : Jvm.MethodName))] from rfl) ▸ h)))
theorem ck_3_160 (w : Cond) (h : w ∈ [(Jvm.Cond.code ({ cls := "CrossroadsChoose", name := "whatever", desc := "(II)I" } : Jvm.MethodName) prog_1_method_30_code (4 : Nat) (Option.some Jvm.ClassFile.FieldType.int)), (Jvm.Cond.methodLink "CrossroadsChoose" (239 : Nat) ({ cls := "CrossroadsChoose$Crossing", name := "hasAllOf", desc := "(II)Z" } : Jvm.MethodName)), (Jvm.Cond.instanceMethod ({ cls := "CrossroadsChoose$Crossing", name := "hasAllOf", desc := "(II)Z" } : Jvm.MethodName)), (Jvm.Cond.selects "CrossroadsChoose$Crossing" ({ cls := "CrossroadsChoose$Crossing", name := "hasAllOf", desc := "(II)Z" } : Jvm.MethodName) ({ cls := "CrossroadsChoose$Crossing", name := "hasAllOf", desc := "(II)Z" } : Jvm.MethodName)), (Jvm.Cond.code ({ cls := "CrossroadsChoose$Crossing", name := "hasAllOf", desc := "(II)Z" } : Jvm.MethodName) prog_4_method_17_code (4 : Nat) (Option.some Jvm.ClassFile.FieldType.boolean)), (Jvm.Cond.methodLink "CrossroadsChoose$Crossing" (75 : Nat) ({ cls := "CrossroadsChoose$Crossing", name := "haver", desc := "(I)I" } : Jvm.MethodName)), (Jvm.Cond.methodLink "CrossroadsChooseLaw" (103 : Nat) ({ cls := "CrossroadsChoose", name := "least", desc := "()I" } : Jvm.MethodName)), (Jvm.Cond.instanceMethod ({ cls := "CrossroadsChoose", name := "least", desc := "()I" } : Jvm.MethodName)), (Jvm.Cond.selects "CrossroadsChoose" ({ cls := "CrossroadsChoose", name := "least", desc := "()I" } : Jvm.MethodName) ({ cls := "CrossroadsChoose", name := "least", desc := "()I" } : Jvm.MethodName)), (Jvm.Cond.code ({ cls := "CrossroadsChoose", name := "least", desc := "()I" } : Jvm.MethodName) prog_1_method_31_code (5 : Nat) (Option.some Jvm.ClassFile.FieldType.int)), (Jvm.Cond.methodLink "CrossroadsChooseLaw" (107 : Nat) ({ cls := "CrossroadsChoose", name := "judge", desc := "(I)I" } : Jvm.MethodName)), (Jvm.Cond.instanceMethod ({ cls := "CrossroadsChoose", name := "judge", desc := "(I)I" } : Jvm.MethodName)), (Jvm.Cond.selects "CrossroadsChoose" ({ cls := "CrossroadsChoose", name := "judge", desc := "(I)I" } : Jvm.MethodName) ({ cls := "CrossroadsChoose", name := "judge", desc := "(I)I" } : Jvm.MethodName)), (Jvm.Cond.code ({ cls := "CrossroadsChoose", name := "judge", desc := "(I)I" } : Jvm.MethodName) prog_1_method_32_code (3 : Nat) (Option.some Jvm.ClassFile.FieldType.int)), (Jvm.Cond.methodLink "CrossroadsChoose" (242 : Nat) ({ cls := "CrossroadsChoose", name := "firstWrong", desc := "(LCrossroadsChoose$Shelf;)I" } : Jvm.MethodName)), (Jvm.Cond.privateMethod ({ cls := "CrossroadsChoose", name := "firstWrong", desc := "(LCrossroadsChoose$Shelf;)I" } : Jvm.MethodName))]) : w ∈ lw_tbl := tk_3 (List.mem_of_mem_drop (i := 160) (List.mem_of_mem_take (i := 16) ((show (tables_1_3.drop 160).take 16 = [(Jvm.Cond.code ({ cls := "CrossroadsChoose", name := "whatever", desc := "(II)I" } : Jvm.MethodName) prog_1_method_30_code (4 : Nat) (Option.some Jvm.ClassFile.FieldType.int)), (Jvm.Cond.methodLink "CrossroadsChoose" (239 : Nat) ({ cls := "CrossroadsChoose$Crossing", name := "hasAllOf", desc := "(II)Z" } : Jvm.MethodName)), (Jvm.Cond.instanceMethod ({ cls := "CrossroadsChoose$Crossing", name := "hasAllOf", desc := "(II)Z" } : Jvm.MethodName)), (Jvm.Cond.selects "CrossroadsChoose$Crossing" ({ cls := "CrossroadsChoose$Crossing", name := "hasAllOf", desc := "(II)Z" } : Jvm.MethodName) ({ cls := "CrossroadsChoose$Crossing", name := "hasAllOf", desc := "(II)Z" } : Jvm.MethodName)), (Jvm.Cond.code ({ cls := "CrossroadsChoose$Crossing", name := "hasAllOf", desc := "(II)Z" } : Jvm.MethodName) prog_4_method_17_code (4 : Nat) (Option.some Jvm.ClassFile.FieldType.boolean)), (Jvm.Cond.methodLink "CrossroadsChoose$Crossing" (75 : Nat) ({ cls := "CrossroadsChoose$Crossing", name := "haver", desc := "(I)I" } : Jvm.MethodName)), (Jvm.Cond.methodLink "CrossroadsChooseLaw" (103 : Nat) ({ cls := "CrossroadsChoose", name := "least", desc := "()I" } : Jvm.MethodName)), (Jvm.Cond.instanceMethod ({ cls := "CrossroadsChoose", name := "least", desc := "()I" } : Jvm.MethodName)), (Jvm.Cond.selects "CrossroadsChoose" ({ cls := "CrossroadsChoose", name := "least", desc := "()I" } : Jvm.MethodName) ({ cls := "CrossroadsChoose", name := "least", desc := "()I" } : Jvm.MethodName)), (Jvm.Cond.code ({ cls := "CrossroadsChoose", name := "least", desc := "()I" } : Jvm.MethodName) prog_1_method_31_code (5 : Nat) (Option.some Jvm.ClassFile.FieldType.int)), (Jvm.Cond.methodLink "CrossroadsChooseLaw" (107 : Nat) ({ cls := "CrossroadsChoose", name := "judge", desc := "(I)I" } : Jvm.MethodName)), (Jvm.Cond.instanceMethod ({ cls := "CrossroadsChoose", name := "judge", desc := "(I)I" } : Jvm.MethodName)), (Jvm.Cond.selects "CrossroadsChoose" ({ cls := "CrossroadsChoose", name := "judge", desc := "(I)I" } : Jvm.MethodName) ({ cls := "CrossroadsChoose", name := "judge", desc := "(I)I" } : Jvm.MethodName)), (Jvm.Cond.code ({ cls := "CrossroadsChoose", name := "judge", desc := "(I)I" } : Jvm.MethodName) prog_1_method_32_code (3 : Nat) (Option.some Jvm.ClassFile.FieldType.int)), (Jvm.Cond.methodLink "CrossroadsChoose" (242 : Nat) ({ cls := "CrossroadsChoose", name := "firstWrong", desc := "(LCrossroadsChoose$Shelf;)I" } : Jvm.MethodName)), (Jvm.Cond.privateMethod ({ cls := "CrossroadsChoose", name := "firstWrong", desc := "(LCrossroadsChoose$Shelf;)I" } : Jvm.MethodName))] from rfl) ▸ h)))
theorem ck_3_176 (w : Cond) (h : w ∈ [(Jvm.Cond.instanceMethod ({ cls := "CrossroadsChoose", name := "firstWrong", desc := "(LCrossroadsChoose$Shelf;)I" } : Jvm.MethodName)), (Jvm.Cond.code ({ cls := "CrossroadsChoose", name := "firstWrong", desc := "(LCrossroadsChoose$Shelf;)I" } : Jvm.MethodName) prog_1_method_35_code (5 : Nat) (Option.some Jvm.ClassFile.FieldType.int)), (Jvm.Cond.methodLink "CrossroadsChooseLaw" (111 : Nat) ({ cls := "CrossroadsChoose", name := "liking", desc := "(III)I" } : Jvm.MethodName)), (Jvm.Cond.instanceMethod ({ cls := "CrossroadsChoose", name := "liking", desc := "(III)I" } : Jvm.MethodName)), (Jvm.Cond.selects "CrossroadsChoose" ({ cls := "CrossroadsChoose", name := "liking", desc := "(III)I" } : Jvm.MethodName) ({ cls := "CrossroadsChoose", name := "liking", desc := "(III)I" } : Jvm.MethodName)), (Jvm.Cond.code ({ cls := "CrossroadsChoose", name := "liking", desc := "(III)I" } : Jvm.MethodName) prog_1_method_33_code (8 : Nat) (Option.some Jvm.ClassFile.FieldType.int)), (Jvm.Cond.methodLink "CrossroadsChooseLaw" (115 : Nat) ({ cls := "CrossroadsChoose", name := "waited", desc := "(III)I" } : Jvm.MethodName)), (Jvm.Cond.instanceMethod ({ cls := "CrossroadsChoose", name := "waited", desc := "(III)I" } : Jvm.MethodName)), (Jvm.Cond.selects "CrossroadsChoose" ({ cls := "CrossroadsChoose", name := "waited", desc := "(III)I" } : Jvm.MethodName) ({ cls := "CrossroadsChoose", name := "waited", desc := "(III)I" } : Jvm.MethodName)), (Jvm.Cond.code ({ cls := "CrossroadsChoose", name := "waited", desc := "(III)I" } : Jvm.MethodName) prog_1_method_34_code (8 : Nat) (Option.some Jvm.ClassFile.FieldType.int)), (Jvm.Cond.methodLink "CrossroadsChooseLaw" (119 : Nat) ({ cls := "CrossroadsChoose", name := "fair", desc := "(II)I" } : Jvm.MethodName)), (Jvm.Cond.instanceMethod ({ cls := "CrossroadsChoose", name := "fair", desc := "(II)I" } : Jvm.MethodName)), (Jvm.Cond.selects "CrossroadsChoose" ({ cls := "CrossroadsChoose", name := "fair", desc := "(II)I" } : Jvm.MethodName) ({ cls := "CrossroadsChoose", name := "fair", desc := "(II)I" } : Jvm.MethodName)), (Jvm.Cond.code ({ cls := "CrossroadsChoose", name := "fair", desc := "(II)I" } : Jvm.MethodName) prog_1_method_36_code (8 : Nat) (Option.some Jvm.ClassFile.FieldType.int)), (Jvm.Cond.methodLink "CrossroadsChooseLaw" (123 : Nat) ({ cls := "CrossroadsChoose", name := "drawn", desc := "(III)I" } : Jvm.MethodName)), (Jvm.Cond.instanceMethod ({ cls := "CrossroadsChoose", name := "drawn", desc := "(III)I" } : Jvm.MethodName))]) : w ∈ lw_tbl := tk_3 (List.mem_of_mem_drop (i := 176) (List.mem_of_mem_take (i := 16) ((show (tables_1_3.drop 176).take 16 = [(Jvm.Cond.instanceMethod ({ cls := "CrossroadsChoose", name := "firstWrong", desc := "(LCrossroadsChoose$Shelf;)I" } : Jvm.MethodName)), (Jvm.Cond.code ({ cls := "CrossroadsChoose", name := "firstWrong", desc := "(LCrossroadsChoose$Shelf;)I" } : Jvm.MethodName) prog_1_method_35_code (5 : Nat) (Option.some Jvm.ClassFile.FieldType.int)), (Jvm.Cond.methodLink "CrossroadsChooseLaw" (111 : Nat) ({ cls := "CrossroadsChoose", name := "liking", desc := "(III)I" } : Jvm.MethodName)), (Jvm.Cond.instanceMethod ({ cls := "CrossroadsChoose", name := "liking", desc := "(III)I" } : Jvm.MethodName)), (Jvm.Cond.selects "CrossroadsChoose" ({ cls := "CrossroadsChoose", name := "liking", desc := "(III)I" } : Jvm.MethodName) ({ cls := "CrossroadsChoose", name := "liking", desc := "(III)I" } : Jvm.MethodName)), (Jvm.Cond.code ({ cls := "CrossroadsChoose", name := "liking", desc := "(III)I" } : Jvm.MethodName) prog_1_method_33_code (8 : Nat) (Option.some Jvm.ClassFile.FieldType.int)), (Jvm.Cond.methodLink "CrossroadsChooseLaw" (115 : Nat) ({ cls := "CrossroadsChoose", name := "waited", desc := "(III)I" } : Jvm.MethodName)), (Jvm.Cond.instanceMethod ({ cls := "CrossroadsChoose", name := "waited", desc := "(III)I" } : Jvm.MethodName)), (Jvm.Cond.selects "CrossroadsChoose" ({ cls := "CrossroadsChoose", name := "waited", desc := "(III)I" } : Jvm.MethodName) ({ cls := "CrossroadsChoose", name := "waited", desc := "(III)I" } : Jvm.MethodName)), (Jvm.Cond.code ({ cls := "CrossroadsChoose", name := "waited", desc := "(III)I" } : Jvm.MethodName) prog_1_method_34_code (8 : Nat) (Option.some Jvm.ClassFile.FieldType.int)), (Jvm.Cond.methodLink "CrossroadsChooseLaw" (119 : Nat) ({ cls := "CrossroadsChoose", name := "fair", desc := "(II)I" } : Jvm.MethodName)), (Jvm.Cond.instanceMethod ({ cls := "CrossroadsChoose", name := "fair", desc := "(II)I" } : Jvm.MethodName)), (Jvm.Cond.selects "CrossroadsChoose" ({ cls := "CrossroadsChoose", name := "fair", desc := "(II)I" } : Jvm.MethodName) ({ cls := "CrossroadsChoose", name := "fair", desc := "(II)I" } : Jvm.MethodName)), (Jvm.Cond.code ({ cls := "CrossroadsChoose", name := "fair", desc := "(II)I" } : Jvm.MethodName) prog_1_method_36_code (8 : Nat) (Option.some Jvm.ClassFile.FieldType.int)), (Jvm.Cond.methodLink "CrossroadsChooseLaw" (123 : Nat) ({ cls := "CrossroadsChoose", name := "drawn", desc := "(III)I" } : Jvm.MethodName)), (Jvm.Cond.instanceMethod ({ cls := "CrossroadsChoose", name := "drawn", desc := "(III)I" } : Jvm.MethodName))] from rfl) ▸ h)))
theorem ck_3_192 (w : Cond) (h : w ∈ [(Jvm.Cond.selects "CrossroadsChoose" ({ cls := "CrossroadsChoose", name := "drawn", desc := "(III)I" } : Jvm.MethodName) ({ cls := "CrossroadsChoose", name := "drawn", desc := "(III)I" } : Jvm.MethodName)), (Jvm.Cond.code ({ cls := "CrossroadsChoose", name := "drawn", desc := "(III)I" } : Jvm.MethodName) prog_1_method_37_code (9 : Nat) (Option.some Jvm.ClassFile.FieldType.int)), (Jvm.Cond.methodLink "CrossroadsChoose" (252 : Nat) ({ cls := "CrossroadsChoose$Thought", name := "waitAs", desc := "(LCrossroadsChoose$Crossing;)V" } : Jvm.MethodName)), (Jvm.Cond.instanceMethod ({ cls := "CrossroadsChoose$Thought", name := "waitAs", desc := "(LCrossroadsChoose$Crossing;)V" } : Jvm.MethodName)), (Jvm.Cond.selects "CrossroadsChoose$Thought" ({ cls := "CrossroadsChoose$Thought", name := "waitAs", desc := "(LCrossroadsChoose$Crossing;)V" } : Jvm.MethodName) ({ cls := "CrossroadsChoose$Thought", name := "waitAs", desc := "(LCrossroadsChoose$Crossing;)V" } : Jvm.MethodName)), (Jvm.Cond.code ({ cls := "CrossroadsChoose$Thought", name := "waitAs", desc := "(LCrossroadsChoose$Crossing;)V" } : Jvm.MethodName) prog_9_method_3_code (3 : Nat) (Option.none : Option Jvm.ClassFile.FieldType)), (Jvm.Cond.methodLink "CrossroadsChoose$Thought" (61 : Nat) ({ cls := "CrossroadsChoose$Crossing", name := "become", desc := "(III)V" } : Jvm.MethodName)), (Jvm.Cond.constant "CrossroadsChoose" (255 : Nat) (1103515245 : Int32)), (Jvm.Cond.methodLink "CrossroadsChooseLaw" (127 : Nat) ({ cls := "CrossroadsChoose", name := "comes", desc := "(I)I" } : Jvm.MethodName)), (Jvm.Cond.instanceMethod ({ cls := "CrossroadsChoose", name := "comes", desc := "(I)I" } : Jvm.MethodName)), (Jvm.Cond.selects "CrossroadsChoose" ({ cls := "CrossroadsChoose", name := "comes", desc := "(I)I" } : Jvm.MethodName) ({ cls := "CrossroadsChoose", name := "comes", desc := "(I)I" } : Jvm.MethodName)), (Jvm.Cond.code ({ cls := "CrossroadsChoose", name := "comes", desc := "(I)I" } : Jvm.MethodName) prog_1_method_38_code (3 : Nat) (Option.some Jvm.ClassFile.FieldType.int)), (Jvm.Cond.methodLink "CrossroadsChoose" (256 : Nat) ({ cls := "CrossroadsChoose$Crossing", name := "isRunner", desc := "(I)Z" } : Jvm.MethodName)), (Jvm.Cond.methodLink "CrossroadsChoose" (259 : Nat) ({ cls := "CrossroadsChoose", name := "lead", desc := "(I)V" } : Jvm.MethodName)), (Jvm.Cond.privateMethod ({ cls := "CrossroadsChoose", name := "lead", desc := "(I)V" } : Jvm.MethodName)), (Jvm.Cond.instanceMethod ({ cls := "CrossroadsChoose", name := "lead", desc := "(I)V" } : Jvm.MethodName))]) : w ∈ lw_tbl := tk_3 (List.mem_of_mem_drop (i := 192) (List.mem_of_mem_take (i := 16) ((show (tables_1_3.drop 192).take 16 = [(Jvm.Cond.selects "CrossroadsChoose" ({ cls := "CrossroadsChoose", name := "drawn", desc := "(III)I" } : Jvm.MethodName) ({ cls := "CrossroadsChoose", name := "drawn", desc := "(III)I" } : Jvm.MethodName)), (Jvm.Cond.code ({ cls := "CrossroadsChoose", name := "drawn", desc := "(III)I" } : Jvm.MethodName) prog_1_method_37_code (9 : Nat) (Option.some Jvm.ClassFile.FieldType.int)), (Jvm.Cond.methodLink "CrossroadsChoose" (252 : Nat) ({ cls := "CrossroadsChoose$Thought", name := "waitAs", desc := "(LCrossroadsChoose$Crossing;)V" } : Jvm.MethodName)), (Jvm.Cond.instanceMethod ({ cls := "CrossroadsChoose$Thought", name := "waitAs", desc := "(LCrossroadsChoose$Crossing;)V" } : Jvm.MethodName)), (Jvm.Cond.selects "CrossroadsChoose$Thought" ({ cls := "CrossroadsChoose$Thought", name := "waitAs", desc := "(LCrossroadsChoose$Crossing;)V" } : Jvm.MethodName) ({ cls := "CrossroadsChoose$Thought", name := "waitAs", desc := "(LCrossroadsChoose$Crossing;)V" } : Jvm.MethodName)), (Jvm.Cond.code ({ cls := "CrossroadsChoose$Thought", name := "waitAs", desc := "(LCrossroadsChoose$Crossing;)V" } : Jvm.MethodName) prog_9_method_3_code (3 : Nat) (Option.none : Option Jvm.ClassFile.FieldType)), (Jvm.Cond.methodLink "CrossroadsChoose$Thought" (61 : Nat) ({ cls := "CrossroadsChoose$Crossing", name := "become", desc := "(III)V" } : Jvm.MethodName)), (Jvm.Cond.constant "CrossroadsChoose" (255 : Nat) (1103515245 : Int32)), (Jvm.Cond.methodLink "CrossroadsChooseLaw" (127 : Nat) ({ cls := "CrossroadsChoose", name := "comes", desc := "(I)I" } : Jvm.MethodName)), (Jvm.Cond.instanceMethod ({ cls := "CrossroadsChoose", name := "comes", desc := "(I)I" } : Jvm.MethodName)), (Jvm.Cond.selects "CrossroadsChoose" ({ cls := "CrossroadsChoose", name := "comes", desc := "(I)I" } : Jvm.MethodName) ({ cls := "CrossroadsChoose", name := "comes", desc := "(I)I" } : Jvm.MethodName)), (Jvm.Cond.code ({ cls := "CrossroadsChoose", name := "comes", desc := "(I)I" } : Jvm.MethodName) prog_1_method_38_code (3 : Nat) (Option.some Jvm.ClassFile.FieldType.int)), (Jvm.Cond.methodLink "CrossroadsChoose" (256 : Nat) ({ cls := "CrossroadsChoose$Crossing", name := "isRunner", desc := "(I)Z" } : Jvm.MethodName)), (Jvm.Cond.methodLink "CrossroadsChoose" (259 : Nat) ({ cls := "CrossroadsChoose", name := "lead", desc := "(I)V" } : Jvm.MethodName)), (Jvm.Cond.privateMethod ({ cls := "CrossroadsChoose", name := "lead", desc := "(I)V" } : Jvm.MethodName)), (Jvm.Cond.instanceMethod ({ cls := "CrossroadsChoose", name := "lead", desc := "(I)V" } : Jvm.MethodName))] from rfl) ▸ h)))
theorem ck_3_208 (w : Cond) (h : w ∈ [(Jvm.Cond.code ({ cls := "CrossroadsChoose", name := "lead", desc := "(I)V" } : Jvm.MethodName) prog_1_method_40_code (2 : Nat) (Option.none : Option Jvm.ClassFile.FieldType)), (Jvm.Cond.methodLink "CrossroadsChooseLaw" (131 : Nat) ({ cls := "CrossroadsChoose", name := "send", desc := "(I)I" } : Jvm.MethodName)), (Jvm.Cond.instanceMethod ({ cls := "CrossroadsChoose", name := "send", desc := "(I)I" } : Jvm.MethodName)), (Jvm.Cond.selects "CrossroadsChoose" ({ cls := "CrossroadsChoose", name := "send", desc := "(I)I" } : Jvm.MethodName) ({ cls := "CrossroadsChoose", name := "send", desc := "(I)I" } : Jvm.MethodName)), (Jvm.Cond.code ({ cls := "CrossroadsChoose", name := "send", desc := "(I)I" } : Jvm.MethodName) prog_1_method_39_code (3 : Nat) (Option.some Jvm.ClassFile.FieldType.int)), (Jvm.Cond.methodLink "CrossroadsChooseLaw" (135 : Nat) ({ cls := "CrossroadsChoose", name := "led", desc := "(I)I" } : Jvm.MethodName)), (Jvm.Cond.instanceMethod ({ cls := "CrossroadsChoose", name := "led", desc := "(I)I" } : Jvm.MethodName)), (Jvm.Cond.selects "CrossroadsChoose" ({ cls := "CrossroadsChoose", name := "led", desc := "(I)I" } : Jvm.MethodName) ({ cls := "CrossroadsChoose", name := "led", desc := "(I)I" } : Jvm.MethodName)), (Jvm.Cond.code ({ cls := "CrossroadsChoose", name := "led", desc := "(I)I" } : Jvm.MethodName) prog_1_method_41_code (2 : Nat) (Option.some Jvm.ClassFile.FieldType.int)), (Jvm.Cond.methodLink "CrossroadsChooseLaw" (139 : Nat) ({ cls := "CrossroadsChoose", name := "image", desc := "()I" } : Jvm.MethodName)), (Jvm.Cond.instanceMethod ({ cls := "CrossroadsChoose", name := "image", desc := "()I" } : Jvm.MethodName)), (Jvm.Cond.selects "CrossroadsChoose" ({ cls := "CrossroadsChoose", name := "image", desc := "()I" } : Jvm.MethodName) ({ cls := "CrossroadsChoose", name := "image", desc := "()I" } : Jvm.MethodName)), (Jvm.Cond.code ({ cls := "CrossroadsChoose", name := "image", desc := "()I" } : Jvm.MethodName) prog_1_method_42_code (1 : Nat) (Option.some Jvm.ClassFile.FieldType.int)), (Jvm.Cond.methodLink "CrossroadsChoose" (271 : Nat) ({ cls := "java/lang/System", name := "arraycopy", desc := "(Ljava/lang/Object;ILjava/lang/Object;II)V" } : Jvm.MethodName)), (Jvm.Cond.methodLink "CrossroadsChooseLaw" (143 : Nat) ({ cls := "CrossroadsChoose", name := "back", desc := "()I" } : Jvm.MethodName)), (Jvm.Cond.instanceMethod ({ cls := "CrossroadsChoose", name := "back", desc := "()I" } : Jvm.MethodName))]) : w ∈ lw_tbl := tk_3 (List.mem_of_mem_drop (i := 208) (List.mem_of_mem_take (i := 16) ((show (tables_1_3.drop 208).take 16 = [(Jvm.Cond.code ({ cls := "CrossroadsChoose", name := "lead", desc := "(I)V" } : Jvm.MethodName) prog_1_method_40_code (2 : Nat) (Option.none : Option Jvm.ClassFile.FieldType)), (Jvm.Cond.methodLink "CrossroadsChooseLaw" (131 : Nat) ({ cls := "CrossroadsChoose", name := "send", desc := "(I)I" } : Jvm.MethodName)), (Jvm.Cond.instanceMethod ({ cls := "CrossroadsChoose", name := "send", desc := "(I)I" } : Jvm.MethodName)), (Jvm.Cond.selects "CrossroadsChoose" ({ cls := "CrossroadsChoose", name := "send", desc := "(I)I" } : Jvm.MethodName) ({ cls := "CrossroadsChoose", name := "send", desc := "(I)I" } : Jvm.MethodName)), (Jvm.Cond.code ({ cls := "CrossroadsChoose", name := "send", desc := "(I)I" } : Jvm.MethodName) prog_1_method_39_code (3 : Nat) (Option.some Jvm.ClassFile.FieldType.int)), (Jvm.Cond.methodLink "CrossroadsChooseLaw" (135 : Nat) ({ cls := "CrossroadsChoose", name := "led", desc := "(I)I" } : Jvm.MethodName)), (Jvm.Cond.instanceMethod ({ cls := "CrossroadsChoose", name := "led", desc := "(I)I" } : Jvm.MethodName)), (Jvm.Cond.selects "CrossroadsChoose" ({ cls := "CrossroadsChoose", name := "led", desc := "(I)I" } : Jvm.MethodName) ({ cls := "CrossroadsChoose", name := "led", desc := "(I)I" } : Jvm.MethodName)), (Jvm.Cond.code ({ cls := "CrossroadsChoose", name := "led", desc := "(I)I" } : Jvm.MethodName) prog_1_method_41_code (2 : Nat) (Option.some Jvm.ClassFile.FieldType.int)), (Jvm.Cond.methodLink "CrossroadsChooseLaw" (139 : Nat) ({ cls := "CrossroadsChoose", name := "image", desc := "()I" } : Jvm.MethodName)), (Jvm.Cond.instanceMethod ({ cls := "CrossroadsChoose", name := "image", desc := "()I" } : Jvm.MethodName)), (Jvm.Cond.selects "CrossroadsChoose" ({ cls := "CrossroadsChoose", name := "image", desc := "()I" } : Jvm.MethodName) ({ cls := "CrossroadsChoose", name := "image", desc := "()I" } : Jvm.MethodName)), (Jvm.Cond.code ({ cls := "CrossroadsChoose", name := "image", desc := "()I" } : Jvm.MethodName) prog_1_method_42_code (1 : Nat) (Option.some Jvm.ClassFile.FieldType.int)), (Jvm.Cond.methodLink "CrossroadsChoose" (271 : Nat) ({ cls := "java/lang/System", name := "arraycopy", desc := "(Ljava/lang/Object;ILjava/lang/Object;II)V" } : Jvm.MethodName)), (Jvm.Cond.methodLink "CrossroadsChooseLaw" (143 : Nat) ({ cls := "CrossroadsChoose", name := "back", desc := "()I" } : Jvm.MethodName)), (Jvm.Cond.instanceMethod ({ cls := "CrossroadsChoose", name := "back", desc := "()I" } : Jvm.MethodName))] from rfl) ▸ h)))
theorem ck_3_224 (w : Cond) (h : w ∈ [(Jvm.Cond.selects "CrossroadsChoose" ({ cls := "CrossroadsChoose", name := "back", desc := "()I" } : Jvm.MethodName) ({ cls := "CrossroadsChoose", name := "back", desc := "()I" } : Jvm.MethodName)), (Jvm.Cond.code ({ cls := "CrossroadsChoose", name := "back", desc := "()I" } : Jvm.MethodName) prog_1_method_43_code (1 : Nat) (Option.some Jvm.ClassFile.FieldType.int)), (Jvm.Cond.methodLink "CrossroadsChooseLaw" (147 : Nat) ({ cls := "CrossroadsChoose", name := "undo", desc := "()I" } : Jvm.MethodName)), (Jvm.Cond.instanceMethod ({ cls := "CrossroadsChoose", name := "undo", desc := "()I" } : Jvm.MethodName)), (Jvm.Cond.selects "CrossroadsChoose" ({ cls := "CrossroadsChoose", name := "undo", desc := "()I" } : Jvm.MethodName) ({ cls := "CrossroadsChoose", name := "undo", desc := "()I" } : Jvm.MethodName)), (Jvm.Cond.code ({ cls := "CrossroadsChoose", name := "undo", desc := "()I" } : Jvm.MethodName) prog_1_method_44_code (1 : Nat) (Option.some Jvm.ClassFile.FieldType.int)), (Jvm.Cond.methodLink "CrossroadsChoose" (277 : Nat) ({ cls := "CrossroadsChoose$Changes", name := "undone", desc := "(LCrossroadsChoose$Crossing;)Z" } : Jvm.MethodName)), (Jvm.Cond.instanceMethod ({ cls := "CrossroadsChoose$Changes", name := "undone", desc := "(LCrossroadsChoose$Crossing;)Z" } : Jvm.MethodName)), (Jvm.Cond.selects "CrossroadsChoose$Changes" ({ cls := "CrossroadsChoose$Changes", name := "undone", desc := "(LCrossroadsChoose$Crossing;)Z" } : Jvm.MethodName) ({ cls := "CrossroadsChoose$Changes", name := "undone", desc := "(LCrossroadsChoose$Crossing;)Z" } : Jvm.MethodName)), (Jvm.Cond.code ({ cls := "CrossroadsChoose$Changes", name := "undone", desc := "(LCrossroadsChoose$Crossing;)Z" } : Jvm.MethodName) prog_3_method_4_code (2 : Nat) (Option.some Jvm.ClassFile.FieldType.boolean)), (Jvm.Cond.methodLink "CrossroadsChoose$Changes" (39 : Nat) ({ cls := "CrossroadsChoose$Crossing", name := "become", desc := "(III)V" } : Jvm.MethodName)), (Jvm.Cond.methodLink "CrossroadsChooseLaw" (151 : Nat) ({ cls := "CrossroadsChoose", name := "redo", desc := "()I" } : Jvm.MethodName)), (Jvm.Cond.instanceMethod ({ cls := "CrossroadsChoose", name := "redo", desc := "()I" } : Jvm.MethodName)), (Jvm.Cond.selects "CrossroadsChoose" ({ cls := "CrossroadsChoose", name := "redo", desc := "()I" } : Jvm.MethodName) ({ cls := "CrossroadsChoose", name := "redo", desc := "()I" } : Jvm.MethodName)), (Jvm.Cond.code ({ cls := "CrossroadsChoose", name := "redo", desc := "()I" } : Jvm.MethodName) prog_1_method_45_code (1 : Nat) (Option.some Jvm.ClassFile.FieldType.int)), (Jvm.Cond.methodLink "CrossroadsChoose" (284 : Nat) ({ cls := "CrossroadsChoose$Changes", name := "doneAgain", desc := "(LCrossroadsChoose$Crossing;)Z" } : Jvm.MethodName))]) : w ∈ lw_tbl := tk_3 (List.mem_of_mem_drop (i := 224) (List.mem_of_mem_take (i := 16) ((show (tables_1_3.drop 224).take 16 = [(Jvm.Cond.selects "CrossroadsChoose" ({ cls := "CrossroadsChoose", name := "back", desc := "()I" } : Jvm.MethodName) ({ cls := "CrossroadsChoose", name := "back", desc := "()I" } : Jvm.MethodName)), (Jvm.Cond.code ({ cls := "CrossroadsChoose", name := "back", desc := "()I" } : Jvm.MethodName) prog_1_method_43_code (1 : Nat) (Option.some Jvm.ClassFile.FieldType.int)), (Jvm.Cond.methodLink "CrossroadsChooseLaw" (147 : Nat) ({ cls := "CrossroadsChoose", name := "undo", desc := "()I" } : Jvm.MethodName)), (Jvm.Cond.instanceMethod ({ cls := "CrossroadsChoose", name := "undo", desc := "()I" } : Jvm.MethodName)), (Jvm.Cond.selects "CrossroadsChoose" ({ cls := "CrossroadsChoose", name := "undo", desc := "()I" } : Jvm.MethodName) ({ cls := "CrossroadsChoose", name := "undo", desc := "()I" } : Jvm.MethodName)), (Jvm.Cond.code ({ cls := "CrossroadsChoose", name := "undo", desc := "()I" } : Jvm.MethodName) prog_1_method_44_code (1 : Nat) (Option.some Jvm.ClassFile.FieldType.int)), (Jvm.Cond.methodLink "CrossroadsChoose" (277 : Nat) ({ cls := "CrossroadsChoose$Changes", name := "undone", desc := "(LCrossroadsChoose$Crossing;)Z" } : Jvm.MethodName)), (Jvm.Cond.instanceMethod ({ cls := "CrossroadsChoose$Changes", name := "undone", desc := "(LCrossroadsChoose$Crossing;)Z" } : Jvm.MethodName)), (Jvm.Cond.selects "CrossroadsChoose$Changes" ({ cls := "CrossroadsChoose$Changes", name := "undone", desc := "(LCrossroadsChoose$Crossing;)Z" } : Jvm.MethodName) ({ cls := "CrossroadsChoose$Changes", name := "undone", desc := "(LCrossroadsChoose$Crossing;)Z" } : Jvm.MethodName)), (Jvm.Cond.code ({ cls := "CrossroadsChoose$Changes", name := "undone", desc := "(LCrossroadsChoose$Crossing;)Z" } : Jvm.MethodName) prog_3_method_4_code (2 : Nat) (Option.some Jvm.ClassFile.FieldType.boolean)), (Jvm.Cond.methodLink "CrossroadsChoose$Changes" (39 : Nat) ({ cls := "CrossroadsChoose$Crossing", name := "become", desc := "(III)V" } : Jvm.MethodName)), (Jvm.Cond.methodLink "CrossroadsChooseLaw" (151 : Nat) ({ cls := "CrossroadsChoose", name := "redo", desc := "()I" } : Jvm.MethodName)), (Jvm.Cond.instanceMethod ({ cls := "CrossroadsChoose", name := "redo", desc := "()I" } : Jvm.MethodName)), (Jvm.Cond.selects "CrossroadsChoose" ({ cls := "CrossroadsChoose", name := "redo", desc := "()I" } : Jvm.MethodName) ({ cls := "CrossroadsChoose", name := "redo", desc := "()I" } : Jvm.MethodName)), (Jvm.Cond.code ({ cls := "CrossroadsChoose", name := "redo", desc := "()I" } : Jvm.MethodName) prog_1_method_45_code (1 : Nat) (Option.some Jvm.ClassFile.FieldType.int)), (Jvm.Cond.methodLink "CrossroadsChoose" (284 : Nat) ({ cls := "CrossroadsChoose$Changes", name := "doneAgain", desc := "(LCrossroadsChoose$Crossing;)Z" } : Jvm.MethodName))] from rfl) ▸ h)))
theorem tk_4 {w : Cond} (h : w ∈ tables_1_4) : w ∈ lw_tbl := List.mem_append_right _ (show _ ∈ tables_1 from List.mem_append_right _ (List.mem_append_right _ (List.mem_append_right _ (List.mem_append_left _ h))))
theorem ck_4_0 (w : Cond) (h : w ∈ [(Jvm.Cond.instanceMethod ({ cls := "CrossroadsChoose$Changes", name := "doneAgain", desc := "(LCrossroadsChoose$Crossing;)Z" } : Jvm.MethodName)), (Jvm.Cond.selects "CrossroadsChoose$Changes" ({ cls := "CrossroadsChoose$Changes", name := "doneAgain", desc := "(LCrossroadsChoose$Crossing;)Z" } : Jvm.MethodName) ({ cls := "CrossroadsChoose$Changes", name := "doneAgain", desc := "(LCrossroadsChoose$Crossing;)Z" } : Jvm.MethodName)), (Jvm.Cond.code ({ cls := "CrossroadsChoose$Changes", name := "doneAgain", desc := "(LCrossroadsChoose$Crossing;)Z" } : Jvm.MethodName) prog_3_method_5_code (2 : Nat) (Option.some Jvm.ClassFile.FieldType.boolean)), (Jvm.Cond.methodLink "CrossroadsChooseLaw" (155 : Nat) ({ cls := "CrossroadsChoose", name := "body", desc := "(I)I" } : Jvm.MethodName)), (Jvm.Cond.instanceMethod ({ cls := "CrossroadsChoose", name := "body", desc := "(I)I" } : Jvm.MethodName)), (Jvm.Cond.selects "CrossroadsChoose" ({ cls := "CrossroadsChoose", name := "body", desc := "(I)I" } : Jvm.MethodName) ({ cls := "CrossroadsChoose", name := "body", desc := "(I)I" } : Jvm.MethodName)), (Jvm.Cond.code ({ cls := "CrossroadsChoose", name := "body", desc := "(I)I" } : Jvm.MethodName) prog_1_method_46_code (2 : Nat) (Option.some Jvm.ClassFile.FieldType.int)), (Jvm.Cond.methodLink "CrossroadsChoose" (290 : Nat) ({ cls := "CrossroadsChoose$Bodies", name := "isFull", desc := "()Z" } : Jvm.MethodName)), (Jvm.Cond.instanceMethod ({ cls := "CrossroadsChoose$Bodies", name := "isFull", desc := "()Z" } : Jvm.MethodName)), (Jvm.Cond.selects "CrossroadsChoose$Bodies" ({ cls := "CrossroadsChoose$Bodies", name := "isFull", desc := "()Z" } : Jvm.MethodName) ({ cls := "CrossroadsChoose$Bodies", name := "isFull", desc := "()Z" } : Jvm.MethodName)), (Jvm.Cond.code ({ cls := "CrossroadsChoose$Bodies", name := "isFull", desc := "()Z" } : Jvm.MethodName) prog_2_method_2_code (1 : Nat) (Option.some Jvm.ClassFile.FieldType.boolean)), (Jvm.Cond.methodLink "CrossroadsChoose" (291 : Nat) ({ cls := "CrossroadsChoose$Bodies", name := "add", desc := "(I)I" } : Jvm.MethodName)), (Jvm.Cond.instanceMethod ({ cls := "CrossroadsChoose$Bodies", name := "add", desc := "(I)I" } : Jvm.MethodName)), (Jvm.Cond.selects "CrossroadsChoose$Bodies" ({ cls := "CrossroadsChoose$Bodies", name := "add", desc := "(I)I" } : Jvm.MethodName) ({ cls := "CrossroadsChoose$Bodies", name := "add", desc := "(I)I" } : Jvm.MethodName)), (Jvm.Cond.code ({ cls := "CrossroadsChoose$Bodies", name := "add", desc := "(I)I" } : Jvm.MethodName) prog_2_method_5_code (2 : Nat) (Option.some Jvm.ClassFile.FieldType.int)), (Jvm.Cond.methodLink "CrossroadsChoose$Bodies" (26 : Nat) ({ cls := "CrossroadsChoose$Bodies", name := "isFull", desc := "()Z" } : Jvm.MethodName))]) : w ∈ lw_tbl := tk_4 (List.mem_of_mem_drop (i := 0) (List.mem_of_mem_take (i := 16) ((show (tables_1_4.drop 0).take 16 = [(Jvm.Cond.instanceMethod ({ cls := "CrossroadsChoose$Changes", name := "doneAgain", desc := "(LCrossroadsChoose$Crossing;)Z" } : Jvm.MethodName)), (Jvm.Cond.selects "CrossroadsChoose$Changes" ({ cls := "CrossroadsChoose$Changes", name := "doneAgain", desc := "(LCrossroadsChoose$Crossing;)Z" } : Jvm.MethodName) ({ cls := "CrossroadsChoose$Changes", name := "doneAgain", desc := "(LCrossroadsChoose$Crossing;)Z" } : Jvm.MethodName)), (Jvm.Cond.code ({ cls := "CrossroadsChoose$Changes", name := "doneAgain", desc := "(LCrossroadsChoose$Crossing;)Z" } : Jvm.MethodName) prog_3_method_5_code (2 : Nat) (Option.some Jvm.ClassFile.FieldType.boolean)), (Jvm.Cond.methodLink "CrossroadsChooseLaw" (155 : Nat) ({ cls := "CrossroadsChoose", name := "body", desc := "(I)I" } : Jvm.MethodName)), (Jvm.Cond.instanceMethod ({ cls := "CrossroadsChoose", name := "body", desc := "(I)I" } : Jvm.MethodName)), (Jvm.Cond.selects "CrossroadsChoose" ({ cls := "CrossroadsChoose", name := "body", desc := "(I)I" } : Jvm.MethodName) ({ cls := "CrossroadsChoose", name := "body", desc := "(I)I" } : Jvm.MethodName)), (Jvm.Cond.code ({ cls := "CrossroadsChoose", name := "body", desc := "(I)I" } : Jvm.MethodName) prog_1_method_46_code (2 : Nat) (Option.some Jvm.ClassFile.FieldType.int)), (Jvm.Cond.methodLink "CrossroadsChoose" (290 : Nat) ({ cls := "CrossroadsChoose$Bodies", name := "isFull", desc := "()Z" } : Jvm.MethodName)), (Jvm.Cond.instanceMethod ({ cls := "CrossroadsChoose$Bodies", name := "isFull", desc := "()Z" } : Jvm.MethodName)), (Jvm.Cond.selects "CrossroadsChoose$Bodies" ({ cls := "CrossroadsChoose$Bodies", name := "isFull", desc := "()Z" } : Jvm.MethodName) ({ cls := "CrossroadsChoose$Bodies", name := "isFull", desc := "()Z" } : Jvm.MethodName)), (Jvm.Cond.code ({ cls := "CrossroadsChoose$Bodies", name := "isFull", desc := "()Z" } : Jvm.MethodName) prog_2_method_2_code (1 : Nat) (Option.some Jvm.ClassFile.FieldType.boolean)), (Jvm.Cond.methodLink "CrossroadsChoose" (291 : Nat) ({ cls := "CrossroadsChoose$Bodies", name := "add", desc := "(I)I" } : Jvm.MethodName)), (Jvm.Cond.instanceMethod ({ cls := "CrossroadsChoose$Bodies", name := "add", desc := "(I)I" } : Jvm.MethodName)), (Jvm.Cond.selects "CrossroadsChoose$Bodies" ({ cls := "CrossroadsChoose$Bodies", name := "add", desc := "(I)I" } : Jvm.MethodName) ({ cls := "CrossroadsChoose$Bodies", name := "add", desc := "(I)I" } : Jvm.MethodName)), (Jvm.Cond.code ({ cls := "CrossroadsChoose$Bodies", name := "add", desc := "(I)I" } : Jvm.MethodName) prog_2_method_5_code (2 : Nat) (Option.some Jvm.ClassFile.FieldType.int)), (Jvm.Cond.methodLink "CrossroadsChoose$Bodies" (26 : Nat) ({ cls := "CrossroadsChoose$Bodies", name := "isFull", desc := "()Z" } : Jvm.MethodName))] from rfl) ▸ h)))
theorem ck_4_16 (w : Cond) (h : w ∈ [(Jvm.Cond.methodLink "CrossroadsChooseLaw" (159 : Nat) ({ cls := "CrossroadsChoose", name := "act", desc := "(III)I" } : Jvm.MethodName)), (Jvm.Cond.instanceMethod ({ cls := "CrossroadsChoose", name := "act", desc := "(III)I" } : Jvm.MethodName)), (Jvm.Cond.selects "CrossroadsChoose" ({ cls := "CrossroadsChoose", name := "act", desc := "(III)I" } : Jvm.MethodName) ({ cls := "CrossroadsChoose", name := "act", desc := "(III)I" } : Jvm.MethodName)), (Jvm.Cond.code ({ cls := "CrossroadsChoose", name := "act", desc := "(III)I" } : Jvm.MethodName) prog_1_method_47_code (4 : Nat) (Option.some Jvm.ClassFile.FieldType.int)), (Jvm.Cond.methodLink "CrossroadsChoose" (292 : Nat) ({ cls := "CrossroadsChoose$Bodies", name := "perform", desc := "(III)I" } : Jvm.MethodName)), (Jvm.Cond.instanceMethod ({ cls := "CrossroadsChoose$Bodies", name := "perform", desc := "(III)I" } : Jvm.MethodName)), (Jvm.Cond.selects "CrossroadsChoose$Bodies" ({ cls := "CrossroadsChoose$Bodies", name := "perform", desc := "(III)I" } : Jvm.MethodName) ({ cls := "CrossroadsChoose$Bodies", name := "perform", desc := "(III)I" } : Jvm.MethodName)), (Jvm.Cond.code ({ cls := "CrossroadsChoose$Bodies", name := "perform", desc := "(III)I" } : Jvm.MethodName) prog_2_method_9_code (4 : Nat) (Option.some Jvm.ClassFile.FieldType.int)), (Jvm.Cond.methodLink "CrossroadsChoose$Bodies" (22 : Nat) ({ cls := "CrossroadsChoose$Bodies", name := "isBody", desc := "(I)Z" } : Jvm.MethodName)), (Jvm.Cond.instanceMethod ({ cls := "CrossroadsChoose$Bodies", name := "isBody", desc := "(I)Z" } : Jvm.MethodName)), (Jvm.Cond.selects "CrossroadsChoose$Bodies" ({ cls := "CrossroadsChoose$Bodies", name := "isBody", desc := "(I)Z" } : Jvm.MethodName) ({ cls := "CrossroadsChoose$Bodies", name := "isBody", desc := "(I)Z" } : Jvm.MethodName)), (Jvm.Cond.code ({ cls := "CrossroadsChoose$Bodies", name := "isBody", desc := "(I)Z" } : Jvm.MethodName) prog_2_method_3_code (2 : Nat) (Option.some Jvm.ClassFile.FieldType.boolean)), (Jvm.Cond.methodLink "CrossroadsChoose$Bodies" (40 : Nat) ({ cls := "CrossroadsChoose$Bodies", name := "work", desc := "(IIIII)I" } : Jvm.MethodName)), (Jvm.Cond.privateMethod ({ cls := "CrossroadsChoose$Bodies", name := "work", desc := "(IIIII)I" } : Jvm.MethodName)), (Jvm.Cond.instanceMethod ({ cls := "CrossroadsChoose$Bodies", name := "work", desc := "(IIIII)I" } : Jvm.MethodName)), (Jvm.Cond.code ({ cls := "CrossroadsChoose$Bodies", name := "work", desc := "(IIIII)I" } : Jvm.MethodName) prog_2_method_12_code (11 : Nat) (Option.some Jvm.ClassFile.FieldType.int))]) : w ∈ lw_tbl := tk_4 (List.mem_of_mem_drop (i := 16) (List.mem_of_mem_take (i := 16) ((show (tables_1_4.drop 16).take 16 = [(Jvm.Cond.methodLink "CrossroadsChooseLaw" (159 : Nat) ({ cls := "CrossroadsChoose", name := "act", desc := "(III)I" } : Jvm.MethodName)), (Jvm.Cond.instanceMethod ({ cls := "CrossroadsChoose", name := "act", desc := "(III)I" } : Jvm.MethodName)), (Jvm.Cond.selects "CrossroadsChoose" ({ cls := "CrossroadsChoose", name := "act", desc := "(III)I" } : Jvm.MethodName) ({ cls := "CrossroadsChoose", name := "act", desc := "(III)I" } : Jvm.MethodName)), (Jvm.Cond.code ({ cls := "CrossroadsChoose", name := "act", desc := "(III)I" } : Jvm.MethodName) prog_1_method_47_code (4 : Nat) (Option.some Jvm.ClassFile.FieldType.int)), (Jvm.Cond.methodLink "CrossroadsChoose" (292 : Nat) ({ cls := "CrossroadsChoose$Bodies", name := "perform", desc := "(III)I" } : Jvm.MethodName)), (Jvm.Cond.instanceMethod ({ cls := "CrossroadsChoose$Bodies", name := "perform", desc := "(III)I" } : Jvm.MethodName)), (Jvm.Cond.selects "CrossroadsChoose$Bodies" ({ cls := "CrossroadsChoose$Bodies", name := "perform", desc := "(III)I" } : Jvm.MethodName) ({ cls := "CrossroadsChoose$Bodies", name := "perform", desc := "(III)I" } : Jvm.MethodName)), (Jvm.Cond.code ({ cls := "CrossroadsChoose$Bodies", name := "perform", desc := "(III)I" } : Jvm.MethodName) prog_2_method_9_code (4 : Nat) (Option.some Jvm.ClassFile.FieldType.int)), (Jvm.Cond.methodLink "CrossroadsChoose$Bodies" (22 : Nat) ({ cls := "CrossroadsChoose$Bodies", name := "isBody", desc := "(I)Z" } : Jvm.MethodName)), (Jvm.Cond.instanceMethod ({ cls := "CrossroadsChoose$Bodies", name := "isBody", desc := "(I)Z" } : Jvm.MethodName)), (Jvm.Cond.selects "CrossroadsChoose$Bodies" ({ cls := "CrossroadsChoose$Bodies", name := "isBody", desc := "(I)Z" } : Jvm.MethodName) ({ cls := "CrossroadsChoose$Bodies", name := "isBody", desc := "(I)Z" } : Jvm.MethodName)), (Jvm.Cond.code ({ cls := "CrossroadsChoose$Bodies", name := "isBody", desc := "(I)Z" } : Jvm.MethodName) prog_2_method_3_code (2 : Nat) (Option.some Jvm.ClassFile.FieldType.boolean)), (Jvm.Cond.methodLink "CrossroadsChoose$Bodies" (40 : Nat) ({ cls := "CrossroadsChoose$Bodies", name := "work", desc := "(IIIII)I" } : Jvm.MethodName)), (Jvm.Cond.privateMethod ({ cls := "CrossroadsChoose$Bodies", name := "work", desc := "(IIIII)I" } : Jvm.MethodName)), (Jvm.Cond.instanceMethod ({ cls := "CrossroadsChoose$Bodies", name := "work", desc := "(IIIII)I" } : Jvm.MethodName)), (Jvm.Cond.code ({ cls := "CrossroadsChoose$Bodies", name := "work", desc := "(IIIII)I" } : Jvm.MethodName) prog_2_method_12_code (11 : Nat) (Option.some Jvm.ClassFile.FieldType.int))] from rfl) ▸ h)))
theorem ck_4_32 (w : Cond) (h : w ∈ [(Jvm.Cond.methodLink "CrossroadsChoose$Bodies" (47 : Nat) ({ cls := "CrossroadsChoose$Bodies", name := "kindWith", desc := "(II)I" } : Jvm.MethodName)), (Jvm.Cond.static ({ cls := "CrossroadsChoose$Bodies", name := "kindWith", desc := "(II)I" } : Jvm.MethodName)), (Jvm.Cond.code ({ cls := "CrossroadsChoose$Bodies", name := "kindWith", desc := "(II)I" } : Jvm.MethodName) prog_2_method_10_code (4 : Nat) (Option.some Jvm.ClassFile.FieldType.int)), (Jvm.Cond.fieldLink "CrossroadsChoose$Bodies" (44 : Nat) "CrossroadsChoose$Bodies" "OWN" "[I"), (Jvm.Cond.laysStatic "CrossroadsChoose$Bodies" "OWN" "[I"), (Jvm.Cond.methodLink "CrossroadsChoose$Bodies" (36 : Nat) ({ cls := "CrossroadsChoose$Bodies", name := "above", desc := "(I)I" } : Jvm.MethodName)), (Jvm.Cond.static ({ cls := "CrossroadsChoose$Bodies", name := "above", desc := "(I)I" } : Jvm.MethodName)), (Jvm.Cond.code ({ cls := "CrossroadsChoose$Bodies", name := "above", desc := "(I)I" } : Jvm.MethodName) prog_2_method_7_code (1 : Nat) (Option.some Jvm.ClassFile.FieldType.int)), (Jvm.Cond.fieldLink "CrossroadsChoose$Bodies" (33 : Nat) "CrossroadsChoose$Bodies" "ABOVE" "[I"), (Jvm.Cond.laysStatic "CrossroadsChoose$Bodies" "ABOVE" "[I"), (Jvm.Cond.methodLink "CrossroadsChoose$Bodies" (51 : Nat) ({ cls := "CrossroadsChoose$Bodies", name := "note", desc := "(I)V" } : Jvm.MethodName)), (Jvm.Cond.privateMethod ({ cls := "CrossroadsChoose$Bodies", name := "note", desc := "(I)V" } : Jvm.MethodName)), (Jvm.Cond.instanceMethod ({ cls := "CrossroadsChoose$Bodies", name := "note", desc := "(I)V" } : Jvm.MethodName)), (Jvm.Cond.code ({ cls := "CrossroadsChoose$Bodies", name := "note", desc := "(I)V" } : Jvm.MethodName) prog_2_method_11_code (2 : Nat) (Option.none : Option Jvm.ClassFile.FieldType)), (Jvm.Cond.methodLink "CrossroadsChoose$Bodies" (55 : Nat) ({ cls := "CrossroadsChoose$Bodies", name := "kindOf", desc := "(I)I" } : Jvm.MethodName)), (Jvm.Cond.instanceMethod ({ cls := "CrossroadsChoose$Bodies", name := "kindOf", desc := "(I)I" } : Jvm.MethodName))]) : w ∈ lw_tbl := tk_4 (List.mem_of_mem_drop (i := 32) (List.mem_of_mem_take (i := 16) ((show (tables_1_4.drop 32).take 16 = [(Jvm.Cond.methodLink "CrossroadsChoose$Bodies" (47 : Nat) ({ cls := "CrossroadsChoose$Bodies", name := "kindWith", desc := "(II)I" } : Jvm.MethodName)), (Jvm.Cond.static ({ cls := "CrossroadsChoose$Bodies", name := "kindWith", desc := "(II)I" } : Jvm.MethodName)), (Jvm.Cond.code ({ cls := "CrossroadsChoose$Bodies", name := "kindWith", desc := "(II)I" } : Jvm.MethodName) prog_2_method_10_code (4 : Nat) (Option.some Jvm.ClassFile.FieldType.int)), (Jvm.Cond.fieldLink "CrossroadsChoose$Bodies" (44 : Nat) "CrossroadsChoose$Bodies" "OWN" "[I"), (Jvm.Cond.laysStatic "CrossroadsChoose$Bodies" "OWN" "[I"), (Jvm.Cond.methodLink "CrossroadsChoose$Bodies" (36 : Nat) ({ cls := "CrossroadsChoose$Bodies", name := "above", desc := "(I)I" } : Jvm.MethodName)), (Jvm.Cond.static ({ cls := "CrossroadsChoose$Bodies", name := "above", desc := "(I)I" } : Jvm.MethodName)), (Jvm.Cond.code ({ cls := "CrossroadsChoose$Bodies", name := "above", desc := "(I)I" } : Jvm.MethodName) prog_2_method_7_code (1 : Nat) (Option.some Jvm.ClassFile.FieldType.int)), (Jvm.Cond.fieldLink "CrossroadsChoose$Bodies" (33 : Nat) "CrossroadsChoose$Bodies" "ABOVE" "[I"), (Jvm.Cond.laysStatic "CrossroadsChoose$Bodies" "ABOVE" "[I"), (Jvm.Cond.methodLink "CrossroadsChoose$Bodies" (51 : Nat) ({ cls := "CrossroadsChoose$Bodies", name := "note", desc := "(I)V" } : Jvm.MethodName)), (Jvm.Cond.privateMethod ({ cls := "CrossroadsChoose$Bodies", name := "note", desc := "(I)V" } : Jvm.MethodName)), (Jvm.Cond.instanceMethod ({ cls := "CrossroadsChoose$Bodies", name := "note", desc := "(I)V" } : Jvm.MethodName)), (Jvm.Cond.code ({ cls := "CrossroadsChoose$Bodies", name := "note", desc := "(I)V" } : Jvm.MethodName) prog_2_method_11_code (2 : Nat) (Option.none : Option Jvm.ClassFile.FieldType)), (Jvm.Cond.methodLink "CrossroadsChoose$Bodies" (55 : Nat) ({ cls := "CrossroadsChoose$Bodies", name := "kindOf", desc := "(I)I" } : Jvm.MethodName)), (Jvm.Cond.instanceMethod ({ cls := "CrossroadsChoose$Bodies", name := "kindOf", desc := "(I)I" } : Jvm.MethodName))] from rfl) ▸ h)))
theorem ck_4_48 (w : Cond) (h : w ∈ [(Jvm.Cond.selects "CrossroadsChoose$Bodies" ({ cls := "CrossroadsChoose$Bodies", name := "kindOf", desc := "(I)I" } : Jvm.MethodName) ({ cls := "CrossroadsChoose$Bodies", name := "kindOf", desc := "(I)I" } : Jvm.MethodName)), (Jvm.Cond.code ({ cls := "CrossroadsChoose$Bodies", name := "kindOf", desc := "(I)I" } : Jvm.MethodName) prog_2_method_4_code (2 : Nat) (Option.some Jvm.ClassFile.FieldType.int)), (Jvm.Cond.methodLink "CrossroadsChooseLaw" (163 : Nat) ({ cls := "CrossroadsChoose", name := "trace", desc := "(I)I" } : Jvm.MethodName)), (Jvm.Cond.instanceMethod ({ cls := "CrossroadsChoose", name := "trace", desc := "(I)I" } : Jvm.MethodName)), (Jvm.Cond.selects "CrossroadsChoose" ({ cls := "CrossroadsChoose", name := "trace", desc := "(I)I" } : Jvm.MethodName) ({ cls := "CrossroadsChoose", name := "trace", desc := "(I)I" } : Jvm.MethodName)), (Jvm.Cond.code ({ cls := "CrossroadsChoose", name := "trace", desc := "(I)I" } : Jvm.MethodName) prog_1_method_48_code (2 : Nat) (Option.some Jvm.ClassFile.FieldType.int)), (Jvm.Cond.methodLink "CrossroadsChoose" (295 : Nat) ({ cls := "CrossroadsChoose$Bodies", name := "traced", desc := "(I)I" } : Jvm.MethodName)), (Jvm.Cond.instanceMethod ({ cls := "CrossroadsChoose$Bodies", name := "traced", desc := "(I)I" } : Jvm.MethodName)), (Jvm.Cond.selects "CrossroadsChoose$Bodies" ({ cls := "CrossroadsChoose$Bodies", name := "traced", desc := "(I)I" } : Jvm.MethodName) ({ cls := "CrossroadsChoose$Bodies", name := "traced", desc := "(I)I" } : Jvm.MethodName)), (Jvm.Cond.code ({ cls := "CrossroadsChoose$Bodies", name := "traced", desc := "(I)I" } : Jvm.MethodName) prog_2_method_6_code (2 : Nat) (Option.some Jvm.ClassFile.FieldType.int)), (Jvm.Cond.methodLink "CrossroadsChooseLaw" (167 : Nat) ({ cls := "CrossroadsChoose", name := "keep", desc := "(II)I" } : Jvm.MethodName)), (Jvm.Cond.instanceMethod ({ cls := "CrossroadsChoose", name := "keep", desc := "(II)I" } : Jvm.MethodName)), (Jvm.Cond.selects "CrossroadsChoose" ({ cls := "CrossroadsChoose", name := "keep", desc := "(II)I" } : Jvm.MethodName) ({ cls := "CrossroadsChoose", name := "keep", desc := "(II)I" } : Jvm.MethodName)), (Jvm.Cond.code ({ cls := "CrossroadsChoose", name := "keep", desc := "(II)I" } : Jvm.MethodName) prog_1_method_49_code (4 : Nat) (Option.some Jvm.ClassFile.FieldType.int)), (Jvm.Cond.methodLink "CrossroadsChoose" (298 : Nat) ({ cls := "CrossroadsChoose$Bodies", name := "isBody", desc := "(I)Z" } : Jvm.MethodName)), (Jvm.Cond.methodLink "CrossroadsChoose" (301 : Nat) ({ cls := "CrossroadsChoose$Shelf", name := "holdNothing", desc := "()V" } : Jvm.MethodName))]) : w ∈ lw_tbl := tk_4 (List.mem_of_mem_drop (i := 48) (List.mem_of_mem_take (i := 16) ((show (tables_1_4.drop 48).take 16 = [(Jvm.Cond.selects "CrossroadsChoose$Bodies" ({ cls := "CrossroadsChoose$Bodies", name := "kindOf", desc := "(I)I" } : Jvm.MethodName) ({ cls := "CrossroadsChoose$Bodies", name := "kindOf", desc := "(I)I" } : Jvm.MethodName)), (Jvm.Cond.code ({ cls := "CrossroadsChoose$Bodies", name := "kindOf", desc := "(I)I" } : Jvm.MethodName) prog_2_method_4_code (2 : Nat) (Option.some Jvm.ClassFile.FieldType.int)), (Jvm.Cond.methodLink "CrossroadsChooseLaw" (163 : Nat) ({ cls := "CrossroadsChoose", name := "trace", desc := "(I)I" } : Jvm.MethodName)), (Jvm.Cond.instanceMethod ({ cls := "CrossroadsChoose", name := "trace", desc := "(I)I" } : Jvm.MethodName)), (Jvm.Cond.selects "CrossroadsChoose" ({ cls := "CrossroadsChoose", name := "trace", desc := "(I)I" } : Jvm.MethodName) ({ cls := "CrossroadsChoose", name := "trace", desc := "(I)I" } : Jvm.MethodName)), (Jvm.Cond.code ({ cls := "CrossroadsChoose", name := "trace", desc := "(I)I" } : Jvm.MethodName) prog_1_method_48_code (2 : Nat) (Option.some Jvm.ClassFile.FieldType.int)), (Jvm.Cond.methodLink "CrossroadsChoose" (295 : Nat) ({ cls := "CrossroadsChoose$Bodies", name := "traced", desc := "(I)I" } : Jvm.MethodName)), (Jvm.Cond.instanceMethod ({ cls := "CrossroadsChoose$Bodies", name := "traced", desc := "(I)I" } : Jvm.MethodName)), (Jvm.Cond.selects "CrossroadsChoose$Bodies" ({ cls := "CrossroadsChoose$Bodies", name := "traced", desc := "(I)I" } : Jvm.MethodName) ({ cls := "CrossroadsChoose$Bodies", name := "traced", desc := "(I)I" } : Jvm.MethodName)), (Jvm.Cond.code ({ cls := "CrossroadsChoose$Bodies", name := "traced", desc := "(I)I" } : Jvm.MethodName) prog_2_method_6_code (2 : Nat) (Option.some Jvm.ClassFile.FieldType.int)), (Jvm.Cond.methodLink "CrossroadsChooseLaw" (167 : Nat) ({ cls := "CrossroadsChoose", name := "keep", desc := "(II)I" } : Jvm.MethodName)), (Jvm.Cond.instanceMethod ({ cls := "CrossroadsChoose", name := "keep", desc := "(II)I" } : Jvm.MethodName)), (Jvm.Cond.selects "CrossroadsChoose" ({ cls := "CrossroadsChoose", name := "keep", desc := "(II)I" } : Jvm.MethodName) ({ cls := "CrossroadsChoose", name := "keep", desc := "(II)I" } : Jvm.MethodName)), (Jvm.Cond.code ({ cls := "CrossroadsChoose", name := "keep", desc := "(II)I" } : Jvm.MethodName) prog_1_method_49_code (4 : Nat) (Option.some Jvm.ClassFile.FieldType.int)), (Jvm.Cond.methodLink "CrossroadsChoose" (298 : Nat) ({ cls := "CrossroadsChoose$Bodies", name := "isBody", desc := "(I)Z" } : Jvm.MethodName)), (Jvm.Cond.methodLink "CrossroadsChoose" (301 : Nat) ({ cls := "CrossroadsChoose$Shelf", name := "holdNothing", desc := "()V" } : Jvm.MethodName))] from rfl) ▸ h)))
theorem ck_4_64 (w : Cond) (h : w ∈ [(Jvm.Cond.instanceMethod ({ cls := "CrossroadsChoose$Shelf", name := "holdNothing", desc := "()V" } : Jvm.MethodName)), (Jvm.Cond.selects "CrossroadsChoose$Shelf" ({ cls := "CrossroadsChoose$Shelf", name := "holdNothing", desc := "()V" } : Jvm.MethodName) ({ cls := "CrossroadsChoose$Shelf", name := "holdNothing", desc := "()V" } : Jvm.MethodName)), (Jvm.Cond.code ({ cls := "CrossroadsChoose$Shelf", name := "holdNothing", desc := "()V" } : Jvm.MethodName) prog_7_method_5_code (1 : Nat) (Option.none : Option Jvm.ClassFile.FieldType)), (Jvm.Cond.methodLink "CrossroadsChoose" (304 : Nat) ({ cls := "CrossroadsChoose$Shelf", name := "holdBody", desc := "(I)V" } : Jvm.MethodName)), (Jvm.Cond.instanceMethod ({ cls := "CrossroadsChoose$Shelf", name := "holdBody", desc := "(I)V" } : Jvm.MethodName)), (Jvm.Cond.selects "CrossroadsChoose$Shelf" ({ cls := "CrossroadsChoose$Shelf", name := "holdBody", desc := "(I)V" } : Jvm.MethodName) ({ cls := "CrossroadsChoose$Shelf", name := "holdBody", desc := "(I)V" } : Jvm.MethodName)), (Jvm.Cond.code ({ cls := "CrossroadsChoose$Shelf", name := "holdBody", desc := "(I)V" } : Jvm.MethodName) prog_7_method_6_code (2 : Nat) (Option.none : Option Jvm.ClassFile.FieldType)), (Jvm.Cond.methodLink "CrossroadsChooseLaw" (171 : Nat) ({ cls := "CrossroadsChoose", name := "row", desc := "(III)I" } : Jvm.MethodName)), (Jvm.Cond.instanceMethod ({ cls := "CrossroadsChoose", name := "row", desc := "(III)I" } : Jvm.MethodName)), (Jvm.Cond.selects "CrossroadsChoose" ({ cls := "CrossroadsChoose", name := "row", desc := "(III)I" } : Jvm.MethodName) ({ cls := "CrossroadsChoose", name := "row", desc := "(III)I" } : Jvm.MethodName)), (Jvm.Cond.code ({ cls := "CrossroadsChoose", name := "row", desc := "(III)I" } : Jvm.MethodName) prog_1_method_50_code (5 : Nat) (Option.some Jvm.ClassFile.FieldType.int)), (Jvm.Cond.methodLink "CrossroadsChoose" (307 : Nat) ({ cls := "CrossroadsChoose$Shelf", name := "holdRow", desc := "(II)V" } : Jvm.MethodName)), (Jvm.Cond.instanceMethod ({ cls := "CrossroadsChoose$Shelf", name := "holdRow", desc := "(II)V" } : Jvm.MethodName)), (Jvm.Cond.selects "CrossroadsChoose$Shelf" ({ cls := "CrossroadsChoose$Shelf", name := "holdRow", desc := "(II)V" } : Jvm.MethodName) ({ cls := "CrossroadsChoose$Shelf", name := "holdRow", desc := "(II)V" } : Jvm.MethodName)), (Jvm.Cond.code ({ cls := "CrossroadsChoose$Shelf", name := "holdRow", desc := "(II)V" } : Jvm.MethodName) prog_7_method_7_code (3 : Nat) (Option.none : Option Jvm.ClassFile.FieldType)), (Jvm.Cond.methodLink "CrossroadsChoose$Shelf" (28 : Nat) ({ cls := "java/lang/Math", name := "min", desc := "(II)I" } : Jvm.MethodName))]) : w ∈ lw_tbl := tk_4 (List.mem_of_mem_drop (i := 64) (List.mem_of_mem_take (i := 16) ((show (tables_1_4.drop 64).take 16 = [(Jvm.Cond.instanceMethod ({ cls := "CrossroadsChoose$Shelf", name := "holdNothing", desc := "()V" } : Jvm.MethodName)), (Jvm.Cond.selects "CrossroadsChoose$Shelf" ({ cls := "CrossroadsChoose$Shelf", name := "holdNothing", desc := "()V" } : Jvm.MethodName) ({ cls := "CrossroadsChoose$Shelf", name := "holdNothing", desc := "()V" } : Jvm.MethodName)), (Jvm.Cond.code ({ cls := "CrossroadsChoose$Shelf", name := "holdNothing", desc := "()V" } : Jvm.MethodName) prog_7_method_5_code (1 : Nat) (Option.none : Option Jvm.ClassFile.FieldType)), (Jvm.Cond.methodLink "CrossroadsChoose" (304 : Nat) ({ cls := "CrossroadsChoose$Shelf", name := "holdBody", desc := "(I)V" } : Jvm.MethodName)), (Jvm.Cond.instanceMethod ({ cls := "CrossroadsChoose$Shelf", name := "holdBody", desc := "(I)V" } : Jvm.MethodName)), (Jvm.Cond.selects "CrossroadsChoose$Shelf" ({ cls := "CrossroadsChoose$Shelf", name := "holdBody", desc := "(I)V" } : Jvm.MethodName) ({ cls := "CrossroadsChoose$Shelf", name := "holdBody", desc := "(I)V" } : Jvm.MethodName)), (Jvm.Cond.code ({ cls := "CrossroadsChoose$Shelf", name := "holdBody", desc := "(I)V" } : Jvm.MethodName) prog_7_method_6_code (2 : Nat) (Option.none : Option Jvm.ClassFile.FieldType)), (Jvm.Cond.methodLink "CrossroadsChooseLaw" (171 : Nat) ({ cls := "CrossroadsChoose", name := "row", desc := "(III)I" } : Jvm.MethodName)), (Jvm.Cond.instanceMethod ({ cls := "CrossroadsChoose", name := "row", desc := "(III)I" } : Jvm.MethodName)), (Jvm.Cond.selects "CrossroadsChoose" ({ cls := "CrossroadsChoose", name := "row", desc := "(III)I" } : Jvm.MethodName) ({ cls := "CrossroadsChoose", name := "row", desc := "(III)I" } : Jvm.MethodName)), (Jvm.Cond.code ({ cls := "CrossroadsChoose", name := "row", desc := "(III)I" } : Jvm.MethodName) prog_1_method_50_code (5 : Nat) (Option.some Jvm.ClassFile.FieldType.int)), (Jvm.Cond.methodLink "CrossroadsChoose" (307 : Nat) ({ cls := "CrossroadsChoose$Shelf", name := "holdRow", desc := "(II)V" } : Jvm.MethodName)), (Jvm.Cond.instanceMethod ({ cls := "CrossroadsChoose$Shelf", name := "holdRow", desc := "(II)V" } : Jvm.MethodName)), (Jvm.Cond.selects "CrossroadsChoose$Shelf" ({ cls := "CrossroadsChoose$Shelf", name := "holdRow", desc := "(II)V" } : Jvm.MethodName) ({ cls := "CrossroadsChoose$Shelf", name := "holdRow", desc := "(II)V" } : Jvm.MethodName)), (Jvm.Cond.code ({ cls := "CrossroadsChoose$Shelf", name := "holdRow", desc := "(II)V" } : Jvm.MethodName) prog_7_method_7_code (3 : Nat) (Option.none : Option Jvm.ClassFile.FieldType)), (Jvm.Cond.methodLink "CrossroadsChoose$Shelf" (28 : Nat) ({ cls := "java/lang/Math", name := "min", desc := "(II)I" } : Jvm.MethodName))] from rfl) ▸ h)))
theorem ck_4_80 (w : Cond) (h : w ∈ [(Jvm.Cond.methodLink "CrossroadsChoose$Shelf" (34 : Nat) ({ cls := "java/lang/Math", name := "max", desc := "(II)I" } : Jvm.MethodName)), (Jvm.Cond.methodLink "CrossroadsChoose$Shelf" (37 : Nat) ({ cls := "java/util/Arrays", name := "fill", desc := "([JJ)V" } : Jvm.MethodName)), (Jvm.Cond.static ({ cls := "java/util/Arrays", name := "fill", desc := "([JJ)V" } : Jvm.MethodName)), (Jvm.Cond.code ({ cls := "java/util/Arrays", name := "fill", desc := "([JJ)V" } : Jvm.MethodName) prog_16_method_101_code (5 : Nat) (Option.none : Option Jvm.ClassFile.FieldType)), (Jvm.Cond.methodLink "CrossroadsChooseLaw" (177 : Nat) ({ cls := "CrossroadsChoose", name := "put", desc := "(IIJ)I" } : Jvm.MethodName)), (Jvm.Cond.instanceMethod ({ cls := "CrossroadsChoose", name := "put", desc := "(IIJ)I" } : Jvm.MethodName)), (Jvm.Cond.selects "CrossroadsChoose" ({ cls := "CrossroadsChoose", name := "put", desc := "(IIJ)I" } : Jvm.MethodName) ({ cls := "CrossroadsChoose", name := "put", desc := "(IIJ)I" } : Jvm.MethodName)), (Jvm.Cond.code ({ cls := "CrossroadsChoose", name := "put", desc := "(IIJ)I" } : Jvm.MethodName) prog_1_method_51_code (7 : Nat) (Option.some Jvm.ClassFile.FieldType.int)), (Jvm.Cond.methodLink "CrossroadsChoose" (311 : Nat) ({ cls := "CrossroadsChoose", name := "placeRefusal", desc := "(II)I" } : Jvm.MethodName)), (Jvm.Cond.privateMethod ({ cls := "CrossroadsChoose", name := "placeRefusal", desc := "(II)I" } : Jvm.MethodName)), (Jvm.Cond.instanceMethod ({ cls := "CrossroadsChoose", name := "placeRefusal", desc := "(II)I" } : Jvm.MethodName)), (Jvm.Cond.code ({ cls := "CrossroadsChoose", name := "placeRefusal", desc := "(II)I" } : Jvm.MethodName) prog_1_method_58_code (5 : Nat) (Option.some Jvm.ClassFile.FieldType.int)), (Jvm.Cond.methodLink "CrossroadsChoose" (314 : Nat) ({ cls := "CrossroadsChoose$Shelf", name := "write", desc := "(IJ)V" } : Jvm.MethodName)), (Jvm.Cond.instanceMethod ({ cls := "CrossroadsChoose$Shelf", name := "write", desc := "(IJ)V" } : Jvm.MethodName)), (Jvm.Cond.selects "CrossroadsChoose$Shelf" ({ cls := "CrossroadsChoose$Shelf", name := "write", desc := "(IJ)V" } : Jvm.MethodName) ({ cls := "CrossroadsChoose$Shelf", name := "write", desc := "(IJ)V" } : Jvm.MethodName)), (Jvm.Cond.code ({ cls := "CrossroadsChoose$Shelf", name := "write", desc := "(IJ)V" } : Jvm.MethodName) prog_7_method_11_code (4 : Nat) (Option.none : Option Jvm.ClassFile.FieldType))]) : w ∈ lw_tbl := tk_4 (List.mem_of_mem_drop (i := 80) (List.mem_of_mem_take (i := 16) ((show (tables_1_4.drop 80).take 16 = [(Jvm.Cond.methodLink "CrossroadsChoose$Shelf" (34 : Nat) ({ cls := "java/lang/Math", name := "max", desc := "(II)I" } : Jvm.MethodName)), (Jvm.Cond.methodLink "CrossroadsChoose$Shelf" (37 : Nat) ({ cls := "java/util/Arrays", name := "fill", desc := "([JJ)V" } : Jvm.MethodName)), (Jvm.Cond.static ({ cls := "java/util/Arrays", name := "fill", desc := "([JJ)V" } : Jvm.MethodName)), (Jvm.Cond.code ({ cls := "java/util/Arrays", name := "fill", desc := "([JJ)V" } : Jvm.MethodName) prog_16_method_101_code (5 : Nat) (Option.none : Option Jvm.ClassFile.FieldType)), (Jvm.Cond.methodLink "CrossroadsChooseLaw" (177 : Nat) ({ cls := "CrossroadsChoose", name := "put", desc := "(IIJ)I" } : Jvm.MethodName)), (Jvm.Cond.instanceMethod ({ cls := "CrossroadsChoose", name := "put", desc := "(IIJ)I" } : Jvm.MethodName)), (Jvm.Cond.selects "CrossroadsChoose" ({ cls := "CrossroadsChoose", name := "put", desc := "(IIJ)I" } : Jvm.MethodName) ({ cls := "CrossroadsChoose", name := "put", desc := "(IIJ)I" } : Jvm.MethodName)), (Jvm.Cond.code ({ cls := "CrossroadsChoose", name := "put", desc := "(IIJ)I" } : Jvm.MethodName) prog_1_method_51_code (7 : Nat) (Option.some Jvm.ClassFile.FieldType.int)), (Jvm.Cond.methodLink "CrossroadsChoose" (311 : Nat) ({ cls := "CrossroadsChoose", name := "placeRefusal", desc := "(II)I" } : Jvm.MethodName)), (Jvm.Cond.privateMethod ({ cls := "CrossroadsChoose", name := "placeRefusal", desc := "(II)I" } : Jvm.MethodName)), (Jvm.Cond.instanceMethod ({ cls := "CrossroadsChoose", name := "placeRefusal", desc := "(II)I" } : Jvm.MethodName)), (Jvm.Cond.code ({ cls := "CrossroadsChoose", name := "placeRefusal", desc := "(II)I" } : Jvm.MethodName) prog_1_method_58_code (5 : Nat) (Option.some Jvm.ClassFile.FieldType.int)), (Jvm.Cond.methodLink "CrossroadsChoose" (314 : Nat) ({ cls := "CrossroadsChoose$Shelf", name := "write", desc := "(IJ)V" } : Jvm.MethodName)), (Jvm.Cond.instanceMethod ({ cls := "CrossroadsChoose$Shelf", name := "write", desc := "(IJ)V" } : Jvm.MethodName)), (Jvm.Cond.selects "CrossroadsChoose$Shelf" ({ cls := "CrossroadsChoose$Shelf", name := "write", desc := "(IJ)V" } : Jvm.MethodName) ({ cls := "CrossroadsChoose$Shelf", name := "write", desc := "(IJ)V" } : Jvm.MethodName)), (Jvm.Cond.code ({ cls := "CrossroadsChoose$Shelf", name := "write", desc := "(IJ)V" } : Jvm.MethodName) prog_7_method_11_code (4 : Nat) (Option.none : Option Jvm.ClassFile.FieldType))] from rfl) ▸ h)))
theorem ck_4_96 (w : Cond) (h : w ∈ [(Jvm.Cond.methodLink "CrossroadsChoose$Shelf" (51 : Nat) ({ cls := "CrossroadsChoose$Shelf", name := "narrowed", desc := "(J)J" } : Jvm.MethodName)), (Jvm.Cond.privateMethod ({ cls := "CrossroadsChoose$Shelf", name := "narrowed", desc := "(J)J" } : Jvm.MethodName)), (Jvm.Cond.instanceMethod ({ cls := "CrossroadsChoose$Shelf", name := "narrowed", desc := "(J)J" } : Jvm.MethodName)), (Jvm.Cond.code ({ cls := "CrossroadsChoose$Shelf", name := "narrowed", desc := "(J)J" } : Jvm.MethodName) prog_7_method_12_code (3 : Nat) (Option.some Jvm.ClassFile.FieldType.long)), (Jvm.Cond.methodLink "CrossroadsChooseLaw" (182 : Nat) ({ cls := "CrossroadsChoose", name := "element", desc := "(II)J" } : Jvm.MethodName)), (Jvm.Cond.instanceMethod ({ cls := "CrossroadsChoose", name := "element", desc := "(II)J" } : Jvm.MethodName)), (Jvm.Cond.selects "CrossroadsChoose" ({ cls := "CrossroadsChoose", name := "element", desc := "(II)J" } : Jvm.MethodName) ({ cls := "CrossroadsChoose", name := "element", desc := "(II)J" } : Jvm.MethodName)), (Jvm.Cond.code ({ cls := "CrossroadsChoose", name := "element", desc := "(II)J" } : Jvm.MethodName) prog_1_method_52_code (4 : Nat) (Option.some Jvm.ClassFile.FieldType.long)), (Jvm.Cond.methodLink "CrossroadsChoose" (318 : Nat) ({ cls := "CrossroadsChoose$Shelf", name := "valueAt", desc := "(I)J" } : Jvm.MethodName)), (Jvm.Cond.methodLink "CrossroadsChooseLaw" (186 : Nat) ({ cls := "CrossroadsChoose", name := "shift", desc := "(IIIII)I" } : Jvm.MethodName)), (Jvm.Cond.instanceMethod ({ cls := "CrossroadsChoose", name := "shift", desc := "(IIIII)I" } : Jvm.MethodName)), (Jvm.Cond.selects "CrossroadsChoose" ({ cls := "CrossroadsChoose", name := "shift", desc := "(IIIII)I" } : Jvm.MethodName) ({ cls := "CrossroadsChoose", name := "shift", desc := "(IIIII)I" } : Jvm.MethodName)), (Jvm.Cond.code ({ cls := "CrossroadsChoose", name := "shift", desc := "(IIIII)I" } : Jvm.MethodName) prog_1_method_53_code (9 : Nat) (Option.some Jvm.ClassFile.FieldType.int)), (Jvm.Cond.methodLink "CrossroadsChoose" (322 : Nat) ({ cls := "CrossroadsChoose", name := "pairRefusal", desc := "(II)I" } : Jvm.MethodName)), (Jvm.Cond.privateMethod ({ cls := "CrossroadsChoose", name := "pairRefusal", desc := "(II)I" } : Jvm.MethodName)), (Jvm.Cond.instanceMethod ({ cls := "CrossroadsChoose", name := "pairRefusal", desc := "(II)I" } : Jvm.MethodName))]) : w ∈ lw_tbl := tk_4 (List.mem_of_mem_drop (i := 96) (List.mem_of_mem_take (i := 16) ((show (tables_1_4.drop 96).take 16 = [(Jvm.Cond.methodLink "CrossroadsChoose$Shelf" (51 : Nat) ({ cls := "CrossroadsChoose$Shelf", name := "narrowed", desc := "(J)J" } : Jvm.MethodName)), (Jvm.Cond.privateMethod ({ cls := "CrossroadsChoose$Shelf", name := "narrowed", desc := "(J)J" } : Jvm.MethodName)), (Jvm.Cond.instanceMethod ({ cls := "CrossroadsChoose$Shelf", name := "narrowed", desc := "(J)J" } : Jvm.MethodName)), (Jvm.Cond.code ({ cls := "CrossroadsChoose$Shelf", name := "narrowed", desc := "(J)J" } : Jvm.MethodName) prog_7_method_12_code (3 : Nat) (Option.some Jvm.ClassFile.FieldType.long)), (Jvm.Cond.methodLink "CrossroadsChooseLaw" (182 : Nat) ({ cls := "CrossroadsChoose", name := "element", desc := "(II)J" } : Jvm.MethodName)), (Jvm.Cond.instanceMethod ({ cls := "CrossroadsChoose", name := "element", desc := "(II)J" } : Jvm.MethodName)), (Jvm.Cond.selects "CrossroadsChoose" ({ cls := "CrossroadsChoose", name := "element", desc := "(II)J" } : Jvm.MethodName) ({ cls := "CrossroadsChoose", name := "element", desc := "(II)J" } : Jvm.MethodName)), (Jvm.Cond.code ({ cls := "CrossroadsChoose", name := "element", desc := "(II)J" } : Jvm.MethodName) prog_1_method_52_code (4 : Nat) (Option.some Jvm.ClassFile.FieldType.long)), (Jvm.Cond.methodLink "CrossroadsChoose" (318 : Nat) ({ cls := "CrossroadsChoose$Shelf", name := "valueAt", desc := "(I)J" } : Jvm.MethodName)), (Jvm.Cond.methodLink "CrossroadsChooseLaw" (186 : Nat) ({ cls := "CrossroadsChoose", name := "shift", desc := "(IIIII)I" } : Jvm.MethodName)), (Jvm.Cond.instanceMethod ({ cls := "CrossroadsChoose", name := "shift", desc := "(IIIII)I" } : Jvm.MethodName)), (Jvm.Cond.selects "CrossroadsChoose" ({ cls := "CrossroadsChoose", name := "shift", desc := "(IIIII)I" } : Jvm.MethodName) ({ cls := "CrossroadsChoose", name := "shift", desc := "(IIIII)I" } : Jvm.MethodName)), (Jvm.Cond.code ({ cls := "CrossroadsChoose", name := "shift", desc := "(IIIII)I" } : Jvm.MethodName) prog_1_method_53_code (9 : Nat) (Option.some Jvm.ClassFile.FieldType.int)), (Jvm.Cond.methodLink "CrossroadsChoose" (322 : Nat) ({ cls := "CrossroadsChoose", name := "pairRefusal", desc := "(II)I" } : Jvm.MethodName)), (Jvm.Cond.privateMethod ({ cls := "CrossroadsChoose", name := "pairRefusal", desc := "(II)I" } : Jvm.MethodName)), (Jvm.Cond.instanceMethod ({ cls := "CrossroadsChoose", name := "pairRefusal", desc := "(II)I" } : Jvm.MethodName))] from rfl) ▸ h)))
theorem ck_4_112 (w : Cond) (h : w ∈ [(Jvm.Cond.code ({ cls := "CrossroadsChoose", name := "pairRefusal", desc := "(II)I" } : Jvm.MethodName) prog_1_method_59_code (6 : Nat) (Option.some Jvm.ClassFile.FieldType.int)), (Jvm.Cond.methodLink "CrossroadsChooseLaw" (191 : Nat) ({ cls := "CrossroadsChoose", name := "taken", desc := "(II)I" } : Jvm.MethodName)), (Jvm.Cond.instanceMethod ({ cls := "CrossroadsChoose", name := "taken", desc := "(II)I" } : Jvm.MethodName)), (Jvm.Cond.selects "CrossroadsChoose" ({ cls := "CrossroadsChoose", name := "taken", desc := "(II)I" } : Jvm.MethodName) ({ cls := "CrossroadsChoose", name := "taken", desc := "(II)I" } : Jvm.MethodName)), (Jvm.Cond.code ({ cls := "CrossroadsChoose", name := "taken", desc := "(II)I" } : Jvm.MethodName) prog_1_method_54_code (5 : Nat) (Option.some Jvm.ClassFile.FieldType.int)), (Jvm.Cond.methodLink "CrossroadsChoose" (335 : Nat) ({ cls := "CrossroadsChoose$Bodies", name := "kindOf", desc := "(I)I" } : Jvm.MethodName)), (Jvm.Cond.methodLink "CrossroadsChoose" (338 : Nat) ({ cls := "CrossroadsChoose$Bodies", name := "isUnder", desc := "(II)Z" } : Jvm.MethodName)), (Jvm.Cond.static ({ cls := "CrossroadsChoose$Bodies", name := "isUnder", desc := "(II)Z" } : Jvm.MethodName)), (Jvm.Cond.code ({ cls := "CrossroadsChoose$Bodies", name := "isUnder", desc := "(II)Z" } : Jvm.MethodName) prog_2_method_8_code (4 : Nat) (Option.some Jvm.ClassFile.FieldType.boolean)), (Jvm.Cond.methodLink "CrossroadsChooseLaw" (195 : Nat) ({ cls := "CrossroadsChoose", name := "count", desc := "(I)I" } : Jvm.MethodName)), (Jvm.Cond.instanceMethod ({ cls := "CrossroadsChoose", name := "count", desc := "(I)I" } : Jvm.MethodName)), (Jvm.Cond.selects "CrossroadsChoose" ({ cls := "CrossroadsChoose", name := "count", desc := "(I)I" } : Jvm.MethodName) ({ cls := "CrossroadsChoose", name := "count", desc := "(I)I" } : Jvm.MethodName)), (Jvm.Cond.code ({ cls := "CrossroadsChoose", name := "count", desc := "(I)I" } : Jvm.MethodName) prog_1_method_55_code (2 : Nat) (Option.some Jvm.ClassFile.FieldType.int)), (Jvm.Cond.classLink "CrossroadsChooseLaw" (10 : Nat) "CrossroadsChooseModel"), (Jvm.Cond.instantiable "CrossroadsChooseModel" (51 : Nat)), (Jvm.Cond.methodLink "CrossroadsChooseLaw" (12 : Nat) ({ cls := "CrossroadsChooseModel", name := "<init>", desc := "()V" } : Jvm.MethodName))]) : w ∈ lw_tbl := tk_4 (List.mem_of_mem_drop (i := 112) (List.mem_of_mem_take (i := 16) ((show (tables_1_4.drop 112).take 16 = [(Jvm.Cond.code ({ cls := "CrossroadsChoose", name := "pairRefusal", desc := "(II)I" } : Jvm.MethodName) prog_1_method_59_code (6 : Nat) (Option.some Jvm.ClassFile.FieldType.int)), (Jvm.Cond.methodLink "CrossroadsChooseLaw" (191 : Nat) ({ cls := "CrossroadsChoose", name := "taken", desc := "(II)I" } : Jvm.MethodName)), (Jvm.Cond.instanceMethod ({ cls := "CrossroadsChoose", name := "taken", desc := "(II)I" } : Jvm.MethodName)), (Jvm.Cond.selects "CrossroadsChoose" ({ cls := "CrossroadsChoose", name := "taken", desc := "(II)I" } : Jvm.MethodName) ({ cls := "CrossroadsChoose", name := "taken", desc := "(II)I" } : Jvm.MethodName)), (Jvm.Cond.code ({ cls := "CrossroadsChoose", name := "taken", desc := "(II)I" } : Jvm.MethodName) prog_1_method_54_code (5 : Nat) (Option.some Jvm.ClassFile.FieldType.int)), (Jvm.Cond.methodLink "CrossroadsChoose" (335 : Nat) ({ cls := "CrossroadsChoose$Bodies", name := "kindOf", desc := "(I)I" } : Jvm.MethodName)), (Jvm.Cond.methodLink "CrossroadsChoose" (338 : Nat) ({ cls := "CrossroadsChoose$Bodies", name := "isUnder", desc := "(II)Z" } : Jvm.MethodName)), (Jvm.Cond.static ({ cls := "CrossroadsChoose$Bodies", name := "isUnder", desc := "(II)Z" } : Jvm.MethodName)), (Jvm.Cond.code ({ cls := "CrossroadsChoose$Bodies", name := "isUnder", desc := "(II)Z" } : Jvm.MethodName) prog_2_method_8_code (4 : Nat) (Option.some Jvm.ClassFile.FieldType.boolean)), (Jvm.Cond.methodLink "CrossroadsChooseLaw" (195 : Nat) ({ cls := "CrossroadsChoose", name := "count", desc := "(I)I" } : Jvm.MethodName)), (Jvm.Cond.instanceMethod ({ cls := "CrossroadsChoose", name := "count", desc := "(I)I" } : Jvm.MethodName)), (Jvm.Cond.selects "CrossroadsChoose" ({ cls := "CrossroadsChoose", name := "count", desc := "(I)I" } : Jvm.MethodName) ({ cls := "CrossroadsChoose", name := "count", desc := "(I)I" } : Jvm.MethodName)), (Jvm.Cond.code ({ cls := "CrossroadsChoose", name := "count", desc := "(I)I" } : Jvm.MethodName) prog_1_method_55_code (2 : Nat) (Option.some Jvm.ClassFile.FieldType.int)), (Jvm.Cond.classLink "CrossroadsChooseLaw" (10 : Nat) "CrossroadsChooseModel"), (Jvm.Cond.instantiable "CrossroadsChooseModel" (51 : Nat)), (Jvm.Cond.methodLink "CrossroadsChooseLaw" (12 : Nat) ({ cls := "CrossroadsChooseModel", name := "<init>", desc := "()V" } : Jvm.MethodName))] from rfl) ▸ h)))
theorem ck_4_128 (w : Cond) (h : w ∈ [(Jvm.Cond.instanceMethod ({ cls := "CrossroadsChooseModel", name := "<init>", desc := "()V" } : Jvm.MethodName)), (Jvm.Cond.code ({ cls := "CrossroadsChooseModel", name := "<init>", desc := "()V" } : Jvm.MethodName) prog_12_method_1_code (1 : Nat) (Option.none : Option Jvm.ClassFile.FieldType)), (Jvm.Cond.methodLink "CrossroadsChooseModel" (3 : Nat) ({ cls := "java/lang/Object", name := "<init>", desc := "()V" } : Jvm.MethodName)), (Jvm.Cond.fieldLink "CrossroadsChooseModel" (121 : Nat) "CrossroadsChooseModel" "roads1" "I"), (Jvm.Cond.fieldLink "CrossroadsChooseModel" (9 : Nat) "CrossroadsChooseModel" "likes" "[I"), (Jvm.Cond.fieldLink "CrossroadsChooseModel" (15 : Nat) "CrossroadsChooseModel" "dust" "[I"), (Jvm.Cond.fieldLink "CrossroadsChooseModel" (18 : Nat) "CrossroadsChooseModel" "worth" "[I"), (Jvm.Cond.fieldLink "CrossroadsChooseModel" (21 : Nat) "CrossroadsChooseModel" "waitOf" "[I"), (Jvm.Cond.fieldLink "CrossroadsChooseModel" (24 : Nat) "CrossroadsChooseModel" "told" "[I"), (Jvm.Cond.fieldLink "CrossroadsChooseModel" (148 : Nat) "CrossroadsChooseModel" "doneMany" "I"), (Jvm.Cond.fieldLink "CrossroadsChooseModel" (145 : Nat) "CrossroadsChooseModel" "undoneMany" "I"), (Jvm.Cond.fieldLink "CrossroadsChooseModel" (27 : Nat) "CrossroadsChooseModel" "changeOf" "[I"), (Jvm.Cond.fieldLink "CrossroadsChooseModel" (30 : Nat) "CrossroadsChooseModel" "changeAt" "[I"), (Jvm.Cond.fieldLink "CrossroadsChooseModel" (33 : Nat) "CrossroadsChooseModel" "before" "[I"), (Jvm.Cond.fieldLink "CrossroadsChooseModel" (36 : Nat) "CrossroadsChooseModel" "behind" "[I"), (Jvm.Cond.fieldLink "CrossroadsChooseModel" (39 : Nat) "CrossroadsChooseModel" "tape" "[B")]) : w ∈ lw_tbl := tk_4 (List.mem_of_mem_drop (i := 128) (List.mem_of_mem_take (i := 16) ((show (tables_1_4.drop 128).take 16 = [(Jvm.Cond.instanceMethod ({ cls := "CrossroadsChooseModel", name := "<init>", desc := "()V" } : Jvm.MethodName)), (Jvm.Cond.code ({ cls := "CrossroadsChooseModel", name := "<init>", desc := "()V" } : Jvm.MethodName) prog_12_method_1_code (1 : Nat) (Option.none : Option Jvm.ClassFile.FieldType)), (Jvm.Cond.methodLink "CrossroadsChooseModel" (3 : Nat) ({ cls := "java/lang/Object", name := "<init>", desc := "()V" } : Jvm.MethodName)), (Jvm.Cond.fieldLink "CrossroadsChooseModel" (121 : Nat) "CrossroadsChooseModel" "roads1" "I"), (Jvm.Cond.fieldLink "CrossroadsChooseModel" (9 : Nat) "CrossroadsChooseModel" "likes" "[I"), (Jvm.Cond.fieldLink "CrossroadsChooseModel" (15 : Nat) "CrossroadsChooseModel" "dust" "[I"), (Jvm.Cond.fieldLink "CrossroadsChooseModel" (18 : Nat) "CrossroadsChooseModel" "worth" "[I"), (Jvm.Cond.fieldLink "CrossroadsChooseModel" (21 : Nat) "CrossroadsChooseModel" "waitOf" "[I"), (Jvm.Cond.fieldLink "CrossroadsChooseModel" (24 : Nat) "CrossroadsChooseModel" "told" "[I"), (Jvm.Cond.fieldLink "CrossroadsChooseModel" (148 : Nat) "CrossroadsChooseModel" "doneMany" "I"), (Jvm.Cond.fieldLink "CrossroadsChooseModel" (145 : Nat) "CrossroadsChooseModel" "undoneMany" "I"), (Jvm.Cond.fieldLink "CrossroadsChooseModel" (27 : Nat) "CrossroadsChooseModel" "changeOf" "[I"), (Jvm.Cond.fieldLink "CrossroadsChooseModel" (30 : Nat) "CrossroadsChooseModel" "changeAt" "[I"), (Jvm.Cond.fieldLink "CrossroadsChooseModel" (33 : Nat) "CrossroadsChooseModel" "before" "[I"), (Jvm.Cond.fieldLink "CrossroadsChooseModel" (36 : Nat) "CrossroadsChooseModel" "behind" "[I"), (Jvm.Cond.fieldLink "CrossroadsChooseModel" (39 : Nat) "CrossroadsChooseModel" "tape" "[B")] from rfl) ▸ h)))
theorem ck_4_144 (w : Cond) (h : w ∈ [(Jvm.Cond.fieldLink "CrossroadsChooseModel" (166 : Nat) "CrossroadsChooseModel" "taped" "I"), (Jvm.Cond.fieldLink "CrossroadsChooseModel" (169 : Nat) "CrossroadsChooseModel" "here" "I"), (Jvm.Cond.fieldLink "CrossroadsChooseModel" (172 : Nat) "CrossroadsChooseModel" "fault" "I"), (Jvm.Cond.fieldLink "CrossroadsChooseModel" (178 : Nat) "CrossroadsChooseModel" "open" "I"), (Jvm.Cond.fieldLink "CrossroadsChooseModel" (175 : Nat) "CrossroadsChooseModel" "laid" "I"), (Jvm.Cond.fieldLink "CrossroadsChooseModel" (43 : Nat) "CrossroadsChooseModel" "act" "[B"), (Jvm.Cond.fieldLink "CrossroadsChooseModel" (46 : Nat) "CrossroadsChooseModel" "with" "[I"), (Jvm.Cond.fieldLink "CrossroadsChooseModel" (49 : Nat) "CrossroadsChooseModel" "lineMany" "[I"), (Jvm.Cond.fieldLink "CrossroadsChooseModel" (52 : Nat) "CrossroadsChooseModel" "testEnd" "[S"), (Jvm.Cond.fieldLink "CrossroadsChooseModel" (56 : Nat) "CrossroadsChooseModel" "lineEnd" "[S"), (Jvm.Cond.fieldLink "CrossroadsChooseModel" (59 : Nat) "CrossroadsChooseModel" "facts" "[I"), (Jvm.Cond.fieldLink "CrossroadsChooseModel" (62 : Nat) "CrossroadsChooseModel" "pile" "[I"), (Jvm.Cond.fieldLink "CrossroadsChooseModel" (233 : Nat) "CrossroadsChooseModel" "hasLaw" "Z"), (Jvm.Cond.fieldLink "CrossroadsChooseModel" (65 : Nat) "CrossroadsChooseModel" "wait1" "[I"), (Jvm.Cond.fieldLink "CrossroadsChooseModel" (68 : Nat) "CrossroadsChooseModel" "hadOf" "[I"), (Jvm.Cond.fieldLink "CrossroadsChooseModel" (71 : Nat) "CrossroadsChooseModel" "firstOf" "[I")]) : w ∈ lw_tbl := tk_4 (List.mem_of_mem_drop (i := 144) (List.mem_of_mem_take (i := 16) ((show (tables_1_4.drop 144).take 16 = [(Jvm.Cond.fieldLink "CrossroadsChooseModel" (166 : Nat) "CrossroadsChooseModel" "taped" "I"), (Jvm.Cond.fieldLink "CrossroadsChooseModel" (169 : Nat) "CrossroadsChooseModel" "here" "I"), (Jvm.Cond.fieldLink "CrossroadsChooseModel" (172 : Nat) "CrossroadsChooseModel" "fault" "I"), (Jvm.Cond.fieldLink "CrossroadsChooseModel" (178 : Nat) "CrossroadsChooseModel" "open" "I"), (Jvm.Cond.fieldLink "CrossroadsChooseModel" (175 : Nat) "CrossroadsChooseModel" "laid" "I"), (Jvm.Cond.fieldLink "CrossroadsChooseModel" (43 : Nat) "CrossroadsChooseModel" "act" "[B"), (Jvm.Cond.fieldLink "CrossroadsChooseModel" (46 : Nat) "CrossroadsChooseModel" "with" "[I"), (Jvm.Cond.fieldLink "CrossroadsChooseModel" (49 : Nat) "CrossroadsChooseModel" "lineMany" "[I"), (Jvm.Cond.fieldLink "CrossroadsChooseModel" (52 : Nat) "CrossroadsChooseModel" "testEnd" "[S"), (Jvm.Cond.fieldLink "CrossroadsChooseModel" (56 : Nat) "CrossroadsChooseModel" "lineEnd" "[S"), (Jvm.Cond.fieldLink "CrossroadsChooseModel" (59 : Nat) "CrossroadsChooseModel" "facts" "[I"), (Jvm.Cond.fieldLink "CrossroadsChooseModel" (62 : Nat) "CrossroadsChooseModel" "pile" "[I"), (Jvm.Cond.fieldLink "CrossroadsChooseModel" (233 : Nat) "CrossroadsChooseModel" "hasLaw" "Z"), (Jvm.Cond.fieldLink "CrossroadsChooseModel" (65 : Nat) "CrossroadsChooseModel" "wait1" "[I"), (Jvm.Cond.fieldLink "CrossroadsChooseModel" (68 : Nat) "CrossroadsChooseModel" "hadOf" "[I"), (Jvm.Cond.fieldLink "CrossroadsChooseModel" (71 : Nat) "CrossroadsChooseModel" "firstOf" "[I")] from rfl) ▸ h)))
theorem ck_4_160 (w : Cond) (h : w ∈ [(Jvm.Cond.fieldLink "CrossroadsChooseModel" (74 : Nat) "CrossroadsChooseModel" "longestOf" "[I"), (Jvm.Cond.fieldLink "CrossroadsChooseModel" (265 : Nat) "CrossroadsChooseModel" "lastRoad" "I"), (Jvm.Cond.fieldLink "CrossroadsChooseModel" (77 : Nat) "CrossroadsChooseModel" "waitsKept" "[I"), (Jvm.Cond.fieldLink "CrossroadsChooseModel" (80 : Nat) "CrossroadsChooseModel" "sentCode" "[I"), (Jvm.Cond.fieldLink "CrossroadsChooseModel" (83 : Nat) "CrossroadsChooseModel" "asked" "[I"), (Jvm.Cond.fieldLink "CrossroadsChooseModel" (290 : Nat) "CrossroadsChooseModel" "askedMany" "I"), (Jvm.Cond.fieldLink "CrossroadsChooseModel" (86 : Nat) "CrossroadsChooseModel" "ledOf" "[I"), (Jvm.Cond.fieldLink "CrossroadsChooseModel" (89 : Nat) "CrossroadsChooseModel" "latest" "I"), (Jvm.Cond.fieldLink "CrossroadsChooseModel" (324 : Nat) "CrossroadsChooseModel" "hasImage" "Z"), (Jvm.Cond.fieldLink "CrossroadsChooseModel" (327 : Nat) "CrossroadsChooseModel" "keptMany" "I"), (Jvm.Cond.fieldLink "CrossroadsChooseModel" (330 : Nat) "CrossroadsChooseModel" "keptLatest" "I"), (Jvm.Cond.fieldLink "CrossroadsChooseModel" (93 : Nat) "CrossroadsChooseModel" "keptWait" "[I"), (Jvm.Cond.fieldLink "CrossroadsChooseModel" (96 : Nat) "CrossroadsChooseModel" "keptLed" "[I"), (Jvm.Cond.fieldLink "CrossroadsChooseModel" (333 : Nat) "CrossroadsChooseModel" "bodies" "I"), (Jvm.Cond.fieldLink "CrossroadsChooseModel" (99 : Nat) "CrossroadsChooseModel" "kind" "[I"), (Jvm.Cond.fieldLink "CrossroadsChooseModel" (336 : Nat) "CrossroadsChooseModel" "traces" "I")]) : w ∈ lw_tbl := tk_4 (List.mem_of_mem_drop (i := 160) (List.mem_of_mem_take (i := 16) ((show (tables_1_4.drop 160).take 16 = [(Jvm.Cond.fieldLink "CrossroadsChooseModel" (74 : Nat) "CrossroadsChooseModel" "longestOf" "[I"), (Jvm.Cond.fieldLink "CrossroadsChooseModel" (265 : Nat) "CrossroadsChooseModel" "lastRoad" "I"), (Jvm.Cond.fieldLink "CrossroadsChooseModel" (77 : Nat) "CrossroadsChooseModel" "waitsKept" "[I"), (Jvm.Cond.fieldLink "CrossroadsChooseModel" (80 : Nat) "CrossroadsChooseModel" "sentCode" "[I"), (Jvm.Cond.fieldLink "CrossroadsChooseModel" (83 : Nat) "CrossroadsChooseModel" "asked" "[I"), (Jvm.Cond.fieldLink "CrossroadsChooseModel" (290 : Nat) "CrossroadsChooseModel" "askedMany" "I"), (Jvm.Cond.fieldLink "CrossroadsChooseModel" (86 : Nat) "CrossroadsChooseModel" "ledOf" "[I"), (Jvm.Cond.fieldLink "CrossroadsChooseModel" (89 : Nat) "CrossroadsChooseModel" "latest" "I"), (Jvm.Cond.fieldLink "CrossroadsChooseModel" (324 : Nat) "CrossroadsChooseModel" "hasImage" "Z"), (Jvm.Cond.fieldLink "CrossroadsChooseModel" (327 : Nat) "CrossroadsChooseModel" "keptMany" "I"), (Jvm.Cond.fieldLink "CrossroadsChooseModel" (330 : Nat) "CrossroadsChooseModel" "keptLatest" "I"), (Jvm.Cond.fieldLink "CrossroadsChooseModel" (93 : Nat) "CrossroadsChooseModel" "keptWait" "[I"), (Jvm.Cond.fieldLink "CrossroadsChooseModel" (96 : Nat) "CrossroadsChooseModel" "keptLed" "[I"), (Jvm.Cond.fieldLink "CrossroadsChooseModel" (333 : Nat) "CrossroadsChooseModel" "bodies" "I"), (Jvm.Cond.fieldLink "CrossroadsChooseModel" (99 : Nat) "CrossroadsChooseModel" "kind" "[I"), (Jvm.Cond.fieldLink "CrossroadsChooseModel" (336 : Nat) "CrossroadsChooseModel" "traces" "I")] from rfl) ▸ h)))
theorem ck_4_176 (w : Cond) (h : w ∈ [(Jvm.Cond.fieldLink "CrossroadsChooseModel" (102 : Nat) "CrossroadsChooseModel" "traced" "[I"), (Jvm.Cond.fieldLink "CrossroadsChooseModel" (105 : Nat) "CrossroadsChooseModel" "holds" "[I"), (Jvm.Cond.fieldLink "CrossroadsChooseModel" (108 : Nat) "CrossroadsChooseModel" "size" "[I"), (Jvm.Cond.fieldLink "CrossroadsChooseModel" (111 : Nat) "CrossroadsChooseModel" "elements" "[J"), (Jvm.Cond.fieldLink "CrossroadsChooseModel" (115 : Nat) "CrossroadsChooseModel" "shifted" "[J"), (Jvm.Cond.lays "CrossroadsChooseModel" "CrossroadsChooseModel" "code" "I"), (Jvm.Cond.soleField "CrossroadsChooseModel" "code"), (Jvm.Cond.lays "CrossroadsChooseModel" "CrossroadsChooseModel" "roads1" "I"), (Jvm.Cond.soleField "CrossroadsChooseModel" "roads1"), (Jvm.Cond.laysFinal "CrossroadsChooseModel" "CrossroadsChooseModel" "likes" "[I"), (Jvm.Cond.soleField "CrossroadsChooseModel" "likes"), (Jvm.Cond.laysFinal "CrossroadsChooseModel" "CrossroadsChooseModel" "dust" "[I"), (Jvm.Cond.soleField "CrossroadsChooseModel" "dust"), (Jvm.Cond.laysFinal "CrossroadsChooseModel" "CrossroadsChooseModel" "worth" "[I"), (Jvm.Cond.soleField "CrossroadsChooseModel" "worth"), (Jvm.Cond.laysFinal "CrossroadsChooseModel" "CrossroadsChooseModel" "waitOf" "[I")]) : w ∈ lw_tbl := tk_4 (List.mem_of_mem_drop (i := 176) (List.mem_of_mem_take (i := 16) ((show (tables_1_4.drop 176).take 16 = [(Jvm.Cond.fieldLink "CrossroadsChooseModel" (102 : Nat) "CrossroadsChooseModel" "traced" "[I"), (Jvm.Cond.fieldLink "CrossroadsChooseModel" (105 : Nat) "CrossroadsChooseModel" "holds" "[I"), (Jvm.Cond.fieldLink "CrossroadsChooseModel" (108 : Nat) "CrossroadsChooseModel" "size" "[I"), (Jvm.Cond.fieldLink "CrossroadsChooseModel" (111 : Nat) "CrossroadsChooseModel" "elements" "[J"), (Jvm.Cond.fieldLink "CrossroadsChooseModel" (115 : Nat) "CrossroadsChooseModel" "shifted" "[J"), (Jvm.Cond.lays "CrossroadsChooseModel" "CrossroadsChooseModel" "code" "I"), (Jvm.Cond.soleField "CrossroadsChooseModel" "code"), (Jvm.Cond.lays "CrossroadsChooseModel" "CrossroadsChooseModel" "roads1" "I"), (Jvm.Cond.soleField "CrossroadsChooseModel" "roads1"), (Jvm.Cond.laysFinal "CrossroadsChooseModel" "CrossroadsChooseModel" "likes" "[I"), (Jvm.Cond.soleField "CrossroadsChooseModel" "likes"), (Jvm.Cond.laysFinal "CrossroadsChooseModel" "CrossroadsChooseModel" "dust" "[I"), (Jvm.Cond.soleField "CrossroadsChooseModel" "dust"), (Jvm.Cond.laysFinal "CrossroadsChooseModel" "CrossroadsChooseModel" "worth" "[I"), (Jvm.Cond.soleField "CrossroadsChooseModel" "worth"), (Jvm.Cond.laysFinal "CrossroadsChooseModel" "CrossroadsChooseModel" "waitOf" "[I")] from rfl) ▸ h)))
theorem ck_4_192 (w : Cond) (h : w ∈ [(Jvm.Cond.soleField "CrossroadsChooseModel" "waitOf"), (Jvm.Cond.laysFinal "CrossroadsChooseModel" "CrossroadsChooseModel" "told" "[I"), (Jvm.Cond.soleField "CrossroadsChooseModel" "told"), (Jvm.Cond.lays "CrossroadsChooseModel" "CrossroadsChooseModel" "doneMany" "I"), (Jvm.Cond.soleField "CrossroadsChooseModel" "doneMany"), (Jvm.Cond.lays "CrossroadsChooseModel" "CrossroadsChooseModel" "undoneMany" "I"), (Jvm.Cond.soleField "CrossroadsChooseModel" "undoneMany"), (Jvm.Cond.laysFinal "CrossroadsChooseModel" "CrossroadsChooseModel" "changeOf" "[I"), (Jvm.Cond.soleField "CrossroadsChooseModel" "changeOf"), (Jvm.Cond.laysFinal "CrossroadsChooseModel" "CrossroadsChooseModel" "changeAt" "[I"), (Jvm.Cond.soleField "CrossroadsChooseModel" "changeAt"), (Jvm.Cond.laysFinal "CrossroadsChooseModel" "CrossroadsChooseModel" "before" "[I"), (Jvm.Cond.soleField "CrossroadsChooseModel" "before"), (Jvm.Cond.laysFinal "CrossroadsChooseModel" "CrossroadsChooseModel" "behind" "[I"), (Jvm.Cond.soleField "CrossroadsChooseModel" "behind"), (Jvm.Cond.laysFinal "CrossroadsChooseModel" "CrossroadsChooseModel" "tape" "[B")]) : w ∈ lw_tbl := tk_4 (List.mem_of_mem_drop (i := 192) (List.mem_of_mem_take (i := 16) ((show (tables_1_4.drop 192).take 16 = [(Jvm.Cond.soleField "CrossroadsChooseModel" "waitOf"), (Jvm.Cond.laysFinal "CrossroadsChooseModel" "CrossroadsChooseModel" "told" "[I"), (Jvm.Cond.soleField "CrossroadsChooseModel" "told"), (Jvm.Cond.lays "CrossroadsChooseModel" "CrossroadsChooseModel" "doneMany" "I"), (Jvm.Cond.soleField "CrossroadsChooseModel" "doneMany"), (Jvm.Cond.lays "CrossroadsChooseModel" "CrossroadsChooseModel" "undoneMany" "I"), (Jvm.Cond.soleField "CrossroadsChooseModel" "undoneMany"), (Jvm.Cond.laysFinal "CrossroadsChooseModel" "CrossroadsChooseModel" "changeOf" "[I"), (Jvm.Cond.soleField "CrossroadsChooseModel" "changeOf"), (Jvm.Cond.laysFinal "CrossroadsChooseModel" "CrossroadsChooseModel" "changeAt" "[I"), (Jvm.Cond.soleField "CrossroadsChooseModel" "changeAt"), (Jvm.Cond.laysFinal "CrossroadsChooseModel" "CrossroadsChooseModel" "before" "[I"), (Jvm.Cond.soleField "CrossroadsChooseModel" "before"), (Jvm.Cond.laysFinal "CrossroadsChooseModel" "CrossroadsChooseModel" "behind" "[I"), (Jvm.Cond.soleField "CrossroadsChooseModel" "behind"), (Jvm.Cond.laysFinal "CrossroadsChooseModel" "CrossroadsChooseModel" "tape" "[B")] from rfl) ▸ h)))
theorem ck_4_208 (w : Cond) (h : w ∈ [(Jvm.Cond.soleField "CrossroadsChooseModel" "tape"), (Jvm.Cond.lays "CrossroadsChooseModel" "CrossroadsChooseModel" "taped" "I"), (Jvm.Cond.soleField "CrossroadsChooseModel" "taped"), (Jvm.Cond.lays "CrossroadsChooseModel" "CrossroadsChooseModel" "here" "I"), (Jvm.Cond.soleField "CrossroadsChooseModel" "here"), (Jvm.Cond.lays "CrossroadsChooseModel" "CrossroadsChooseModel" "fault" "I"), (Jvm.Cond.soleField "CrossroadsChooseModel" "fault"), (Jvm.Cond.lays "CrossroadsChooseModel" "CrossroadsChooseModel" "open" "I"), (Jvm.Cond.soleField "CrossroadsChooseModel" "open"), (Jvm.Cond.lays "CrossroadsChooseModel" "CrossroadsChooseModel" "laid" "I"), (Jvm.Cond.soleField "CrossroadsChooseModel" "laid"), (Jvm.Cond.laysFinal "CrossroadsChooseModel" "CrossroadsChooseModel" "act" "[B"), (Jvm.Cond.soleField "CrossroadsChooseModel" "act"), (Jvm.Cond.laysFinal "CrossroadsChooseModel" "CrossroadsChooseModel" "with" "[I"), (Jvm.Cond.soleField "CrossroadsChooseModel" "with"), (Jvm.Cond.laysFinal "CrossroadsChooseModel" "CrossroadsChooseModel" "lineMany" "[I")]) : w ∈ lw_tbl := tk_4 (List.mem_of_mem_drop (i := 208) (List.mem_of_mem_take (i := 16) ((show (tables_1_4.drop 208).take 16 = [(Jvm.Cond.soleField "CrossroadsChooseModel" "tape"), (Jvm.Cond.lays "CrossroadsChooseModel" "CrossroadsChooseModel" "taped" "I"), (Jvm.Cond.soleField "CrossroadsChooseModel" "taped"), (Jvm.Cond.lays "CrossroadsChooseModel" "CrossroadsChooseModel" "here" "I"), (Jvm.Cond.soleField "CrossroadsChooseModel" "here"), (Jvm.Cond.lays "CrossroadsChooseModel" "CrossroadsChooseModel" "fault" "I"), (Jvm.Cond.soleField "CrossroadsChooseModel" "fault"), (Jvm.Cond.lays "CrossroadsChooseModel" "CrossroadsChooseModel" "open" "I"), (Jvm.Cond.soleField "CrossroadsChooseModel" "open"), (Jvm.Cond.lays "CrossroadsChooseModel" "CrossroadsChooseModel" "laid" "I"), (Jvm.Cond.soleField "CrossroadsChooseModel" "laid"), (Jvm.Cond.laysFinal "CrossroadsChooseModel" "CrossroadsChooseModel" "act" "[B"), (Jvm.Cond.soleField "CrossroadsChooseModel" "act"), (Jvm.Cond.laysFinal "CrossroadsChooseModel" "CrossroadsChooseModel" "with" "[I"), (Jvm.Cond.soleField "CrossroadsChooseModel" "with"), (Jvm.Cond.laysFinal "CrossroadsChooseModel" "CrossroadsChooseModel" "lineMany" "[I")] from rfl) ▸ h)))
theorem ck_4_224 (w : Cond) (h : w ∈ [(Jvm.Cond.soleField "CrossroadsChooseModel" "lineMany"), (Jvm.Cond.laysFinal "CrossroadsChooseModel" "CrossroadsChooseModel" "testEnd" "[S"), (Jvm.Cond.soleField "CrossroadsChooseModel" "testEnd"), (Jvm.Cond.laysFinal "CrossroadsChooseModel" "CrossroadsChooseModel" "lineEnd" "[S"), (Jvm.Cond.soleField "CrossroadsChooseModel" "lineEnd"), (Jvm.Cond.laysFinal "CrossroadsChooseModel" "CrossroadsChooseModel" "facts" "[I"), (Jvm.Cond.soleField "CrossroadsChooseModel" "facts"), (Jvm.Cond.laysFinal "CrossroadsChooseModel" "CrossroadsChooseModel" "pile" "[I"), (Jvm.Cond.soleField "CrossroadsChooseModel" "pile"), (Jvm.Cond.lays "CrossroadsChooseModel" "CrossroadsChooseModel" "hasLaw" "Z"), (Jvm.Cond.soleField "CrossroadsChooseModel" "hasLaw"), (Jvm.Cond.laysFinal "CrossroadsChooseModel" "CrossroadsChooseModel" "wait1" "[I"), (Jvm.Cond.soleField "CrossroadsChooseModel" "wait1"), (Jvm.Cond.laysFinal "CrossroadsChooseModel" "CrossroadsChooseModel" "hadOf" "[I"), (Jvm.Cond.soleField "CrossroadsChooseModel" "hadOf"), (Jvm.Cond.laysFinal "CrossroadsChooseModel" "CrossroadsChooseModel" "firstOf" "[I")]) : w ∈ lw_tbl := tk_4 (List.mem_of_mem_drop (i := 224) (List.mem_of_mem_take (i := 16) ((show (tables_1_4.drop 224).take 16 = [(Jvm.Cond.soleField "CrossroadsChooseModel" "lineMany"), (Jvm.Cond.laysFinal "CrossroadsChooseModel" "CrossroadsChooseModel" "testEnd" "[S"), (Jvm.Cond.soleField "CrossroadsChooseModel" "testEnd"), (Jvm.Cond.laysFinal "CrossroadsChooseModel" "CrossroadsChooseModel" "lineEnd" "[S"), (Jvm.Cond.soleField "CrossroadsChooseModel" "lineEnd"), (Jvm.Cond.laysFinal "CrossroadsChooseModel" "CrossroadsChooseModel" "facts" "[I"), (Jvm.Cond.soleField "CrossroadsChooseModel" "facts"), (Jvm.Cond.laysFinal "CrossroadsChooseModel" "CrossroadsChooseModel" "pile" "[I"), (Jvm.Cond.soleField "CrossroadsChooseModel" "pile"), (Jvm.Cond.lays "CrossroadsChooseModel" "CrossroadsChooseModel" "hasLaw" "Z"), (Jvm.Cond.soleField "CrossroadsChooseModel" "hasLaw"), (Jvm.Cond.laysFinal "CrossroadsChooseModel" "CrossroadsChooseModel" "wait1" "[I"), (Jvm.Cond.soleField "CrossroadsChooseModel" "wait1"), (Jvm.Cond.laysFinal "CrossroadsChooseModel" "CrossroadsChooseModel" "hadOf" "[I"), (Jvm.Cond.soleField "CrossroadsChooseModel" "hadOf"), (Jvm.Cond.laysFinal "CrossroadsChooseModel" "CrossroadsChooseModel" "firstOf" "[I")] from rfl) ▸ h)))
theorem tk_5 {w : Cond} (h : w ∈ tables_1_5) : w ∈ lw_tbl := List.mem_append_right _ (show _ ∈ tables_1 from List.mem_append_right _ (List.mem_append_right _ (List.mem_append_right _ (List.mem_append_right _ (List.mem_append_left _ h)))))
theorem ck_5_0 (w : Cond) (h : w ∈ [(Jvm.Cond.soleField "CrossroadsChooseModel" "firstOf"), (Jvm.Cond.laysFinal "CrossroadsChooseModel" "CrossroadsChooseModel" "longestOf" "[I"), (Jvm.Cond.soleField "CrossroadsChooseModel" "longestOf"), (Jvm.Cond.lays "CrossroadsChooseModel" "CrossroadsChooseModel" "lastRoad" "I"), (Jvm.Cond.soleField "CrossroadsChooseModel" "lastRoad"), (Jvm.Cond.laysFinal "CrossroadsChooseModel" "CrossroadsChooseModel" "waitsKept" "[I"), (Jvm.Cond.soleField "CrossroadsChooseModel" "waitsKept"), (Jvm.Cond.laysFinal "CrossroadsChooseModel" "CrossroadsChooseModel" "sentCode" "[I"), (Jvm.Cond.soleField "CrossroadsChooseModel" "sentCode"), (Jvm.Cond.laysFinal "CrossroadsChooseModel" "CrossroadsChooseModel" "asked" "[I"), (Jvm.Cond.soleField "CrossroadsChooseModel" "asked"), (Jvm.Cond.lays "CrossroadsChooseModel" "CrossroadsChooseModel" "askedMany" "I"), (Jvm.Cond.soleField "CrossroadsChooseModel" "askedMany"), (Jvm.Cond.laysFinal "CrossroadsChooseModel" "CrossroadsChooseModel" "ledOf" "[I"), (Jvm.Cond.soleField "CrossroadsChooseModel" "ledOf"), (Jvm.Cond.lays "CrossroadsChooseModel" "CrossroadsChooseModel" "latest" "I")]) : w ∈ lw_tbl := tk_5 (List.mem_of_mem_drop (i := 0) (List.mem_of_mem_take (i := 16) ((show (tables_1_5.drop 0).take 16 = [(Jvm.Cond.soleField "CrossroadsChooseModel" "firstOf"), (Jvm.Cond.laysFinal "CrossroadsChooseModel" "CrossroadsChooseModel" "longestOf" "[I"), (Jvm.Cond.soleField "CrossroadsChooseModel" "longestOf"), (Jvm.Cond.lays "CrossroadsChooseModel" "CrossroadsChooseModel" "lastRoad" "I"), (Jvm.Cond.soleField "CrossroadsChooseModel" "lastRoad"), (Jvm.Cond.laysFinal "CrossroadsChooseModel" "CrossroadsChooseModel" "waitsKept" "[I"), (Jvm.Cond.soleField "CrossroadsChooseModel" "waitsKept"), (Jvm.Cond.laysFinal "CrossroadsChooseModel" "CrossroadsChooseModel" "sentCode" "[I"), (Jvm.Cond.soleField "CrossroadsChooseModel" "sentCode"), (Jvm.Cond.laysFinal "CrossroadsChooseModel" "CrossroadsChooseModel" "asked" "[I"), (Jvm.Cond.soleField "CrossroadsChooseModel" "asked"), (Jvm.Cond.lays "CrossroadsChooseModel" "CrossroadsChooseModel" "askedMany" "I"), (Jvm.Cond.soleField "CrossroadsChooseModel" "askedMany"), (Jvm.Cond.laysFinal "CrossroadsChooseModel" "CrossroadsChooseModel" "ledOf" "[I"), (Jvm.Cond.soleField "CrossroadsChooseModel" "ledOf"), (Jvm.Cond.lays "CrossroadsChooseModel" "CrossroadsChooseModel" "latest" "I")] from rfl) ▸ h)))
theorem ck_5_16 (w : Cond) (h : w ∈ [(Jvm.Cond.soleField "CrossroadsChooseModel" "latest"), (Jvm.Cond.lays "CrossroadsChooseModel" "CrossroadsChooseModel" "hasImage" "Z"), (Jvm.Cond.soleField "CrossroadsChooseModel" "hasImage"), (Jvm.Cond.lays "CrossroadsChooseModel" "CrossroadsChooseModel" "keptMany" "I"), (Jvm.Cond.soleField "CrossroadsChooseModel" "keptMany"), (Jvm.Cond.lays "CrossroadsChooseModel" "CrossroadsChooseModel" "keptLatest" "I"), (Jvm.Cond.soleField "CrossroadsChooseModel" "keptLatest"), (Jvm.Cond.laysFinal "CrossroadsChooseModel" "CrossroadsChooseModel" "keptWait" "[I"), (Jvm.Cond.soleField "CrossroadsChooseModel" "keptWait"), (Jvm.Cond.laysFinal "CrossroadsChooseModel" "CrossroadsChooseModel" "keptLed" "[I"), (Jvm.Cond.soleField "CrossroadsChooseModel" "keptLed"), (Jvm.Cond.lays "CrossroadsChooseModel" "CrossroadsChooseModel" "bodies" "I"), (Jvm.Cond.soleField "CrossroadsChooseModel" "bodies"), (Jvm.Cond.laysFinal "CrossroadsChooseModel" "CrossroadsChooseModel" "kind" "[I"), (Jvm.Cond.soleField "CrossroadsChooseModel" "kind"), (Jvm.Cond.lays "CrossroadsChooseModel" "CrossroadsChooseModel" "traces" "I")]) : w ∈ lw_tbl := tk_5 (List.mem_of_mem_drop (i := 16) (List.mem_of_mem_take (i := 16) ((show (tables_1_5.drop 16).take 16 = [(Jvm.Cond.soleField "CrossroadsChooseModel" "latest"), (Jvm.Cond.lays "CrossroadsChooseModel" "CrossroadsChooseModel" "hasImage" "Z"), (Jvm.Cond.soleField "CrossroadsChooseModel" "hasImage"), (Jvm.Cond.lays "CrossroadsChooseModel" "CrossroadsChooseModel" "keptMany" "I"), (Jvm.Cond.soleField "CrossroadsChooseModel" "keptMany"), (Jvm.Cond.lays "CrossroadsChooseModel" "CrossroadsChooseModel" "keptLatest" "I"), (Jvm.Cond.soleField "CrossroadsChooseModel" "keptLatest"), (Jvm.Cond.laysFinal "CrossroadsChooseModel" "CrossroadsChooseModel" "keptWait" "[I"), (Jvm.Cond.soleField "CrossroadsChooseModel" "keptWait"), (Jvm.Cond.laysFinal "CrossroadsChooseModel" "CrossroadsChooseModel" "keptLed" "[I"), (Jvm.Cond.soleField "CrossroadsChooseModel" "keptLed"), (Jvm.Cond.lays "CrossroadsChooseModel" "CrossroadsChooseModel" "bodies" "I"), (Jvm.Cond.soleField "CrossroadsChooseModel" "bodies"), (Jvm.Cond.laysFinal "CrossroadsChooseModel" "CrossroadsChooseModel" "kind" "[I"), (Jvm.Cond.soleField "CrossroadsChooseModel" "kind"), (Jvm.Cond.lays "CrossroadsChooseModel" "CrossroadsChooseModel" "traces" "I")] from rfl) ▸ h)))
theorem ck_5_32 (w : Cond) (h : w ∈ [(Jvm.Cond.soleField "CrossroadsChooseModel" "traces"), (Jvm.Cond.laysFinal "CrossroadsChooseModel" "CrossroadsChooseModel" "traced" "[I"), (Jvm.Cond.soleField "CrossroadsChooseModel" "traced"), (Jvm.Cond.laysFinal "CrossroadsChooseModel" "CrossroadsChooseModel" "holds" "[I"), (Jvm.Cond.soleField "CrossroadsChooseModel" "holds"), (Jvm.Cond.laysFinal "CrossroadsChooseModel" "CrossroadsChooseModel" "size" "[I"), (Jvm.Cond.soleField "CrossroadsChooseModel" "size"), (Jvm.Cond.laysFinal "CrossroadsChooseModel" "CrossroadsChooseModel" "elements" "[J"), (Jvm.Cond.soleField "CrossroadsChooseModel" "elements"), (Jvm.Cond.laysFinal "CrossroadsChooseModel" "CrossroadsChooseModel" "shifted" "[J"), (Jvm.Cond.soleField "CrossroadsChooseModel" "shifted"), (Jvm.Cond.superclass "CrossroadsChooseModel" "java/lang/Object"), (Jvm.Cond.arrayClass Jvm.ClassFile.FieldType.byte), (Jvm.Cond.arrayClass Jvm.ClassFile.FieldType.short), (Jvm.Cond.methodLink "CrossroadsChooseLaw" (17 : Nat) ({ cls := "CrossroadsChooseModel", name := "road", desc := "(II)I" } : Jvm.MethodName)), (Jvm.Cond.instanceMethod ({ cls := "CrossroadsChooseModel", name := "road", desc := "(II)I" } : Jvm.MethodName))]) : w ∈ lw_tbl := tk_5 (List.mem_of_mem_drop (i := 32) (List.mem_of_mem_take (i := 16) ((show (tables_1_5.drop 32).take 16 = [(Jvm.Cond.soleField "CrossroadsChooseModel" "traces"), (Jvm.Cond.laysFinal "CrossroadsChooseModel" "CrossroadsChooseModel" "traced" "[I"), (Jvm.Cond.soleField "CrossroadsChooseModel" "traced"), (Jvm.Cond.laysFinal "CrossroadsChooseModel" "CrossroadsChooseModel" "holds" "[I"), (Jvm.Cond.soleField "CrossroadsChooseModel" "holds"), (Jvm.Cond.laysFinal "CrossroadsChooseModel" "CrossroadsChooseModel" "size" "[I"), (Jvm.Cond.soleField "CrossroadsChooseModel" "size"), (Jvm.Cond.laysFinal "CrossroadsChooseModel" "CrossroadsChooseModel" "elements" "[J"), (Jvm.Cond.soleField "CrossroadsChooseModel" "elements"), (Jvm.Cond.laysFinal "CrossroadsChooseModel" "CrossroadsChooseModel" "shifted" "[J"), (Jvm.Cond.soleField "CrossroadsChooseModel" "shifted"), (Jvm.Cond.superclass "CrossroadsChooseModel" "java/lang/Object"), (Jvm.Cond.arrayClass Jvm.ClassFile.FieldType.byte), (Jvm.Cond.arrayClass Jvm.ClassFile.FieldType.short), (Jvm.Cond.methodLink "CrossroadsChooseLaw" (17 : Nat) ({ cls := "CrossroadsChooseModel", name := "road", desc := "(II)I" } : Jvm.MethodName)), (Jvm.Cond.instanceMethod ({ cls := "CrossroadsChooseModel", name := "road", desc := "(II)I" } : Jvm.MethodName))] from rfl) ▸ h)))
theorem ck_5_48 (w : Cond) (h : w ∈ [(Jvm.Cond.selects "CrossroadsChooseModel" ({ cls := "CrossroadsChooseModel", name := "road", desc := "(II)I" } : Jvm.MethodName) ({ cls := "CrossroadsChooseModel", name := "road", desc := "(II)I" } : Jvm.MethodName)), (Jvm.Cond.code ({ cls := "CrossroadsChooseModel", name := "road", desc := "(II)I" } : Jvm.MethodName) prog_12_method_8_code (3 : Nat) (Option.some Jvm.ClassFile.FieldType.int)), (Jvm.Cond.methodLink "CrossroadsChooseModel" (124 : Nat) ({ cls := "CrossroadsChooseModel", name := "in", desc := "(III)Z" } : Jvm.MethodName)), (Jvm.Cond.static ({ cls := "CrossroadsChooseModel", name := "in", desc := "(III)Z" } : Jvm.MethodName)), (Jvm.Cond.code ({ cls := "CrossroadsChooseModel", name := "in", desc := "(III)Z" } : Jvm.MethodName) prog_12_method_3_code (3 : Nat) (Option.some Jvm.ClassFile.FieldType.boolean)), (Jvm.Cond.methodLink "CrossroadsChooseModel" (132 : Nat) ({ cls := "CrossroadsChooseModel", name := "addRoad", desc := "(III)I" } : Jvm.MethodName)), (Jvm.Cond.privateMethod ({ cls := "CrossroadsChooseModel", name := "addRoad", desc := "(III)I" } : Jvm.MethodName)), (Jvm.Cond.instanceMethod ({ cls := "CrossroadsChooseModel", name := "addRoad", desc := "(III)I" } : Jvm.MethodName)), (Jvm.Cond.code ({ cls := "CrossroadsChooseModel", name := "addRoad", desc := "(III)I" } : Jvm.MethodName) prog_12_method_7_code (4 : Nat) (Option.some Jvm.ClassFile.FieldType.int)), (Jvm.Cond.methodLink "CrossroadsChooseLaw" (22 : Nat) ({ cls := "CrossroadsChooseModel", name := "roads", desc := "(III)I" } : Jvm.MethodName)), (Jvm.Cond.instanceMethod ({ cls := "CrossroadsChooseModel", name := "roads", desc := "(III)I" } : Jvm.MethodName)), (Jvm.Cond.selects "CrossroadsChooseModel" ({ cls := "CrossroadsChooseModel", name := "roads", desc := "(III)I" } : Jvm.MethodName) ({ cls := "CrossroadsChooseModel", name := "roads", desc := "(III)I" } : Jvm.MethodName)), (Jvm.Cond.code ({ cls := "CrossroadsChooseModel", name := "roads", desc := "(III)I" } : Jvm.MethodName) prog_12_method_9_code (8 : Nat) (Option.some Jvm.ClassFile.FieldType.int)), (Jvm.Cond.methodLink "CrossroadsChooseModel" (136 : Nat) ({ cls := "CrossroadsChooseModel", name := "isShelf", desc := "(I)Z" } : Jvm.MethodName)), (Jvm.Cond.static ({ cls := "CrossroadsChooseModel", name := "isShelf", desc := "(I)Z" } : Jvm.MethodName)), (Jvm.Cond.code ({ cls := "CrossroadsChooseModel", name := "isShelf", desc := "(I)Z" } : Jvm.MethodName) prog_12_method_104_code (1 : Nat) (Option.some Jvm.ClassFile.FieldType.boolean))]) : w ∈ lw_tbl := tk_5 (List.mem_of_mem_drop (i := 48) (List.mem_of_mem_take (i := 16) ((show (tables_1_5.drop 48).take 16 = [(Jvm.Cond.selects "CrossroadsChooseModel" ({ cls := "CrossroadsChooseModel", name := "road", desc := "(II)I" } : Jvm.MethodName) ({ cls := "CrossroadsChooseModel", name := "road", desc := "(II)I" } : Jvm.MethodName)), (Jvm.Cond.code ({ cls := "CrossroadsChooseModel", name := "road", desc := "(II)I" } : Jvm.MethodName) prog_12_method_8_code (3 : Nat) (Option.some Jvm.ClassFile.FieldType.int)), (Jvm.Cond.methodLink "CrossroadsChooseModel" (124 : Nat) ({ cls := "CrossroadsChooseModel", name := "in", desc := "(III)Z" } : Jvm.MethodName)), (Jvm.Cond.static ({ cls := "CrossroadsChooseModel", name := "in", desc := "(III)Z" } : Jvm.MethodName)), (Jvm.Cond.code ({ cls := "CrossroadsChooseModel", name := "in", desc := "(III)Z" } : Jvm.MethodName) prog_12_method_3_code (3 : Nat) (Option.some Jvm.ClassFile.FieldType.boolean)), (Jvm.Cond.methodLink "CrossroadsChooseModel" (132 : Nat) ({ cls := "CrossroadsChooseModel", name := "addRoad", desc := "(III)I" } : Jvm.MethodName)), (Jvm.Cond.privateMethod ({ cls := "CrossroadsChooseModel", name := "addRoad", desc := "(III)I" } : Jvm.MethodName)), (Jvm.Cond.instanceMethod ({ cls := "CrossroadsChooseModel", name := "addRoad", desc := "(III)I" } : Jvm.MethodName)), (Jvm.Cond.code ({ cls := "CrossroadsChooseModel", name := "addRoad", desc := "(III)I" } : Jvm.MethodName) prog_12_method_7_code (4 : Nat) (Option.some Jvm.ClassFile.FieldType.int)), (Jvm.Cond.methodLink "CrossroadsChooseLaw" (22 : Nat) ({ cls := "CrossroadsChooseModel", name := "roads", desc := "(III)I" } : Jvm.MethodName)), (Jvm.Cond.instanceMethod ({ cls := "CrossroadsChooseModel", name := "roads", desc := "(III)I" } : Jvm.MethodName)), (Jvm.Cond.selects "CrossroadsChooseModel" ({ cls := "CrossroadsChooseModel", name := "roads", desc := "(III)I" } : Jvm.MethodName) ({ cls := "CrossroadsChooseModel", name := "roads", desc := "(III)I" } : Jvm.MethodName)), (Jvm.Cond.code ({ cls := "CrossroadsChooseModel", name := "roads", desc := "(III)I" } : Jvm.MethodName) prog_12_method_9_code (8 : Nat) (Option.some Jvm.ClassFile.FieldType.int)), (Jvm.Cond.methodLink "CrossroadsChooseModel" (136 : Nat) ({ cls := "CrossroadsChooseModel", name := "isShelf", desc := "(I)Z" } : Jvm.MethodName)), (Jvm.Cond.static ({ cls := "CrossroadsChooseModel", name := "isShelf", desc := "(I)Z" } : Jvm.MethodName)), (Jvm.Cond.code ({ cls := "CrossroadsChooseModel", name := "isShelf", desc := "(I)Z" } : Jvm.MethodName) prog_12_method_104_code (1 : Nat) (Option.some Jvm.ClassFile.FieldType.boolean))] from rfl) ▸ h)))
theorem ck_5_64 (w : Cond) (h : w ∈ [(Jvm.Cond.constantLong "CrossroadsChooseModel" (139 : Nat) (2 : Int64)), (Jvm.Cond.methodLink "CrossroadsChooseLaw" (150 : Nat) ({ cls := "CrossroadsChooseModel", name := "undo", desc := "()I" } : Jvm.MethodName)), (Jvm.Cond.instanceMethod ({ cls := "CrossroadsChooseModel", name := "undo", desc := "()I" } : Jvm.MethodName)), (Jvm.Cond.selects "CrossroadsChooseModel" ({ cls := "CrossroadsChooseModel", name := "undo", desc := "()I" } : Jvm.MethodName) ({ cls := "CrossroadsChooseModel", name := "undo", desc := "()I" } : Jvm.MethodName)), (Jvm.Cond.code ({ cls := "CrossroadsChooseModel", name := "undo", desc := "()I" } : Jvm.MethodName) prog_12_method_13_code (1 : Nat) (Option.some Jvm.ClassFile.FieldType.int)), (Jvm.Cond.methodLink "CrossroadsChooseModel" (151 : Nat) ({ cls := "CrossroadsChooseModel", name := "lays", desc := "(III)V" } : Jvm.MethodName)), (Jvm.Cond.privateMethod ({ cls := "CrossroadsChooseModel", name := "lays", desc := "(III)V" } : Jvm.MethodName)), (Jvm.Cond.instanceMethod ({ cls := "CrossroadsChooseModel", name := "lays", desc := "(III)V" } : Jvm.MethodName)), (Jvm.Cond.code ({ cls := "CrossroadsChooseModel", name := "lays", desc := "(III)V" } : Jvm.MethodName) prog_12_method_11_code (4 : Nat) (Option.none : Option Jvm.ClassFile.FieldType)), (Jvm.Cond.methodLink "CrossroadsChooseLaw" (154 : Nat) ({ cls := "CrossroadsChooseModel", name := "redo", desc := "()I" } : Jvm.MethodName)), (Jvm.Cond.instanceMethod ({ cls := "CrossroadsChooseModel", name := "redo", desc := "()I" } : Jvm.MethodName)), (Jvm.Cond.selects "CrossroadsChooseModel" ({ cls := "CrossroadsChooseModel", name := "redo", desc := "()I" } : Jvm.MethodName) ({ cls := "CrossroadsChooseModel", name := "redo", desc := "()I" } : Jvm.MethodName)), (Jvm.Cond.code ({ cls := "CrossroadsChooseModel", name := "redo", desc := "()I" } : Jvm.MethodName) prog_12_method_14_code (1 : Nat) (Option.some Jvm.ClassFile.FieldType.int)), (Jvm.Cond.methodLink "CrossroadsChooseLaw" (26 : Nat) ({ cls := "CrossroadsChooseModel", name := "mend", desc := "(III)I" } : Jvm.MethodName)), (Jvm.Cond.instanceMethod ({ cls := "CrossroadsChooseModel", name := "mend", desc := "(III)I" } : Jvm.MethodName)), (Jvm.Cond.selects "CrossroadsChooseModel" ({ cls := "CrossroadsChooseModel", name := "mend", desc := "(III)I" } : Jvm.MethodName) ({ cls := "CrossroadsChooseModel", name := "mend", desc := "(III)I" } : Jvm.MethodName))]) : w ∈ lw_tbl := tk_5 (List.mem_of_mem_drop (i := 64) (List.mem_of_mem_take (i := 16) ((show (tables_1_5.drop 64).take 16 = [(Jvm.Cond.constantLong "CrossroadsChooseModel" (139 : Nat) (2 : Int64)), (Jvm.Cond.methodLink "CrossroadsChooseLaw" (150 : Nat) ({ cls := "CrossroadsChooseModel", name := "undo", desc := "()I" } : Jvm.MethodName)), (Jvm.Cond.instanceMethod ({ cls := "CrossroadsChooseModel", name := "undo", desc := "()I" } : Jvm.MethodName)), (Jvm.Cond.selects "CrossroadsChooseModel" ({ cls := "CrossroadsChooseModel", name := "undo", desc := "()I" } : Jvm.MethodName) ({ cls := "CrossroadsChooseModel", name := "undo", desc := "()I" } : Jvm.MethodName)), (Jvm.Cond.code ({ cls := "CrossroadsChooseModel", name := "undo", desc := "()I" } : Jvm.MethodName) prog_12_method_13_code (1 : Nat) (Option.some Jvm.ClassFile.FieldType.int)), (Jvm.Cond.methodLink "CrossroadsChooseModel" (151 : Nat) ({ cls := "CrossroadsChooseModel", name := "lays", desc := "(III)V" } : Jvm.MethodName)), (Jvm.Cond.privateMethod ({ cls := "CrossroadsChooseModel", name := "lays", desc := "(III)V" } : Jvm.MethodName)), (Jvm.Cond.instanceMethod ({ cls := "CrossroadsChooseModel", name := "lays", desc := "(III)V" } : Jvm.MethodName)), (Jvm.Cond.code ({ cls := "CrossroadsChooseModel", name := "lays", desc := "(III)V" } : Jvm.MethodName) prog_12_method_11_code (4 : Nat) (Option.none : Option Jvm.ClassFile.FieldType)), (Jvm.Cond.methodLink "CrossroadsChooseLaw" (154 : Nat) ({ cls := "CrossroadsChooseModel", name := "redo", desc := "()I" } : Jvm.MethodName)), (Jvm.Cond.instanceMethod ({ cls := "CrossroadsChooseModel", name := "redo", desc := "()I" } : Jvm.MethodName)), (Jvm.Cond.selects "CrossroadsChooseModel" ({ cls := "CrossroadsChooseModel", name := "redo", desc := "()I" } : Jvm.MethodName) ({ cls := "CrossroadsChooseModel", name := "redo", desc := "()I" } : Jvm.MethodName)), (Jvm.Cond.code ({ cls := "CrossroadsChooseModel", name := "redo", desc := "()I" } : Jvm.MethodName) prog_12_method_14_code (1 : Nat) (Option.some Jvm.ClassFile.FieldType.int)), (Jvm.Cond.methodLink "CrossroadsChooseLaw" (26 : Nat) ({ cls := "CrossroadsChooseModel", name := "mend", desc := "(III)I" } : Jvm.MethodName)), (Jvm.Cond.instanceMethod ({ cls := "CrossroadsChooseModel", name := "mend", desc := "(III)I" } : Jvm.MethodName)), (Jvm.Cond.selects "CrossroadsChooseModel" ({ cls := "CrossroadsChooseModel", name := "mend", desc := "(III)I" } : Jvm.MethodName) ({ cls := "CrossroadsChooseModel", name := "mend", desc := "(III)I" } : Jvm.MethodName))] from rfl) ▸ h)))
theorem ck_5_80 (w : Cond) (h : w ∈ [(Jvm.Cond.code ({ cls := "CrossroadsChooseModel", name := "mend", desc := "(III)I" } : Jvm.MethodName) prog_12_method_17_code (4 : Nat) (Option.some Jvm.ClassFile.FieldType.int)), (Jvm.Cond.methodLink "CrossroadsChooseModel" (155 : Nat) ({ cls := "CrossroadsChooseModel", name := "isOne", desc := "(II)Z" } : Jvm.MethodName)), (Jvm.Cond.privateMethod ({ cls := "CrossroadsChooseModel", name := "isOne", desc := "(II)Z" } : Jvm.MethodName)), (Jvm.Cond.instanceMethod ({ cls := "CrossroadsChooseModel", name := "isOne", desc := "(II)Z" } : Jvm.MethodName)), (Jvm.Cond.code ({ cls := "CrossroadsChooseModel", name := "isOne", desc := "(II)Z" } : Jvm.MethodName) prog_12_method_15_code (3 : Nat) (Option.some Jvm.ClassFile.FieldType.boolean)), (Jvm.Cond.methodLink "CrossroadsChooseModel" (128 : Nat) ({ cls := "CrossroadsChooseModel", name := "isRoad", desc := "(I)Z" } : Jvm.MethodName)), (Jvm.Cond.privateMethod ({ cls := "CrossroadsChooseModel", name := "isRoad", desc := "(I)Z" } : Jvm.MethodName)), (Jvm.Cond.instanceMethod ({ cls := "CrossroadsChooseModel", name := "isRoad", desc := "(I)Z" } : Jvm.MethodName)), (Jvm.Cond.code ({ cls := "CrossroadsChooseModel", name := "isRoad", desc := "(I)Z" } : Jvm.MethodName) prog_12_method_4_code (2 : Nat) (Option.some Jvm.ClassFile.FieldType.boolean)), (Jvm.Cond.methodLink "CrossroadsChooseModel" (159 : Nat) ({ cls := "CrossroadsChooseModel", name := "mayHave", desc := "(II)Z" } : Jvm.MethodName)), (Jvm.Cond.static ({ cls := "CrossroadsChooseModel", name := "mayHave", desc := "(II)Z" } : Jvm.MethodName)), (Jvm.Cond.code ({ cls := "CrossroadsChooseModel", name := "mayHave", desc := "(II)Z" } : Jvm.MethodName) prog_12_method_16_code (2 : Nat) (Option.some Jvm.ClassFile.FieldType.boolean)), (Jvm.Cond.methodLink "CrossroadsChooseModel" (162 : Nat) ({ cls := "CrossroadsChooseModel", name := "changes", desc := "(III)I" } : Jvm.MethodName)), (Jvm.Cond.privateMethod ({ cls := "CrossroadsChooseModel", name := "changes", desc := "(III)I" } : Jvm.MethodName)), (Jvm.Cond.instanceMethod ({ cls := "CrossroadsChooseModel", name := "changes", desc := "(III)I" } : Jvm.MethodName)), (Jvm.Cond.code ({ cls := "CrossroadsChooseModel", name := "changes", desc := "(III)I" } : Jvm.MethodName) prog_12_method_12_code (6 : Nat) (Option.some Jvm.ClassFile.FieldType.int))]) : w ∈ lw_tbl := tk_5 (List.mem_of_mem_drop (i := 80) (List.mem_of_mem_take (i := 16) ((show (tables_1_5.drop 80).take 16 = [(Jvm.Cond.code ({ cls := "CrossroadsChooseModel", name := "mend", desc := "(III)I" } : Jvm.MethodName) prog_12_method_17_code (4 : Nat) (Option.some Jvm.ClassFile.FieldType.int)), (Jvm.Cond.methodLink "CrossroadsChooseModel" (155 : Nat) ({ cls := "CrossroadsChooseModel", name := "isOne", desc := "(II)Z" } : Jvm.MethodName)), (Jvm.Cond.privateMethod ({ cls := "CrossroadsChooseModel", name := "isOne", desc := "(II)Z" } : Jvm.MethodName)), (Jvm.Cond.instanceMethod ({ cls := "CrossroadsChooseModel", name := "isOne", desc := "(II)Z" } : Jvm.MethodName)), (Jvm.Cond.code ({ cls := "CrossroadsChooseModel", name := "isOne", desc := "(II)Z" } : Jvm.MethodName) prog_12_method_15_code (3 : Nat) (Option.some Jvm.ClassFile.FieldType.boolean)), (Jvm.Cond.methodLink "CrossroadsChooseModel" (128 : Nat) ({ cls := "CrossroadsChooseModel", name := "isRoad", desc := "(I)Z" } : Jvm.MethodName)), (Jvm.Cond.privateMethod ({ cls := "CrossroadsChooseModel", name := "isRoad", desc := "(I)Z" } : Jvm.MethodName)), (Jvm.Cond.instanceMethod ({ cls := "CrossroadsChooseModel", name := "isRoad", desc := "(I)Z" } : Jvm.MethodName)), (Jvm.Cond.code ({ cls := "CrossroadsChooseModel", name := "isRoad", desc := "(I)Z" } : Jvm.MethodName) prog_12_method_4_code (2 : Nat) (Option.some Jvm.ClassFile.FieldType.boolean)), (Jvm.Cond.methodLink "CrossroadsChooseModel" (159 : Nat) ({ cls := "CrossroadsChooseModel", name := "mayHave", desc := "(II)Z" } : Jvm.MethodName)), (Jvm.Cond.static ({ cls := "CrossroadsChooseModel", name := "mayHave", desc := "(II)Z" } : Jvm.MethodName)), (Jvm.Cond.code ({ cls := "CrossroadsChooseModel", name := "mayHave", desc := "(II)Z" } : Jvm.MethodName) prog_12_method_16_code (2 : Nat) (Option.some Jvm.ClassFile.FieldType.boolean)), (Jvm.Cond.methodLink "CrossroadsChooseModel" (162 : Nat) ({ cls := "CrossroadsChooseModel", name := "changes", desc := "(III)I" } : Jvm.MethodName)), (Jvm.Cond.privateMethod ({ cls := "CrossroadsChooseModel", name := "changes", desc := "(III)I" } : Jvm.MethodName)), (Jvm.Cond.instanceMethod ({ cls := "CrossroadsChooseModel", name := "changes", desc := "(III)I" } : Jvm.MethodName)), (Jvm.Cond.code ({ cls := "CrossroadsChooseModel", name := "changes", desc := "(III)I" } : Jvm.MethodName) prog_12_method_12_code (6 : Nat) (Option.some Jvm.ClassFile.FieldType.int))] from rfl) ▸ h)))
theorem ck_5_96 (w : Cond) (h : w ∈ [(Jvm.Cond.methodLink "CrossroadsChooseModel" (141 : Nat) ({ cls := "CrossroadsChooseModel", name := "valueAt", desc := "(II)I" } : Jvm.MethodName)), (Jvm.Cond.privateMethod ({ cls := "CrossroadsChooseModel", name := "valueAt", desc := "(II)I" } : Jvm.MethodName)), (Jvm.Cond.instanceMethod ({ cls := "CrossroadsChooseModel", name := "valueAt", desc := "(II)I" } : Jvm.MethodName)), (Jvm.Cond.code ({ cls := "CrossroadsChooseModel", name := "valueAt", desc := "(II)I" } : Jvm.MethodName) prog_12_method_10_code (3 : Nat) (Option.some Jvm.ClassFile.FieldType.int)), (Jvm.Cond.constant "CrossroadsChooseModel" (165 : Nat) (-2000000000 : Int32)), (Jvm.Cond.methodLink "CrossroadsChooseLaw" (30 : Nat) ({ cls := "CrossroadsChooseModel", name := "of", desc := "(II)I" } : Jvm.MethodName)), (Jvm.Cond.instanceMethod ({ cls := "CrossroadsChooseModel", name := "of", desc := "(II)I" } : Jvm.MethodName)), (Jvm.Cond.selects "CrossroadsChooseModel" ({ cls := "CrossroadsChooseModel", name := "of", desc := "(II)I" } : Jvm.MethodName) ({ cls := "CrossroadsChooseModel", name := "of", desc := "(II)I" } : Jvm.MethodName)), (Jvm.Cond.code ({ cls := "CrossroadsChooseModel", name := "of", desc := "(II)I" } : Jvm.MethodName) prog_12_method_18_code (3 : Nat) (Option.some Jvm.ClassFile.FieldType.int)), (Jvm.Cond.methodLink "CrossroadsChooseLaw" (35 : Nat) ({ cls := "CrossroadsChooseModel", name := "feed", desc := "(I)I" } : Jvm.MethodName)), (Jvm.Cond.instanceMethod ({ cls := "CrossroadsChooseModel", name := "feed", desc := "(I)I" } : Jvm.MethodName)), (Jvm.Cond.selects "CrossroadsChooseModel" ({ cls := "CrossroadsChooseModel", name := "feed", desc := "(I)I" } : Jvm.MethodName) ({ cls := "CrossroadsChooseModel", name := "feed", desc := "(I)I" } : Jvm.MethodName)), (Jvm.Cond.code ({ cls := "CrossroadsChooseModel", name := "feed", desc := "(I)I" } : Jvm.MethodName) prog_12_method_19_code (2 : Nat) (Option.some Jvm.ClassFile.FieldType.int)), (Jvm.Cond.methodLink "CrossroadsChooseLaw" (40 : Nat) ({ cls := "CrossroadsChooseModel", name := "law", desc := "()I" } : Jvm.MethodName)), (Jvm.Cond.instanceMethod ({ cls := "CrossroadsChooseModel", name := "law", desc := "()I" } : Jvm.MethodName)), (Jvm.Cond.selects "CrossroadsChooseModel" ({ cls := "CrossroadsChooseModel", name := "law", desc := "()I" } : Jvm.MethodName) ({ cls := "CrossroadsChooseModel", name := "law", desc := "()I" } : Jvm.MethodName))]) : w ∈ lw_tbl := tk_5 (List.mem_of_mem_drop (i := 96) (List.mem_of_mem_take (i := 16) ((show (tables_1_5.drop 96).take 16 = [(Jvm.Cond.methodLink "CrossroadsChooseModel" (141 : Nat) ({ cls := "CrossroadsChooseModel", name := "valueAt", desc := "(II)I" } : Jvm.MethodName)), (Jvm.Cond.privateMethod ({ cls := "CrossroadsChooseModel", name := "valueAt", desc := "(II)I" } : Jvm.MethodName)), (Jvm.Cond.instanceMethod ({ cls := "CrossroadsChooseModel", name := "valueAt", desc := "(II)I" } : Jvm.MethodName)), (Jvm.Cond.code ({ cls := "CrossroadsChooseModel", name := "valueAt", desc := "(II)I" } : Jvm.MethodName) prog_12_method_10_code (3 : Nat) (Option.some Jvm.ClassFile.FieldType.int)), (Jvm.Cond.constant "CrossroadsChooseModel" (165 : Nat) (-2000000000 : Int32)), (Jvm.Cond.methodLink "CrossroadsChooseLaw" (30 : Nat) ({ cls := "CrossroadsChooseModel", name := "of", desc := "(II)I" } : Jvm.MethodName)), (Jvm.Cond.instanceMethod ({ cls := "CrossroadsChooseModel", name := "of", desc := "(II)I" } : Jvm.MethodName)), (Jvm.Cond.selects "CrossroadsChooseModel" ({ cls := "CrossroadsChooseModel", name := "of", desc := "(II)I" } : Jvm.MethodName) ({ cls := "CrossroadsChooseModel", name := "of", desc := "(II)I" } : Jvm.MethodName)), (Jvm.Cond.code ({ cls := "CrossroadsChooseModel", name := "of", desc := "(II)I" } : Jvm.MethodName) prog_12_method_18_code (3 : Nat) (Option.some Jvm.ClassFile.FieldType.int)), (Jvm.Cond.methodLink "CrossroadsChooseLaw" (35 : Nat) ({ cls := "CrossroadsChooseModel", name := "feed", desc := "(I)I" } : Jvm.MethodName)), (Jvm.Cond.instanceMethod ({ cls := "CrossroadsChooseModel", name := "feed", desc := "(I)I" } : Jvm.MethodName)), (Jvm.Cond.selects "CrossroadsChooseModel" ({ cls := "CrossroadsChooseModel", name := "feed", desc := "(I)I" } : Jvm.MethodName) ({ cls := "CrossroadsChooseModel", name := "feed", desc := "(I)I" } : Jvm.MethodName)), (Jvm.Cond.code ({ cls := "CrossroadsChooseModel", name := "feed", desc := "(I)I" } : Jvm.MethodName) prog_12_method_19_code (2 : Nat) (Option.some Jvm.ClassFile.FieldType.int)), (Jvm.Cond.methodLink "CrossroadsChooseLaw" (40 : Nat) ({ cls := "CrossroadsChooseModel", name := "law", desc := "()I" } : Jvm.MethodName)), (Jvm.Cond.instanceMethod ({ cls := "CrossroadsChooseModel", name := "law", desc := "()I" } : Jvm.MethodName)), (Jvm.Cond.selects "CrossroadsChooseModel" ({ cls := "CrossroadsChooseModel", name := "law", desc := "()I" } : Jvm.MethodName) ({ cls := "CrossroadsChooseModel", name := "law", desc := "()I" } : Jvm.MethodName))] from rfl) ▸ h)))
theorem ck_5_112 (w : Cond) (h : w ∈ [(Jvm.Cond.code ({ cls := "CrossroadsChooseModel", name := "law", desc := "()I" } : Jvm.MethodName) prog_12_method_37_code (2 : Nat) (Option.some Jvm.ClassFile.FieldType.int)), (Jvm.Cond.methodLink "CrossroadsChooseModel" (230 : Nat) ({ cls := "CrossroadsChooseModel", name := "readText", desc := "(I)I" } : Jvm.MethodName)), (Jvm.Cond.privateMethod ({ cls := "CrossroadsChooseModel", name := "readText", desc := "(I)I" } : Jvm.MethodName)), (Jvm.Cond.instanceMethod ({ cls := "CrossroadsChooseModel", name := "readText", desc := "(I)I" } : Jvm.MethodName)), (Jvm.Cond.code ({ cls := "CrossroadsChooseModel", name := "readText", desc := "(I)I" } : Jvm.MethodName) prog_12_method_33_code (3 : Nat) (Option.some Jvm.ClassFile.FieldType.int)), (Jvm.Cond.methodLink "CrossroadsChooseModel" (221 : Nat) ({ cls := "CrossroadsChooseModel", name := "line", desc := "()V" } : Jvm.MethodName)), (Jvm.Cond.privateMethod ({ cls := "CrossroadsChooseModel", name := "line", desc := "()V" } : Jvm.MethodName)), (Jvm.Cond.instanceMethod ({ cls := "CrossroadsChooseModel", name := "line", desc := "()V" } : Jvm.MethodName)), (Jvm.Cond.code ({ cls := "CrossroadsChooseModel", name := "line", desc := "()V" } : Jvm.MethodName) prog_12_method_32_code (2 : Nat) (Option.none : Option Jvm.ClassFile.FieldType)), (Jvm.Cond.methodLink "CrossroadsChooseModel" (203 : Nat) ({ cls := "CrossroadsChooseModel", name := "either", desc := "()V" } : Jvm.MethodName)), (Jvm.Cond.privateMethod ({ cls := "CrossroadsChooseModel", name := "either", desc := "()V" } : Jvm.MethodName)), (Jvm.Cond.instanceMethod ({ cls := "CrossroadsChooseModel", name := "either", desc := "()V" } : Jvm.MethodName)), (Jvm.Cond.code ({ cls := "CrossroadsChooseModel", name := "either", desc := "()V" } : Jvm.MethodName) prog_12_method_31_code (1 : Nat) (Option.none : Option Jvm.ClassFile.FieldType)), (Jvm.Cond.methodLink "CrossroadsChooseModel" (218 : Nat) ({ cls := "CrossroadsChooseModel", name := "both", desc := "()V" } : Jvm.MethodName)), (Jvm.Cond.privateMethod ({ cls := "CrossroadsChooseModel", name := "both", desc := "()V" } : Jvm.MethodName)), (Jvm.Cond.instanceMethod ({ cls := "CrossroadsChooseModel", name := "both", desc := "()V" } : Jvm.MethodName))]) : w ∈ lw_tbl := tk_5 (List.mem_of_mem_drop (i := 112) (List.mem_of_mem_take (i := 16) ((show (tables_1_5.drop 112).take 16 = [(Jvm.Cond.code ({ cls := "CrossroadsChooseModel", name := "law", desc := "()I" } : Jvm.MethodName) prog_12_method_37_code (2 : Nat) (Option.some Jvm.ClassFile.FieldType.int)), (Jvm.Cond.methodLink "CrossroadsChooseModel" (230 : Nat) ({ cls := "CrossroadsChooseModel", name := "readText", desc := "(I)I" } : Jvm.MethodName)), (Jvm.Cond.privateMethod ({ cls := "CrossroadsChooseModel", name := "readText", desc := "(I)I" } : Jvm.MethodName)), (Jvm.Cond.instanceMethod ({ cls := "CrossroadsChooseModel", name := "readText", desc := "(I)I" } : Jvm.MethodName)), (Jvm.Cond.code ({ cls := "CrossroadsChooseModel", name := "readText", desc := "(I)I" } : Jvm.MethodName) prog_12_method_33_code (3 : Nat) (Option.some Jvm.ClassFile.FieldType.int)), (Jvm.Cond.methodLink "CrossroadsChooseModel" (221 : Nat) ({ cls := "CrossroadsChooseModel", name := "line", desc := "()V" } : Jvm.MethodName)), (Jvm.Cond.privateMethod ({ cls := "CrossroadsChooseModel", name := "line", desc := "()V" } : Jvm.MethodName)), (Jvm.Cond.instanceMethod ({ cls := "CrossroadsChooseModel", name := "line", desc := "()V" } : Jvm.MethodName)), (Jvm.Cond.code ({ cls := "CrossroadsChooseModel", name := "line", desc := "()V" } : Jvm.MethodName) prog_12_method_32_code (2 : Nat) (Option.none : Option Jvm.ClassFile.FieldType)), (Jvm.Cond.methodLink "CrossroadsChooseModel" (203 : Nat) ({ cls := "CrossroadsChooseModel", name := "either", desc := "()V" } : Jvm.MethodName)), (Jvm.Cond.privateMethod ({ cls := "CrossroadsChooseModel", name := "either", desc := "()V" } : Jvm.MethodName)), (Jvm.Cond.instanceMethod ({ cls := "CrossroadsChooseModel", name := "either", desc := "()V" } : Jvm.MethodName)), (Jvm.Cond.code ({ cls := "CrossroadsChooseModel", name := "either", desc := "()V" } : Jvm.MethodName) prog_12_method_31_code (1 : Nat) (Option.none : Option Jvm.ClassFile.FieldType)), (Jvm.Cond.methodLink "CrossroadsChooseModel" (218 : Nat) ({ cls := "CrossroadsChooseModel", name := "both", desc := "()V" } : Jvm.MethodName)), (Jvm.Cond.privateMethod ({ cls := "CrossroadsChooseModel", name := "both", desc := "()V" } : Jvm.MethodName)), (Jvm.Cond.instanceMethod ({ cls := "CrossroadsChooseModel", name := "both", desc := "()V" } : Jvm.MethodName))] from rfl) ▸ h)))
theorem ck_5_128 (w : Cond) (h : w ∈ [(Jvm.Cond.code ({ cls := "CrossroadsChooseModel", name := "both", desc := "()V" } : Jvm.MethodName) prog_12_method_30_code (1 : Nat) (Option.none : Option Jvm.ClassFile.FieldType)), (Jvm.Cond.methodLink "CrossroadsChooseModel" (215 : Nat) ({ cls := "CrossroadsChooseModel", name := "compared", desc := "()V" } : Jvm.MethodName)), (Jvm.Cond.privateMethod ({ cls := "CrossroadsChooseModel", name := "compared", desc := "()V" } : Jvm.MethodName)), (Jvm.Cond.instanceMethod ({ cls := "CrossroadsChooseModel", name := "compared", desc := "()V" } : Jvm.MethodName)), (Jvm.Cond.code ({ cls := "CrossroadsChooseModel", name := "compared", desc := "()V" } : Jvm.MethodName) prog_12_method_29_code (2 : Nat) (Option.none : Option Jvm.ClassFile.FieldType)), (Jvm.Cond.methodLink "CrossroadsChooseModel" (212 : Nat) ({ cls := "CrossroadsChooseModel", name := "sum", desc := "()V" } : Jvm.MethodName)), (Jvm.Cond.privateMethod ({ cls := "CrossroadsChooseModel", name := "sum", desc := "()V" } : Jvm.MethodName)), (Jvm.Cond.instanceMethod ({ cls := "CrossroadsChooseModel", name := "sum", desc := "()V" } : Jvm.MethodName)), (Jvm.Cond.code ({ cls := "CrossroadsChooseModel", name := "sum", desc := "()V" } : Jvm.MethodName) prog_12_method_28_code (2 : Nat) (Option.none : Option Jvm.ClassFile.FieldType)), (Jvm.Cond.methodLink "CrossroadsChooseModel" (209 : Nat) ({ cls := "CrossroadsChooseModel", name := "product", desc := "()V" } : Jvm.MethodName)), (Jvm.Cond.privateMethod ({ cls := "CrossroadsChooseModel", name := "product", desc := "()V" } : Jvm.MethodName)), (Jvm.Cond.instanceMethod ({ cls := "CrossroadsChooseModel", name := "product", desc := "()V" } : Jvm.MethodName)), (Jvm.Cond.code ({ cls := "CrossroadsChooseModel", name := "product", desc := "()V" } : Jvm.MethodName) prog_12_method_27_code (2 : Nat) (Option.none : Option Jvm.ClassFile.FieldType)), (Jvm.Cond.methodLink "CrossroadsChooseModel" (200 : Nat) ({ cls := "CrossroadsChooseModel", name := "operand", desc := "()V" } : Jvm.MethodName)), (Jvm.Cond.privateMethod ({ cls := "CrossroadsChooseModel", name := "operand", desc := "()V" } : Jvm.MethodName)), (Jvm.Cond.instanceMethod ({ cls := "CrossroadsChooseModel", name := "operand", desc := "()V" } : Jvm.MethodName))]) : w ∈ lw_tbl := tk_5 (List.mem_of_mem_drop (i := 128) (List.mem_of_mem_take (i := 16) ((show (tables_1_5.drop 128).take 16 = [(Jvm.Cond.code ({ cls := "CrossroadsChooseModel", name := "both", desc := "()V" } : Jvm.MethodName) prog_12_method_30_code (1 : Nat) (Option.none : Option Jvm.ClassFile.FieldType)), (Jvm.Cond.methodLink "CrossroadsChooseModel" (215 : Nat) ({ cls := "CrossroadsChooseModel", name := "compared", desc := "()V" } : Jvm.MethodName)), (Jvm.Cond.privateMethod ({ cls := "CrossroadsChooseModel", name := "compared", desc := "()V" } : Jvm.MethodName)), (Jvm.Cond.instanceMethod ({ cls := "CrossroadsChooseModel", name := "compared", desc := "()V" } : Jvm.MethodName)), (Jvm.Cond.code ({ cls := "CrossroadsChooseModel", name := "compared", desc := "()V" } : Jvm.MethodName) prog_12_method_29_code (2 : Nat) (Option.none : Option Jvm.ClassFile.FieldType)), (Jvm.Cond.methodLink "CrossroadsChooseModel" (212 : Nat) ({ cls := "CrossroadsChooseModel", name := "sum", desc := "()V" } : Jvm.MethodName)), (Jvm.Cond.privateMethod ({ cls := "CrossroadsChooseModel", name := "sum", desc := "()V" } : Jvm.MethodName)), (Jvm.Cond.instanceMethod ({ cls := "CrossroadsChooseModel", name := "sum", desc := "()V" } : Jvm.MethodName)), (Jvm.Cond.code ({ cls := "CrossroadsChooseModel", name := "sum", desc := "()V" } : Jvm.MethodName) prog_12_method_28_code (2 : Nat) (Option.none : Option Jvm.ClassFile.FieldType)), (Jvm.Cond.methodLink "CrossroadsChooseModel" (209 : Nat) ({ cls := "CrossroadsChooseModel", name := "product", desc := "()V" } : Jvm.MethodName)), (Jvm.Cond.privateMethod ({ cls := "CrossroadsChooseModel", name := "product", desc := "()V" } : Jvm.MethodName)), (Jvm.Cond.instanceMethod ({ cls := "CrossroadsChooseModel", name := "product", desc := "()V" } : Jvm.MethodName)), (Jvm.Cond.code ({ cls := "CrossroadsChooseModel", name := "product", desc := "()V" } : Jvm.MethodName) prog_12_method_27_code (2 : Nat) (Option.none : Option Jvm.ClassFile.FieldType)), (Jvm.Cond.methodLink "CrossroadsChooseModel" (200 : Nat) ({ cls := "CrossroadsChooseModel", name := "operand", desc := "()V" } : Jvm.MethodName)), (Jvm.Cond.privateMethod ({ cls := "CrossroadsChooseModel", name := "operand", desc := "()V" } : Jvm.MethodName)), (Jvm.Cond.instanceMethod ({ cls := "CrossroadsChooseModel", name := "operand", desc := "()V" } : Jvm.MethodName))] from rfl) ▸ h)))
theorem ck_5_144 (w : Cond) (h : w ∈ [(Jvm.Cond.code ({ cls := "CrossroadsChooseModel", name := "operand", desc := "()V" } : Jvm.MethodName) prog_12_method_26_code (2 : Nat) (Option.none : Option Jvm.ClassFile.FieldType)), (Jvm.Cond.methodLink "CrossroadsChooseModel" (184 : Nat) ({ cls := "CrossroadsChooseModel", name := "look", desc := "()I" } : Jvm.MethodName)), (Jvm.Cond.privateMethod ({ cls := "CrossroadsChooseModel", name := "look", desc := "()I" } : Jvm.MethodName)), (Jvm.Cond.instanceMethod ({ cls := "CrossroadsChooseModel", name := "look", desc := "()I" } : Jvm.MethodName)), (Jvm.Cond.code ({ cls := "CrossroadsChooseModel", name := "look", desc := "()I" } : Jvm.MethodName) prog_12_method_20_code (1 : Nat) (Option.some Jvm.ClassFile.FieldType.int)), (Jvm.Cond.methodLink "CrossroadsChooseModel" (192 : Nat) ({ cls := "CrossroadsChooseModel", name := "nameOf", desc := "(I)I" } : Jvm.MethodName)), (Jvm.Cond.static ({ cls := "CrossroadsChooseModel", name := "nameOf", desc := "(I)I" } : Jvm.MethodName)), (Jvm.Cond.code ({ cls := "CrossroadsChooseModel", name := "nameOf", desc := "(I)I" } : Jvm.MethodName) prog_12_method_23_code (1 : Nat) (Option.some Jvm.ClassFile.FieldType.int)), (Jvm.Cond.methodLink "CrossroadsChooseModel" (188 : Nat) ({ cls := "CrossroadsChooseModel", name := "addStep", desc := "(II)V" } : Jvm.MethodName)), (Jvm.Cond.privateMethod ({ cls := "CrossroadsChooseModel", name := "addStep", desc := "(II)V" } : Jvm.MethodName)), (Jvm.Cond.instanceMethod ({ cls := "CrossroadsChooseModel", name := "addStep", desc := "(II)V" } : Jvm.MethodName)), (Jvm.Cond.code ({ cls := "CrossroadsChooseModel", name := "addStep", desc := "(II)V" } : Jvm.MethodName) prog_12_method_22_code (3 : Nat) (Option.none : Option Jvm.ClassFile.FieldType)), (Jvm.Cond.methodLink "CrossroadsChooseModel" (196 : Nat) ({ cls := "CrossroadsChooseModel", name := "opens", desc := "()Z" } : Jvm.MethodName)), (Jvm.Cond.privateMethod ({ cls := "CrossroadsChooseModel", name := "opens", desc := "()Z" } : Jvm.MethodName)), (Jvm.Cond.instanceMethod ({ cls := "CrossroadsChooseModel", name := "opens", desc := "()Z" } : Jvm.MethodName)), (Jvm.Cond.code ({ cls := "CrossroadsChooseModel", name := "opens", desc := "()Z" } : Jvm.MethodName) prog_12_method_24_code (1 : Nat) (Option.some Jvm.ClassFile.FieldType.boolean))]) : w ∈ lw_tbl := tk_5 (List.mem_of_mem_drop (i := 144) (List.mem_of_mem_take (i := 16) ((show (tables_1_5.drop 144).take 16 = [(Jvm.Cond.code ({ cls := "CrossroadsChooseModel", name := "operand", desc := "()V" } : Jvm.MethodName) prog_12_method_26_code (2 : Nat) (Option.none : Option Jvm.ClassFile.FieldType)), (Jvm.Cond.methodLink "CrossroadsChooseModel" (184 : Nat) ({ cls := "CrossroadsChooseModel", name := "look", desc := "()I" } : Jvm.MethodName)), (Jvm.Cond.privateMethod ({ cls := "CrossroadsChooseModel", name := "look", desc := "()I" } : Jvm.MethodName)), (Jvm.Cond.instanceMethod ({ cls := "CrossroadsChooseModel", name := "look", desc := "()I" } : Jvm.MethodName)), (Jvm.Cond.code ({ cls := "CrossroadsChooseModel", name := "look", desc := "()I" } : Jvm.MethodName) prog_12_method_20_code (1 : Nat) (Option.some Jvm.ClassFile.FieldType.int)), (Jvm.Cond.methodLink "CrossroadsChooseModel" (192 : Nat) ({ cls := "CrossroadsChooseModel", name := "nameOf", desc := "(I)I" } : Jvm.MethodName)), (Jvm.Cond.static ({ cls := "CrossroadsChooseModel", name := "nameOf", desc := "(I)I" } : Jvm.MethodName)), (Jvm.Cond.code ({ cls := "CrossroadsChooseModel", name := "nameOf", desc := "(I)I" } : Jvm.MethodName) prog_12_method_23_code (1 : Nat) (Option.some Jvm.ClassFile.FieldType.int)), (Jvm.Cond.methodLink "CrossroadsChooseModel" (188 : Nat) ({ cls := "CrossroadsChooseModel", name := "addStep", desc := "(II)V" } : Jvm.MethodName)), (Jvm.Cond.privateMethod ({ cls := "CrossroadsChooseModel", name := "addStep", desc := "(II)V" } : Jvm.MethodName)), (Jvm.Cond.instanceMethod ({ cls := "CrossroadsChooseModel", name := "addStep", desc := "(II)V" } : Jvm.MethodName)), (Jvm.Cond.code ({ cls := "CrossroadsChooseModel", name := "addStep", desc := "(II)V" } : Jvm.MethodName) prog_12_method_22_code (3 : Nat) (Option.none : Option Jvm.ClassFile.FieldType)), (Jvm.Cond.methodLink "CrossroadsChooseModel" (196 : Nat) ({ cls := "CrossroadsChooseModel", name := "opens", desc := "()Z" } : Jvm.MethodName)), (Jvm.Cond.privateMethod ({ cls := "CrossroadsChooseModel", name := "opens", desc := "()Z" } : Jvm.MethodName)), (Jvm.Cond.instanceMethod ({ cls := "CrossroadsChooseModel", name := "opens", desc := "()Z" } : Jvm.MethodName)), (Jvm.Cond.code ({ cls := "CrossroadsChooseModel", name := "opens", desc := "()Z" } : Jvm.MethodName) prog_12_method_24_code (1 : Nat) (Option.some Jvm.ClassFile.FieldType.boolean))] from rfl) ▸ h)))
theorem ck_5_160 (w : Cond) (h : w ∈ [(Jvm.Cond.methodLink "CrossroadsChooseModel" (181 : Nat) ({ cls := "CrossroadsChooseModel", name := "wrong", desc := "()V" } : Jvm.MethodName)), (Jvm.Cond.privateMethod ({ cls := "CrossroadsChooseModel", name := "wrong", desc := "()V" } : Jvm.MethodName)), (Jvm.Cond.instanceMethod ({ cls := "CrossroadsChooseModel", name := "wrong", desc := "()V" } : Jvm.MethodName)), (Jvm.Cond.code ({ cls := "CrossroadsChooseModel", name := "wrong", desc := "()V" } : Jvm.MethodName) prog_12_method_21_code (1 : Nat) (Option.none : Option Jvm.ClassFile.FieldType)), (Jvm.Cond.methodLink "CrossroadsChooseModel" (206 : Nat) ({ cls := "CrossroadsChooseModel", name := "figure", desc := "()V" } : Jvm.MethodName)), (Jvm.Cond.privateMethod ({ cls := "CrossroadsChooseModel", name := "figure", desc := "()V" } : Jvm.MethodName)), (Jvm.Cond.instanceMethod ({ cls := "CrossroadsChooseModel", name := "figure", desc := "()V" } : Jvm.MethodName)), (Jvm.Cond.code ({ cls := "CrossroadsChooseModel", name := "figure", desc := "()V" } : Jvm.MethodName) prog_12_method_25_code (3 : Nat) (Option.none : Option Jvm.ClassFile.FieldType)), (Jvm.Cond.methodLink "CrossroadsChooseLaw" (44 : Nat) ({ cls := "CrossroadsChooseModel", name := "pull", desc := "(II)I" } : Jvm.MethodName)), (Jvm.Cond.instanceMethod ({ cls := "CrossroadsChooseModel", name := "pull", desc := "(II)I" } : Jvm.MethodName)), (Jvm.Cond.selects "CrossroadsChooseModel" ({ cls := "CrossroadsChooseModel", name := "pull", desc := "(II)I" } : Jvm.MethodName) ({ cls := "CrossroadsChooseModel", name := "pull", desc := "(II)I" } : Jvm.MethodName)), (Jvm.Cond.code ({ cls := "CrossroadsChooseModel", name := "pull", desc := "(II)I" } : Jvm.MethodName) prog_12_method_45_code (3 : Nat) (Option.some Jvm.ClassFile.FieldType.int)), (Jvm.Cond.methodLink "CrossroadsChooseModel" (256 : Nat) ({ cls := "CrossroadsChooseModel", name := "isComer", desc := "(I)Z" } : Jvm.MethodName)), (Jvm.Cond.static ({ cls := "CrossroadsChooseModel", name := "isComer", desc := "(I)Z" } : Jvm.MethodName)), (Jvm.Cond.code ({ cls := "CrossroadsChooseModel", name := "isComer", desc := "(I)Z" } : Jvm.MethodName) prog_12_method_5_code (1 : Nat) (Option.some Jvm.ClassFile.FieldType.boolean)), (Jvm.Cond.methodLink "CrossroadsChooseModel" (259 : Nat) ({ cls := "CrossroadsChooseModel", name := "layNow", desc := "()V" } : Jvm.MethodName))]) : w ∈ lw_tbl := tk_5 (List.mem_of_mem_drop (i := 160) (List.mem_of_mem_take (i := 16) ((show (tables_1_5.drop 160).take 16 = [(Jvm.Cond.methodLink "CrossroadsChooseModel" (181 : Nat) ({ cls := "CrossroadsChooseModel", name := "wrong", desc := "()V" } : Jvm.MethodName)), (Jvm.Cond.privateMethod ({ cls := "CrossroadsChooseModel", name := "wrong", desc := "()V" } : Jvm.MethodName)), (Jvm.Cond.instanceMethod ({ cls := "CrossroadsChooseModel", name := "wrong", desc := "()V" } : Jvm.MethodName)), (Jvm.Cond.code ({ cls := "CrossroadsChooseModel", name := "wrong", desc := "()V" } : Jvm.MethodName) prog_12_method_21_code (1 : Nat) (Option.none : Option Jvm.ClassFile.FieldType)), (Jvm.Cond.methodLink "CrossroadsChooseModel" (206 : Nat) ({ cls := "CrossroadsChooseModel", name := "figure", desc := "()V" } : Jvm.MethodName)), (Jvm.Cond.privateMethod ({ cls := "CrossroadsChooseModel", name := "figure", desc := "()V" } : Jvm.MethodName)), (Jvm.Cond.instanceMethod ({ cls := "CrossroadsChooseModel", name := "figure", desc := "()V" } : Jvm.MethodName)), (Jvm.Cond.code ({ cls := "CrossroadsChooseModel", name := "figure", desc := "()V" } : Jvm.MethodName) prog_12_method_25_code (3 : Nat) (Option.none : Option Jvm.ClassFile.FieldType)), (Jvm.Cond.methodLink "CrossroadsChooseLaw" (44 : Nat) ({ cls := "CrossroadsChooseModel", name := "pull", desc := "(II)I" } : Jvm.MethodName)), (Jvm.Cond.instanceMethod ({ cls := "CrossroadsChooseModel", name := "pull", desc := "(II)I" } : Jvm.MethodName)), (Jvm.Cond.selects "CrossroadsChooseModel" ({ cls := "CrossroadsChooseModel", name := "pull", desc := "(II)I" } : Jvm.MethodName) ({ cls := "CrossroadsChooseModel", name := "pull", desc := "(II)I" } : Jvm.MethodName)), (Jvm.Cond.code ({ cls := "CrossroadsChooseModel", name := "pull", desc := "(II)I" } : Jvm.MethodName) prog_12_method_45_code (3 : Nat) (Option.some Jvm.ClassFile.FieldType.int)), (Jvm.Cond.methodLink "CrossroadsChooseModel" (256 : Nat) ({ cls := "CrossroadsChooseModel", name := "isComer", desc := "(I)Z" } : Jvm.MethodName)), (Jvm.Cond.static ({ cls := "CrossroadsChooseModel", name := "isComer", desc := "(I)Z" } : Jvm.MethodName)), (Jvm.Cond.code ({ cls := "CrossroadsChooseModel", name := "isComer", desc := "(I)Z" } : Jvm.MethodName) prog_12_method_5_code (1 : Nat) (Option.some Jvm.ClassFile.FieldType.boolean)), (Jvm.Cond.methodLink "CrossroadsChooseModel" (259 : Nat) ({ cls := "CrossroadsChooseModel", name := "layNow", desc := "()V" } : Jvm.MethodName))] from rfl) ▸ h)))
theorem ck_5_176 (w : Cond) (h : w ∈ [(Jvm.Cond.privateMethod ({ cls := "CrossroadsChooseModel", name := "layNow", desc := "()V" } : Jvm.MethodName)), (Jvm.Cond.instanceMethod ({ cls := "CrossroadsChooseModel", name := "layNow", desc := "()V" } : Jvm.MethodName)), (Jvm.Cond.code ({ cls := "CrossroadsChooseModel", name := "layNow", desc := "()V" } : Jvm.MethodName) prog_12_method_38_code (2 : Nat) (Option.none : Option Jvm.ClassFile.FieldType)), (Jvm.Cond.methodLink "CrossroadsChooseModel" (240 : Nat) ({ cls := "CrossroadsChooseModel", name := "wants", desc := "(II)I" } : Jvm.MethodName)), (Jvm.Cond.privateMethod ({ cls := "CrossroadsChooseModel", name := "wants", desc := "(II)I" } : Jvm.MethodName)), (Jvm.Cond.instanceMethod ({ cls := "CrossroadsChooseModel", name := "wants", desc := "(II)I" } : Jvm.MethodName)), (Jvm.Cond.code ({ cls := "CrossroadsChooseModel", name := "wants", desc := "(II)I" } : Jvm.MethodName) prog_12_method_39_code (4 : Nat) (Option.some Jvm.ClassFile.FieldType.int)), (Jvm.Cond.methodLink "CrossroadsChooseModel" (237 : Nat) ({ cls := "CrossroadsChooseModel", name := "gives", desc := "(I)I" } : Jvm.MethodName)), (Jvm.Cond.privateMethod ({ cls := "CrossroadsChooseModel", name := "gives", desc := "(I)I" } : Jvm.MethodName)), (Jvm.Cond.instanceMethod ({ cls := "CrossroadsChooseModel", name := "gives", desc := "(I)I" } : Jvm.MethodName)), (Jvm.Cond.code ({ cls := "CrossroadsChooseModel", name := "gives", desc := "(I)I" } : Jvm.MethodName) prog_12_method_36_code (4 : Nat) (Option.some Jvm.ClassFile.FieldType.int)), (Jvm.Cond.methodLink "CrossroadsChooseModel" (227 : Nat) ({ cls := "CrossroadsChooseModel", name := "worked", desc := "(III)I" } : Jvm.MethodName)), (Jvm.Cond.privateMethod ({ cls := "CrossroadsChooseModel", name := "worked", desc := "(III)I" } : Jvm.MethodName)), (Jvm.Cond.instanceMethod ({ cls := "CrossroadsChooseModel", name := "worked", desc := "(III)I" } : Jvm.MethodName)), (Jvm.Cond.code ({ cls := "CrossroadsChooseModel", name := "worked", desc := "(III)I" } : Jvm.MethodName) prog_12_method_35_code (7 : Nat) (Option.some Jvm.ClassFile.FieldType.int)), (Jvm.Cond.methodLink "CrossroadsChooseModel" (224 : Nat) ({ cls := "CrossroadsChooseModel", name := "twoOf", desc := "(III)I" } : Jvm.MethodName))]) : w ∈ lw_tbl := tk_5 (List.mem_of_mem_drop (i := 176) (List.mem_of_mem_take (i := 16) ((show (tables_1_5.drop 176).take 16 = [(Jvm.Cond.privateMethod ({ cls := "CrossroadsChooseModel", name := "layNow", desc := "()V" } : Jvm.MethodName)), (Jvm.Cond.instanceMethod ({ cls := "CrossroadsChooseModel", name := "layNow", desc := "()V" } : Jvm.MethodName)), (Jvm.Cond.code ({ cls := "CrossroadsChooseModel", name := "layNow", desc := "()V" } : Jvm.MethodName) prog_12_method_38_code (2 : Nat) (Option.none : Option Jvm.ClassFile.FieldType)), (Jvm.Cond.methodLink "CrossroadsChooseModel" (240 : Nat) ({ cls := "CrossroadsChooseModel", name := "wants", desc := "(II)I" } : Jvm.MethodName)), (Jvm.Cond.privateMethod ({ cls := "CrossroadsChooseModel", name := "wants", desc := "(II)I" } : Jvm.MethodName)), (Jvm.Cond.instanceMethod ({ cls := "CrossroadsChooseModel", name := "wants", desc := "(II)I" } : Jvm.MethodName)), (Jvm.Cond.code ({ cls := "CrossroadsChooseModel", name := "wants", desc := "(II)I" } : Jvm.MethodName) prog_12_method_39_code (4 : Nat) (Option.some Jvm.ClassFile.FieldType.int)), (Jvm.Cond.methodLink "CrossroadsChooseModel" (237 : Nat) ({ cls := "CrossroadsChooseModel", name := "gives", desc := "(I)I" } : Jvm.MethodName)), (Jvm.Cond.privateMethod ({ cls := "CrossroadsChooseModel", name := "gives", desc := "(I)I" } : Jvm.MethodName)), (Jvm.Cond.instanceMethod ({ cls := "CrossroadsChooseModel", name := "gives", desc := "(I)I" } : Jvm.MethodName)), (Jvm.Cond.code ({ cls := "CrossroadsChooseModel", name := "gives", desc := "(I)I" } : Jvm.MethodName) prog_12_method_36_code (4 : Nat) (Option.some Jvm.ClassFile.FieldType.int)), (Jvm.Cond.methodLink "CrossroadsChooseModel" (227 : Nat) ({ cls := "CrossroadsChooseModel", name := "worked", desc := "(III)I" } : Jvm.MethodName)), (Jvm.Cond.privateMethod ({ cls := "CrossroadsChooseModel", name := "worked", desc := "(III)I" } : Jvm.MethodName)), (Jvm.Cond.instanceMethod ({ cls := "CrossroadsChooseModel", name := "worked", desc := "(III)I" } : Jvm.MethodName)), (Jvm.Cond.code ({ cls := "CrossroadsChooseModel", name := "worked", desc := "(III)I" } : Jvm.MethodName) prog_12_method_35_code (7 : Nat) (Option.some Jvm.ClassFile.FieldType.int)), (Jvm.Cond.methodLink "CrossroadsChooseModel" (224 : Nat) ({ cls := "CrossroadsChooseModel", name := "twoOf", desc := "(III)I" } : Jvm.MethodName))] from rfl) ▸ h)))
theorem ck_5_192 (w : Cond) (h : w ∈ [(Jvm.Cond.static ({ cls := "CrossroadsChooseModel", name := "twoOf", desc := "(III)I" } : Jvm.MethodName)), (Jvm.Cond.code ({ cls := "CrossroadsChooseModel", name := "twoOf", desc := "(III)I" } : Jvm.MethodName) prog_12_method_34_code (3 : Nat) (Option.some Jvm.ClassFile.FieldType.int)), (Jvm.Cond.methodLink "CrossroadsChooseLaw" (48 : Nat) ({ cls := "CrossroadsChooseModel", name := "has", desc := "(I)I" } : Jvm.MethodName)), (Jvm.Cond.instanceMethod ({ cls := "CrossroadsChooseModel", name := "has", desc := "(I)I" } : Jvm.MethodName)), (Jvm.Cond.selects "CrossroadsChooseModel" ({ cls := "CrossroadsChooseModel", name := "has", desc := "(I)I" } : Jvm.MethodName) ({ cls := "CrossroadsChooseModel", name := "has", desc := "(I)I" } : Jvm.MethodName)), (Jvm.Cond.code ({ cls := "CrossroadsChooseModel", name := "has", desc := "(I)I" } : Jvm.MethodName) prog_12_method_46_code (2 : Nat) (Option.some Jvm.ClassFile.FieldType.int)), (Jvm.Cond.methodLink "CrossroadsChooseModel" (249 : Nat) ({ cls := "CrossroadsChooseModel", name := "hasNow", desc := "(I)I" } : Jvm.MethodName)), (Jvm.Cond.privateMethod ({ cls := "CrossroadsChooseModel", name := "hasNow", desc := "(I)I" } : Jvm.MethodName)), (Jvm.Cond.instanceMethod ({ cls := "CrossroadsChooseModel", name := "hasNow", desc := "(I)I" } : Jvm.MethodName)), (Jvm.Cond.code ({ cls := "CrossroadsChooseModel", name := "hasNow", desc := "(I)I" } : Jvm.MethodName) prog_12_method_42_code (2 : Nat) (Option.some Jvm.ClassFile.FieldType.int)), (Jvm.Cond.methodLink "CrossroadsChooseModel" (243 : Nat) ({ cls := "CrossroadsChooseModel", name := "runsBy", desc := "(I)Z" } : Jvm.MethodName)), (Jvm.Cond.privateMethod ({ cls := "CrossroadsChooseModel", name := "runsBy", desc := "(I)Z" } : Jvm.MethodName)), (Jvm.Cond.instanceMethod ({ cls := "CrossroadsChooseModel", name := "runsBy", desc := "(I)Z" } : Jvm.MethodName)), (Jvm.Cond.code ({ cls := "CrossroadsChooseModel", name := "runsBy", desc := "(I)Z" } : Jvm.MethodName) prog_12_method_40_code (2 : Nat) (Option.some Jvm.ClassFile.FieldType.boolean)), (Jvm.Cond.methodLink "CrossroadsChooseModel" (246 : Nat) ({ cls := "CrossroadsChooseModel", name := "mostOf", desc := "(II)I" } : Jvm.MethodName)), (Jvm.Cond.privateMethod ({ cls := "CrossroadsChooseModel", name := "mostOf", desc := "(II)I" } : Jvm.MethodName))]) : w ∈ lw_tbl := tk_5 (List.mem_of_mem_drop (i := 192) (List.mem_of_mem_take (i := 16) ((show (tables_1_5.drop 192).take 16 = [(Jvm.Cond.static ({ cls := "CrossroadsChooseModel", name := "twoOf", desc := "(III)I" } : Jvm.MethodName)), (Jvm.Cond.code ({ cls := "CrossroadsChooseModel", name := "twoOf", desc := "(III)I" } : Jvm.MethodName) prog_12_method_34_code (3 : Nat) (Option.some Jvm.ClassFile.FieldType.int)), (Jvm.Cond.methodLink "CrossroadsChooseLaw" (48 : Nat) ({ cls := "CrossroadsChooseModel", name := "has", desc := "(I)I" } : Jvm.MethodName)), (Jvm.Cond.instanceMethod ({ cls := "CrossroadsChooseModel", name := "has", desc := "(I)I" } : Jvm.MethodName)), (Jvm.Cond.selects "CrossroadsChooseModel" ({ cls := "CrossroadsChooseModel", name := "has", desc := "(I)I" } : Jvm.MethodName) ({ cls := "CrossroadsChooseModel", name := "has", desc := "(I)I" } : Jvm.MethodName)), (Jvm.Cond.code ({ cls := "CrossroadsChooseModel", name := "has", desc := "(I)I" } : Jvm.MethodName) prog_12_method_46_code (2 : Nat) (Option.some Jvm.ClassFile.FieldType.int)), (Jvm.Cond.methodLink "CrossroadsChooseModel" (249 : Nat) ({ cls := "CrossroadsChooseModel", name := "hasNow", desc := "(I)I" } : Jvm.MethodName)), (Jvm.Cond.privateMethod ({ cls := "CrossroadsChooseModel", name := "hasNow", desc := "(I)I" } : Jvm.MethodName)), (Jvm.Cond.instanceMethod ({ cls := "CrossroadsChooseModel", name := "hasNow", desc := "(I)I" } : Jvm.MethodName)), (Jvm.Cond.code ({ cls := "CrossroadsChooseModel", name := "hasNow", desc := "(I)I" } : Jvm.MethodName) prog_12_method_42_code (2 : Nat) (Option.some Jvm.ClassFile.FieldType.int)), (Jvm.Cond.methodLink "CrossroadsChooseModel" (243 : Nat) ({ cls := "CrossroadsChooseModel", name := "runsBy", desc := "(I)Z" } : Jvm.MethodName)), (Jvm.Cond.privateMethod ({ cls := "CrossroadsChooseModel", name := "runsBy", desc := "(I)Z" } : Jvm.MethodName)), (Jvm.Cond.instanceMethod ({ cls := "CrossroadsChooseModel", name := "runsBy", desc := "(I)Z" } : Jvm.MethodName)), (Jvm.Cond.code ({ cls := "CrossroadsChooseModel", name := "runsBy", desc := "(I)Z" } : Jvm.MethodName) prog_12_method_40_code (2 : Nat) (Option.some Jvm.ClassFile.FieldType.boolean)), (Jvm.Cond.methodLink "CrossroadsChooseModel" (246 : Nat) ({ cls := "CrossroadsChooseModel", name := "mostOf", desc := "(II)I" } : Jvm.MethodName)), (Jvm.Cond.privateMethod ({ cls := "CrossroadsChooseModel", name := "mostOf", desc := "(II)I" } : Jvm.MethodName))] from rfl) ▸ h)))
theorem ck_5_208 (w : Cond) (h : w ∈ [(Jvm.Cond.instanceMethod ({ cls := "CrossroadsChooseModel", name := "mostOf", desc := "(II)I" } : Jvm.MethodName)), (Jvm.Cond.code ({ cls := "CrossroadsChooseModel", name := "mostOf", desc := "(II)I" } : Jvm.MethodName) prog_12_method_41_code (7 : Nat) (Option.some Jvm.ClassFile.FieldType.int)), (Jvm.Cond.methodLink "CrossroadsChooseLaw" (52 : Nat) ({ cls := "CrossroadsChooseModel", name := "last", desc := "(II)I" } : Jvm.MethodName)), (Jvm.Cond.instanceMethod ({ cls := "CrossroadsChooseModel", name := "last", desc := "(II)I" } : Jvm.MethodName)), (Jvm.Cond.selects "CrossroadsChooseModel" ({ cls := "CrossroadsChooseModel", name := "last", desc := "(II)I" } : Jvm.MethodName) ({ cls := "CrossroadsChooseModel", name := "last", desc := "(II)I" } : Jvm.MethodName)), (Jvm.Cond.code ({ cls := "CrossroadsChooseModel", name := "last", desc := "(II)I" } : Jvm.MethodName) prog_12_method_52_code (3 : Nat) (Option.some Jvm.ClassFile.FieldType.int)), (Jvm.Cond.methodLink "CrossroadsChooseModel" (274 : Nat) ({ cls := "CrossroadsChooseModel", name := "areMany", desc := "(I)Z" } : Jvm.MethodName)), (Jvm.Cond.static ({ cls := "CrossroadsChooseModel", name := "areMany", desc := "(I)Z" } : Jvm.MethodName)), (Jvm.Cond.code ({ cls := "CrossroadsChooseModel", name := "areMany", desc := "(I)Z" } : Jvm.MethodName) prog_12_method_51_code (1 : Nat) (Option.some Jvm.ClassFile.FieldType.boolean)), (Jvm.Cond.methodLink "CrossroadsChooseModel" (277 : Nat) ({ cls := "CrossroadsChooseModel", name := "rowFault", desc := "(I)I" } : Jvm.MethodName)), (Jvm.Cond.privateMethod ({ cls := "CrossroadsChooseModel", name := "rowFault", desc := "(I)I" } : Jvm.MethodName)), (Jvm.Cond.instanceMethod ({ cls := "CrossroadsChooseModel", name := "rowFault", desc := "(I)I" } : Jvm.MethodName)), (Jvm.Cond.code ({ cls := "CrossroadsChooseModel", name := "rowFault", desc := "(I)I" } : Jvm.MethodName) prog_12_method_47_code (2 : Nat) (Option.some Jvm.ClassFile.FieldType.int)), (Jvm.Cond.methodLink "CrossroadsChooseModel" (280 : Nat) ({ cls := "CrossroadsChooseModel", name := "goDay", desc := "(II)V" } : Jvm.MethodName)), (Jvm.Cond.privateMethod ({ cls := "CrossroadsChooseModel", name := "goDay", desc := "(II)V" } : Jvm.MethodName)), (Jvm.Cond.instanceMethod ({ cls := "CrossroadsChooseModel", name := "goDay", desc := "(II)V" } : Jvm.MethodName))]) : w ∈ lw_tbl := tk_5 (List.mem_of_mem_drop (i := 208) (List.mem_of_mem_take (i := 16) ((show (tables_1_5.drop 208).take 16 = [(Jvm.Cond.instanceMethod ({ cls := "CrossroadsChooseModel", name := "mostOf", desc := "(II)I" } : Jvm.MethodName)), (Jvm.Cond.code ({ cls := "CrossroadsChooseModel", name := "mostOf", desc := "(II)I" } : Jvm.MethodName) prog_12_method_41_code (7 : Nat) (Option.some Jvm.ClassFile.FieldType.int)), (Jvm.Cond.methodLink "CrossroadsChooseLaw" (52 : Nat) ({ cls := "CrossroadsChooseModel", name := "last", desc := "(II)I" } : Jvm.MethodName)), (Jvm.Cond.instanceMethod ({ cls := "CrossroadsChooseModel", name := "last", desc := "(II)I" } : Jvm.MethodName)), (Jvm.Cond.selects "CrossroadsChooseModel" ({ cls := "CrossroadsChooseModel", name := "last", desc := "(II)I" } : Jvm.MethodName) ({ cls := "CrossroadsChooseModel", name := "last", desc := "(II)I" } : Jvm.MethodName)), (Jvm.Cond.code ({ cls := "CrossroadsChooseModel", name := "last", desc := "(II)I" } : Jvm.MethodName) prog_12_method_52_code (3 : Nat) (Option.some Jvm.ClassFile.FieldType.int)), (Jvm.Cond.methodLink "CrossroadsChooseModel" (274 : Nat) ({ cls := "CrossroadsChooseModel", name := "areMany", desc := "(I)Z" } : Jvm.MethodName)), (Jvm.Cond.static ({ cls := "CrossroadsChooseModel", name := "areMany", desc := "(I)Z" } : Jvm.MethodName)), (Jvm.Cond.code ({ cls := "CrossroadsChooseModel", name := "areMany", desc := "(I)Z" } : Jvm.MethodName) prog_12_method_51_code (1 : Nat) (Option.some Jvm.ClassFile.FieldType.boolean)), (Jvm.Cond.methodLink "CrossroadsChooseModel" (277 : Nat) ({ cls := "CrossroadsChooseModel", name := "rowFault", desc := "(I)I" } : Jvm.MethodName)), (Jvm.Cond.privateMethod ({ cls := "CrossroadsChooseModel", name := "rowFault", desc := "(I)I" } : Jvm.MethodName)), (Jvm.Cond.instanceMethod ({ cls := "CrossroadsChooseModel", name := "rowFault", desc := "(I)I" } : Jvm.MethodName)), (Jvm.Cond.code ({ cls := "CrossroadsChooseModel", name := "rowFault", desc := "(I)I" } : Jvm.MethodName) prog_12_method_47_code (2 : Nat) (Option.some Jvm.ClassFile.FieldType.int)), (Jvm.Cond.methodLink "CrossroadsChooseModel" (280 : Nat) ({ cls := "CrossroadsChooseModel", name := "goDay", desc := "(II)V" } : Jvm.MethodName)), (Jvm.Cond.privateMethod ({ cls := "CrossroadsChooseModel", name := "goDay", desc := "(II)V" } : Jvm.MethodName)), (Jvm.Cond.instanceMethod ({ cls := "CrossroadsChooseModel", name := "goDay", desc := "(II)V" } : Jvm.MethodName))] from rfl) ▸ h)))
theorem ck_5_224 (w : Cond) (h : w ∈ [(Jvm.Cond.code ({ cls := "CrossroadsChooseModel", name := "goDay", desc := "(II)V" } : Jvm.MethodName) prog_12_method_50_code (6 : Nat) (Option.none : Option Jvm.ClassFile.FieldType)), (Jvm.Cond.methodLink "CrossroadsChooseModel" (268 : Nat) ({ cls := "CrossroadsChooseModel", name := "longOf", desc := "(II)I" } : Jvm.MethodName)), (Jvm.Cond.privateMethod ({ cls := "CrossroadsChooseModel", name := "longOf", desc := "(II)I" } : Jvm.MethodName)), (Jvm.Cond.instanceMethod ({ cls := "CrossroadsChooseModel", name := "longOf", desc := "(II)I" } : Jvm.MethodName)), (Jvm.Cond.code ({ cls := "CrossroadsChooseModel", name := "longOf", desc := "(II)I" } : Jvm.MethodName) prog_12_method_49_code (4 : Nat) (Option.some Jvm.ClassFile.FieldType.int)), (Jvm.Cond.methodLink "CrossroadsChooseModel" (262 : Nat) ({ cls := "CrossroadsChooseModel", name := "at", desc := "(II)I" } : Jvm.MethodName)), (Jvm.Cond.privateMethod ({ cls := "CrossroadsChooseModel", name := "at", desc := "(II)I" } : Jvm.MethodName)), (Jvm.Cond.instanceMethod ({ cls := "CrossroadsChooseModel", name := "at", desc := "(II)I" } : Jvm.MethodName)), (Jvm.Cond.code ({ cls := "CrossroadsChooseModel", name := "at", desc := "(II)I" } : Jvm.MethodName) prog_12_method_48_code (3 : Nat) (Option.some Jvm.ClassFile.FieldType.int)), (Jvm.Cond.methodLink "CrossroadsChooseModel" (271 : Nat) ({ cls := "CrossroadsChooseModel", name := "goComer", desc := "(I)I" } : Jvm.MethodName)), (Jvm.Cond.privateMethod ({ cls := "CrossroadsChooseModel", name := "goComer", desc := "(I)I" } : Jvm.MethodName)), (Jvm.Cond.instanceMethod ({ cls := "CrossroadsChooseModel", name := "goComer", desc := "(I)I" } : Jvm.MethodName)), (Jvm.Cond.code ({ cls := "CrossroadsChooseModel", name := "goComer", desc := "(I)I" } : Jvm.MethodName) prog_12_method_44_code (3 : Nat) (Option.some Jvm.ClassFile.FieldType.int)), (Jvm.Cond.methodLink "CrossroadsChooseModel" (252 : Nat) ({ cls := "CrossroadsChooseModel", name := "takesNow", desc := "(I)V" } : Jvm.MethodName)), (Jvm.Cond.privateMethod ({ cls := "CrossroadsChooseModel", name := "takesNow", desc := "(I)V" } : Jvm.MethodName)), (Jvm.Cond.instanceMethod ({ cls := "CrossroadsChooseModel", name := "takesNow", desc := "(I)V" } : Jvm.MethodName))]) : w ∈ lw_tbl := tk_5 (List.mem_of_mem_drop (i := 224) (List.mem_of_mem_take (i := 16) ((show (tables_1_5.drop 224).take 16 = [(Jvm.Cond.code ({ cls := "CrossroadsChooseModel", name := "goDay", desc := "(II)V" } : Jvm.MethodName) prog_12_method_50_code (6 : Nat) (Option.none : Option Jvm.ClassFile.FieldType)), (Jvm.Cond.methodLink "CrossroadsChooseModel" (268 : Nat) ({ cls := "CrossroadsChooseModel", name := "longOf", desc := "(II)I" } : Jvm.MethodName)), (Jvm.Cond.privateMethod ({ cls := "CrossroadsChooseModel", name := "longOf", desc := "(II)I" } : Jvm.MethodName)), (Jvm.Cond.instanceMethod ({ cls := "CrossroadsChooseModel", name := "longOf", desc := "(II)I" } : Jvm.MethodName)), (Jvm.Cond.code ({ cls := "CrossroadsChooseModel", name := "longOf", desc := "(II)I" } : Jvm.MethodName) prog_12_method_49_code (4 : Nat) (Option.some Jvm.ClassFile.FieldType.int)), (Jvm.Cond.methodLink "CrossroadsChooseModel" (262 : Nat) ({ cls := "CrossroadsChooseModel", name := "at", desc := "(II)I" } : Jvm.MethodName)), (Jvm.Cond.privateMethod ({ cls := "CrossroadsChooseModel", name := "at", desc := "(II)I" } : Jvm.MethodName)), (Jvm.Cond.instanceMethod ({ cls := "CrossroadsChooseModel", name := "at", desc := "(II)I" } : Jvm.MethodName)), (Jvm.Cond.code ({ cls := "CrossroadsChooseModel", name := "at", desc := "(II)I" } : Jvm.MethodName) prog_12_method_48_code (3 : Nat) (Option.some Jvm.ClassFile.FieldType.int)), (Jvm.Cond.methodLink "CrossroadsChooseModel" (271 : Nat) ({ cls := "CrossroadsChooseModel", name := "goComer", desc := "(I)I" } : Jvm.MethodName)), (Jvm.Cond.privateMethod ({ cls := "CrossroadsChooseModel", name := "goComer", desc := "(I)I" } : Jvm.MethodName)), (Jvm.Cond.instanceMethod ({ cls := "CrossroadsChooseModel", name := "goComer", desc := "(I)I" } : Jvm.MethodName)), (Jvm.Cond.code ({ cls := "CrossroadsChooseModel", name := "goComer", desc := "(I)I" } : Jvm.MethodName) prog_12_method_44_code (3 : Nat) (Option.some Jvm.ClassFile.FieldType.int)), (Jvm.Cond.methodLink "CrossroadsChooseModel" (252 : Nat) ({ cls := "CrossroadsChooseModel", name := "takesNow", desc := "(I)V" } : Jvm.MethodName)), (Jvm.Cond.privateMethod ({ cls := "CrossroadsChooseModel", name := "takesNow", desc := "(I)V" } : Jvm.MethodName)), (Jvm.Cond.instanceMethod ({ cls := "CrossroadsChooseModel", name := "takesNow", desc := "(I)V" } : Jvm.MethodName))] from rfl) ▸ h)))
theorem tk_6 {w : Cond} (h : w ∈ tables_1_6) : w ∈ lw_tbl := List.mem_append_right _ (show _ ∈ tables_1 from List.mem_append_right _ (List.mem_append_right _ (List.mem_append_right _ (List.mem_append_right _ (List.mem_append_right _ (h))))))
theorem ck_6_0 (w : Cond) (h : w ∈ [(Jvm.Cond.code ({ cls := "CrossroadsChooseModel", name := "takesNow", desc := "(I)V" } : Jvm.MethodName) prog_12_method_43_code (3 : Nat) (Option.none : Option Jvm.ClassFile.FieldType)), (Jvm.Cond.methodLink "CrossroadsChooseLaw" (57 : Nat) ({ cls := "CrossroadsChooseModel", name := "day", desc := "(IIII)I" } : Jvm.MethodName)), (Jvm.Cond.instanceMethod ({ cls := "CrossroadsChooseModel", name := "day", desc := "(IIII)I" } : Jvm.MethodName)), (Jvm.Cond.selects "CrossroadsChooseModel" ({ cls := "CrossroadsChooseModel", name := "day", desc := "(IIII)I" } : Jvm.MethodName) ({ cls := "CrossroadsChooseModel", name := "day", desc := "(IIII)I" } : Jvm.MethodName)), (Jvm.Cond.code ({ cls := "CrossroadsChooseModel", name := "day", desc := "(IIII)I" } : Jvm.MethodName) prog_12_method_53_code (5 : Nat) (Option.some Jvm.ClassFile.FieldType.int)), (Jvm.Cond.methodLink "CrossroadsChooseLaw" (61 : Nat) ({ cls := "CrossroadsChooseModel", name := "unlike", desc := "(II)I" } : Jvm.MethodName)), (Jvm.Cond.instanceMethod ({ cls := "CrossroadsChooseModel", name := "unlike", desc := "(II)I" } : Jvm.MethodName)), (Jvm.Cond.selects "CrossroadsChooseModel" ({ cls := "CrossroadsChooseModel", name := "unlike", desc := "(II)I" } : Jvm.MethodName) ({ cls := "CrossroadsChooseModel", name := "unlike", desc := "(II)I" } : Jvm.MethodName)), (Jvm.Cond.code ({ cls := "CrossroadsChooseModel", name := "unlike", desc := "(II)I" } : Jvm.MethodName) prog_12_method_54_code (6 : Nat) (Option.some Jvm.ClassFile.FieldType.int)), (Jvm.Cond.methodLink "CrossroadsChooseLaw" (65 : Nat) ({ cls := "CrossroadsChooseModel", name := "how", desc := "(II)I" } : Jvm.MethodName)), (Jvm.Cond.instanceMethod ({ cls := "CrossroadsChooseModel", name := "how", desc := "(II)I" } : Jvm.MethodName)), (Jvm.Cond.selects "CrossroadsChooseModel" ({ cls := "CrossroadsChooseModel", name := "how", desc := "(II)I" } : Jvm.MethodName) ({ cls := "CrossroadsChooseModel", name := "how", desc := "(II)I" } : Jvm.MethodName)), (Jvm.Cond.code ({ cls := "CrossroadsChooseModel", name := "how", desc := "(II)I" } : Jvm.MethodName) prog_12_method_55_code (6 : Nat) (Option.some Jvm.ClassFile.FieldType.int)), (Jvm.Cond.methodLink "CrossroadsChooseLaw" (69 : Nat) ({ cls := "CrossroadsChooseModel", name := "ahead", desc := "(II)I" } : Jvm.MethodName)), (Jvm.Cond.instanceMethod ({ cls := "CrossroadsChooseModel", name := "ahead", desc := "(II)I" } : Jvm.MethodName)), (Jvm.Cond.selects "CrossroadsChooseModel" ({ cls := "CrossroadsChooseModel", name := "ahead", desc := "(II)I" } : Jvm.MethodName) ({ cls := "CrossroadsChooseModel", name := "ahead", desc := "(II)I" } : Jvm.MethodName))]) : w ∈ lw_tbl := tk_6 (List.mem_of_mem_drop (i := 0) (List.mem_of_mem_take (i := 16) ((show (tables_1_6.drop 0).take 16 = [(Jvm.Cond.code ({ cls := "CrossroadsChooseModel", name := "takesNow", desc := "(I)V" } : Jvm.MethodName) prog_12_method_43_code (3 : Nat) (Option.none : Option Jvm.ClassFile.FieldType)), (Jvm.Cond.methodLink "CrossroadsChooseLaw" (57 : Nat) ({ cls := "CrossroadsChooseModel", name := "day", desc := "(IIII)I" } : Jvm.MethodName)), (Jvm.Cond.instanceMethod ({ cls := "CrossroadsChooseModel", name := "day", desc := "(IIII)I" } : Jvm.MethodName)), (Jvm.Cond.selects "CrossroadsChooseModel" ({ cls := "CrossroadsChooseModel", name := "day", desc := "(IIII)I" } : Jvm.MethodName) ({ cls := "CrossroadsChooseModel", name := "day", desc := "(IIII)I" } : Jvm.MethodName)), (Jvm.Cond.code ({ cls := "CrossroadsChooseModel", name := "day", desc := "(IIII)I" } : Jvm.MethodName) prog_12_method_53_code (5 : Nat) (Option.some Jvm.ClassFile.FieldType.int)), (Jvm.Cond.methodLink "CrossroadsChooseLaw" (61 : Nat) ({ cls := "CrossroadsChooseModel", name := "unlike", desc := "(II)I" } : Jvm.MethodName)), (Jvm.Cond.instanceMethod ({ cls := "CrossroadsChooseModel", name := "unlike", desc := "(II)I" } : Jvm.MethodName)), (Jvm.Cond.selects "CrossroadsChooseModel" ({ cls := "CrossroadsChooseModel", name := "unlike", desc := "(II)I" } : Jvm.MethodName) ({ cls := "CrossroadsChooseModel", name := "unlike", desc := "(II)I" } : Jvm.MethodName)), (Jvm.Cond.code ({ cls := "CrossroadsChooseModel", name := "unlike", desc := "(II)I" } : Jvm.MethodName) prog_12_method_54_code (6 : Nat) (Option.some Jvm.ClassFile.FieldType.int)), (Jvm.Cond.methodLink "CrossroadsChooseLaw" (65 : Nat) ({ cls := "CrossroadsChooseModel", name := "how", desc := "(II)I" } : Jvm.MethodName)), (Jvm.Cond.instanceMethod ({ cls := "CrossroadsChooseModel", name := "how", desc := "(II)I" } : Jvm.MethodName)), (Jvm.Cond.selects "CrossroadsChooseModel" ({ cls := "CrossroadsChooseModel", name := "how", desc := "(II)I" } : Jvm.MethodName) ({ cls := "CrossroadsChooseModel", name := "how", desc := "(II)I" } : Jvm.MethodName)), (Jvm.Cond.code ({ cls := "CrossroadsChooseModel", name := "how", desc := "(II)I" } : Jvm.MethodName) prog_12_method_55_code (6 : Nat) (Option.some Jvm.ClassFile.FieldType.int)), (Jvm.Cond.methodLink "CrossroadsChooseLaw" (69 : Nat) ({ cls := "CrossroadsChooseModel", name := "ahead", desc := "(II)I" } : Jvm.MethodName)), (Jvm.Cond.instanceMethod ({ cls := "CrossroadsChooseModel", name := "ahead", desc := "(II)I" } : Jvm.MethodName)), (Jvm.Cond.selects "CrossroadsChooseModel" ({ cls := "CrossroadsChooseModel", name := "ahead", desc := "(II)I" } : Jvm.MethodName) ({ cls := "CrossroadsChooseModel", name := "ahead", desc := "(II)I" } : Jvm.MethodName))] from rfl) ▸ h)))
theorem ck_6_16 (w : Cond) (h : w ∈ [(Jvm.Cond.code ({ cls := "CrossroadsChooseModel", name := "ahead", desc := "(II)I" } : Jvm.MethodName) prog_12_method_57_code (4 : Nat) (Option.some Jvm.ClassFile.FieldType.int)), (Jvm.Cond.methodLink "CrossroadsChooseModel" (287 : Nat) ({ cls := "CrossroadsChooseModel", name := "areComer", desc := "(I)Z" } : Jvm.MethodName)), (Jvm.Cond.privateMethod ({ cls := "CrossroadsChooseModel", name := "areComer", desc := "(I)Z" } : Jvm.MethodName)), (Jvm.Cond.instanceMethod ({ cls := "CrossroadsChooseModel", name := "areComer", desc := "(I)Z" } : Jvm.MethodName)), (Jvm.Cond.code ({ cls := "CrossroadsChooseModel", name := "areComer", desc := "(I)Z" } : Jvm.MethodName) prog_12_method_6_code (2 : Nat) (Option.some Jvm.ClassFile.FieldType.boolean)), (Jvm.Cond.methodLink "CrossroadsChooseModel" (283 : Nat) ({ cls := "CrossroadsChooseModel", name := "goAhead", desc := "(IIII)Z" } : Jvm.MethodName)), (Jvm.Cond.privateMethod ({ cls := "CrossroadsChooseModel", name := "goAhead", desc := "(IIII)Z" } : Jvm.MethodName)), (Jvm.Cond.instanceMethod ({ cls := "CrossroadsChooseModel", name := "goAhead", desc := "(IIII)Z" } : Jvm.MethodName)), (Jvm.Cond.code ({ cls := "CrossroadsChooseModel", name := "goAhead", desc := "(IIII)Z" } : Jvm.MethodName) prog_12_method_56_code (9 : Nat) (Option.some Jvm.ClassFile.FieldType.boolean)), (Jvm.Cond.methodLink "CrossroadsChooseLaw" (73 : Nat) ({ cls := "CrossroadsChooseModel", name := "again", desc := "(I)I" } : Jvm.MethodName)), (Jvm.Cond.instanceMethod ({ cls := "CrossroadsChooseModel", name := "again", desc := "(I)I" } : Jvm.MethodName)), (Jvm.Cond.selects "CrossroadsChooseModel" ({ cls := "CrossroadsChooseModel", name := "again", desc := "(I)I" } : Jvm.MethodName) ({ cls := "CrossroadsChooseModel", name := "again", desc := "(I)I" } : Jvm.MethodName)), (Jvm.Cond.code ({ cls := "CrossroadsChooseModel", name := "again", desc := "(I)I" } : Jvm.MethodName) prog_12_method_58_code (3 : Nat) (Option.some Jvm.ClassFile.FieldType.int)), (Jvm.Cond.methodLink "CrossroadsChooseLaw" (77 : Nat) ({ cls := "CrossroadsChooseModel", name := "green", desc := "()I" } : Jvm.MethodName)), (Jvm.Cond.instanceMethod ({ cls := "CrossroadsChooseModel", name := "green", desc := "()I" } : Jvm.MethodName)), (Jvm.Cond.selects "CrossroadsChooseModel" ({ cls := "CrossroadsChooseModel", name := "green", desc := "()I" } : Jvm.MethodName) ({ cls := "CrossroadsChooseModel", name := "green", desc := "()I" } : Jvm.MethodName))]) : w ∈ lw_tbl := tk_6 (List.mem_of_mem_drop (i := 16) (List.mem_of_mem_take (i := 16) ((show (tables_1_6.drop 16).take 16 = [(Jvm.Cond.code ({ cls := "CrossroadsChooseModel", name := "ahead", desc := "(II)I" } : Jvm.MethodName) prog_12_method_57_code (4 : Nat) (Option.some Jvm.ClassFile.FieldType.int)), (Jvm.Cond.methodLink "CrossroadsChooseModel" (287 : Nat) ({ cls := "CrossroadsChooseModel", name := "areComer", desc := "(I)Z" } : Jvm.MethodName)), (Jvm.Cond.privateMethod ({ cls := "CrossroadsChooseModel", name := "areComer", desc := "(I)Z" } : Jvm.MethodName)), (Jvm.Cond.instanceMethod ({ cls := "CrossroadsChooseModel", name := "areComer", desc := "(I)Z" } : Jvm.MethodName)), (Jvm.Cond.code ({ cls := "CrossroadsChooseModel", name := "areComer", desc := "(I)Z" } : Jvm.MethodName) prog_12_method_6_code (2 : Nat) (Option.some Jvm.ClassFile.FieldType.boolean)), (Jvm.Cond.methodLink "CrossroadsChooseModel" (283 : Nat) ({ cls := "CrossroadsChooseModel", name := "goAhead", desc := "(IIII)Z" } : Jvm.MethodName)), (Jvm.Cond.privateMethod ({ cls := "CrossroadsChooseModel", name := "goAhead", desc := "(IIII)Z" } : Jvm.MethodName)), (Jvm.Cond.instanceMethod ({ cls := "CrossroadsChooseModel", name := "goAhead", desc := "(IIII)Z" } : Jvm.MethodName)), (Jvm.Cond.code ({ cls := "CrossroadsChooseModel", name := "goAhead", desc := "(IIII)Z" } : Jvm.MethodName) prog_12_method_56_code (9 : Nat) (Option.some Jvm.ClassFile.FieldType.boolean)), (Jvm.Cond.methodLink "CrossroadsChooseLaw" (73 : Nat) ({ cls := "CrossroadsChooseModel", name := "again", desc := "(I)I" } : Jvm.MethodName)), (Jvm.Cond.instanceMethod ({ cls := "CrossroadsChooseModel", name := "again", desc := "(I)I" } : Jvm.MethodName)), (Jvm.Cond.selects "CrossroadsChooseModel" ({ cls := "CrossroadsChooseModel", name := "again", desc := "(I)I" } : Jvm.MethodName) ({ cls := "CrossroadsChooseModel", name := "again", desc := "(I)I" } : Jvm.MethodName)), (Jvm.Cond.code ({ cls := "CrossroadsChooseModel", name := "again", desc := "(I)I" } : Jvm.MethodName) prog_12_method_58_code (3 : Nat) (Option.some Jvm.ClassFile.FieldType.int)), (Jvm.Cond.methodLink "CrossroadsChooseLaw" (77 : Nat) ({ cls := "CrossroadsChooseModel", name := "green", desc := "()I" } : Jvm.MethodName)), (Jvm.Cond.instanceMethod ({ cls := "CrossroadsChooseModel", name := "green", desc := "()I" } : Jvm.MethodName)), (Jvm.Cond.selects "CrossroadsChooseModel" ({ cls := "CrossroadsChooseModel", name := "green", desc := "()I" } : Jvm.MethodName) ({ cls := "CrossroadsChooseModel", name := "green", desc := "()I" } : Jvm.MethodName))] from rfl) ▸ h)))
theorem ck_6_32 (w : Cond) (h : w ∈ [(Jvm.Cond.code ({ cls := "CrossroadsChooseModel", name := "green", desc := "()I" } : Jvm.MethodName) prog_12_method_59_code (3 : Nat) (Option.some Jvm.ClassFile.FieldType.int)), (Jvm.Cond.methodLink "CrossroadsChooseLaw" (81 : Nat) ({ cls := "CrossroadsChooseModel", name := "second", desc := "(II)I" } : Jvm.MethodName)), (Jvm.Cond.instanceMethod ({ cls := "CrossroadsChooseModel", name := "second", desc := "(II)I" } : Jvm.MethodName)), (Jvm.Cond.selects "CrossroadsChooseModel" ({ cls := "CrossroadsChooseModel", name := "second", desc := "(II)I" } : Jvm.MethodName) ({ cls := "CrossroadsChooseModel", name := "second", desc := "(II)I" } : Jvm.MethodName)), (Jvm.Cond.code ({ cls := "CrossroadsChooseModel", name := "second", desc := "(II)I" } : Jvm.MethodName) prog_12_method_61_code (3 : Nat) (Option.some Jvm.ClassFile.FieldType.int)), (Jvm.Cond.methodLink "CrossroadsChooseModel" (293 : Nat) ({ cls := "CrossroadsChooseModel", name := "findAsked", desc := "(I)V" } : Jvm.MethodName)), (Jvm.Cond.privateMethod ({ cls := "CrossroadsChooseModel", name := "findAsked", desc := "(I)V" } : Jvm.MethodName)), (Jvm.Cond.instanceMethod ({ cls := "CrossroadsChooseModel", name := "findAsked", desc := "(I)V" } : Jvm.MethodName)), (Jvm.Cond.code ({ cls := "CrossroadsChooseModel", name := "findAsked", desc := "(I)V" } : Jvm.MethodName) prog_12_method_60_code (4 : Nat) (Option.none : Option Jvm.ClassFile.FieldType)), (Jvm.Cond.methodLink "CrossroadsChooseLaw" (85 : Nat) ({ cls := "CrossroadsChooseModel", name := "sit", desc := "(II)I" } : Jvm.MethodName)), (Jvm.Cond.instanceMethod ({ cls := "CrossroadsChooseModel", name := "sit", desc := "(II)I" } : Jvm.MethodName)), (Jvm.Cond.selects "CrossroadsChooseModel" ({ cls := "CrossroadsChooseModel", name := "sit", desc := "(II)I" } : Jvm.MethodName) ({ cls := "CrossroadsChooseModel", name := "sit", desc := "(II)I" } : Jvm.MethodName)), (Jvm.Cond.code ({ cls := "CrossroadsChooseModel", name := "sit", desc := "(II)I" } : Jvm.MethodName) prog_12_method_62_code (5 : Nat) (Option.some Jvm.ClassFile.FieldType.int)), (Jvm.Cond.methodLink "CrossroadsChooseLaw" (90 : Nat) ({ cls := "CrossroadsChooseModel", name := "power", desc := "(II)J" } : Jvm.MethodName)), (Jvm.Cond.instanceMethod ({ cls := "CrossroadsChooseModel", name := "power", desc := "(II)J" } : Jvm.MethodName)), (Jvm.Cond.selects "CrossroadsChooseModel" ({ cls := "CrossroadsChooseModel", name := "power", desc := "(II)J" } : Jvm.MethodName) ({ cls := "CrossroadsChooseModel", name := "power", desc := "(II)J" } : Jvm.MethodName))]) : w ∈ lw_tbl := tk_6 (List.mem_of_mem_drop (i := 32) (List.mem_of_mem_take (i := 16) ((show (tables_1_6.drop 32).take 16 = [(Jvm.Cond.code ({ cls := "CrossroadsChooseModel", name := "green", desc := "()I" } : Jvm.MethodName) prog_12_method_59_code (3 : Nat) (Option.some Jvm.ClassFile.FieldType.int)), (Jvm.Cond.methodLink "CrossroadsChooseLaw" (81 : Nat) ({ cls := "CrossroadsChooseModel", name := "second", desc := "(II)I" } : Jvm.MethodName)), (Jvm.Cond.instanceMethod ({ cls := "CrossroadsChooseModel", name := "second", desc := "(II)I" } : Jvm.MethodName)), (Jvm.Cond.selects "CrossroadsChooseModel" ({ cls := "CrossroadsChooseModel", name := "second", desc := "(II)I" } : Jvm.MethodName) ({ cls := "CrossroadsChooseModel", name := "second", desc := "(II)I" } : Jvm.MethodName)), (Jvm.Cond.code ({ cls := "CrossroadsChooseModel", name := "second", desc := "(II)I" } : Jvm.MethodName) prog_12_method_61_code (3 : Nat) (Option.some Jvm.ClassFile.FieldType.int)), (Jvm.Cond.methodLink "CrossroadsChooseModel" (293 : Nat) ({ cls := "CrossroadsChooseModel", name := "findAsked", desc := "(I)V" } : Jvm.MethodName)), (Jvm.Cond.privateMethod ({ cls := "CrossroadsChooseModel", name := "findAsked", desc := "(I)V" } : Jvm.MethodName)), (Jvm.Cond.instanceMethod ({ cls := "CrossroadsChooseModel", name := "findAsked", desc := "(I)V" } : Jvm.MethodName)), (Jvm.Cond.code ({ cls := "CrossroadsChooseModel", name := "findAsked", desc := "(I)V" } : Jvm.MethodName) prog_12_method_60_code (4 : Nat) (Option.none : Option Jvm.ClassFile.FieldType)), (Jvm.Cond.methodLink "CrossroadsChooseLaw" (85 : Nat) ({ cls := "CrossroadsChooseModel", name := "sit", desc := "(II)I" } : Jvm.MethodName)), (Jvm.Cond.instanceMethod ({ cls := "CrossroadsChooseModel", name := "sit", desc := "(II)I" } : Jvm.MethodName)), (Jvm.Cond.selects "CrossroadsChooseModel" ({ cls := "CrossroadsChooseModel", name := "sit", desc := "(II)I" } : Jvm.MethodName) ({ cls := "CrossroadsChooseModel", name := "sit", desc := "(II)I" } : Jvm.MethodName)), (Jvm.Cond.code ({ cls := "CrossroadsChooseModel", name := "sit", desc := "(II)I" } : Jvm.MethodName) prog_12_method_62_code (5 : Nat) (Option.some Jvm.ClassFile.FieldType.int)), (Jvm.Cond.methodLink "CrossroadsChooseLaw" (90 : Nat) ({ cls := "CrossroadsChooseModel", name := "power", desc := "(II)J" } : Jvm.MethodName)), (Jvm.Cond.instanceMethod ({ cls := "CrossroadsChooseModel", name := "power", desc := "(II)J" } : Jvm.MethodName)), (Jvm.Cond.selects "CrossroadsChooseModel" ({ cls := "CrossroadsChooseModel", name := "power", desc := "(II)J" } : Jvm.MethodName) ({ cls := "CrossroadsChooseModel", name := "power", desc := "(II)J" } : Jvm.MethodName))] from rfl) ▸ h)))
theorem ck_6_48 (w : Cond) (h : w ∈ [(Jvm.Cond.code ({ cls := "CrossroadsChooseModel", name := "power", desc := "(II)J" } : Jvm.MethodName) prog_12_method_67_code (6 : Nat) (Option.some Jvm.ClassFile.FieldType.long)), (Jvm.Cond.constantLong "CrossroadsChooseModel" (296 : Nat) (-9223372036854775808 : Int64)), (Jvm.Cond.methodLink "CrossroadsChooseModel" (298 : Nat) ({ cls := "CrossroadsChooseModel", name := "winsBy", desc := "(I)Z" } : Jvm.MethodName)), (Jvm.Cond.privateMethod ({ cls := "CrossroadsChooseModel", name := "winsBy", desc := "(I)Z" } : Jvm.MethodName)), (Jvm.Cond.instanceMethod ({ cls := "CrossroadsChooseModel", name := "winsBy", desc := "(I)Z" } : Jvm.MethodName)), (Jvm.Cond.code ({ cls := "CrossroadsChooseModel", name := "winsBy", desc := "(I)Z" } : Jvm.MethodName) prog_12_method_63_code (4 : Nat) (Option.some Jvm.ClassFile.FieldType.boolean)), (Jvm.Cond.methodLink "CrossroadsChooseModel" (301 : Nat) ({ cls := "CrossroadsChooseModel", name := "bitsOf", desc := "(I)I" } : Jvm.MethodName)), (Jvm.Cond.static ({ cls := "CrossroadsChooseModel", name := "bitsOf", desc := "(I)I" } : Jvm.MethodName)), (Jvm.Cond.code ({ cls := "CrossroadsChooseModel", name := "bitsOf", desc := "(I)I" } : Jvm.MethodName) prog_12_method_66_code (3 : Nat) (Option.some Jvm.ClassFile.FieldType.int)), (Jvm.Cond.methodLink "CrossroadsChooseModel" (304 : Nat) ({ cls := "CrossroadsChooseModel", name := "factorial", desc := "(I)I" } : Jvm.MethodName)), (Jvm.Cond.static ({ cls := "CrossroadsChooseModel", name := "factorial", desc := "(I)I" } : Jvm.MethodName)), (Jvm.Cond.code ({ cls := "CrossroadsChooseModel", name := "factorial", desc := "(I)I" } : Jvm.MethodName) prog_12_method_65_code (3 : Nat) (Option.some Jvm.ClassFile.FieldType.int)), (Jvm.Cond.methodLink "CrossroadsChooseModel" (307 : Nat) ({ cls := "CrossroadsChooseModel", name := "lowest", desc := "(JJI)J" } : Jvm.MethodName)), (Jvm.Cond.static ({ cls := "CrossroadsChooseModel", name := "lowest", desc := "(JJI)J" } : Jvm.MethodName)), (Jvm.Cond.code ({ cls := "CrossroadsChooseModel", name := "lowest", desc := "(JJI)J" } : Jvm.MethodName) prog_12_method_64_code (11 : Nat) (Option.some Jvm.ClassFile.FieldType.long)), (Jvm.Cond.methodLink "CrossroadsChooseLaw" (94 : Nat) ({ cls := "CrossroadsChooseModel", name := "winning", desc := "(I)I" } : Jvm.MethodName))]) : w ∈ lw_tbl := tk_6 (List.mem_of_mem_drop (i := 48) (List.mem_of_mem_take (i := 16) ((show (tables_1_6.drop 48).take 16 = [(Jvm.Cond.code ({ cls := "CrossroadsChooseModel", name := "power", desc := "(II)J" } : Jvm.MethodName) prog_12_method_67_code (6 : Nat) (Option.some Jvm.ClassFile.FieldType.long)), (Jvm.Cond.constantLong "CrossroadsChooseModel" (296 : Nat) (-9223372036854775808 : Int64)), (Jvm.Cond.methodLink "CrossroadsChooseModel" (298 : Nat) ({ cls := "CrossroadsChooseModel", name := "winsBy", desc := "(I)Z" } : Jvm.MethodName)), (Jvm.Cond.privateMethod ({ cls := "CrossroadsChooseModel", name := "winsBy", desc := "(I)Z" } : Jvm.MethodName)), (Jvm.Cond.instanceMethod ({ cls := "CrossroadsChooseModel", name := "winsBy", desc := "(I)Z" } : Jvm.MethodName)), (Jvm.Cond.code ({ cls := "CrossroadsChooseModel", name := "winsBy", desc := "(I)Z" } : Jvm.MethodName) prog_12_method_63_code (4 : Nat) (Option.some Jvm.ClassFile.FieldType.boolean)), (Jvm.Cond.methodLink "CrossroadsChooseModel" (301 : Nat) ({ cls := "CrossroadsChooseModel", name := "bitsOf", desc := "(I)I" } : Jvm.MethodName)), (Jvm.Cond.static ({ cls := "CrossroadsChooseModel", name := "bitsOf", desc := "(I)I" } : Jvm.MethodName)), (Jvm.Cond.code ({ cls := "CrossroadsChooseModel", name := "bitsOf", desc := "(I)I" } : Jvm.MethodName) prog_12_method_66_code (3 : Nat) (Option.some Jvm.ClassFile.FieldType.int)), (Jvm.Cond.methodLink "CrossroadsChooseModel" (304 : Nat) ({ cls := "CrossroadsChooseModel", name := "factorial", desc := "(I)I" } : Jvm.MethodName)), (Jvm.Cond.static ({ cls := "CrossroadsChooseModel", name := "factorial", desc := "(I)I" } : Jvm.MethodName)), (Jvm.Cond.code ({ cls := "CrossroadsChooseModel", name := "factorial", desc := "(I)I" } : Jvm.MethodName) prog_12_method_65_code (3 : Nat) (Option.some Jvm.ClassFile.FieldType.int)), (Jvm.Cond.methodLink "CrossroadsChooseModel" (307 : Nat) ({ cls := "CrossroadsChooseModel", name := "lowest", desc := "(JJI)J" } : Jvm.MethodName)), (Jvm.Cond.static ({ cls := "CrossroadsChooseModel", name := "lowest", desc := "(JJI)J" } : Jvm.MethodName)), (Jvm.Cond.code ({ cls := "CrossroadsChooseModel", name := "lowest", desc := "(JJI)J" } : Jvm.MethodName) prog_12_method_64_code (11 : Nat) (Option.some Jvm.ClassFile.FieldType.long)), (Jvm.Cond.methodLink "CrossroadsChooseLaw" (94 : Nat) ({ cls := "CrossroadsChooseModel", name := "winning", desc := "(I)I" } : Jvm.MethodName))] from rfl) ▸ h)))
theorem ck_6_64 (w : Cond) (h : w ∈ [(Jvm.Cond.instanceMethod ({ cls := "CrossroadsChooseModel", name := "winning", desc := "(I)I" } : Jvm.MethodName)), (Jvm.Cond.selects "CrossroadsChooseModel" ({ cls := "CrossroadsChooseModel", name := "winning", desc := "(I)I" } : Jvm.MethodName) ({ cls := "CrossroadsChooseModel", name := "winning", desc := "(I)I" } : Jvm.MethodName)), (Jvm.Cond.code ({ cls := "CrossroadsChooseModel", name := "winning", desc := "(I)I" } : Jvm.MethodName) prog_12_method_69_code (9 : Nat) (Option.some Jvm.ClassFile.FieldType.int)), (Jvm.Cond.methodLink "CrossroadsChooseModel" (311 : Nat) ({ cls := "CrossroadsChooseModel", name := "isJust", desc := "(I)Z" } : Jvm.MethodName)), (Jvm.Cond.privateMethod ({ cls := "CrossroadsChooseModel", name := "isJust", desc := "(I)Z" } : Jvm.MethodName)), (Jvm.Cond.instanceMethod ({ cls := "CrossroadsChooseModel", name := "isJust", desc := "(I)Z" } : Jvm.MethodName)), (Jvm.Cond.code ({ cls := "CrossroadsChooseModel", name := "isJust", desc := "(I)Z" } : Jvm.MethodName) prog_12_method_68_code (3 : Nat) (Option.some Jvm.ClassFile.FieldType.boolean)), (Jvm.Cond.methodLink "CrossroadsChooseLaw" (98 : Nat) ({ cls := "CrossroadsChooseModel", name := "more", desc := "(I)I" } : Jvm.MethodName)), (Jvm.Cond.instanceMethod ({ cls := "CrossroadsChooseModel", name := "more", desc := "(I)I" } : Jvm.MethodName)), (Jvm.Cond.selects "CrossroadsChooseModel" ({ cls := "CrossroadsChooseModel", name := "more", desc := "(I)I" } : Jvm.MethodName) ({ cls := "CrossroadsChooseModel", name := "more", desc := "(I)I" } : Jvm.MethodName)), (Jvm.Cond.code ({ cls := "CrossroadsChooseModel", name := "more", desc := "(I)I" } : Jvm.MethodName) prog_12_method_70_code (6 : Nat) (Option.some Jvm.ClassFile.FieldType.int)), (Jvm.Cond.methodLink "CrossroadsChooseLaw" (102 : Nat) ({ cls := "CrossroadsChooseModel", name := "whatever", desc := "(II)I" } : Jvm.MethodName)), (Jvm.Cond.instanceMethod ({ cls := "CrossroadsChooseModel", name := "whatever", desc := "(II)I" } : Jvm.MethodName)), (Jvm.Cond.selects "CrossroadsChooseModel" ({ cls := "CrossroadsChooseModel", name := "whatever", desc := "(II)I" } : Jvm.MethodName) ({ cls := "CrossroadsChooseModel", name := "whatever", desc := "(II)I" } : Jvm.MethodName)), (Jvm.Cond.code ({ cls := "CrossroadsChooseModel", name := "whatever", desc := "(II)I" } : Jvm.MethodName) prog_12_method_72_code (6 : Nat) (Option.some Jvm.ClassFile.FieldType.int)), (Jvm.Cond.methodLink "CrossroadsChooseModel" (314 : Nat) ({ cls := "CrossroadsChooseModel", name := "hasAll", desc := "(II)Z" } : Jvm.MethodName))]) : w ∈ lw_tbl := tk_6 (List.mem_of_mem_drop (i := 64) (List.mem_of_mem_take (i := 16) ((show (tables_1_6.drop 64).take 16 = [(Jvm.Cond.instanceMethod ({ cls := "CrossroadsChooseModel", name := "winning", desc := "(I)I" } : Jvm.MethodName)), (Jvm.Cond.selects "CrossroadsChooseModel" ({ cls := "CrossroadsChooseModel", name := "winning", desc := "(I)I" } : Jvm.MethodName) ({ cls := "CrossroadsChooseModel", name := "winning", desc := "(I)I" } : Jvm.MethodName)), (Jvm.Cond.code ({ cls := "CrossroadsChooseModel", name := "winning", desc := "(I)I" } : Jvm.MethodName) prog_12_method_69_code (9 : Nat) (Option.some Jvm.ClassFile.FieldType.int)), (Jvm.Cond.methodLink "CrossroadsChooseModel" (311 : Nat) ({ cls := "CrossroadsChooseModel", name := "isJust", desc := "(I)Z" } : Jvm.MethodName)), (Jvm.Cond.privateMethod ({ cls := "CrossroadsChooseModel", name := "isJust", desc := "(I)Z" } : Jvm.MethodName)), (Jvm.Cond.instanceMethod ({ cls := "CrossroadsChooseModel", name := "isJust", desc := "(I)Z" } : Jvm.MethodName)), (Jvm.Cond.code ({ cls := "CrossroadsChooseModel", name := "isJust", desc := "(I)Z" } : Jvm.MethodName) prog_12_method_68_code (3 : Nat) (Option.some Jvm.ClassFile.FieldType.boolean)), (Jvm.Cond.methodLink "CrossroadsChooseLaw" (98 : Nat) ({ cls := "CrossroadsChooseModel", name := "more", desc := "(I)I" } : Jvm.MethodName)), (Jvm.Cond.instanceMethod ({ cls := "CrossroadsChooseModel", name := "more", desc := "(I)I" } : Jvm.MethodName)), (Jvm.Cond.selects "CrossroadsChooseModel" ({ cls := "CrossroadsChooseModel", name := "more", desc := "(I)I" } : Jvm.MethodName) ({ cls := "CrossroadsChooseModel", name := "more", desc := "(I)I" } : Jvm.MethodName)), (Jvm.Cond.code ({ cls := "CrossroadsChooseModel", name := "more", desc := "(I)I" } : Jvm.MethodName) prog_12_method_70_code (6 : Nat) (Option.some Jvm.ClassFile.FieldType.int)), (Jvm.Cond.methodLink "CrossroadsChooseLaw" (102 : Nat) ({ cls := "CrossroadsChooseModel", name := "whatever", desc := "(II)I" } : Jvm.MethodName)), (Jvm.Cond.instanceMethod ({ cls := "CrossroadsChooseModel", name := "whatever", desc := "(II)I" } : Jvm.MethodName)), (Jvm.Cond.selects "CrossroadsChooseModel" ({ cls := "CrossroadsChooseModel", name := "whatever", desc := "(II)I" } : Jvm.MethodName) ({ cls := "CrossroadsChooseModel", name := "whatever", desc := "(II)I" } : Jvm.MethodName)), (Jvm.Cond.code ({ cls := "CrossroadsChooseModel", name := "whatever", desc := "(II)I" } : Jvm.MethodName) prog_12_method_72_code (6 : Nat) (Option.some Jvm.ClassFile.FieldType.int)), (Jvm.Cond.methodLink "CrossroadsChooseModel" (314 : Nat) ({ cls := "CrossroadsChooseModel", name := "hasAll", desc := "(II)Z" } : Jvm.MethodName))] from rfl) ▸ h)))
theorem ck_6_80 (w : Cond) (h : w ∈ [(Jvm.Cond.privateMethod ({ cls := "CrossroadsChooseModel", name := "hasAll", desc := "(II)Z" } : Jvm.MethodName)), (Jvm.Cond.instanceMethod ({ cls := "CrossroadsChooseModel", name := "hasAll", desc := "(II)Z" } : Jvm.MethodName)), (Jvm.Cond.code ({ cls := "CrossroadsChooseModel", name := "hasAll", desc := "(II)Z" } : Jvm.MethodName) prog_12_method_71_code (4 : Nat) (Option.some Jvm.ClassFile.FieldType.boolean)), (Jvm.Cond.methodLink "CrossroadsChooseLaw" (106 : Nat) ({ cls := "CrossroadsChooseModel", name := "least", desc := "()I" } : Jvm.MethodName)), (Jvm.Cond.instanceMethod ({ cls := "CrossroadsChooseModel", name := "least", desc := "()I" } : Jvm.MethodName)), (Jvm.Cond.selects "CrossroadsChooseModel" ({ cls := "CrossroadsChooseModel", name := "least", desc := "()I" } : Jvm.MethodName) ({ cls := "CrossroadsChooseModel", name := "least", desc := "()I" } : Jvm.MethodName)), (Jvm.Cond.code ({ cls := "CrossroadsChooseModel", name := "least", desc := "()I" } : Jvm.MethodName) prog_12_method_73_code (5 : Nat) (Option.some Jvm.ClassFile.FieldType.int)), (Jvm.Cond.methodLink "CrossroadsChooseLaw" (110 : Nat) ({ cls := "CrossroadsChooseModel", name := "judge", desc := "(I)I" } : Jvm.MethodName)), (Jvm.Cond.instanceMethod ({ cls := "CrossroadsChooseModel", name := "judge", desc := "(I)I" } : Jvm.MethodName)), (Jvm.Cond.selects "CrossroadsChooseModel" ({ cls := "CrossroadsChooseModel", name := "judge", desc := "(I)I" } : Jvm.MethodName) ({ cls := "CrossroadsChooseModel", name := "judge", desc := "(I)I" } : Jvm.MethodName)), (Jvm.Cond.code ({ cls := "CrossroadsChooseModel", name := "judge", desc := "(I)I" } : Jvm.MethodName) prog_12_method_75_code (2 : Nat) (Option.some Jvm.ClassFile.FieldType.int)), (Jvm.Cond.methodLink "CrossroadsChooseModel" (317 : Nat) ({ cls := "CrossroadsChooseModel", name := "wrongTwo", desc := "(I)I" } : Jvm.MethodName)), (Jvm.Cond.privateMethod ({ cls := "CrossroadsChooseModel", name := "wrongTwo", desc := "(I)I" } : Jvm.MethodName)), (Jvm.Cond.instanceMethod ({ cls := "CrossroadsChooseModel", name := "wrongTwo", desc := "(I)I" } : Jvm.MethodName)), (Jvm.Cond.code ({ cls := "CrossroadsChooseModel", name := "wrongTwo", desc := "(I)I" } : Jvm.MethodName) prog_12_method_74_code (3 : Nat) (Option.some Jvm.ClassFile.FieldType.int)), (Jvm.Cond.methodLink "CrossroadsChooseLaw" (114 : Nat) ({ cls := "CrossroadsChooseModel", name := "liking", desc := "(III)I" } : Jvm.MethodName))]) : w ∈ lw_tbl := tk_6 (List.mem_of_mem_drop (i := 80) (List.mem_of_mem_take (i := 16) ((show (tables_1_6.drop 80).take 16 = [(Jvm.Cond.privateMethod ({ cls := "CrossroadsChooseModel", name := "hasAll", desc := "(II)Z" } : Jvm.MethodName)), (Jvm.Cond.instanceMethod ({ cls := "CrossroadsChooseModel", name := "hasAll", desc := "(II)Z" } : Jvm.MethodName)), (Jvm.Cond.code ({ cls := "CrossroadsChooseModel", name := "hasAll", desc := "(II)Z" } : Jvm.MethodName) prog_12_method_71_code (4 : Nat) (Option.some Jvm.ClassFile.FieldType.boolean)), (Jvm.Cond.methodLink "CrossroadsChooseLaw" (106 : Nat) ({ cls := "CrossroadsChooseModel", name := "least", desc := "()I" } : Jvm.MethodName)), (Jvm.Cond.instanceMethod ({ cls := "CrossroadsChooseModel", name := "least", desc := "()I" } : Jvm.MethodName)), (Jvm.Cond.selects "CrossroadsChooseModel" ({ cls := "CrossroadsChooseModel", name := "least", desc := "()I" } : Jvm.MethodName) ({ cls := "CrossroadsChooseModel", name := "least", desc := "()I" } : Jvm.MethodName)), (Jvm.Cond.code ({ cls := "CrossroadsChooseModel", name := "least", desc := "()I" } : Jvm.MethodName) prog_12_method_73_code (5 : Nat) (Option.some Jvm.ClassFile.FieldType.int)), (Jvm.Cond.methodLink "CrossroadsChooseLaw" (110 : Nat) ({ cls := "CrossroadsChooseModel", name := "judge", desc := "(I)I" } : Jvm.MethodName)), (Jvm.Cond.instanceMethod ({ cls := "CrossroadsChooseModel", name := "judge", desc := "(I)I" } : Jvm.MethodName)), (Jvm.Cond.selects "CrossroadsChooseModel" ({ cls := "CrossroadsChooseModel", name := "judge", desc := "(I)I" } : Jvm.MethodName) ({ cls := "CrossroadsChooseModel", name := "judge", desc := "(I)I" } : Jvm.MethodName)), (Jvm.Cond.code ({ cls := "CrossroadsChooseModel", name := "judge", desc := "(I)I" } : Jvm.MethodName) prog_12_method_75_code (2 : Nat) (Option.some Jvm.ClassFile.FieldType.int)), (Jvm.Cond.methodLink "CrossroadsChooseModel" (317 : Nat) ({ cls := "CrossroadsChooseModel", name := "wrongTwo", desc := "(I)I" } : Jvm.MethodName)), (Jvm.Cond.privateMethod ({ cls := "CrossroadsChooseModel", name := "wrongTwo", desc := "(I)I" } : Jvm.MethodName)), (Jvm.Cond.instanceMethod ({ cls := "CrossroadsChooseModel", name := "wrongTwo", desc := "(I)I" } : Jvm.MethodName)), (Jvm.Cond.code ({ cls := "CrossroadsChooseModel", name := "wrongTwo", desc := "(I)I" } : Jvm.MethodName) prog_12_method_74_code (3 : Nat) (Option.some Jvm.ClassFile.FieldType.int)), (Jvm.Cond.methodLink "CrossroadsChooseLaw" (114 : Nat) ({ cls := "CrossroadsChooseModel", name := "liking", desc := "(III)I" } : Jvm.MethodName))] from rfl) ▸ h)))
theorem ck_6_96 (w : Cond) (h : w ∈ [(Jvm.Cond.instanceMethod ({ cls := "CrossroadsChooseModel", name := "liking", desc := "(III)I" } : Jvm.MethodName)), (Jvm.Cond.selects "CrossroadsChooseModel" ({ cls := "CrossroadsChooseModel", name := "liking", desc := "(III)I" } : Jvm.MethodName) ({ cls := "CrossroadsChooseModel", name := "liking", desc := "(III)I" } : Jvm.MethodName)), (Jvm.Cond.code ({ cls := "CrossroadsChooseModel", name := "liking", desc := "(III)I" } : Jvm.MethodName) prog_12_method_76_code (8 : Nat) (Option.some Jvm.ClassFile.FieldType.int)), (Jvm.Cond.methodLink "CrossroadsChooseLaw" (118 : Nat) ({ cls := "CrossroadsChooseModel", name := "waited", desc := "(III)I" } : Jvm.MethodName)), (Jvm.Cond.instanceMethod ({ cls := "CrossroadsChooseModel", name := "waited", desc := "(III)I" } : Jvm.MethodName)), (Jvm.Cond.selects "CrossroadsChooseModel" ({ cls := "CrossroadsChooseModel", name := "waited", desc := "(III)I" } : Jvm.MethodName) ({ cls := "CrossroadsChooseModel", name := "waited", desc := "(III)I" } : Jvm.MethodName)), (Jvm.Cond.code ({ cls := "CrossroadsChooseModel", name := "waited", desc := "(III)I" } : Jvm.MethodName) prog_12_method_77_code (8 : Nat) (Option.some Jvm.ClassFile.FieldType.int)), (Jvm.Cond.methodLink "CrossroadsChooseLaw" (122 : Nat) ({ cls := "CrossroadsChooseModel", name := "fair", desc := "(II)I" } : Jvm.MethodName)), (Jvm.Cond.instanceMethod ({ cls := "CrossroadsChooseModel", name := "fair", desc := "(II)I" } : Jvm.MethodName)), (Jvm.Cond.selects "CrossroadsChooseModel" ({ cls := "CrossroadsChooseModel", name := "fair", desc := "(II)I" } : Jvm.MethodName) ({ cls := "CrossroadsChooseModel", name := "fair", desc := "(II)I" } : Jvm.MethodName)), (Jvm.Cond.code ({ cls := "CrossroadsChooseModel", name := "fair", desc := "(II)I" } : Jvm.MethodName) prog_12_method_78_code (6 : Nat) (Option.some Jvm.ClassFile.FieldType.int)), (Jvm.Cond.methodLink "CrossroadsChooseLaw" (126 : Nat) ({ cls := "CrossroadsChooseModel", name := "drawn", desc := "(III)I" } : Jvm.MethodName)), (Jvm.Cond.instanceMethod ({ cls := "CrossroadsChooseModel", name := "drawn", desc := "(III)I" } : Jvm.MethodName)), (Jvm.Cond.selects "CrossroadsChooseModel" ({ cls := "CrossroadsChooseModel", name := "drawn", desc := "(III)I" } : Jvm.MethodName) ({ cls := "CrossroadsChooseModel", name := "drawn", desc := "(III)I" } : Jvm.MethodName)), (Jvm.Cond.code ({ cls := "CrossroadsChooseModel", name := "drawn", desc := "(III)I" } : Jvm.MethodName) prog_12_method_79_code (10 : Nat) (Option.some Jvm.ClassFile.FieldType.int)), (Jvm.Cond.constant "CrossroadsChooseModel" (320 : Nat) (1103515245 : Int32))]) : w ∈ lw_tbl := tk_6 (List.mem_of_mem_drop (i := 96) (List.mem_of_mem_take (i := 16) ((show (tables_1_6.drop 96).take 16 = [(Jvm.Cond.instanceMethod ({ cls := "CrossroadsChooseModel", name := "liking", desc := "(III)I" } : Jvm.MethodName)), (Jvm.Cond.selects "CrossroadsChooseModel" ({ cls := "CrossroadsChooseModel", name := "liking", desc := "(III)I" } : Jvm.MethodName) ({ cls := "CrossroadsChooseModel", name := "liking", desc := "(III)I" } : Jvm.MethodName)), (Jvm.Cond.code ({ cls := "CrossroadsChooseModel", name := "liking", desc := "(III)I" } : Jvm.MethodName) prog_12_method_76_code (8 : Nat) (Option.some Jvm.ClassFile.FieldType.int)), (Jvm.Cond.methodLink "CrossroadsChooseLaw" (118 : Nat) ({ cls := "CrossroadsChooseModel", name := "waited", desc := "(III)I" } : Jvm.MethodName)), (Jvm.Cond.instanceMethod ({ cls := "CrossroadsChooseModel", name := "waited", desc := "(III)I" } : Jvm.MethodName)), (Jvm.Cond.selects "CrossroadsChooseModel" ({ cls := "CrossroadsChooseModel", name := "waited", desc := "(III)I" } : Jvm.MethodName) ({ cls := "CrossroadsChooseModel", name := "waited", desc := "(III)I" } : Jvm.MethodName)), (Jvm.Cond.code ({ cls := "CrossroadsChooseModel", name := "waited", desc := "(III)I" } : Jvm.MethodName) prog_12_method_77_code (8 : Nat) (Option.some Jvm.ClassFile.FieldType.int)), (Jvm.Cond.methodLink "CrossroadsChooseLaw" (122 : Nat) ({ cls := "CrossroadsChooseModel", name := "fair", desc := "(II)I" } : Jvm.MethodName)), (Jvm.Cond.instanceMethod ({ cls := "CrossroadsChooseModel", name := "fair", desc := "(II)I" } : Jvm.MethodName)), (Jvm.Cond.selects "CrossroadsChooseModel" ({ cls := "CrossroadsChooseModel", name := "fair", desc := "(II)I" } : Jvm.MethodName) ({ cls := "CrossroadsChooseModel", name := "fair", desc := "(II)I" } : Jvm.MethodName)), (Jvm.Cond.code ({ cls := "CrossroadsChooseModel", name := "fair", desc := "(II)I" } : Jvm.MethodName) prog_12_method_78_code (6 : Nat) (Option.some Jvm.ClassFile.FieldType.int)), (Jvm.Cond.methodLink "CrossroadsChooseLaw" (126 : Nat) ({ cls := "CrossroadsChooseModel", name := "drawn", desc := "(III)I" } : Jvm.MethodName)), (Jvm.Cond.instanceMethod ({ cls := "CrossroadsChooseModel", name := "drawn", desc := "(III)I" } : Jvm.MethodName)), (Jvm.Cond.selects "CrossroadsChooseModel" ({ cls := "CrossroadsChooseModel", name := "drawn", desc := "(III)I" } : Jvm.MethodName) ({ cls := "CrossroadsChooseModel", name := "drawn", desc := "(III)I" } : Jvm.MethodName)), (Jvm.Cond.code ({ cls := "CrossroadsChooseModel", name := "drawn", desc := "(III)I" } : Jvm.MethodName) prog_12_method_79_code (10 : Nat) (Option.some Jvm.ClassFile.FieldType.int)), (Jvm.Cond.constant "CrossroadsChooseModel" (320 : Nat) (1103515245 : Int32))] from rfl) ▸ h)))
theorem ck_6_112 (w : Cond) (h : w ∈ [(Jvm.Cond.methodLink "CrossroadsChooseLaw" (130 : Nat) ({ cls := "CrossroadsChooseModel", name := "comes", desc := "(I)I" } : Jvm.MethodName)), (Jvm.Cond.instanceMethod ({ cls := "CrossroadsChooseModel", name := "comes", desc := "(I)I" } : Jvm.MethodName)), (Jvm.Cond.selects "CrossroadsChooseModel" ({ cls := "CrossroadsChooseModel", name := "comes", desc := "(I)I" } : Jvm.MethodName) ({ cls := "CrossroadsChooseModel", name := "comes", desc := "(I)I" } : Jvm.MethodName)), (Jvm.Cond.code ({ cls := "CrossroadsChooseModel", name := "comes", desc := "(I)I" } : Jvm.MethodName) prog_12_method_81_code (3 : Nat) (Option.some Jvm.ClassFile.FieldType.int)), (Jvm.Cond.methodLink "CrossroadsChooseModel" (321 : Nat) ({ cls := "CrossroadsChooseModel", name := "takesInDeed", desc := "(I)V" } : Jvm.MethodName)), (Jvm.Cond.privateMethod ({ cls := "CrossroadsChooseModel", name := "takesInDeed", desc := "(I)V" } : Jvm.MethodName)), (Jvm.Cond.instanceMethod ({ cls := "CrossroadsChooseModel", name := "takesInDeed", desc := "(I)V" } : Jvm.MethodName)), (Jvm.Cond.code ({ cls := "CrossroadsChooseModel", name := "takesInDeed", desc := "(I)V" } : Jvm.MethodName) prog_12_method_80_code (3 : Nat) (Option.none : Option Jvm.ClassFile.FieldType)), (Jvm.Cond.methodLink "CrossroadsChooseLaw" (134 : Nat) ({ cls := "CrossroadsChooseModel", name := "send", desc := "(I)I" } : Jvm.MethodName)), (Jvm.Cond.instanceMethod ({ cls := "CrossroadsChooseModel", name := "send", desc := "(I)I" } : Jvm.MethodName)), (Jvm.Cond.selects "CrossroadsChooseModel" ({ cls := "CrossroadsChooseModel", name := "send", desc := "(I)I" } : Jvm.MethodName) ({ cls := "CrossroadsChooseModel", name := "send", desc := "(I)I" } : Jvm.MethodName)), (Jvm.Cond.code ({ cls := "CrossroadsChooseModel", name := "send", desc := "(I)I" } : Jvm.MethodName) prog_12_method_82_code (3 : Nat) (Option.some Jvm.ClassFile.FieldType.int)), (Jvm.Cond.methodLink "CrossroadsChooseLaw" (138 : Nat) ({ cls := "CrossroadsChooseModel", name := "led", desc := "(I)I" } : Jvm.MethodName)), (Jvm.Cond.instanceMethod ({ cls := "CrossroadsChooseModel", name := "led", desc := "(I)I" } : Jvm.MethodName)), (Jvm.Cond.selects "CrossroadsChooseModel" ({ cls := "CrossroadsChooseModel", name := "led", desc := "(I)I" } : Jvm.MethodName) ({ cls := "CrossroadsChooseModel", name := "led", desc := "(I)I" } : Jvm.MethodName)), (Jvm.Cond.code ({ cls := "CrossroadsChooseModel", name := "led", desc := "(I)I" } : Jvm.MethodName) prog_12_method_83_code (2 : Nat) (Option.some Jvm.ClassFile.FieldType.int))]) : w ∈ lw_tbl := tk_6 (List.mem_of_mem_drop (i := 112) (List.mem_of_mem_take (i := 16) ((show (tables_1_6.drop 112).take 16 = [(Jvm.Cond.methodLink "CrossroadsChooseLaw" (130 : Nat) ({ cls := "CrossroadsChooseModel", name := "comes", desc := "(I)I" } : Jvm.MethodName)), (Jvm.Cond.instanceMethod ({ cls := "CrossroadsChooseModel", name := "comes", desc := "(I)I" } : Jvm.MethodName)), (Jvm.Cond.selects "CrossroadsChooseModel" ({ cls := "CrossroadsChooseModel", name := "comes", desc := "(I)I" } : Jvm.MethodName) ({ cls := "CrossroadsChooseModel", name := "comes", desc := "(I)I" } : Jvm.MethodName)), (Jvm.Cond.code ({ cls := "CrossroadsChooseModel", name := "comes", desc := "(I)I" } : Jvm.MethodName) prog_12_method_81_code (3 : Nat) (Option.some Jvm.ClassFile.FieldType.int)), (Jvm.Cond.methodLink "CrossroadsChooseModel" (321 : Nat) ({ cls := "CrossroadsChooseModel", name := "takesInDeed", desc := "(I)V" } : Jvm.MethodName)), (Jvm.Cond.privateMethod ({ cls := "CrossroadsChooseModel", name := "takesInDeed", desc := "(I)V" } : Jvm.MethodName)), (Jvm.Cond.instanceMethod ({ cls := "CrossroadsChooseModel", name := "takesInDeed", desc := "(I)V" } : Jvm.MethodName)), (Jvm.Cond.code ({ cls := "CrossroadsChooseModel", name := "takesInDeed", desc := "(I)V" } : Jvm.MethodName) prog_12_method_80_code (3 : Nat) (Option.none : Option Jvm.ClassFile.FieldType)), (Jvm.Cond.methodLink "CrossroadsChooseLaw" (134 : Nat) ({ cls := "CrossroadsChooseModel", name := "send", desc := "(I)I" } : Jvm.MethodName)), (Jvm.Cond.instanceMethod ({ cls := "CrossroadsChooseModel", name := "send", desc := "(I)I" } : Jvm.MethodName)), (Jvm.Cond.selects "CrossroadsChooseModel" ({ cls := "CrossroadsChooseModel", name := "send", desc := "(I)I" } : Jvm.MethodName) ({ cls := "CrossroadsChooseModel", name := "send", desc := "(I)I" } : Jvm.MethodName)), (Jvm.Cond.code ({ cls := "CrossroadsChooseModel", name := "send", desc := "(I)I" } : Jvm.MethodName) prog_12_method_82_code (3 : Nat) (Option.some Jvm.ClassFile.FieldType.int)), (Jvm.Cond.methodLink "CrossroadsChooseLaw" (138 : Nat) ({ cls := "CrossroadsChooseModel", name := "led", desc := "(I)I" } : Jvm.MethodName)), (Jvm.Cond.instanceMethod ({ cls := "CrossroadsChooseModel", name := "led", desc := "(I)I" } : Jvm.MethodName)), (Jvm.Cond.selects "CrossroadsChooseModel" ({ cls := "CrossroadsChooseModel", name := "led", desc := "(I)I" } : Jvm.MethodName) ({ cls := "CrossroadsChooseModel", name := "led", desc := "(I)I" } : Jvm.MethodName)), (Jvm.Cond.code ({ cls := "CrossroadsChooseModel", name := "led", desc := "(I)I" } : Jvm.MethodName) prog_12_method_83_code (2 : Nat) (Option.some Jvm.ClassFile.FieldType.int))] from rfl) ▸ h)))
theorem ck_6_128 (w : Cond) (h : w ∈ [(Jvm.Cond.methodLink "CrossroadsChooseLaw" (142 : Nat) ({ cls := "CrossroadsChooseModel", name := "image", desc := "()I" } : Jvm.MethodName)), (Jvm.Cond.instanceMethod ({ cls := "CrossroadsChooseModel", name := "image", desc := "()I" } : Jvm.MethodName)), (Jvm.Cond.selects "CrossroadsChooseModel" ({ cls := "CrossroadsChooseModel", name := "image", desc := "()I" } : Jvm.MethodName) ({ cls := "CrossroadsChooseModel", name := "image", desc := "()I" } : Jvm.MethodName)), (Jvm.Cond.code ({ cls := "CrossroadsChooseModel", name := "image", desc := "()I" } : Jvm.MethodName) prog_12_method_84_code (2 : Nat) (Option.some Jvm.ClassFile.FieldType.int)), (Jvm.Cond.methodLink "CrossroadsChooseLaw" (146 : Nat) ({ cls := "CrossroadsChooseModel", name := "back", desc := "()I" } : Jvm.MethodName)), (Jvm.Cond.instanceMethod ({ cls := "CrossroadsChooseModel", name := "back", desc := "()I" } : Jvm.MethodName)), (Jvm.Cond.selects "CrossroadsChooseModel" ({ cls := "CrossroadsChooseModel", name := "back", desc := "()I" } : Jvm.MethodName) ({ cls := "CrossroadsChooseModel", name := "back", desc := "()I" } : Jvm.MethodName)), (Jvm.Cond.code ({ cls := "CrossroadsChooseModel", name := "back", desc := "()I" } : Jvm.MethodName) prog_12_method_85_code (2 : Nat) (Option.some Jvm.ClassFile.FieldType.int)), (Jvm.Cond.methodLink "CrossroadsChooseLaw" (166 : Nat) ({ cls := "CrossroadsChooseModel", name := "trace", desc := "(I)I" } : Jvm.MethodName)), (Jvm.Cond.instanceMethod ({ cls := "CrossroadsChooseModel", name := "trace", desc := "(I)I" } : Jvm.MethodName)), (Jvm.Cond.selects "CrossroadsChooseModel" ({ cls := "CrossroadsChooseModel", name := "trace", desc := "(I)I" } : Jvm.MethodName) ({ cls := "CrossroadsChooseModel", name := "trace", desc := "(I)I" } : Jvm.MethodName)), (Jvm.Cond.code ({ cls := "CrossroadsChooseModel", name := "trace", desc := "(I)I" } : Jvm.MethodName) prog_12_method_88_code (2 : Nat) (Option.some Jvm.ClassFile.FieldType.int)), (Jvm.Cond.methodLink "CrossroadsChooseLaw" (158 : Nat) ({ cls := "CrossroadsChooseModel", name := "body", desc := "(I)I" } : Jvm.MethodName)), (Jvm.Cond.instanceMethod ({ cls := "CrossroadsChooseModel", name := "body", desc := "(I)I" } : Jvm.MethodName)), (Jvm.Cond.selects "CrossroadsChooseModel" ({ cls := "CrossroadsChooseModel", name := "body", desc := "(I)I" } : Jvm.MethodName) ({ cls := "CrossroadsChooseModel", name := "body", desc := "(I)I" } : Jvm.MethodName)), (Jvm.Cond.code ({ cls := "CrossroadsChooseModel", name := "body", desc := "(I)I" } : Jvm.MethodName) prog_12_method_89_code (2 : Nat) (Option.some Jvm.ClassFile.FieldType.int))]) : w ∈ lw_tbl := tk_6 (List.mem_of_mem_drop (i := 128) (List.mem_of_mem_take (i := 16) ((show (tables_1_6.drop 128).take 16 = [(Jvm.Cond.methodLink "CrossroadsChooseLaw" (142 : Nat) ({ cls := "CrossroadsChooseModel", name := "image", desc := "()I" } : Jvm.MethodName)), (Jvm.Cond.instanceMethod ({ cls := "CrossroadsChooseModel", name := "image", desc := "()I" } : Jvm.MethodName)), (Jvm.Cond.selects "CrossroadsChooseModel" ({ cls := "CrossroadsChooseModel", name := "image", desc := "()I" } : Jvm.MethodName) ({ cls := "CrossroadsChooseModel", name := "image", desc := "()I" } : Jvm.MethodName)), (Jvm.Cond.code ({ cls := "CrossroadsChooseModel", name := "image", desc := "()I" } : Jvm.MethodName) prog_12_method_84_code (2 : Nat) (Option.some Jvm.ClassFile.FieldType.int)), (Jvm.Cond.methodLink "CrossroadsChooseLaw" (146 : Nat) ({ cls := "CrossroadsChooseModel", name := "back", desc := "()I" } : Jvm.MethodName)), (Jvm.Cond.instanceMethod ({ cls := "CrossroadsChooseModel", name := "back", desc := "()I" } : Jvm.MethodName)), (Jvm.Cond.selects "CrossroadsChooseModel" ({ cls := "CrossroadsChooseModel", name := "back", desc := "()I" } : Jvm.MethodName) ({ cls := "CrossroadsChooseModel", name := "back", desc := "()I" } : Jvm.MethodName)), (Jvm.Cond.code ({ cls := "CrossroadsChooseModel", name := "back", desc := "()I" } : Jvm.MethodName) prog_12_method_85_code (2 : Nat) (Option.some Jvm.ClassFile.FieldType.int)), (Jvm.Cond.methodLink "CrossroadsChooseLaw" (166 : Nat) ({ cls := "CrossroadsChooseModel", name := "trace", desc := "(I)I" } : Jvm.MethodName)), (Jvm.Cond.instanceMethod ({ cls := "CrossroadsChooseModel", name := "trace", desc := "(I)I" } : Jvm.MethodName)), (Jvm.Cond.selects "CrossroadsChooseModel" ({ cls := "CrossroadsChooseModel", name := "trace", desc := "(I)I" } : Jvm.MethodName) ({ cls := "CrossroadsChooseModel", name := "trace", desc := "(I)I" } : Jvm.MethodName)), (Jvm.Cond.code ({ cls := "CrossroadsChooseModel", name := "trace", desc := "(I)I" } : Jvm.MethodName) prog_12_method_88_code (2 : Nat) (Option.some Jvm.ClassFile.FieldType.int)), (Jvm.Cond.methodLink "CrossroadsChooseLaw" (158 : Nat) ({ cls := "CrossroadsChooseModel", name := "body", desc := "(I)I" } : Jvm.MethodName)), (Jvm.Cond.instanceMethod ({ cls := "CrossroadsChooseModel", name := "body", desc := "(I)I" } : Jvm.MethodName)), (Jvm.Cond.selects "CrossroadsChooseModel" ({ cls := "CrossroadsChooseModel", name := "body", desc := "(I)I" } : Jvm.MethodName) ({ cls := "CrossroadsChooseModel", name := "body", desc := "(I)I" } : Jvm.MethodName)), (Jvm.Cond.code ({ cls := "CrossroadsChooseModel", name := "body", desc := "(I)I" } : Jvm.MethodName) prog_12_method_89_code (2 : Nat) (Option.some Jvm.ClassFile.FieldType.int))] from rfl) ▸ h)))
theorem ck_6_144 (w : Cond) (h : w ∈ [(Jvm.Cond.methodLink "CrossroadsChooseLaw" (162 : Nat) ({ cls := "CrossroadsChooseModel", name := "act", desc := "(III)I" } : Jvm.MethodName)), (Jvm.Cond.instanceMethod ({ cls := "CrossroadsChooseModel", name := "act", desc := "(III)I" } : Jvm.MethodName)), (Jvm.Cond.selects "CrossroadsChooseModel" ({ cls := "CrossroadsChooseModel", name := "act", desc := "(III)I" } : Jvm.MethodName) ({ cls := "CrossroadsChooseModel", name := "act", desc := "(III)I" } : Jvm.MethodName)), (Jvm.Cond.code ({ cls := "CrossroadsChooseModel", name := "act", desc := "(III)I" } : Jvm.MethodName) prog_12_method_102_code (4 : Nat) (Option.some Jvm.ClassFile.FieldType.int)), (Jvm.Cond.methodLink "CrossroadsChooseModel" (375 : Nat) ({ cls := "CrossroadsChooseModel", name := "isBody", desc := "(I)Z" } : Jvm.MethodName)), (Jvm.Cond.privateMethod ({ cls := "CrossroadsChooseModel", name := "isBody", desc := "(I)Z" } : Jvm.MethodName)), (Jvm.Cond.instanceMethod ({ cls := "CrossroadsChooseModel", name := "isBody", desc := "(I)Z" } : Jvm.MethodName)), (Jvm.Cond.code ({ cls := "CrossroadsChooseModel", name := "isBody", desc := "(I)Z" } : Jvm.MethodName) prog_12_method_86_code (2 : Nat) (Option.some Jvm.ClassFile.FieldType.boolean)), (Jvm.Cond.methodLink "CrossroadsChooseModel" (351 : Nat) ({ cls := "CrossroadsChooseModel", name := "wanting", desc := "(II)I" } : Jvm.MethodName)), (Jvm.Cond.privateMethod ({ cls := "CrossroadsChooseModel", name := "wanting", desc := "(II)I" } : Jvm.MethodName)), (Jvm.Cond.instanceMethod ({ cls := "CrossroadsChooseModel", name := "wanting", desc := "(II)I" } : Jvm.MethodName)), (Jvm.Cond.code ({ cls := "CrossroadsChooseModel", name := "wanting", desc := "(II)I" } : Jvm.MethodName) prog_12_method_93_code (3 : Nat) (Option.some Jvm.ClassFile.FieldType.int)), (Jvm.Cond.methodLink "CrossroadsChooseModel" (345 : Nat) ({ cls := "CrossroadsChooseModel", name := "isUnder", desc := "(II)Z" } : Jvm.MethodName)), (Jvm.Cond.static ({ cls := "CrossroadsChooseModel", name := "isUnder", desc := "(II)Z" } : Jvm.MethodName)), (Jvm.Cond.code ({ cls := "CrossroadsChooseModel", name := "isUnder", desc := "(II)Z" } : Jvm.MethodName) prog_12_method_90_code (2 : Nat) (Option.some Jvm.ClassFile.FieldType.boolean)), (Jvm.Cond.methodLink "CrossroadsChooseModel" (339 : Nat) ({ cls := "CrossroadsChooseModel", name := "ran", desc := "(I)V" } : Jvm.MethodName))]) : w ∈ lw_tbl := tk_6 (List.mem_of_mem_drop (i := 144) (List.mem_of_mem_take (i := 16) ((show (tables_1_6.drop 144).take 16 = [(Jvm.Cond.methodLink "CrossroadsChooseLaw" (162 : Nat) ({ cls := "CrossroadsChooseModel", name := "act", desc := "(III)I" } : Jvm.MethodName)), (Jvm.Cond.instanceMethod ({ cls := "CrossroadsChooseModel", name := "act", desc := "(III)I" } : Jvm.MethodName)), (Jvm.Cond.selects "CrossroadsChooseModel" ({ cls := "CrossroadsChooseModel", name := "act", desc := "(III)I" } : Jvm.MethodName) ({ cls := "CrossroadsChooseModel", name := "act", desc := "(III)I" } : Jvm.MethodName)), (Jvm.Cond.code ({ cls := "CrossroadsChooseModel", name := "act", desc := "(III)I" } : Jvm.MethodName) prog_12_method_102_code (4 : Nat) (Option.some Jvm.ClassFile.FieldType.int)), (Jvm.Cond.methodLink "CrossroadsChooseModel" (375 : Nat) ({ cls := "CrossroadsChooseModel", name := "isBody", desc := "(I)Z" } : Jvm.MethodName)), (Jvm.Cond.privateMethod ({ cls := "CrossroadsChooseModel", name := "isBody", desc := "(I)Z" } : Jvm.MethodName)), (Jvm.Cond.instanceMethod ({ cls := "CrossroadsChooseModel", name := "isBody", desc := "(I)Z" } : Jvm.MethodName)), (Jvm.Cond.code ({ cls := "CrossroadsChooseModel", name := "isBody", desc := "(I)Z" } : Jvm.MethodName) prog_12_method_86_code (2 : Nat) (Option.some Jvm.ClassFile.FieldType.boolean)), (Jvm.Cond.methodLink "CrossroadsChooseModel" (351 : Nat) ({ cls := "CrossroadsChooseModel", name := "wanting", desc := "(II)I" } : Jvm.MethodName)), (Jvm.Cond.privateMethod ({ cls := "CrossroadsChooseModel", name := "wanting", desc := "(II)I" } : Jvm.MethodName)), (Jvm.Cond.instanceMethod ({ cls := "CrossroadsChooseModel", name := "wanting", desc := "(II)I" } : Jvm.MethodName)), (Jvm.Cond.code ({ cls := "CrossroadsChooseModel", name := "wanting", desc := "(II)I" } : Jvm.MethodName) prog_12_method_93_code (3 : Nat) (Option.some Jvm.ClassFile.FieldType.int)), (Jvm.Cond.methodLink "CrossroadsChooseModel" (345 : Nat) ({ cls := "CrossroadsChooseModel", name := "isUnder", desc := "(II)Z" } : Jvm.MethodName)), (Jvm.Cond.static ({ cls := "CrossroadsChooseModel", name := "isUnder", desc := "(II)Z" } : Jvm.MethodName)), (Jvm.Cond.code ({ cls := "CrossroadsChooseModel", name := "isUnder", desc := "(II)Z" } : Jvm.MethodName) prog_12_method_90_code (2 : Nat) (Option.some Jvm.ClassFile.FieldType.boolean)), (Jvm.Cond.methodLink "CrossroadsChooseModel" (339 : Nat) ({ cls := "CrossroadsChooseModel", name := "ran", desc := "(I)V" } : Jvm.MethodName))] from rfl) ▸ h)))
theorem ck_6_160 (w : Cond) (h : w ∈ [(Jvm.Cond.privateMethod ({ cls := "CrossroadsChooseModel", name := "ran", desc := "(I)V" } : Jvm.MethodName)), (Jvm.Cond.instanceMethod ({ cls := "CrossroadsChooseModel", name := "ran", desc := "(I)V" } : Jvm.MethodName)), (Jvm.Cond.code ({ cls := "CrossroadsChooseModel", name := "ran", desc := "(I)V" } : Jvm.MethodName) prog_12_method_87_code (2 : Nat) (Option.none : Option Jvm.ClassFile.FieldType)), (Jvm.Cond.methodLink "CrossroadsChooseModel" (342 : Nat) ({ cls := "CrossroadsChooseModel", name := "plainWants", desc := "(II)I" } : Jvm.MethodName)), (Jvm.Cond.privateMethod ({ cls := "CrossroadsChooseModel", name := "plainWants", desc := "(II)I" } : Jvm.MethodName)), (Jvm.Cond.instanceMethod ({ cls := "CrossroadsChooseModel", name := "plainWants", desc := "(II)I" } : Jvm.MethodName)), (Jvm.Cond.code ({ cls := "CrossroadsChooseModel", name := "plainWants", desc := "(II)I" } : Jvm.MethodName) prog_12_method_91_code (3 : Nat) (Option.some Jvm.ClassFile.FieldType.int)), (Jvm.Cond.methodLink "CrossroadsChooseModel" (348 : Nat) ({ cls := "CrossroadsChooseModel", name := "elmWants", desc := "(II)I" } : Jvm.MethodName)), (Jvm.Cond.privateMethod ({ cls := "CrossroadsChooseModel", name := "elmWants", desc := "(II)I" } : Jvm.MethodName)), (Jvm.Cond.instanceMethod ({ cls := "CrossroadsChooseModel", name := "elmWants", desc := "(II)I" } : Jvm.MethodName)), (Jvm.Cond.code ({ cls := "CrossroadsChooseModel", name := "elmWants", desc := "(II)I" } : Jvm.MethodName) prog_12_method_92_code (3 : Nat) (Option.some Jvm.ClassFile.FieldType.int)), (Jvm.Cond.methodLink "CrossroadsChooseModel" (369 : Nat) ({ cls := "CrossroadsChooseModel", name := "waiting", desc := "(II)I" } : Jvm.MethodName)), (Jvm.Cond.privateMethod ({ cls := "CrossroadsChooseModel", name := "waiting", desc := "(II)I" } : Jvm.MethodName)), (Jvm.Cond.instanceMethod ({ cls := "CrossroadsChooseModel", name := "waiting", desc := "(II)I" } : Jvm.MethodName)), (Jvm.Cond.code ({ cls := "CrossroadsChooseModel", name := "waiting", desc := "(II)I" } : Jvm.MethodName) prog_12_method_96_code (4 : Nat) (Option.some Jvm.ClassFile.FieldType.int)), (Jvm.Cond.methodLink "CrossroadsChooseModel" (357 : Nat) ({ cls := "CrossroadsChooseModel", name := "greenWaits", desc := "(II)I" } : Jvm.MethodName))]) : w ∈ lw_tbl := tk_6 (List.mem_of_mem_drop (i := 160) (List.mem_of_mem_take (i := 16) ((show (tables_1_6.drop 160).take 16 = [(Jvm.Cond.privateMethod ({ cls := "CrossroadsChooseModel", name := "ran", desc := "(I)V" } : Jvm.MethodName)), (Jvm.Cond.instanceMethod ({ cls := "CrossroadsChooseModel", name := "ran", desc := "(I)V" } : Jvm.MethodName)), (Jvm.Cond.code ({ cls := "CrossroadsChooseModel", name := "ran", desc := "(I)V" } : Jvm.MethodName) prog_12_method_87_code (2 : Nat) (Option.none : Option Jvm.ClassFile.FieldType)), (Jvm.Cond.methodLink "CrossroadsChooseModel" (342 : Nat) ({ cls := "CrossroadsChooseModel", name := "plainWants", desc := "(II)I" } : Jvm.MethodName)), (Jvm.Cond.privateMethod ({ cls := "CrossroadsChooseModel", name := "plainWants", desc := "(II)I" } : Jvm.MethodName)), (Jvm.Cond.instanceMethod ({ cls := "CrossroadsChooseModel", name := "plainWants", desc := "(II)I" } : Jvm.MethodName)), (Jvm.Cond.code ({ cls := "CrossroadsChooseModel", name := "plainWants", desc := "(II)I" } : Jvm.MethodName) prog_12_method_91_code (3 : Nat) (Option.some Jvm.ClassFile.FieldType.int)), (Jvm.Cond.methodLink "CrossroadsChooseModel" (348 : Nat) ({ cls := "CrossroadsChooseModel", name := "elmWants", desc := "(II)I" } : Jvm.MethodName)), (Jvm.Cond.privateMethod ({ cls := "CrossroadsChooseModel", name := "elmWants", desc := "(II)I" } : Jvm.MethodName)), (Jvm.Cond.instanceMethod ({ cls := "CrossroadsChooseModel", name := "elmWants", desc := "(II)I" } : Jvm.MethodName)), (Jvm.Cond.code ({ cls := "CrossroadsChooseModel", name := "elmWants", desc := "(II)I" } : Jvm.MethodName) prog_12_method_92_code (3 : Nat) (Option.some Jvm.ClassFile.FieldType.int)), (Jvm.Cond.methodLink "CrossroadsChooseModel" (369 : Nat) ({ cls := "CrossroadsChooseModel", name := "waiting", desc := "(II)I" } : Jvm.MethodName)), (Jvm.Cond.privateMethod ({ cls := "CrossroadsChooseModel", name := "waiting", desc := "(II)I" } : Jvm.MethodName)), (Jvm.Cond.instanceMethod ({ cls := "CrossroadsChooseModel", name := "waiting", desc := "(II)I" } : Jvm.MethodName)), (Jvm.Cond.code ({ cls := "CrossroadsChooseModel", name := "waiting", desc := "(II)I" } : Jvm.MethodName) prog_12_method_96_code (4 : Nat) (Option.some Jvm.ClassFile.FieldType.int)), (Jvm.Cond.methodLink "CrossroadsChooseModel" (357 : Nat) ({ cls := "CrossroadsChooseModel", name := "greenWaits", desc := "(II)I" } : Jvm.MethodName))] from rfl) ▸ h)))
theorem ck_6_176 (w : Cond) (h : w ∈ [(Jvm.Cond.privateMethod ({ cls := "CrossroadsChooseModel", name := "greenWaits", desc := "(II)I" } : Jvm.MethodName)), (Jvm.Cond.instanceMethod ({ cls := "CrossroadsChooseModel", name := "greenWaits", desc := "(II)I" } : Jvm.MethodName)), (Jvm.Cond.code ({ cls := "CrossroadsChooseModel", name := "greenWaits", desc := "(II)I" } : Jvm.MethodName) prog_12_method_95_code (3 : Nat) (Option.some Jvm.ClassFile.FieldType.int)), (Jvm.Cond.methodLink "CrossroadsChooseModel" (354 : Nat) ({ cls := "CrossroadsChooseModel", name := "plainWaits", desc := "(II)I" } : Jvm.MethodName)), (Jvm.Cond.privateMethod ({ cls := "CrossroadsChooseModel", name := "plainWaits", desc := "(II)I" } : Jvm.MethodName)), (Jvm.Cond.instanceMethod ({ cls := "CrossroadsChooseModel", name := "plainWaits", desc := "(II)I" } : Jvm.MethodName)), (Jvm.Cond.code ({ cls := "CrossroadsChooseModel", name := "plainWaits", desc := "(II)I" } : Jvm.MethodName) prog_12_method_94_code (3 : Nat) (Option.some Jvm.ClassFile.FieldType.int)), (Jvm.Cond.methodLink "CrossroadsChooseModel" (360 : Nat) ({ cls := "CrossroadsChooseModel", name := "taking", desc := "(II)I" } : Jvm.MethodName)), (Jvm.Cond.privateMethod ({ cls := "CrossroadsChooseModel", name := "taking", desc := "(II)I" } : Jvm.MethodName)), (Jvm.Cond.instanceMethod ({ cls := "CrossroadsChooseModel", name := "taking", desc := "(II)I" } : Jvm.MethodName)), (Jvm.Cond.code ({ cls := "CrossroadsChooseModel", name := "taking", desc := "(II)I" } : Jvm.MethodName) prog_12_method_99_code (4 : Nat) (Option.some Jvm.ClassFile.FieldType.int)), (Jvm.Cond.methodLink "CrossroadsChooseModel" (366 : Nat) ({ cls := "CrossroadsChooseModel", name := "bankTakes", desc := "(II)I" } : Jvm.MethodName)), (Jvm.Cond.privateMethod ({ cls := "CrossroadsChooseModel", name := "bankTakes", desc := "(II)I" } : Jvm.MethodName)), (Jvm.Cond.instanceMethod ({ cls := "CrossroadsChooseModel", name := "bankTakes", desc := "(II)I" } : Jvm.MethodName)), (Jvm.Cond.code ({ cls := "CrossroadsChooseModel", name := "bankTakes", desc := "(II)I" } : Jvm.MethodName) prog_12_method_98_code (3 : Nat) (Option.some Jvm.ClassFile.FieldType.int)), (Jvm.Cond.methodLink "CrossroadsChooseModel" (363 : Nat) ({ cls := "CrossroadsChooseModel", name := "plainTakes", desc := "(II)I" } : Jvm.MethodName))]) : w ∈ lw_tbl := tk_6 (List.mem_of_mem_drop (i := 176) (List.mem_of_mem_take (i := 16) ((show (tables_1_6.drop 176).take 16 = [(Jvm.Cond.privateMethod ({ cls := "CrossroadsChooseModel", name := "greenWaits", desc := "(II)I" } : Jvm.MethodName)), (Jvm.Cond.instanceMethod ({ cls := "CrossroadsChooseModel", name := "greenWaits", desc := "(II)I" } : Jvm.MethodName)), (Jvm.Cond.code ({ cls := "CrossroadsChooseModel", name := "greenWaits", desc := "(II)I" } : Jvm.MethodName) prog_12_method_95_code (3 : Nat) (Option.some Jvm.ClassFile.FieldType.int)), (Jvm.Cond.methodLink "CrossroadsChooseModel" (354 : Nat) ({ cls := "CrossroadsChooseModel", name := "plainWaits", desc := "(II)I" } : Jvm.MethodName)), (Jvm.Cond.privateMethod ({ cls := "CrossroadsChooseModel", name := "plainWaits", desc := "(II)I" } : Jvm.MethodName)), (Jvm.Cond.instanceMethod ({ cls := "CrossroadsChooseModel", name := "plainWaits", desc := "(II)I" } : Jvm.MethodName)), (Jvm.Cond.code ({ cls := "CrossroadsChooseModel", name := "plainWaits", desc := "(II)I" } : Jvm.MethodName) prog_12_method_94_code (3 : Nat) (Option.some Jvm.ClassFile.FieldType.int)), (Jvm.Cond.methodLink "CrossroadsChooseModel" (360 : Nat) ({ cls := "CrossroadsChooseModel", name := "taking", desc := "(II)I" } : Jvm.MethodName)), (Jvm.Cond.privateMethod ({ cls := "CrossroadsChooseModel", name := "taking", desc := "(II)I" } : Jvm.MethodName)), (Jvm.Cond.instanceMethod ({ cls := "CrossroadsChooseModel", name := "taking", desc := "(II)I" } : Jvm.MethodName)), (Jvm.Cond.code ({ cls := "CrossroadsChooseModel", name := "taking", desc := "(II)I" } : Jvm.MethodName) prog_12_method_99_code (4 : Nat) (Option.some Jvm.ClassFile.FieldType.int)), (Jvm.Cond.methodLink "CrossroadsChooseModel" (366 : Nat) ({ cls := "CrossroadsChooseModel", name := "bankTakes", desc := "(II)I" } : Jvm.MethodName)), (Jvm.Cond.privateMethod ({ cls := "CrossroadsChooseModel", name := "bankTakes", desc := "(II)I" } : Jvm.MethodName)), (Jvm.Cond.instanceMethod ({ cls := "CrossroadsChooseModel", name := "bankTakes", desc := "(II)I" } : Jvm.MethodName)), (Jvm.Cond.code ({ cls := "CrossroadsChooseModel", name := "bankTakes", desc := "(II)I" } : Jvm.MethodName) prog_12_method_98_code (3 : Nat) (Option.some Jvm.ClassFile.FieldType.int)), (Jvm.Cond.methodLink "CrossroadsChooseModel" (363 : Nat) ({ cls := "CrossroadsChooseModel", name := "plainTakes", desc := "(II)I" } : Jvm.MethodName))] from rfl) ▸ h)))
theorem ck_6_192 (w : Cond) (h : w ∈ [(Jvm.Cond.privateMethod ({ cls := "CrossroadsChooseModel", name := "plainTakes", desc := "(II)I" } : Jvm.MethodName)), (Jvm.Cond.instanceMethod ({ cls := "CrossroadsChooseModel", name := "plainTakes", desc := "(II)I" } : Jvm.MethodName)), (Jvm.Cond.code ({ cls := "CrossroadsChooseModel", name := "plainTakes", desc := "(II)I" } : Jvm.MethodName) prog_12_method_97_code (3 : Nat) (Option.some Jvm.ClassFile.FieldType.int)), (Jvm.Cond.methodLink "CrossroadsChooseModel" (378 : Nat) ({ cls := "CrossroadsChooseModel", name := "telling", desc := "(II)I" } : Jvm.MethodName)), (Jvm.Cond.privateMethod ({ cls := "CrossroadsChooseModel", name := "telling", desc := "(II)I" } : Jvm.MethodName)), (Jvm.Cond.instanceMethod ({ cls := "CrossroadsChooseModel", name := "telling", desc := "(II)I" } : Jvm.MethodName)), (Jvm.Cond.code ({ cls := "CrossroadsChooseModel", name := "telling", desc := "(II)I" } : Jvm.MethodName) prog_12_method_101_code (3 : Nat) (Option.some Jvm.ClassFile.FieldType.int)), (Jvm.Cond.methodLink "CrossroadsChooseModel" (372 : Nat) ({ cls := "CrossroadsChooseModel", name := "plainTells", desc := "(II)I" } : Jvm.MethodName)), (Jvm.Cond.privateMethod ({ cls := "CrossroadsChooseModel", name := "plainTells", desc := "(II)I" } : Jvm.MethodName)), (Jvm.Cond.instanceMethod ({ cls := "CrossroadsChooseModel", name := "plainTells", desc := "(II)I" } : Jvm.MethodName)), (Jvm.Cond.code ({ cls := "CrossroadsChooseModel", name := "plainTells", desc := "(II)I" } : Jvm.MethodName) prog_12_method_100_code (4 : Nat) (Option.some Jvm.ClassFile.FieldType.int)), (Jvm.Cond.methodLink "CrossroadsChooseLaw" (198 : Nat) ({ cls := "CrossroadsChooseModel", name := "count", desc := "(I)I" } : Jvm.MethodName)), (Jvm.Cond.instanceMethod ({ cls := "CrossroadsChooseModel", name := "count", desc := "(I)I" } : Jvm.MethodName)), (Jvm.Cond.selects "CrossroadsChooseModel" ({ cls := "CrossroadsChooseModel", name := "count", desc := "(I)I" } : Jvm.MethodName) ({ cls := "CrossroadsChooseModel", name := "count", desc := "(I)I" } : Jvm.MethodName)), (Jvm.Cond.code ({ cls := "CrossroadsChooseModel", name := "count", desc := "(I)I" } : Jvm.MethodName) prog_12_method_103_code (2 : Nat) (Option.some Jvm.ClassFile.FieldType.int)), (Jvm.Cond.methodLink "CrossroadsChooseLaw" (170 : Nat) ({ cls := "CrossroadsChooseModel", name := "keep", desc := "(II)I" } : Jvm.MethodName))]) : w ∈ lw_tbl := tk_6 (List.mem_of_mem_drop (i := 192) (List.mem_of_mem_take (i := 16) ((show (tables_1_6.drop 192).take 16 = [(Jvm.Cond.privateMethod ({ cls := "CrossroadsChooseModel", name := "plainTakes", desc := "(II)I" } : Jvm.MethodName)), (Jvm.Cond.instanceMethod ({ cls := "CrossroadsChooseModel", name := "plainTakes", desc := "(II)I" } : Jvm.MethodName)), (Jvm.Cond.code ({ cls := "CrossroadsChooseModel", name := "plainTakes", desc := "(II)I" } : Jvm.MethodName) prog_12_method_97_code (3 : Nat) (Option.some Jvm.ClassFile.FieldType.int)), (Jvm.Cond.methodLink "CrossroadsChooseModel" (378 : Nat) ({ cls := "CrossroadsChooseModel", name := "telling", desc := "(II)I" } : Jvm.MethodName)), (Jvm.Cond.privateMethod ({ cls := "CrossroadsChooseModel", name := "telling", desc := "(II)I" } : Jvm.MethodName)), (Jvm.Cond.instanceMethod ({ cls := "CrossroadsChooseModel", name := "telling", desc := "(II)I" } : Jvm.MethodName)), (Jvm.Cond.code ({ cls := "CrossroadsChooseModel", name := "telling", desc := "(II)I" } : Jvm.MethodName) prog_12_method_101_code (3 : Nat) (Option.some Jvm.ClassFile.FieldType.int)), (Jvm.Cond.methodLink "CrossroadsChooseModel" (372 : Nat) ({ cls := "CrossroadsChooseModel", name := "plainTells", desc := "(II)I" } : Jvm.MethodName)), (Jvm.Cond.privateMethod ({ cls := "CrossroadsChooseModel", name := "plainTells", desc := "(II)I" } : Jvm.MethodName)), (Jvm.Cond.instanceMethod ({ cls := "CrossroadsChooseModel", name := "plainTells", desc := "(II)I" } : Jvm.MethodName)), (Jvm.Cond.code ({ cls := "CrossroadsChooseModel", name := "plainTells", desc := "(II)I" } : Jvm.MethodName) prog_12_method_100_code (4 : Nat) (Option.some Jvm.ClassFile.FieldType.int)), (Jvm.Cond.methodLink "CrossroadsChooseLaw" (198 : Nat) ({ cls := "CrossroadsChooseModel", name := "count", desc := "(I)I" } : Jvm.MethodName)), (Jvm.Cond.instanceMethod ({ cls := "CrossroadsChooseModel", name := "count", desc := "(I)I" } : Jvm.MethodName)), (Jvm.Cond.selects "CrossroadsChooseModel" ({ cls := "CrossroadsChooseModel", name := "count", desc := "(I)I" } : Jvm.MethodName) ({ cls := "CrossroadsChooseModel", name := "count", desc := "(I)I" } : Jvm.MethodName)), (Jvm.Cond.code ({ cls := "CrossroadsChooseModel", name := "count", desc := "(I)I" } : Jvm.MethodName) prog_12_method_103_code (2 : Nat) (Option.some Jvm.ClassFile.FieldType.int)), (Jvm.Cond.methodLink "CrossroadsChooseLaw" (170 : Nat) ({ cls := "CrossroadsChooseModel", name := "keep", desc := "(II)I" } : Jvm.MethodName))] from rfl) ▸ h)))
theorem ck_6_208 (w : Cond) (h : w ∈ [(Jvm.Cond.instanceMethod ({ cls := "CrossroadsChooseModel", name := "keep", desc := "(II)I" } : Jvm.MethodName)), (Jvm.Cond.selects "CrossroadsChooseModel" ({ cls := "CrossroadsChooseModel", name := "keep", desc := "(II)I" } : Jvm.MethodName) ({ cls := "CrossroadsChooseModel", name := "keep", desc := "(II)I" } : Jvm.MethodName)), (Jvm.Cond.code ({ cls := "CrossroadsChooseModel", name := "keep", desc := "(II)I" } : Jvm.MethodName) prog_12_method_105_code (3 : Nat) (Option.some Jvm.ClassFile.FieldType.int)), (Jvm.Cond.methodLink "CrossroadsChooseLaw" (174 : Nat) ({ cls := "CrossroadsChooseModel", name := "row", desc := "(III)I" } : Jvm.MethodName)), (Jvm.Cond.instanceMethod ({ cls := "CrossroadsChooseModel", name := "row", desc := "(III)I" } : Jvm.MethodName)), (Jvm.Cond.selects "CrossroadsChooseModel" ({ cls := "CrossroadsChooseModel", name := "row", desc := "(III)I" } : Jvm.MethodName) ({ cls := "CrossroadsChooseModel", name := "row", desc := "(III)I" } : Jvm.MethodName)), (Jvm.Cond.code ({ cls := "CrossroadsChooseModel", name := "row", desc := "(III)I" } : Jvm.MethodName) prog_12_method_106_code (5 : Nat) (Option.some Jvm.ClassFile.FieldType.int)), (Jvm.Cond.methodLink "CrossroadsChooseLaw" (181 : Nat) ({ cls := "CrossroadsChooseModel", name := "put", desc := "(IIJ)I" } : Jvm.MethodName)), (Jvm.Cond.instanceMethod ({ cls := "CrossroadsChooseModel", name := "put", desc := "(IIJ)I" } : Jvm.MethodName)), (Jvm.Cond.selects "CrossroadsChooseModel" ({ cls := "CrossroadsChooseModel", name := "put", desc := "(IIJ)I" } : Jvm.MethodName) ({ cls := "CrossroadsChooseModel", name := "put", desc := "(IIJ)I" } : Jvm.MethodName)), (Jvm.Cond.code ({ cls := "CrossroadsChooseModel", name := "put", desc := "(IIJ)I" } : Jvm.MethodName) prog_12_method_108_code (7 : Nat) (Option.some Jvm.ClassFile.FieldType.int)), (Jvm.Cond.methodLink "CrossroadsChooseModel" (381 : Nat) ({ cls := "CrossroadsChooseModel", name := "whyNoPlace", desc := "(II)I" } : Jvm.MethodName)), (Jvm.Cond.privateMethod ({ cls := "CrossroadsChooseModel", name := "whyNoPlace", desc := "(II)I" } : Jvm.MethodName)), (Jvm.Cond.instanceMethod ({ cls := "CrossroadsChooseModel", name := "whyNoPlace", desc := "(II)I" } : Jvm.MethodName)), (Jvm.Cond.code ({ cls := "CrossroadsChooseModel", name := "whyNoPlace", desc := "(II)I" } : Jvm.MethodName) prog_12_method_107_code (3 : Nat) (Option.some Jvm.ClassFile.FieldType.int)), (Jvm.Cond.methodLink "CrossroadsChooseLaw" (185 : Nat) ({ cls := "CrossroadsChooseModel", name := "element", desc := "(II)J" } : Jvm.MethodName))]) : w ∈ lw_tbl := tk_6 (List.mem_of_mem_drop (i := 208) (List.mem_of_mem_take (i := 16) ((show (tables_1_6.drop 208).take 16 = [(Jvm.Cond.instanceMethod ({ cls := "CrossroadsChooseModel", name := "keep", desc := "(II)I" } : Jvm.MethodName)), (Jvm.Cond.selects "CrossroadsChooseModel" ({ cls := "CrossroadsChooseModel", name := "keep", desc := "(II)I" } : Jvm.MethodName) ({ cls := "CrossroadsChooseModel", name := "keep", desc := "(II)I" } : Jvm.MethodName)), (Jvm.Cond.code ({ cls := "CrossroadsChooseModel", name := "keep", desc := "(II)I" } : Jvm.MethodName) prog_12_method_105_code (3 : Nat) (Option.some Jvm.ClassFile.FieldType.int)), (Jvm.Cond.methodLink "CrossroadsChooseLaw" (174 : Nat) ({ cls := "CrossroadsChooseModel", name := "row", desc := "(III)I" } : Jvm.MethodName)), (Jvm.Cond.instanceMethod ({ cls := "CrossroadsChooseModel", name := "row", desc := "(III)I" } : Jvm.MethodName)), (Jvm.Cond.selects "CrossroadsChooseModel" ({ cls := "CrossroadsChooseModel", name := "row", desc := "(III)I" } : Jvm.MethodName) ({ cls := "CrossroadsChooseModel", name := "row", desc := "(III)I" } : Jvm.MethodName)), (Jvm.Cond.code ({ cls := "CrossroadsChooseModel", name := "row", desc := "(III)I" } : Jvm.MethodName) prog_12_method_106_code (5 : Nat) (Option.some Jvm.ClassFile.FieldType.int)), (Jvm.Cond.methodLink "CrossroadsChooseLaw" (181 : Nat) ({ cls := "CrossroadsChooseModel", name := "put", desc := "(IIJ)I" } : Jvm.MethodName)), (Jvm.Cond.instanceMethod ({ cls := "CrossroadsChooseModel", name := "put", desc := "(IIJ)I" } : Jvm.MethodName)), (Jvm.Cond.selects "CrossroadsChooseModel" ({ cls := "CrossroadsChooseModel", name := "put", desc := "(IIJ)I" } : Jvm.MethodName) ({ cls := "CrossroadsChooseModel", name := "put", desc := "(IIJ)I" } : Jvm.MethodName)), (Jvm.Cond.code ({ cls := "CrossroadsChooseModel", name := "put", desc := "(IIJ)I" } : Jvm.MethodName) prog_12_method_108_code (7 : Nat) (Option.some Jvm.ClassFile.FieldType.int)), (Jvm.Cond.methodLink "CrossroadsChooseModel" (381 : Nat) ({ cls := "CrossroadsChooseModel", name := "whyNoPlace", desc := "(II)I" } : Jvm.MethodName)), (Jvm.Cond.privateMethod ({ cls := "CrossroadsChooseModel", name := "whyNoPlace", desc := "(II)I" } : Jvm.MethodName)), (Jvm.Cond.instanceMethod ({ cls := "CrossroadsChooseModel", name := "whyNoPlace", desc := "(II)I" } : Jvm.MethodName)), (Jvm.Cond.code ({ cls := "CrossroadsChooseModel", name := "whyNoPlace", desc := "(II)I" } : Jvm.MethodName) prog_12_method_107_code (3 : Nat) (Option.some Jvm.ClassFile.FieldType.int)), (Jvm.Cond.methodLink "CrossroadsChooseLaw" (185 : Nat) ({ cls := "CrossroadsChooseModel", name := "element", desc := "(II)J" } : Jvm.MethodName))] from rfl) ▸ h)))
theorem ck_6_224 (w : Cond) (h : w ∈ [(Jvm.Cond.instanceMethod ({ cls := "CrossroadsChooseModel", name := "element", desc := "(II)J" } : Jvm.MethodName)), (Jvm.Cond.selects "CrossroadsChooseModel" ({ cls := "CrossroadsChooseModel", name := "element", desc := "(II)J" } : Jvm.MethodName) ({ cls := "CrossroadsChooseModel", name := "element", desc := "(II)J" } : Jvm.MethodName)), (Jvm.Cond.code ({ cls := "CrossroadsChooseModel", name := "element", desc := "(II)J" } : Jvm.MethodName) prog_12_method_109_code (3 : Nat) (Option.some Jvm.ClassFile.FieldType.long)), (Jvm.Cond.methodLink "CrossroadsChooseLaw" (190 : Nat) ({ cls := "CrossroadsChooseModel", name := "shift", desc := "(IIIII)I" } : Jvm.MethodName)), (Jvm.Cond.instanceMethod ({ cls := "CrossroadsChooseModel", name := "shift", desc := "(IIIII)I" } : Jvm.MethodName)), (Jvm.Cond.selects "CrossroadsChooseModel" ({ cls := "CrossroadsChooseModel", name := "shift", desc := "(IIIII)I" } : Jvm.MethodName) ({ cls := "CrossroadsChooseModel", name := "shift", desc := "(IIIII)I" } : Jvm.MethodName)), (Jvm.Cond.code ({ cls := "CrossroadsChooseModel", name := "shift", desc := "(IIIII)I" } : Jvm.MethodName) prog_12_method_110_code (7 : Nat) (Option.some Jvm.ClassFile.FieldType.int)), (Jvm.Cond.methodLink "CrossroadsChooseLaw" (194 : Nat) ({ cls := "CrossroadsChooseModel", name := "taken", desc := "(II)I" } : Jvm.MethodName)), (Jvm.Cond.instanceMethod ({ cls := "CrossroadsChooseModel", name := "taken", desc := "(II)I" } : Jvm.MethodName)), (Jvm.Cond.selects "CrossroadsChooseModel" ({ cls := "CrossroadsChooseModel", name := "taken", desc := "(II)I" } : Jvm.MethodName) ({ cls := "CrossroadsChooseModel", name := "taken", desc := "(II)I" } : Jvm.MethodName)), (Jvm.Cond.code ({ cls := "CrossroadsChooseModel", name := "taken", desc := "(II)I" } : Jvm.MethodName) prog_12_method_111_code (3 : Nat) (Option.some Jvm.ClassFile.FieldType.int)), (Jvm.Cond.constantLong "CrossroadsChooseLaw" (175 : Nat) (4294967295 : Int64))]) : w ∈ lw_tbl := tk_6 (List.mem_of_mem_drop (i := 224) (List.mem_of_mem_take (i := 16) ((show (tables_1_6.drop 224).take 16 = [(Jvm.Cond.instanceMethod ({ cls := "CrossroadsChooseModel", name := "element", desc := "(II)J" } : Jvm.MethodName)), (Jvm.Cond.selects "CrossroadsChooseModel" ({ cls := "CrossroadsChooseModel", name := "element", desc := "(II)J" } : Jvm.MethodName) ({ cls := "CrossroadsChooseModel", name := "element", desc := "(II)J" } : Jvm.MethodName)), (Jvm.Cond.code ({ cls := "CrossroadsChooseModel", name := "element", desc := "(II)J" } : Jvm.MethodName) prog_12_method_109_code (3 : Nat) (Option.some Jvm.ClassFile.FieldType.long)), (Jvm.Cond.methodLink "CrossroadsChooseLaw" (190 : Nat) ({ cls := "CrossroadsChooseModel", name := "shift", desc := "(IIIII)I" } : Jvm.MethodName)), (Jvm.Cond.instanceMethod ({ cls := "CrossroadsChooseModel", name := "shift", desc := "(IIIII)I" } : Jvm.MethodName)), (Jvm.Cond.selects "CrossroadsChooseModel" ({ cls := "CrossroadsChooseModel", name := "shift", desc := "(IIIII)I" } : Jvm.MethodName) ({ cls := "CrossroadsChooseModel", name := "shift", desc := "(IIIII)I" } : Jvm.MethodName)), (Jvm.Cond.code ({ cls := "CrossroadsChooseModel", name := "shift", desc := "(IIIII)I" } : Jvm.MethodName) prog_12_method_110_code (7 : Nat) (Option.some Jvm.ClassFile.FieldType.int)), (Jvm.Cond.methodLink "CrossroadsChooseLaw" (194 : Nat) ({ cls := "CrossroadsChooseModel", name := "taken", desc := "(II)I" } : Jvm.MethodName)), (Jvm.Cond.instanceMethod ({ cls := "CrossroadsChooseModel", name := "taken", desc := "(II)I" } : Jvm.MethodName)), (Jvm.Cond.selects "CrossroadsChooseModel" ({ cls := "CrossroadsChooseModel", name := "taken", desc := "(II)I" } : Jvm.MethodName) ({ cls := "CrossroadsChooseModel", name := "taken", desc := "(II)I" } : Jvm.MethodName)), (Jvm.Cond.code ({ cls := "CrossroadsChooseModel", name := "taken", desc := "(II)I" } : Jvm.MethodName) prog_12_method_111_code (3 : Nat) (Option.some Jvm.ClassFile.FieldType.int)), (Jvm.Cond.constantLong "CrossroadsChooseLaw" (175 : Nat) (4294967295 : Int64))] from rfl) ▸ h)))
theorem pk_1 {q : MethodName × Nat} (h : q ∈ lw_privs_1) : Cond.selects q.1.cls q.1 q.1 ∈ lw_tbl := List.mem_append_left _ (List.mem_map.mpr ⟨q, (show q ∈ lw_privs from List.mem_append_left _ h), rfl⟩)
theorem pk_2 {q : MethodName × Nat} (h : q ∈ lw_privs_2) : Cond.selects q.1.cls q.1 q.1 ∈ lw_tbl := List.mem_append_left _ (List.mem_map.mpr ⟨q, (show q ∈ lw_privs from List.mem_append_right _ (List.mem_append_left _ h)), rfl⟩)
theorem pk_3 {q : MethodName × Nat} (h : q ∈ lw_privs_3) : Cond.selects q.1.cls q.1 q.1 ∈ lw_tbl := List.mem_append_left _ (List.mem_map.mpr ⟨q, (show q ∈ lw_privs from List.mem_append_right _ (List.mem_append_right _ (List.mem_append_left _ h))), rfl⟩)
theorem pk_4 {q : MethodName × Nat} (h : q ∈ lw_privs_4) : Cond.selects q.1.cls q.1 q.1 ∈ lw_tbl := List.mem_append_left _ (List.mem_map.mpr ⟨q, (show q ∈ lw_privs from List.mem_append_right _ (List.mem_append_right _ (List.mem_append_right _ (List.mem_append_left _ h)))), rfl⟩)
theorem pk_5 {q : MethodName × Nat} (h : q ∈ lw_privs_5) : Cond.selects q.1.cls q.1 q.1 ∈ lw_tbl := List.mem_append_left _ (List.mem_map.mpr ⟨q, (show q ∈ lw_privs from List.mem_append_right _ (List.mem_append_right _ (List.mem_append_right _ (List.mem_append_right _ (List.mem_append_left _ h))))), rfl⟩)
theorem pk_6 {q : MethodName × Nat} (h : q ∈ lw_privs_6) : Cond.selects q.1.cls q.1 q.1 ∈ lw_tbl := List.mem_append_left _ (List.mem_map.mpr ⟨q, (show q ∈ lw_privs from List.mem_append_right _ (List.mem_append_right _ (List.mem_append_right _ (List.mem_append_right _ (List.mem_append_right _ (h)))))), rfl⟩)
theorem gx_iT {w : Cond} (h : w ∈ lw_tbl) (hg : goodWord w = true) : w ∈ gx_T := List.mem_filter.mpr ⟨h, hg⟩
theorem gx_iN {w : Cond} (h : w ∈ lw_tbl) (hg : gx_isN w = true) : w ∈ gx_N := List.mem_filter.mpr ⟨h, hg⟩
theorem in_z0 : Cond.initialized "CrossroadsChoose" ∈ gx_T ∧ ("CrossroadsChoose" ≠ "java/lang/invoke/MethodHandle" ∧ "CrossroadsChoose" ≠ "java/lang/invoke/VarHandle") := ⟨(gx_iT (ck_1_0 _ lm1) rfl), (by decide +kernel), (by decide +kernel)⟩
theorem in_z1 : Cond.initialized "CrossroadsChoose$Bodies" ∈ gx_T ∧ ("CrossroadsChoose$Bodies" ≠ "java/lang/invoke/MethodHandle" ∧ "CrossroadsChoose$Bodies" ≠ "java/lang/invoke/VarHandle") := ⟨(gx_iT (ck_1_0 _ lm5) rfl), (by decide +kernel), (by decide +kernel)⟩
theorem in_z2 : Cond.initialized "CrossroadsChoose$Changes" ∈ gx_T ∧ ("CrossroadsChoose$Changes" ≠ "java/lang/invoke/MethodHandle" ∧ "CrossroadsChoose$Changes" ≠ "java/lang/invoke/VarHandle") := ⟨(gx_iT (ck_1_0 _ lm3) rfl), (by decide +kernel), (by decide +kernel)⟩
theorem in_z3 : Cond.initialized "CrossroadsChoose$Crossing" ∈ gx_T ∧ ("CrossroadsChoose$Crossing" ≠ "java/lang/invoke/MethodHandle" ∧ "CrossroadsChoose$Crossing" ≠ "java/lang/invoke/VarHandle") := ⟨(gx_iT (ck_1_0 _ lm7) rfl), (by decide +kernel), (by decide +kernel)⟩
theorem in_z4 : Cond.initialized "CrossroadsChoose$Image" ∈ gx_T ∧ ("CrossroadsChoose$Image" ≠ "java/lang/invoke/MethodHandle" ∧ "CrossroadsChoose$Image" ≠ "java/lang/invoke/VarHandle") := ⟨(gx_iT (ck_1_0 _ lm4) rfl), (by decide +kernel), (by decide +kernel)⟩
theorem in_z5 : Cond.initialized "CrossroadsChoose$Law" ∈ gx_T ∧ ("CrossroadsChoose$Law" ≠ "java/lang/invoke/MethodHandle" ∧ "CrossroadsChoose$Law" ≠ "java/lang/invoke/VarHandle") := ⟨(gx_iT (ck_1_0 _ lm6) rfl), (by decide +kernel), (by decide +kernel)⟩
theorem in_z6 : Cond.initialized "CrossroadsChoose$Shelf" ∈ gx_T ∧ ("CrossroadsChoose$Shelf" ≠ "java/lang/invoke/MethodHandle" ∧ "CrossroadsChoose$Shelf" ≠ "java/lang/invoke/VarHandle") := ⟨(gx_iT (ck_1_0 _ lm9) rfl), (by decide +kernel), (by decide +kernel)⟩
theorem in_z7 : Cond.initialized "CrossroadsChoose$Tape" ∈ gx_T ∧ ("CrossroadsChoose$Tape" ≠ "java/lang/invoke/MethodHandle" ∧ "CrossroadsChoose$Tape" ≠ "java/lang/invoke/VarHandle") := ⟨(gx_iT (ck_1_0 _ lm2) rfl), (by decide +kernel), (by decide +kernel)⟩
theorem in_z8 : Cond.initialized "CrossroadsChoose$Thought" ∈ gx_T ∧ ("CrossroadsChoose$Thought" ≠ "java/lang/invoke/MethodHandle" ∧ "CrossroadsChoose$Thought" ≠ "java/lang/invoke/VarHandle") := ⟨(gx_iT (ck_1_0 _ lm8) rfl), (by decide +kernel), (by decide +kernel)⟩
theorem in_z9 : Cond.initialized "CrossroadsChoose$Votes" ∈ gx_T ∧ ("CrossroadsChoose$Votes" ≠ "java/lang/invoke/MethodHandle" ∧ "CrossroadsChoose$Votes" ≠ "java/lang/invoke/VarHandle") := ⟨(gx_iT (ck_1_0 _ lm14) rfl), (by decide +kernel), (by decide +kernel)⟩
theorem in_z10 : Cond.initialized "CrossroadsChooseModel" ∈ gx_T ∧ ("CrossroadsChooseModel" ≠ "java/lang/invoke/MethodHandle" ∧ "CrossroadsChooseModel" ≠ "java/lang/invoke/VarHandle") := ⟨(gx_iT (ck_1_0 _ lm10) rfl), (by decide +kernel), (by decide +kernel)⟩
theorem in_z11 : Cond.initialized "java/lang/Integer" ∈ gx_T ∧ ("java/lang/Integer" ≠ "java/lang/invoke/MethodHandle" ∧ "java/lang/Integer" ≠ "java/lang/invoke/VarHandle") := ⟨(gx_iT (ck_1_0 _ lm15) rfl), (by decide +kernel), (by decide +kernel)⟩
theorem in_z12 : Cond.initialized "java/lang/Math" ∈ gx_T ∧ ("java/lang/Math" ≠ "java/lang/invoke/MethodHandle" ∧ "java/lang/Math" ≠ "java/lang/invoke/VarHandle") := ⟨(gx_iT (ck_1_0 _ lm12) rfl), (by decide +kernel), (by decide +kernel)⟩
theorem in_z13 : Cond.initialized "java/lang/System" ∈ gx_T ∧ ("java/lang/System" ≠ "java/lang/invoke/MethodHandle" ∧ "java/lang/System" ≠ "java/lang/invoke/VarHandle") := ⟨(gx_iT (ck_1_0 _ lm11) rfl), (by decide +kernel), (by decide +kernel)⟩
theorem in_z14 : Cond.initialized "java/util/Arrays" ∈ gx_T ∧ ("java/util/Arrays" ≠ "java/lang/invoke/MethodHandle" ∧ "java/util/Arrays" ≠ "java/lang/invoke/VarHandle") := ⟨(gx_iT (ck_1_0 _ lm13) rfl), (by decide +kernel), (by decide +kernel)⟩
abbrev mX9_init : gx_M := (⟨"CrossroadsChoose", "<init>", "()V"⟩, prog_1_method_1_code, 3, none)
theorem mi_X9_init : gx_MI mX9_init 0 := ⟨(gx_iT (ck_1_16 _ lm4) rfl), in_z0.1, in_z0.2, (by decide +kernel), by decide⟩
theorem mn_X9_init : Cond.instanceMethod mX9_init.1 ∈ gx_T := (gx_iT (ck_1_16 _ lm3) rfl)
abbrev mX6_init : gx_M := (⟨"CrossroadsChoose$Tape", "<init>", "()V"⟩, prog_8_method_1_code, 1, none)
theorem mi_X6_init : gx_MI mX6_init 0 := ⟨(gx_iT (ck_1_16 _ lm12) rfl), in_z7.1, in_z7.2, (by decide +kernel), by decide⟩
theorem mn_X6_init : Cond.instanceMethod mX6_init.1 ∈ gx_T := (gx_iT (ck_1_16 _ lm11) rfl)
abbrev mX1_init : gx_M := (⟨"CrossroadsChoose$Changes", "<init>", "()V"⟩, prog_3_method_1_code, 1, none)
theorem mi_X1_init : gx_MI mX1_init 0 := ⟨(gx_iT (ck_1_32 _ lm14) rfl), in_z2.1, in_z2.2, (by decide +kernel), by decide⟩
theorem mn_X1_init : Cond.instanceMethod mX1_init.1 ∈ gx_T := (gx_iT (ck_1_32 _ lm13) rfl)
abbrev mX3_init : gx_M := (⟨"CrossroadsChoose$Image", "<init>", "()V"⟩, prog_5_method_1_code, 1, none)
theorem mi_X3_init : gx_MI mX3_init 0 := ⟨(gx_iT (ck_1_64 _ lm9) rfl), in_z4.1, in_z4.2, (by decide +kernel), by decide⟩
theorem mn_X3_init : Cond.instanceMethod mX3_init.1 ∈ gx_T := (gx_iT (ck_1_64 _ lm8) rfl)
abbrev mX0_init : gx_M := (⟨"CrossroadsChoose$Bodies", "<init>", "()V"⟩, prog_2_method_1_code, 1, none)
theorem mi_X0_init : gx_MI mX0_init 0 := ⟨(gx_iT (ck_1_80 _ lm14) rfl), in_z1.1, in_z1.2, (by decide +kernel), by decide⟩
theorem mn_X0_init : Cond.instanceMethod mX0_init.1 ∈ gx_T := (gx_iT (ck_1_80 _ lm13) rfl)
abbrev mX4_init : gx_M := (⟨"CrossroadsChoose$Law", "<init>", "()V"⟩, prog_6_method_1_code, 1, none)
theorem mi_X4_init : gx_MI mX4_init 0 := ⟨(gx_iT (ck_1_112 _ lm7) rfl), in_z5.1, in_z5.2, (by decide +kernel), by decide⟩
theorem mn_X4_init : Cond.instanceMethod mX4_init.1 ∈ gx_T := (gx_iT (ck_1_112 _ lm6) rfl)
abbrev mX2_init : gx_M := (⟨"CrossroadsChoose$Crossing", "<init>", "(LCrossroadsChoose$Law;)V"⟩, prog_4_method_1_code, 2, none)
theorem mi_X2_init : gx_MI mX2_init 1 := ⟨(gx_iT (ck_1_144 _ lm0) rfl), in_z3.1, in_z3.2, (by decide +kernel), by decide⟩
theorem mn_X2_init : Cond.instanceMethod mX2_init.1 ∈ gx_T := (gx_iT (ck_1_128 _ lm15) rfl)
abbrev mX7_init : gx_M := (⟨"CrossroadsChoose$Thought", "<init>", "(LCrossroadsChoose$Law;)V"⟩, prog_9_method_1_code, 2, none)
theorem mi_X7_init : gx_MI mX7_init 1 := ⟨(gx_iT (ck_1_160 _ lm4) rfl), in_z8.1, in_z8.2, (by decide +kernel), by decide⟩
theorem mn_X7_init : Cond.instanceMethod mX7_init.1 ∈ gx_T := (gx_iT (ck_1_160 _ lm3) rfl)
abbrev mX5_init : gx_M := (⟨"CrossroadsChoose$Shelf", "<init>", "()V"⟩, prog_7_method_1_code, 1, none)
theorem mi_X5_init : gx_MI mX5_init 0 := ⟨(gx_iT (ck_1_192 _ lm7) rfl), in_z6.1, in_z6.2, (by decide +kernel), by decide⟩
theorem mn_X5_init : Cond.instanceMethod mX5_init.1 ∈ gx_T := (gx_iT (ck_1_192 _ lm6) rfl)
abbrev mX9_road : gx_M := (⟨"CrossroadsChoose", "road", "(II)I"⟩, prog_1_method_2_code, 3, (some Jvm.ClassFile.FieldType.int))
theorem mi_X9_road : gx_MI mX9_road 2 := ⟨(gx_iT (ck_2_16 _ lm3) rfl), in_z0.1, in_z0.2, (by decide +kernel), by decide⟩
theorem mv_X9_road : gx_MV mX9_road := ⟨(gx_iT (ck_2_16 _ lm1) rfl), (gx_iT (ck_2_16 _ lm2) rfl)⟩
abbrev mX9_fits : gx_M := (⟨"CrossroadsChoose", "fits", "(II)Z"⟩, prog_1_method_9_code, 2, (some Jvm.ClassFile.FieldType.boolean))
theorem mi_X9_fits : gx_MI mX9_fits 2 := ⟨(gx_iT (ck_2_16 _ lm6) rfl), in_z0.1, in_z0.2, (by decide +kernel), by decide⟩
theorem ms_X9_fits : Cond.static mX9_fits.1 ∈ gx_T := (gx_iT (ck_2_16 _ lm5) rfl)
abbrev mX2_isFull : gx_M := (⟨"CrossroadsChoose$Crossing", "isFull", "()Z"⟩, prog_4_method_3_code, 1, (some Jvm.ClassFile.FieldType.boolean))
theorem mi_X2_isFull : gx_MI mX2_isFull 0 := ⟨(gx_iT (ck_2_16 _ lm14) rfl), in_z3.1, in_z3.2, (by decide +kernel), by decide⟩
theorem mv_X2_isFull : gx_MV mX2_isFull := ⟨(gx_iT (ck_2_16 _ lm12) rfl), (gx_iT (ck_2_16 _ lm13) rfl)⟩
abbrev mX2_add : gx_M := (⟨"CrossroadsChoose$Crossing", "add", "(III)I"⟩, prog_4_method_5_code, 5, (some Jvm.ClassFile.FieldType.int))
theorem mi_X2_add : gx_MI mX2_add 3 := ⟨(gx_iT (ck_2_32 _ lm2) rfl), in_z3.1, in_z3.2, (by decide +kernel), by decide⟩
theorem mv_X2_add : gx_MV mX2_add := ⟨(gx_iT (ck_2_32 _ lm0) rfl), (gx_iT (ck_2_32 _ lm1) rfl)⟩
abbrev mX2_become : gx_M := (⟨"CrossroadsChoose$Crossing", "become", "(III)V"⟩, prog_4_method_8_code, 5, none)
theorem mi_X2_become : gx_MI mX2_become 3 := ⟨(gx_iT (ck_2_32 _ lm7) rfl), in_z3.1, in_z3.2, (by decide +kernel), by decide⟩
theorem mv_X2_become : gx_MV mX2_become := ⟨(gx_iT (ck_2_32 _ lm5) rfl), (gx_iT (ck_2_32 _ lm6) rfl)⟩
abbrev mX2_placeOf : gx_M := (⟨"CrossroadsChoose$Crossing", "placeOf", "(II)I"⟩, prog_4_method_6_code, 3, (some Jvm.ClassFile.FieldType.int))
theorem mi_X2_placeOf : gx_MI mX2_placeOf 2 := ⟨(gx_iT (ck_2_32 _ lm11) rfl), in_z3.1, in_z3.2, (by decide +kernel), by decide⟩
theorem mv_X2_placeOf : gx_MV mX2_placeOf := ⟨(gx_iT (ck_2_32 _ lm10) rfl), (gx_iT (pk_1 (q := (⟨"CrossroadsChoose$Crossing", "placeOf", "(II)I"⟩, 3)) lm0) rfl)⟩
abbrev mX9_roads : gx_M := (⟨"CrossroadsChoose", "roads", "(III)I"⟩, prog_1_method_3_code, 6, (some Jvm.ClassFile.FieldType.int))
theorem mi_X9_roads : gx_MI mX9_roads 3 := ⟨(gx_iT (ck_2_32 _ lm15) rfl), in_z0.1, in_z0.2, (by decide +kernel), by decide⟩
theorem mv_X9_roads : gx_MV mX9_roads := ⟨(gx_iT (ck_2_32 _ lm13) rfl), (gx_iT (ck_2_32 _ lm14) rfl)⟩
abbrev mX9_shelfAt : gx_M := (⟨"CrossroadsChoose", "shelfAt", "(I)LCrossroadsChoose$Shelf;"⟩, prog_1_method_56_code, 2, (some (Jvm.ClassFile.FieldType.object "CrossroadsChoose$Shelf")))
theorem mi_X9_shelfAt : gx_MI mX9_shelfAt 1 := ⟨(gx_iT (ck_2_48 _ lm3) rfl), in_z0.1, in_z0.2, (by decide +kernel), by decide⟩
theorem mv_X9_shelfAt : gx_MV mX9_shelfAt := ⟨(gx_iT (ck_2_48 _ lm2) rfl), (gx_iT (pk_1 (q := (⟨"CrossroadsChoose", "shelfAt", "(I)LCrossroadsChoose$Shelf;"⟩, 11)) lm1) rfl)⟩
abbrev mX5_holdsNothing : gx_M := (⟨"CrossroadsChoose$Shelf", "holdsNothing", "()Z"⟩, prog_7_method_2_code, 1, (some Jvm.ClassFile.FieldType.boolean))
theorem mi_X5_holdsNothing : gx_MI mX5_holdsNothing 0 := ⟨(gx_iT (ck_2_48 _ lm7) rfl), in_z6.1, in_z6.2, (by decide +kernel), by decide⟩
theorem mv_X5_holdsNothing : gx_MV mX5_holdsNothing := ⟨(gx_iT (ck_2_48 _ lm5) rfl), (gx_iT (ck_2_48 _ lm6) rfl)⟩
abbrev mX5_holdsBytes : gx_M := (⟨"CrossroadsChoose$Shelf", "holdsBytes", "()Z"⟩, prog_7_method_4_code, 1, (some Jvm.ClassFile.FieldType.boolean))
theorem mi_X5_holdsBytes : gx_MI mX5_holdsBytes 0 := ⟨(gx_iT (ck_2_48 _ lm11) rfl), in_z6.1, in_z6.2, (by decide +kernel), by decide⟩
theorem mv_X5_holdsBytes : gx_MV mX5_holdsBytes := ⟨(gx_iT (ck_2_48 _ lm9) rfl), (gx_iT (ck_2_48 _ lm10) rfl)⟩
abbrev mX9_addedFrom : gx_M := (⟨"CrossroadsChoose", "addedFrom", "(LCrossroadsChoose$Shelf;I)Z"⟩, prog_1_method_4_code, 6, (some Jvm.ClassFile.FieldType.boolean))
theorem mi_X9_addedFrom : gx_MI mX9_addedFrom 2 := ⟨(gx_iT (ck_2_48 _ lm15) rfl), in_z0.1, in_z0.2, (by decide +kernel), by decide⟩
theorem mv_X9_addedFrom : gx_MV mX9_addedFrom := ⟨(gx_iT (ck_2_48 _ lm14) rfl), (gx_iT (pk_1 (q := (⟨"CrossroadsChoose", "addedFrom", "(LCrossroadsChoose$Shelf;I)Z"⟩, 11)) lm2) rfl)⟩
abbrev mX5_hasRoom : gx_M := (⟨"CrossroadsChoose$Shelf", "hasRoom", "(II)Z"⟩, prog_7_method_8_code, 3, (some Jvm.ClassFile.FieldType.boolean))
theorem mi_X5_hasRoom : gx_MI mX5_hasRoom 2 := ⟨(gx_iT (ck_2_64 _ lm3) rfl), in_z6.1, in_z6.2, (by decide +kernel), by decide⟩
theorem mv_X5_hasRoom : gx_MV mX5_hasRoom := ⟨(gx_iT (ck_2_64 _ lm1) rfl), (gx_iT (ck_2_64 _ lm2) rfl)⟩
abbrev mX5_small : gx_M := (⟨"CrossroadsChoose$Shelf", "small", "(I)I"⟩, prog_7_method_10_code, 2, (some Jvm.ClassFile.FieldType.int))
theorem mi_X5_small : gx_MI mX5_small 1 := ⟨(gx_iT (ck_2_64 _ lm7) rfl), in_z6.1, in_z6.2, (by decide +kernel), by decide⟩
theorem mv_X5_small : gx_MV mX5_small := ⟨(gx_iT (ck_2_64 _ lm5) rfl), (gx_iT (ck_2_64 _ lm6) rfl)⟩
abbrev mX5_valueAt : gx_M := (⟨"CrossroadsChoose$Shelf", "valueAt", "(I)J"⟩, prog_7_method_9_code, 2, (some Jvm.ClassFile.FieldType.long))
theorem mi_X5_valueAt : gx_MI mX5_valueAt 1 := ⟨(gx_iT (ck_2_64 _ lm11) rfl), in_z6.1, in_z6.2, (by decide +kernel), by decide⟩
theorem mv_X5_valueAt : gx_MV mX5_valueAt := ⟨(gx_iT (ck_2_64 _ lm9) rfl), (gx_iT (ck_2_64 _ lm10) rfl)⟩
abbrev mX9_mend : gx_M := (⟨"CrossroadsChoose", "mend", "(III)I"⟩, prog_1_method_5_code, 5, (some Jvm.ClassFile.FieldType.int))
theorem mi_X9_mend : gx_MI mX9_mend 3 := ⟨(gx_iT (ck_2_80 _ lm0) rfl), in_z0.1, in_z0.2, (by decide +kernel), by decide⟩
theorem mv_X9_mend : gx_MV mX9_mend := ⟨(gx_iT (ck_2_64 _ lm14) rfl), (gx_iT (ck_2_64 _ lm15) rfl)⟩
abbrev mX2_number : gx_M := (⟨"CrossroadsChoose$Crossing", "number", "(II)I"⟩, prog_4_method_7_code, 4, (some Jvm.ClassFile.FieldType.int))
theorem mi_X2_number : gx_MI mX2_number 2 := ⟨(gx_iT (ck_2_80 _ lm4) rfl), in_z3.1, in_z3.2, (by decide +kernel), by decide⟩
theorem mv_X2_number : gx_MV mX2_number := ⟨(gx_iT (ck_2_80 _ lm2) rfl), (gx_iT (ck_2_80 _ lm3) rfl)⟩
abbrev mX1_note : gx_M := (⟨"CrossroadsChoose$Changes", "note", "(IIII)V"⟩, prog_3_method_2_code, 5, none)
theorem mi_X1_note : gx_MI mX1_note 4 := ⟨(gx_iT (ck_2_80 _ lm10) rfl), in_z2.1, in_z2.2, (by decide +kernel), by decide⟩
theorem mv_X1_note : gx_MV mX1_note := ⟨(gx_iT (ck_2_80 _ lm8) rfl), (gx_iT (ck_2_80 _ lm9) rfl)⟩
abbrev mX1_dropFirst : gx_M := (⟨"CrossroadsChoose$Changes", "dropFirst", "([I)V"⟩, prog_3_method_3_code, 1, none)
theorem mi_X1_dropFirst : gx_MI mX1_dropFirst 1 := ⟨(gx_iT (ck_2_80 _ lm13) rfl), in_z2.1, in_z2.2, (by decide +kernel), by decide⟩
theorem ms_X1_dropFirst : Cond.static mX1_dropFirst.1 ∈ gx_T := (gx_iT (ck_2_80 _ lm12) rfl)
abbrev mX9_of : gx_M := (⟨"CrossroadsChoose", "of", "(II)I"⟩, prog_1_method_6_code, 3, (some Jvm.ClassFile.FieldType.int))
theorem mi_X9_of : gx_MI mX9_of 2 := ⟨(gx_iT (ck_2_96 _ lm5) rfl), in_z0.1, in_z0.2, (by decide +kernel), by decide⟩
theorem mv_X9_of : gx_MV mX9_of := ⟨(gx_iT (ck_2_96 _ lm3) rfl), (gx_iT (ck_2_96 _ lm4) rfl)⟩
abbrev mX9_feed : gx_M := (⟨"CrossroadsChoose", "feed", "(I)I"⟩, prog_1_method_7_code, 2, (some Jvm.ClassFile.FieldType.int))
theorem mi_X9_feed : gx_MI mX9_feed 1 := ⟨(gx_iT (ck_2_96 _ lm9) rfl), in_z0.1, in_z0.2, (by decide +kernel), by decide⟩
theorem mv_X9_feed : gx_MV mX9_feed := ⟨(gx_iT (ck_2_96 _ lm7) rfl), (gx_iT (ck_2_96 _ lm8) rfl)⟩
abbrev mX6_isFull : gx_M := (⟨"CrossroadsChoose$Tape", "isFull", "()Z"⟩, prog_8_method_2_code, 1, (some Jvm.ClassFile.FieldType.boolean))
theorem mi_X6_isFull : gx_MI mX6_isFull 0 := ⟨(gx_iT (ck_2_96 _ lm13) rfl), in_z7.1, in_z7.2, (by decide +kernel), by decide⟩
theorem mv_X6_isFull : gx_MV mX6_isFull := ⟨(gx_iT (ck_2_96 _ lm11) rfl), (gx_iT (ck_2_96 _ lm12) rfl)⟩
abbrev mX6_add : gx_M := (⟨"CrossroadsChoose$Tape", "add", "(I)I"⟩, prog_8_method_3_code, 2, (some Jvm.ClassFile.FieldType.int))
theorem mi_X6_add : gx_MI mX6_add 1 := ⟨(gx_iT (ck_2_112 _ lm1) rfl), in_z7.1, in_z7.2, (by decide +kernel), by decide⟩
theorem mv_X6_add : gx_MV mX6_add := ⟨(gx_iT (ck_2_96 _ lm15) rfl), (gx_iT (ck_2_112 _ lm0) rfl)⟩
abbrev mX9_law : gx_M := (⟨"CrossroadsChoose", "law", "()I"⟩, prog_1_method_8_code, 3, (some Jvm.ClassFile.FieldType.int))
theorem mi_X9_law : gx_MI mX9_law 0 := ⟨(gx_iT (ck_2_112 _ lm6) rfl), in_z0.1, in_z0.2, (by decide +kernel), by decide⟩
theorem mv_X9_law : gx_MV mX9_law := ⟨(gx_iT (ck_2_112 _ lm4) rfl), (gx_iT (ck_2_112 _ lm5) rfl)⟩
abbrev mX6_readInto : gx_M := (⟨"CrossroadsChoose$Tape", "readInto", "(LCrossroadsChoose$Law;)I"⟩, prog_8_method_4_code, 4, (some Jvm.ClassFile.FieldType.int))
theorem mi_X6_readInto : gx_MI mX6_readInto 1 := ⟨(gx_iT (ck_2_112 _ lm10) rfl), in_z7.1, in_z7.2, (by decide +kernel), by decide⟩
theorem mv_X6_readInto : gx_MV mX6_readInto := ⟨(gx_iT (ck_2_112 _ lm8) rfl), (gx_iT (ck_2_112 _ lm9) rfl)⟩
abbrev mX4_clear : gx_M := (⟨"CrossroadsChoose$Law", "clear", "()V"⟩, prog_6_method_3_code, 1, none)
theorem mi_X4_clear : gx_MI mX4_clear 0 := ⟨(gx_iT (ck_2_112 _ lm14) rfl), in_z5.1, in_z5.2, (by decide +kernel), by decide⟩
theorem mv_X4_clear : gx_MV mX4_clear := ⟨(gx_iT (ck_2_112 _ lm12) rfl), (gx_iT (ck_2_112 _ lm13) rfl)⟩
abbrev mX6_readLines : gx_M := (⟨"CrossroadsChoose$Tape", "readLines", "(LCrossroadsChoose$Law;)Z"⟩, prog_8_method_6_code, 3, (some Jvm.ClassFile.FieldType.boolean))
theorem mi_X6_readLines : gx_MI mX6_readLines 1 := ⟨(gx_iT (ck_2_128 _ lm2) rfl), in_z7.1, in_z7.2, (by decide +kernel), by decide⟩
theorem mv_X6_readLines : gx_MV mX6_readLines := ⟨(gx_iT (ck_2_128 _ lm1) rfl), (gx_iT (pk_1 (q := (⟨"CrossroadsChoose$Tape", "readLines", "(LCrossroadsChoose$Law;)Z"⟩, 3)) lm3) rfl)⟩
abbrev mX6_readLine : gx_M := (⟨"CrossroadsChoose$Tape", "readLine", "(LCrossroadsChoose$Law;)Z"⟩, prog_8_method_7_code, 2, (some Jvm.ClassFile.FieldType.boolean))
theorem mi_X6_readLine : gx_MI mX6_readLine 1 := ⟨(gx_iT (ck_2_128 _ lm6) rfl), in_z7.1, in_z7.2, (by decide +kernel), by decide⟩
theorem mv_X6_readLine : gx_MV mX6_readLine := ⟨(gx_iT (ck_2_128 _ lm5) rfl), (gx_iT (pk_1 (q := (⟨"CrossroadsChoose$Tape", "readLine", "(LCrossroadsChoose$Law;)Z"⟩, 3)) lm4) rfl)⟩
abbrev mX6_readJoined : gx_M := (⟨"CrossroadsChoose$Tape", "readJoined", "(LCrossroadsChoose$Law;II)Z"⟩, prog_8_method_8_code, 7, (some Jvm.ClassFile.FieldType.boolean))
theorem mi_X6_readJoined : gx_MI mX6_readJoined 3 := ⟨(gx_iT (ck_2_128 _ lm10) rfl), in_z7.1, in_z7.2, (by decide +kernel), by decide⟩
theorem mv_X6_readJoined : gx_MV mX6_readJoined := ⟨(gx_iT (ck_2_128 _ lm9) rfl), (gx_iT (pk_1 (q := (⟨"CrossroadsChoose$Tape", "readJoined", "(LCrossroadsChoose$Law;II)Z"⟩, 3)) lm5) rfl)⟩
abbrev mX6_readOperand : gx_M := (⟨"CrossroadsChoose$Tape", "readOperand", "(LCrossroadsChoose$Law;I)Z"⟩, prog_8_method_10_code, 6, (some Jvm.ClassFile.FieldType.boolean))
theorem mi_X6_readOperand : gx_MI mX6_readOperand 2 := ⟨(gx_iT (ck_2_128 _ lm14) rfl), in_z7.1, in_z7.2, (by decide +kernel), by decide⟩
theorem mv_X6_readOperand : gx_MV mX6_readOperand := ⟨(gx_iT (ck_2_128 _ lm13) rfl), (gx_iT (pk_1 (q := (⟨"CrossroadsChoose$Tape", "readOperand", "(LCrossroadsChoose$Law;I)Z"⟩, 3)) lm6) rfl)⟩
abbrev mX6_here : gx_M := (⟨"CrossroadsChoose$Tape", "here", "()I"⟩, prog_8_method_5_code, 1, (some Jvm.ClassFile.FieldType.int))
theorem mi_X6_here : gx_MI mX6_here 0 := ⟨(gx_iT (ck_2_144 _ lm2) rfl), in_z7.1, in_z7.2, (by decide +kernel), by decide⟩
theorem mv_X6_here : gx_MV mX6_here := ⟨(gx_iT (ck_2_144 _ lm1) rfl), (gx_iT (pk_1 (q := (⟨"CrossroadsChoose$Tape", "here", "()I"⟩, 3)) lm7) rfl)⟩
abbrev mX6_isDigit : gx_M := (⟨"CrossroadsChoose$Tape", "isDigit", "(I)Z"⟩, prog_8_method_14_code, 1, (some Jvm.ClassFile.FieldType.boolean))
theorem mi_X6_isDigit : gx_MI mX6_isDigit 1 := ⟨(gx_iT (ck_2_144 _ lm5) rfl), in_z7.1, in_z7.2, (by decide +kernel), by decide⟩
theorem ms_X6_isDigit : Cond.static mX6_isDigit.1 ∈ gx_T := (gx_iT (ck_2_144 _ lm4) rfl)
abbrev mX6_readNumber : gx_M := (⟨"CrossroadsChoose$Tape", "readNumber", "(LCrossroadsChoose$Law;)V"⟩, prog_8_method_13_code, 4, none)
theorem mi_X6_readNumber : gx_MI mX6_readNumber 1 := ⟨(gx_iT (ck_2_144 _ lm9) rfl), in_z7.1, in_z7.2, (by decide +kernel), by decide⟩
theorem mv_X6_readNumber : gx_MV mX6_readNumber := ⟨(gx_iT (ck_2_144 _ lm8) rfl), (gx_iT (pk_1 (q := (⟨"CrossroadsChoose$Tape", "readNumber", "(LCrossroadsChoose$Law;)V"⟩, 3)) lm8) rfl)⟩
abbrev mX4_add : gx_M := (⟨"CrossroadsChoose$Law", "add", "(II)V"⟩, prog_6_method_4_code, 3, none)
theorem mi_X4_add : gx_MI mX4_add 2 := ⟨(gx_iT (ck_2_144 _ lm13) rfl), in_z5.1, in_z5.2, (by decide +kernel), by decide⟩
theorem mv_X4_add : gx_MV mX4_add := ⟨(gx_iT (ck_2_144 _ lm11) rfl), (gx_iT (ck_2_144 _ lm12) rfl)⟩
abbrev mX6_nameOf : gx_M := (⟨"CrossroadsChoose$Tape", "nameOf", "(I)I"⟩, prog_8_method_15_code, 1, (some Jvm.ClassFile.FieldType.int))
theorem mi_X6_nameOf : gx_MI mX6_nameOf 1 := ⟨(gx_iT (ck_2_160 _ lm0) rfl), in_z7.1, in_z7.2, (by decide +kernel), by decide⟩
theorem ms_X6_nameOf : Cond.static mX6_nameOf.1 ∈ gx_T := (gx_iT (ck_2_144 _ lm15) rfl)
abbrev mX6_readBracket : gx_M := (⟨"CrossroadsChoose$Tape", "readBracket", "(LCrossroadsChoose$Law;I)Z"⟩, prog_8_method_11_code, 3, (some Jvm.ClassFile.FieldType.boolean))
theorem mi_X6_readBracket : gx_MI mX6_readBracket 2 := ⟨(gx_iT (ck_2_160 _ lm4) rfl), in_z7.1, in_z7.2, (by decide +kernel), by decide⟩
theorem mv_X6_readBracket : gx_MV mX6_readBracket := ⟨(gx_iT (ck_2_160 _ lm3) rfl), (gx_iT (pk_1 (q := (⟨"CrossroadsChoose$Tape", "readBracket", "(LCrossroadsChoose$Law;I)Z"⟩, 3)) lm9) rfl)⟩
abbrev mX6_readSigned : gx_M := (⟨"CrossroadsChoose$Tape", "readSigned", "(LCrossroadsChoose$Law;II)Z"⟩, prog_8_method_12_code, 4, (some Jvm.ClassFile.FieldType.boolean))
theorem mi_X6_readSigned : gx_MI mX6_readSigned 3 := ⟨(gx_iT (ck_2_160 _ lm8) rfl), in_z7.1, in_z7.2, (by decide +kernel), by decide⟩
theorem mv_X6_readSigned : gx_MV mX6_readSigned := ⟨(gx_iT (ck_2_160 _ lm7) rfl), (gx_iT (pk_1 (q := (⟨"CrossroadsChoose$Tape", "readSigned", "(LCrossroadsChoose$Law;II)Z"⟩, 3)) lm10) rfl)⟩
abbrev mX6_joins : gx_M := (⟨"CrossroadsChoose$Tape", "joins", "(II)Z"⟩, prog_8_method_9_code, 2, (some Jvm.ClassFile.FieldType.boolean))
theorem mi_X6_joins : gx_MI mX6_joins 2 := ⟨(gx_iT (ck_2_160 _ lm11) rfl), in_z7.1, in_z7.2, (by decide +kernel), by decide⟩
theorem ms_X6_joins : Cond.static mX6_joins.1 ∈ gx_T := (gx_iT (ck_2_160 _ lm10) rfl)
abbrev mX9_pull : gx_M := (⟨"CrossroadsChoose", "pull", "(II)I"⟩, prog_1_method_10_code, 3, (some Jvm.ClassFile.FieldType.int))
theorem mi_X9_pull : gx_MI mX9_pull 2 := ⟨(gx_iT (ck_2_160 _ lm15) rfl), in_z0.1, in_z0.2, (by decide +kernel), by decide⟩
theorem mv_X9_pull : gx_MV mX9_pull := ⟨(gx_iT (ck_2_160 _ lm13) rfl), (gx_iT (ck_2_160 _ lm14) rfl)⟩
abbrev mX2_isRoad : gx_M := (⟨"CrossroadsChoose$Crossing", "isRoad", "(I)Z"⟩, prog_4_method_2_code, 2, (some Jvm.ClassFile.FieldType.boolean))
theorem mi_X2_isRoad : gx_MI mX2_isRoad 1 := ⟨(gx_iT (ck_2_176 _ lm3) rfl), in_z3.1, in_z3.2, (by decide +kernel), by decide⟩
theorem mv_X2_isRoad : gx_MV mX2_isRoad := ⟨(gx_iT (ck_2_176 _ lm1) rfl), (gx_iT (ck_2_176 _ lm2) rfl)⟩
abbrev mX9_isComer : gx_M := (⟨"CrossroadsChoose", "isComer", "(I)Z"⟩, prog_1_method_22_code, 1, (some Jvm.ClassFile.FieldType.boolean))
theorem mi_X9_isComer : gx_MI mX9_isComer 1 := ⟨(gx_iT (ck_2_176 _ lm6) rfl), in_z0.1, in_z0.2, (by decide +kernel), by decide⟩
theorem ms_X9_isComer : Cond.static mX9_isComer.1 ∈ gx_T := (gx_iT (ck_2_176 _ lm5) rfl)
abbrev mX2_wants : gx_M := (⟨"CrossroadsChoose$Crossing", "wants", "(II)I"⟩, prog_4_method_13_code, 8, (some Jvm.ClassFile.FieldType.int))
theorem mi_X2_wants : gx_MI mX2_wants 2 := ⟨(gx_iT (ck_2_176 _ lm10) rfl), in_z3.1, in_z3.2, (by decide +kernel), by decide⟩
theorem mv_X2_wants : gx_MV mX2_wants := ⟨(gx_iT (ck_2_176 _ lm8) rfl), (gx_iT (ck_2_176 _ lm9) rfl)⟩
abbrev mX4_isTold : gx_M := (⟨"CrossroadsChoose$Law", "isTold", "()Z"⟩, prog_6_method_2_code, 1, (some Jvm.ClassFile.FieldType.boolean))
theorem mi_X4_isTold : gx_MI mX4_isTold 0 := ⟨(gx_iT (ck_2_176 _ lm15) rfl), in_z5.1, in_z5.2, (by decide +kernel), by decide⟩
theorem mv_X4_isTold : gx_MV mX4_isTold := ⟨(gx_iT (ck_2_176 _ lm13) rfl), (gx_iT (ck_2_176 _ lm14) rfl)⟩
abbrev mX4_gives : gx_M := (⟨"CrossroadsChoose$Law", "gives", "(IIIIII)I"⟩, prog_6_method_5_code, 12, (some Jvm.ClassFile.FieldType.int))
theorem mi_X4_gives : gx_MI mX4_gives 6 := ⟨(gx_iT (ck_2_192 _ lm3) rfl), in_z5.1, in_z5.2, (by decide +kernel), by decide⟩
theorem mv_X4_gives : gx_MV mX4_gives := ⟨(gx_iT (ck_2_192 _ lm1) rfl), (gx_iT (ck_2_192 _ lm2) rfl)⟩
abbrev mX4_take : gx_M := (⟨"CrossroadsChoose$Law", "take", "()I"⟩, prog_6_method_8_code, 1, (some Jvm.ClassFile.FieldType.int))
theorem mi_X4_take : gx_MI mX4_take 0 := ⟨(gx_iT (ck_2_192 _ lm7) rfl), in_z5.1, in_z5.2, (by decide +kernel), by decide⟩
theorem mv_X4_take : gx_MV mX4_take := ⟨(gx_iT (ck_2_192 _ lm6) rfl), (gx_iT (pk_1 (q := (⟨"CrossroadsChoose$Law", "take", "()I"⟩, 6)) lm11) rfl)⟩
abbrev mX4_lay : gx_M := (⟨"CrossroadsChoose$Law", "lay", "(I)V"⟩, prog_6_method_7_code, 2, none)
theorem mi_X4_lay : gx_MI mX4_lay 1 := ⟨(gx_iT (ck_2_192 _ lm11) rfl), in_z5.1, in_z5.2, (by decide +kernel), by decide⟩
theorem mv_X4_lay : gx_MV mX4_lay := ⟨(gx_iT (ck_2_192 _ lm10) rfl), (gx_iT (pk_1 (q := (⟨"CrossroadsChoose$Law", "lay", "(I)V"⟩, 6)) lm12) rfl)⟩
abbrev mX4_named : gx_M := (⟨"CrossroadsChoose$Law", "named", "(I)I"⟩, prog_6_method_6_code, 2, (some Jvm.ClassFile.FieldType.int))
theorem mi_X4_named : gx_MI mX4_named 1 := ⟨(gx_iT (ck_2_192 _ lm15) rfl), in_z5.1, in_z5.2, (by decide +kernel), by decide⟩
theorem mv_X4_named : gx_MV mX4_named := ⟨(gx_iT (ck_2_192 _ lm14) rfl), (gx_iT (pk_1 (q := (⟨"CrossroadsChoose$Law", "named", "(I)I"⟩, 6)) lm13) rfl)⟩
abbrev mX4_joined : gx_M := (⟨"CrossroadsChoose$Law", "joined", "(III)I"⟩, prog_6_method_9_code, 3, (some Jvm.ClassFile.FieldType.int))
theorem mi_X4_joined : gx_MI mX4_joined 3 := ⟨(gx_iT (ck_2_208 _ lm2) rfl), in_z5.1, in_z5.2, (by decide +kernel), by decide⟩
theorem ms_X4_joined : Cond.static mX4_joined.1 ∈ gx_T := (gx_iT (ck_2_208 _ lm1) rfl)
abbrev mJ9_min_7cf53 : gx_M := (⟨"java/lang/Math", "min", "(II)I"⟩, prog_14_method_69_code, 2, (some Jvm.ClassFile.FieldType.int))
theorem mi_J9_min_7cf53 : gx_MI mJ9_min_7cf53 2 := ⟨(gx_iT (ck_2_208 _ lm5) rfl), in_z12.1, in_z12.2, (by decide +kernel), by decide⟩
theorem ms_J9_min_7cf53 : Cond.static mJ9_min_7cf53.1 ∈ gx_T := (gx_iT (ck_2_208 _ lm4) rfl)
abbrev mJ9_max_7cf53 : gx_M := (⟨"java/lang/Math", "max", "(II)I"⟩, prog_14_method_65_code, 2, (some Jvm.ClassFile.FieldType.int))
theorem mi_J9_max_7cf53 : gx_MI mJ9_max_7cf53 2 := ⟨(gx_iT (ck_2_208 _ lm8) rfl), in_z12.1, in_z12.2, (by decide +kernel), by decide⟩
theorem ms_J9_max_7cf53 : Cond.static mJ9_max_7cf53.1 ∈ gx_T := (gx_iT (ck_2_208 _ lm7) rfl)
abbrev mX9_has : gx_M := (⟨"CrossroadsChoose", "has", "(I)I"⟩, prog_1_method_11_code, 2, (some Jvm.ClassFile.FieldType.int))
theorem mi_X9_has : gx_MI mX9_has 1 := ⟨(gx_iT (ck_2_208 _ lm12) rfl), in_z0.1, in_z0.2, (by decide +kernel), by decide⟩
theorem mv_X9_has : gx_MV mX9_has := ⟨(gx_iT (ck_2_208 _ lm10) rfl), (gx_iT (ck_2_208 _ lm11) rfl)⟩
abbrev mX2_haver : gx_M := (⟨"CrossroadsChoose$Crossing", "haver", "(I)I"⟩, prog_4_method_14_code, 2, (some Jvm.ClassFile.FieldType.int))
theorem mi_X2_haver : gx_MI mX2_haver 1 := ⟨(gx_iT (ck_2_224 _ lm0) rfl), in_z3.1, in_z3.2, (by decide +kernel), by decide⟩
theorem mv_X2_haver : gx_MV mX2_haver := ⟨(gx_iT (ck_2_208 _ lm14) rfl), (gx_iT (ck_2_208 _ lm15) rfl)⟩
abbrev mX2_isRunner : gx_M := (⟨"CrossroadsChoose$Crossing", "isRunner", "(I)Z"⟩, prog_4_method_12_code, 2, (some Jvm.ClassFile.FieldType.boolean))
theorem mi_X2_isRunner : gx_MI mX2_isRunner 1 := ⟨(gx_iT (ck_2_224 _ lm4) rfl), in_z3.1, in_z3.2, (by decide +kernel), by decide⟩
theorem mv_X2_isRunner : gx_MV mX2_isRunner := ⟨(gx_iT (ck_2_224 _ lm2) rfl), (gx_iT (ck_2_224 _ lm3) rfl)⟩
abbrev mX2_wanter : gx_M := (⟨"CrossroadsChoose$Crossing", "wanter", "(II)I"⟩, prog_4_method_15_code, 7, (some Jvm.ClassFile.FieldType.int))
theorem mi_X2_wanter : gx_MI mX2_wanter 2 := ⟨(gx_iT (ck_2_224 _ lm9) rfl), in_z3.1, in_z3.2, (by decide +kernel), by decide⟩
theorem mv_X2_wanter : gx_MV mX2_wanter := ⟨(gx_iT (ck_2_224 _ lm8) rfl), (gx_iT (pk_1 (q := (⟨"CrossroadsChoose$Crossing", "wanter", "(II)I"⟩, 3)) lm14) rfl)⟩
abbrev mX9_last : gx_M := (⟨"CrossroadsChoose", "last", "(II)I"⟩, prog_1_method_12_code, 4, (some Jvm.ClassFile.FieldType.int))
theorem mi_X9_last : gx_MI mX9_last 2 := ⟨(gx_iT (ck_2_224 _ lm14) rfl), in_z0.1, in_z0.2, (by decide +kernel), by decide⟩
theorem mv_X9_last : gx_MV mX9_last := ⟨(gx_iT (ck_2_224 _ lm12) rfl), (gx_iT (ck_2_224 _ lm13) rfl)⟩
abbrev mX9_dayRefusal : gx_M := (⟨"CrossroadsChoose", "dayRefusal", "(II)I"⟩, prog_1_method_24_code, 3, (some Jvm.ClassFile.FieldType.int))
theorem mi_X9_dayRefusal : gx_MI mX9_dayRefusal 2 := ⟨(gx_iT (ck_3_0 _ lm2) rfl), in_z0.1, in_z0.2, (by decide +kernel), by decide⟩
theorem mv_X9_dayRefusal : gx_MV mX9_dayRefusal := ⟨(gx_iT (ck_3_0 _ lm1) rfl), (gx_iT (pk_1 (q := (⟨"CrossroadsChoose", "dayRefusal", "(II)I"⟩, 11)) lm15) rfl)⟩
abbrev mX9_bytesRefusal : gx_M := (⟨"CrossroadsChoose", "bytesRefusal", "(I)I"⟩, prog_1_method_25_code, 4, (some Jvm.ClassFile.FieldType.int))
theorem mi_X9_bytesRefusal : gx_MI mX9_bytesRefusal 1 := ⟨(gx_iT (ck_3_0 _ lm6) rfl), in_z0.1, in_z0.2, (by decide +kernel), by decide⟩
theorem mv_X9_bytesRefusal : gx_MV mX9_bytesRefusal := ⟨(gx_iT (ck_3_0 _ lm5) rfl), (gx_iT (pk_2 (q := (⟨"CrossroadsChoose", "bytesRefusal", "(I)I"⟩, 11)) lm0) rfl)⟩
abbrev mX9_rowRefusal : gx_M := (⟨"CrossroadsChoose", "rowRefusal", "(I)I"⟩, prog_1_method_57_code, 3, (some Jvm.ClassFile.FieldType.int))
theorem mi_X9_rowRefusal : gx_MI mX9_rowRefusal 1 := ⟨(gx_iT (ck_3_0 _ lm10) rfl), in_z0.1, in_z0.2, (by decide +kernel), by decide⟩
theorem mv_X9_rowRefusal : gx_MV mX9_rowRefusal := ⟨(gx_iT (ck_3_0 _ lm9) rfl), (gx_iT (pk_2 (q := (⟨"CrossroadsChoose", "rowRefusal", "(I)I"⟩, 11)) lm1) rfl)⟩
abbrev mX5_holdsRow : gx_M := (⟨"CrossroadsChoose$Shelf", "holdsRow", "()Z"⟩, prog_7_method_3_code, 1, (some Jvm.ClassFile.FieldType.boolean))
theorem mi_X5_holdsRow : gx_MI mX5_holdsRow 0 := ⟨(gx_iT (ck_3_0 _ lm14) rfl), in_z6.1, in_z6.2, (by decide +kernel), by decide⟩
theorem mv_X5_holdsRow : gx_MV mX5_holdsRow := ⟨(gx_iT (ck_3_0 _ lm12) rfl), (gx_iT (ck_3_0 _ lm13) rfl)⟩
abbrev mX9_thinkDay : gx_M := (⟨"CrossroadsChoose", "thinkDay", "(LCrossroadsChoose$Shelf;I)V"⟩, prog_1_method_26_code, 5, none)
theorem mi_X9_thinkDay : gx_MI mX9_thinkDay 2 := ⟨(gx_iT (ck_3_16 _ lm2) rfl), in_z0.1, in_z0.2, (by decide +kernel), by decide⟩
theorem mv_X9_thinkDay : gx_MV mX9_thinkDay := ⟨(gx_iT (ck_3_16 _ lm1) rfl), (gx_iT (pk_2 (q := (⟨"CrossroadsChoose", "thinkDay", "(LCrossroadsChoose$Shelf;I)V"⟩, 11)) lm2) rfl)⟩
abbrev mX7_begin : gx_M := (⟨"CrossroadsChoose$Thought", "begin", "(LCrossroadsChoose$Crossing;)V"⟩, prog_9_method_2_code, 2, none)
theorem mi_X7_begin : gx_MI mX7_begin 1 := ⟨(gx_iT (ck_3_16 _ lm6) rfl), in_z8.1, in_z8.2, (by decide +kernel), by decide⟩
theorem mv_X7_begin : gx_MV mX7_begin := ⟨(gx_iT (ck_3_16 _ lm4) rfl), (gx_iT (ck_3_16 _ lm5) rfl)⟩
abbrev mX2_copy : gx_M := (⟨"CrossroadsChoose$Crossing", "copy", "(LCrossroadsChoose$Crossing;)V"⟩, prog_4_method_9_code, 2, none)
theorem mi_X2_copy : gx_MI mX2_copy 1 := ⟨(gx_iT (ck_3_16 _ lm10) rfl), in_z3.1, in_z3.2, (by decide +kernel), by decide⟩
theorem mv_X2_copy : gx_MV mX2_copy := ⟨(gx_iT (ck_3_16 _ lm8) rfl), (gx_iT (ck_3_16 _ lm9) rfl)⟩
abbrev mJ7_fill_53178 : gx_M := (⟨"java/util/Arrays", "fill", "([II)V"⟩, prog_16_method_103_code, 4, none)
theorem mi_J7_fill_53178 : gx_MI mJ7_fill_53178 2 := ⟨(gx_iT (ck_3_16 _ lm14) rfl), in_z14.1, in_z14.2, (by decide +kernel), by decide⟩
theorem ms_J7_fill_53178 : Cond.static mJ7_fill_53178.1 ∈ gx_T := (gx_iT (ck_3_16 _ lm13) rfl)
abbrev mX2_giveWaits : gx_M := (⟨"CrossroadsChoose$Crossing", "giveWaits", "([I)V"⟩, prog_4_method_10_code, 2, none)
theorem mi_X2_giveWaits : gx_MI mX2_giveWaits 1 := ⟨(gx_iT (ck_3_32 _ lm2) rfl), in_z3.1, in_z3.2, (by decide +kernel), by decide⟩
theorem mv_X2_giveWaits : gx_MV mX2_giveWaits := ⟨(gx_iT (ck_3_32 _ lm0) rfl), (gx_iT (ck_3_32 _ lm1) rfl)⟩
abbrev mX5_comers : gx_M := (⟨"CrossroadsChoose$Shelf", "comers", "(I)I"⟩, prog_7_method_13_code, 3, (some Jvm.ClassFile.FieldType.int))
theorem mi_X5_comers : gx_MI mX5_comers 1 := ⟨(gx_iT (ck_3_32 _ lm6) rfl), in_z6.1, in_z6.2, (by decide +kernel), by decide⟩
theorem mv_X5_comers : gx_MV mX5_comers := ⟨(gx_iT (ck_3_32 _ lm4) rfl), (gx_iT (ck_3_32 _ lm5) rfl)⟩
abbrev mX7_meet : gx_M := (⟨"CrossroadsChoose$Thought", "meet", "(I)I"⟩, prog_9_method_4_code, 3, (some Jvm.ClassFile.FieldType.int))
theorem mi_X7_meet : gx_MI mX7_meet 1 := ⟨(gx_iT (ck_3_32 _ lm12) rfl), in_z8.1, in_z8.2, (by decide +kernel), by decide⟩
theorem mv_X7_meet : gx_MV mX7_meet := ⟨(gx_iT (ck_3_32 _ lm10) rfl), (gx_iT (ck_3_32 _ lm11) rfl)⟩
abbrev mX2_settle : gx_M := (⟨"CrossroadsChoose$Crossing", "settle", "(I)V"⟩, prog_4_method_18_code, 4, none)
theorem mi_X2_settle : gx_MI mX2_settle 1 := ⟨(gx_iT (ck_3_48 _ lm1) rfl), in_z3.1, in_z3.2, (by decide +kernel), by decide⟩
theorem mv_X2_settle : gx_MV mX2_settle := ⟨(gx_iT (ck_3_32 _ lm15) rfl), (gx_iT (ck_3_48 _ lm0) rfl)⟩
abbrev mX7_noteWaits : gx_M := (⟨"CrossroadsChoose$Thought", "noteWaits", "()V"⟩, prog_9_method_5_code, 2, none)
theorem mi_X7_noteWaits : gx_MI mX7_noteWaits 0 := ⟨(gx_iT (ck_3_48 _ lm7) rfl), in_z8.1, in_z8.2, (by decide +kernel), by decide⟩
theorem mv_X7_noteWaits : gx_MV mX7_noteWaits := ⟨(gx_iT (ck_3_48 _ lm6) rfl), (gx_iT (pk_2 (q := (⟨"CrossroadsChoose$Thought", "noteWaits", "()V"⟩, 7)) lm3) rfl)⟩
abbrev mX9_day : gx_M := (⟨"CrossroadsChoose", "day", "(IIII)I"⟩, prog_1_method_13_code, 6, (some Jvm.ClassFile.FieldType.int))
theorem mi_X9_day : gx_MI mX9_day 4 := ⟨(gx_iT (ck_3_48 _ lm12) rfl), in_z0.1, in_z0.2, (by decide +kernel), by decide⟩
theorem mv_X9_day : gx_MV mX9_day := ⟨(gx_iT (ck_3_48 _ lm10) rfl), (gx_iT (ck_3_48 _ lm11) rfl)⟩
abbrev mX9_unlike : gx_M := (⟨"CrossroadsChoose", "unlike", "(II)I"⟩, prog_1_method_14_code, 4, (some Jvm.ClassFile.FieldType.int))
theorem mi_X9_unlike : gx_MI mX9_unlike 2 := ⟨(gx_iT (ck_3_64 _ lm0) rfl), in_z0.1, in_z0.2, (by decide +kernel), by decide⟩
theorem mv_X9_unlike : gx_MV mX9_unlike := ⟨(gx_iT (ck_3_48 _ lm14) rfl), (gx_iT (ck_3_48 _ lm15) rfl)⟩
abbrev mX7_unlikeness : gx_M := (⟨"CrossroadsChoose$Thought", "unlikeness", "()I"⟩, prog_9_method_6_code, 4, (some Jvm.ClassFile.FieldType.int))
theorem mi_X7_unlikeness : gx_MI mX7_unlikeness 0 := ⟨(gx_iT (ck_3_64 _ lm4) rfl), in_z8.1, in_z8.2, (by decide +kernel), by decide⟩
theorem mv_X7_unlikeness : gx_MV mX7_unlikeness := ⟨(gx_iT (ck_3_64 _ lm2) rfl), (gx_iT (ck_3_64 _ lm3) rfl)⟩
abbrev mX9_how : gx_M := (⟨"CrossroadsChoose", "how", "(II)I"⟩, prog_1_method_15_code, 6, (some Jvm.ClassFile.FieldType.int))
theorem mi_X9_how : gx_MI mX9_how 2 := ⟨(gx_iT (ck_3_64 _ lm9) rfl), in_z0.1, in_z0.2, (by decide +kernel), by decide⟩
theorem mv_X9_how : gx_MV mX9_how := ⟨(gx_iT (ck_3_64 _ lm7) rfl), (gx_iT (ck_3_64 _ lm8) rfl)⟩
abbrev mX9_ahead : gx_M := (⟨"CrossroadsChoose", "ahead", "(II)I"⟩, prog_1_method_16_code, 4, (some Jvm.ClassFile.FieldType.int))
theorem mi_X9_ahead : gx_MI mX9_ahead 2 := ⟨(gx_iT (ck_3_64 _ lm13) rfl), in_z0.1, in_z0.2, (by decide +kernel), by decide⟩
theorem mv_X9_ahead : gx_MV mX9_ahead := ⟨(gx_iT (ck_3_64 _ lm11) rfl), (gx_iT (ck_3_64 _ lm12) rfl)⟩
abbrev mX9_isPair : gx_M := (⟨"CrossroadsChoose", "isPair", "(I)Z"⟩, prog_1_method_23_code, 2, (some Jvm.ClassFile.FieldType.boolean))
theorem mi_X9_isPair : gx_MI mX9_isPair 1 := ⟨(gx_iT (ck_3_80 _ lm1) rfl), in_z0.1, in_z0.2, (by decide +kernel), by decide⟩
theorem mv_X9_isPair : gx_MV mX9_isPair := ⟨(gx_iT (ck_3_80 _ lm0) rfl), (gx_iT (pk_2 (q := (⟨"CrossroadsChoose", "isPair", "(I)Z"⟩, 11)) lm4) rfl)⟩
abbrev mX9_reaches : gx_M := (⟨"CrossroadsChoose", "reaches", "(III)Z"⟩, prog_1_method_17_code, 9, (some Jvm.ClassFile.FieldType.boolean))
theorem mi_X9_reaches : gx_MI mX9_reaches 3 := ⟨(gx_iT (ck_3_80 _ lm5) rfl), in_z0.1, in_z0.2, (by decide +kernel), by decide⟩
theorem mv_X9_reaches : gx_MV mX9_reaches := ⟨(gx_iT (ck_3_80 _ lm4) rfl), (gx_iT (pk_2 (q := (⟨"CrossroadsChoose", "reaches", "(III)Z"⟩, 11)) lm5) rfl)⟩
abbrev mX2_takeWaits : gx_M := (⟨"CrossroadsChoose$Crossing", "takeWaits", "([II)V"⟩, prog_4_method_11_code, 4, none)
theorem mi_X2_takeWaits : gx_MI mX2_takeWaits 2 := ⟨(gx_iT (ck_3_80 _ lm11) rfl), in_z3.1, in_z3.2, (by decide +kernel), by decide⟩
theorem mv_X2_takeWaits : gx_MV mX2_takeWaits := ⟨(gx_iT (ck_3_80 _ lm9) rfl), (gx_iT (ck_3_80 _ lm10) rfl)⟩
abbrev mX9_again : gx_M := (⟨"CrossroadsChoose", "again", "(I)I"⟩, prog_1_method_18_code, 3, (some Jvm.ClassFile.FieldType.int))
theorem mi_X9_again : gx_MI mX9_again 1 := ⟨(gx_iT (ck_3_80 _ lm15) rfl), in_z0.1, in_z0.2, (by decide +kernel), by decide⟩
theorem mv_X9_again : gx_MV mX9_again := ⟨(gx_iT (ck_3_80 _ lm13) rfl), (gx_iT (ck_3_80 _ lm14) rfl)⟩
abbrev mX9_green : gx_M := (⟨"CrossroadsChoose", "green", "()I"⟩, prog_1_method_19_code, 4, (some Jvm.ClassFile.FieldType.int))
theorem mi_X9_green : gx_MI mX9_green 0 := ⟨(gx_iT (ck_3_96 _ lm3) rfl), in_z0.1, in_z0.2, (by decide +kernel), by decide⟩
theorem mv_X9_green : gx_MV mX9_green := ⟨(gx_iT (ck_3_96 _ lm1) rfl), (gx_iT (ck_3_96 _ lm2) rfl)⟩
abbrev mX2_allRoads : gx_M := (⟨"CrossroadsChoose$Crossing", "allRoads", "()I"⟩, prog_4_method_4_code, 1, (some Jvm.ClassFile.FieldType.int))
theorem mi_X2_allRoads : gx_MI mX2_allRoads 0 := ⟨(gx_iT (ck_3_96 _ lm7) rfl), in_z3.1, in_z3.2, (by decide +kernel), by decide⟩
theorem mv_X2_allRoads : gx_MV mX2_allRoads := ⟨(gx_iT (ck_3_96 _ lm5) rfl), (gx_iT (ck_3_96 _ lm6) rfl)⟩
abbrev mX9_second : gx_M := (⟨"CrossroadsChoose", "second", "(II)I"⟩, prog_1_method_20_code, 3, (some Jvm.ClassFile.FieldType.int))
theorem mi_X9_second : gx_MI mX9_second 2 := ⟨(gx_iT (ck_3_96 _ lm11) rfl), in_z0.1, in_z0.2, (by decide +kernel), by decide⟩
theorem mv_X9_second : gx_MV mX9_second := ⟨(gx_iT (ck_3_96 _ lm9) rfl), (gx_iT (ck_3_96 _ lm10) rfl)⟩
abbrev mX2_asked : gx_M := (⟨"CrossroadsChoose$Crossing", "asked", "(II)I"⟩, prog_4_method_16_code, 6, (some Jvm.ClassFile.FieldType.int))
theorem mi_X2_asked : gx_MI mX2_asked 2 := ⟨(gx_iT (ck_3_96 _ lm15) rfl), in_z3.1, in_z3.2, (by decide +kernel), by decide⟩
theorem mv_X2_asked : gx_MV mX2_asked := ⟨(gx_iT (ck_3_96 _ lm13) rfl), (gx_iT (ck_3_96 _ lm14) rfl)⟩
abbrev mX9_sit : gx_M := (⟨"CrossroadsChoose", "sit", "(II)I"⟩, prog_1_method_21_code, 8, (some Jvm.ClassFile.FieldType.int))
theorem mi_X9_sit : gx_MI mX9_sit 2 := ⟨(gx_iT (ck_3_112 _ lm3) rfl), in_z0.1, in_z0.2, (by decide +kernel), by decide⟩
theorem mv_X9_sit : gx_MV mX9_sit := ⟨(gx_iT (ck_3_112 _ lm1) rfl), (gx_iT (ck_3_112 _ lm2) rfl)⟩
abbrev mX9_power : gx_M := (⟨"CrossroadsChoose", "power", "(II)J"⟩, prog_1_method_27_code, 3, (some Jvm.ClassFile.FieldType.long))
theorem mi_X9_power : gx_MI mX9_power 2 := ⟨(gx_iT (ck_3_112 _ lm7) rfl), in_z0.1, in_z0.2, (by decide +kernel), by decide⟩
theorem mv_X9_power : gx_MV mX9_power := ⟨(gx_iT (ck_3_112 _ lm5) rfl), (gx_iT (ck_3_112 _ lm6) rfl)⟩
abbrev mX8_powerOf : gx_M := (⟨"CrossroadsChoose$Votes", "powerOf", "(LCrossroadsChoose$Crossing;II)J"⟩, prog_10_method_5_code, 8, (some Jvm.ClassFile.FieldType.long))
theorem mi_X8_powerOf : gx_MI mX8_powerOf 3 := ⟨(gx_iT (ck_3_112 _ lm11) rfl), in_z9.1, in_z9.2, (by decide +kernel), by decide⟩
theorem ms_X8_powerOf : Cond.static mX8_powerOf.1 ∈ gx_T := (gx_iT (ck_3_112 _ lm10) rfl)
abbrev mX8_ordersOf : gx_M := (⟨"CrossroadsChoose$Votes", "ordersOf", "(I)I"⟩, prog_10_method_4_code, 1, (some Jvm.ClassFile.FieldType.int))
theorem mi_X8_ordersOf : gx_MI mX8_ordersOf 1 := ⟨(gx_iT (ck_3_112 _ lm14) rfl), in_z9.1, in_z9.2, (by decide +kernel), by decide⟩
theorem ms_X8_ordersOf : Cond.static mX8_ordersOf.1 ∈ gx_T := (gx_iT (ck_3_112 _ lm13) rfl)
abbrev mX8_wins : gx_M := (⟨"CrossroadsChoose$Votes", "wins", "(LCrossroadsChoose$Crossing;I)Z"⟩, prog_10_method_2_code, 4, (some Jvm.ClassFile.FieldType.boolean))
theorem mi_X8_wins : gx_MI mX8_wins 2 := ⟨(gx_iT (ck_3_128 _ lm3) rfl), in_z9.1, in_z9.2, (by decide +kernel), by decide⟩
theorem ms_X8_wins : Cond.static mX8_wins.1 ∈ gx_T := (gx_iT (ck_3_128 _ lm2) rfl)
abbrev mJ6_bitCount_0f7a4 : gx_M := (⟨"java/lang/Integer", "bitCount", "(I)I"⟩, prog_13_method_49_code, 1, (some Jvm.ClassFile.FieldType.int))
theorem mi_J6_bitCount_0f7a4 : gx_MI mJ6_bitCount_0f7a4 1 := ⟨(gx_iT (ck_3_128 _ lm7) rfl), in_z11.1, in_z11.2, (by decide +kernel), by decide⟩
theorem ms_J6_bitCount_0f7a4 : Cond.static mJ6_bitCount_0f7a4.1 ∈ gx_T := (gx_iT (ck_3_128 _ lm6) rfl)
abbrev mX8_sharedDivisor : gx_M := (⟨"CrossroadsChoose$Votes", "sharedDivisor", "(II)I"⟩, prog_10_method_6_code, 3, (some Jvm.ClassFile.FieldType.int))
theorem mi_X8_sharedDivisor : gx_MI mX8_sharedDivisor 2 := ⟨(gx_iT (ck_3_128 _ lm13) rfl), in_z9.1, in_z9.2, (by decide +kernel), by decide⟩
theorem ms_X8_sharedDivisor : Cond.static mX8_sharedDivisor.1 ∈ gx_T := (gx_iT (ck_3_128 _ lm12) rfl)
abbrev mX9_winning : gx_M := (⟨"CrossroadsChoose", "winning", "(I)I"⟩, prog_1_method_28_code, 2, (some Jvm.ClassFile.FieldType.int))
theorem mi_X9_winning : gx_MI mX9_winning 1 := ⟨(gx_iT (ck_3_144 _ lm1) rfl), in_z0.1, in_z0.2, (by decide +kernel), by decide⟩
theorem mv_X9_winning : gx_MV mX9_winning := ⟨(gx_iT (ck_3_128 _ lm15) rfl), (gx_iT (ck_3_144 _ lm0) rfl)⟩
abbrev mX8_winners : gx_M := (⟨"CrossroadsChoose$Votes", "winners", "(LCrossroadsChoose$Crossing;I)I"⟩, prog_10_method_7_code, 9, (some Jvm.ClassFile.FieldType.int))
theorem mi_X8_winners : gx_MI mX8_winners 2 := ⟨(gx_iT (ck_3_144 _ lm4) rfl), in_z9.1, in_z9.2, (by decide +kernel), by decide⟩
theorem ms_X8_winners : Cond.static mX8_winners.1 ∈ gx_T := (gx_iT (ck_3_144 _ lm3) rfl)
abbrev mX8_winsBarely : gx_M := (⟨"CrossroadsChoose$Votes", "winsBarely", "(LCrossroadsChoose$Crossing;I)Z"⟩, prog_10_method_3_code, 3, (some Jvm.ClassFile.FieldType.boolean))
theorem mi_X8_winsBarely : gx_MI mX8_winsBarely 2 := ⟨(gx_iT (ck_3_144 _ lm8) rfl), in_z9.1, in_z9.2, (by decide +kernel), by decide⟩
theorem ms_X8_winsBarely : Cond.static mX8_winsBarely.1 ∈ gx_T := (gx_iT (ck_3_144 _ lm7) rfl)
abbrev mX9_more : gx_M := (⟨"CrossroadsChoose", "more", "(I)I"⟩, prog_1_method_29_code, 3, (some Jvm.ClassFile.FieldType.int))
theorem mi_X9_more : gx_MI mX9_more 1 := ⟨(gx_iT (ck_3_144 _ lm12) rfl), in_z0.1, in_z0.2, (by decide +kernel), by decide⟩
theorem mv_X9_more : gx_MV mX9_more := ⟨(gx_iT (ck_3_144 _ lm10) rfl), (gx_iT (ck_3_144 _ lm11) rfl)⟩
abbrev mX9_whatever : gx_M := (⟨"CrossroadsChoose", "whatever", "(II)I"⟩, prog_1_method_30_code, 4, (some Jvm.ClassFile.FieldType.int))
theorem mi_X9_whatever : gx_MI mX9_whatever 2 := ⟨(gx_iT (ck_3_160 _ lm0) rfl), in_z0.1, in_z0.2, (by decide +kernel), by decide⟩
theorem mv_X9_whatever : gx_MV mX9_whatever := ⟨(gx_iT (ck_3_144 _ lm14) rfl), (gx_iT (ck_3_144 _ lm15) rfl)⟩
abbrev mX2_hasAllOf : gx_M := (⟨"CrossroadsChoose$Crossing", "hasAllOf", "(II)Z"⟩, prog_4_method_17_code, 4, (some Jvm.ClassFile.FieldType.boolean))
theorem mi_X2_hasAllOf : gx_MI mX2_hasAllOf 2 := ⟨(gx_iT (ck_3_160 _ lm4) rfl), in_z3.1, in_z3.2, (by decide +kernel), by decide⟩
theorem mv_X2_hasAllOf : gx_MV mX2_hasAllOf := ⟨(gx_iT (ck_3_160 _ lm2) rfl), (gx_iT (ck_3_160 _ lm3) rfl)⟩
abbrev mX9_least : gx_M := (⟨"CrossroadsChoose", "least", "()I"⟩, prog_1_method_31_code, 5, (some Jvm.ClassFile.FieldType.int))
theorem mi_X9_least : gx_MI mX9_least 0 := ⟨(gx_iT (ck_3_160 _ lm9) rfl), in_z0.1, in_z0.2, (by decide +kernel), by decide⟩
theorem mv_X9_least : gx_MV mX9_least := ⟨(gx_iT (ck_3_160 _ lm7) rfl), (gx_iT (ck_3_160 _ lm8) rfl)⟩
abbrev mX9_judge : gx_M := (⟨"CrossroadsChoose", "judge", "(I)I"⟩, prog_1_method_32_code, 3, (some Jvm.ClassFile.FieldType.int))
theorem mi_X9_judge : gx_MI mX9_judge 1 := ⟨(gx_iT (ck_3_160 _ lm13) rfl), in_z0.1, in_z0.2, (by decide +kernel), by decide⟩
theorem mv_X9_judge : gx_MV mX9_judge := ⟨(gx_iT (ck_3_160 _ lm11) rfl), (gx_iT (ck_3_160 _ lm12) rfl)⟩
abbrev mX9_firstWrong : gx_M := (⟨"CrossroadsChoose", "firstWrong", "(LCrossroadsChoose$Shelf;)I"⟩, prog_1_method_35_code, 5, (some Jvm.ClassFile.FieldType.int))
theorem mi_X9_firstWrong : gx_MI mX9_firstWrong 1 := ⟨(gx_iT (ck_3_176 _ lm1) rfl), in_z0.1, in_z0.2, (by decide +kernel), by decide⟩
theorem mv_X9_firstWrong : gx_MV mX9_firstWrong := ⟨(gx_iT (ck_3_176 _ lm0) rfl), (gx_iT (pk_2 (q := (⟨"CrossroadsChoose", "firstWrong", "(LCrossroadsChoose$Shelf;)I"⟩, 11)) lm6) rfl)⟩
abbrev mX9_liking : gx_M := (⟨"CrossroadsChoose", "liking", "(III)I"⟩, prog_1_method_33_code, 8, (some Jvm.ClassFile.FieldType.int))
theorem mi_X9_liking : gx_MI mX9_liking 3 := ⟨(gx_iT (ck_3_176 _ lm5) rfl), in_z0.1, in_z0.2, (by decide +kernel), by decide⟩
theorem mv_X9_liking : gx_MV mX9_liking := ⟨(gx_iT (ck_3_176 _ lm3) rfl), (gx_iT (ck_3_176 _ lm4) rfl)⟩
abbrev mX9_waited : gx_M := (⟨"CrossroadsChoose", "waited", "(III)I"⟩, prog_1_method_34_code, 8, (some Jvm.ClassFile.FieldType.int))
theorem mi_X9_waited : gx_MI mX9_waited 3 := ⟨(gx_iT (ck_3_176 _ lm9) rfl), in_z0.1, in_z0.2, (by decide +kernel), by decide⟩
theorem mv_X9_waited : gx_MV mX9_waited := ⟨(gx_iT (ck_3_176 _ lm7) rfl), (gx_iT (ck_3_176 _ lm8) rfl)⟩
abbrev mX9_fair : gx_M := (⟨"CrossroadsChoose", "fair", "(II)I"⟩, prog_1_method_36_code, 8, (some Jvm.ClassFile.FieldType.int))
theorem mi_X9_fair : gx_MI mX9_fair 2 := ⟨(gx_iT (ck_3_176 _ lm13) rfl), in_z0.1, in_z0.2, (by decide +kernel), by decide⟩
theorem mv_X9_fair : gx_MV mX9_fair := ⟨(gx_iT (ck_3_176 _ lm11) rfl), (gx_iT (ck_3_176 _ lm12) rfl)⟩
abbrev mX9_drawn : gx_M := (⟨"CrossroadsChoose", "drawn", "(III)I"⟩, prog_1_method_37_code, 9, (some Jvm.ClassFile.FieldType.int))
theorem mi_X9_drawn : gx_MI mX9_drawn 3 := ⟨(gx_iT (ck_3_192 _ lm1) rfl), in_z0.1, in_z0.2, (by decide +kernel), by decide⟩
theorem mv_X9_drawn : gx_MV mX9_drawn := ⟨(gx_iT (ck_3_176 _ lm15) rfl), (gx_iT (ck_3_192 _ lm0) rfl)⟩
abbrev mX7_waitAs : gx_M := (⟨"CrossroadsChoose$Thought", "waitAs", "(LCrossroadsChoose$Crossing;)V"⟩, prog_9_method_3_code, 3, none)
theorem mi_X7_waitAs : gx_MI mX7_waitAs 1 := ⟨(gx_iT (ck_3_192 _ lm5) rfl), in_z8.1, in_z8.2, (by decide +kernel), by decide⟩
theorem mv_X7_waitAs : gx_MV mX7_waitAs := ⟨(gx_iT (ck_3_192 _ lm3) rfl), (gx_iT (ck_3_192 _ lm4) rfl)⟩
abbrev mX9_comes : gx_M := (⟨"CrossroadsChoose", "comes", "(I)I"⟩, prog_1_method_38_code, 3, (some Jvm.ClassFile.FieldType.int))
theorem mi_X9_comes : gx_MI mX9_comes 1 := ⟨(gx_iT (ck_3_192 _ lm11) rfl), in_z0.1, in_z0.2, (by decide +kernel), by decide⟩
theorem mv_X9_comes : gx_MV mX9_comes := ⟨(gx_iT (ck_3_192 _ lm9) rfl), (gx_iT (ck_3_192 _ lm10) rfl)⟩
abbrev mX9_lead : gx_M := (⟨"CrossroadsChoose", "lead", "(I)V"⟩, prog_1_method_40_code, 2, none)
theorem mi_X9_lead : gx_MI mX9_lead 1 := ⟨(gx_iT (ck_3_208 _ lm0) rfl), in_z0.1, in_z0.2, (by decide +kernel), by decide⟩
theorem mv_X9_lead : gx_MV mX9_lead := ⟨(gx_iT (ck_3_192 _ lm15) rfl), (gx_iT (pk_2 (q := (⟨"CrossroadsChoose", "lead", "(I)V"⟩, 11)) lm7) rfl)⟩
abbrev mX9_send : gx_M := (⟨"CrossroadsChoose", "send", "(I)I"⟩, prog_1_method_39_code, 3, (some Jvm.ClassFile.FieldType.int))
theorem mi_X9_send : gx_MI mX9_send 1 := ⟨(gx_iT (ck_3_208 _ lm4) rfl), in_z0.1, in_z0.2, (by decide +kernel), by decide⟩
theorem mv_X9_send : gx_MV mX9_send := ⟨(gx_iT (ck_3_208 _ lm2) rfl), (gx_iT (ck_3_208 _ lm3) rfl)⟩
abbrev mX9_led : gx_M := (⟨"CrossroadsChoose", "led", "(I)I"⟩, prog_1_method_41_code, 2, (some Jvm.ClassFile.FieldType.int))
theorem mi_X9_led : gx_MI mX9_led 1 := ⟨(gx_iT (ck_3_208 _ lm8) rfl), in_z0.1, in_z0.2, (by decide +kernel), by decide⟩
theorem mv_X9_led : gx_MV mX9_led := ⟨(gx_iT (ck_3_208 _ lm6) rfl), (gx_iT (ck_3_208 _ lm7) rfl)⟩
abbrev mX9_image : gx_M := (⟨"CrossroadsChoose", "image", "()I"⟩, prog_1_method_42_code, 1, (some Jvm.ClassFile.FieldType.int))
theorem mi_X9_image : gx_MI mX9_image 0 := ⟨(gx_iT (ck_3_208 _ lm12) rfl), in_z0.1, in_z0.2, (by decide +kernel), by decide⟩
theorem mv_X9_image : gx_MV mX9_image := ⟨(gx_iT (ck_3_208 _ lm10) rfl), (gx_iT (ck_3_208 _ lm11) rfl)⟩
abbrev mX9_back : gx_M := (⟨"CrossroadsChoose", "back", "()I"⟩, prog_1_method_43_code, 1, (some Jvm.ClassFile.FieldType.int))
theorem mi_X9_back : gx_MI mX9_back 0 := ⟨(gx_iT (ck_3_224 _ lm1) rfl), in_z0.1, in_z0.2, (by decide +kernel), by decide⟩
theorem mv_X9_back : gx_MV mX9_back := ⟨(gx_iT (ck_3_208 _ lm15) rfl), (gx_iT (ck_3_224 _ lm0) rfl)⟩
abbrev mX9_undo : gx_M := (⟨"CrossroadsChoose", "undo", "()I"⟩, prog_1_method_44_code, 1, (some Jvm.ClassFile.FieldType.int))
theorem mi_X9_undo : gx_MI mX9_undo 0 := ⟨(gx_iT (ck_3_224 _ lm5) rfl), in_z0.1, in_z0.2, (by decide +kernel), by decide⟩
theorem mv_X9_undo : gx_MV mX9_undo := ⟨(gx_iT (ck_3_224 _ lm3) rfl), (gx_iT (ck_3_224 _ lm4) rfl)⟩
abbrev mX1_undone : gx_M := (⟨"CrossroadsChoose$Changes", "undone", "(LCrossroadsChoose$Crossing;)Z"⟩, prog_3_method_4_code, 2, (some Jvm.ClassFile.FieldType.boolean))
theorem mi_X1_undone : gx_MI mX1_undone 1 := ⟨(gx_iT (ck_3_224 _ lm9) rfl), in_z2.1, in_z2.2, (by decide +kernel), by decide⟩
theorem mv_X1_undone : gx_MV mX1_undone := ⟨(gx_iT (ck_3_224 _ lm7) rfl), (gx_iT (ck_3_224 _ lm8) rfl)⟩
abbrev mX9_redo : gx_M := (⟨"CrossroadsChoose", "redo", "()I"⟩, prog_1_method_45_code, 1, (some Jvm.ClassFile.FieldType.int))
theorem mi_X9_redo : gx_MI mX9_redo 0 := ⟨(gx_iT (ck_3_224 _ lm14) rfl), in_z0.1, in_z0.2, (by decide +kernel), by decide⟩
theorem mv_X9_redo : gx_MV mX9_redo := ⟨(gx_iT (ck_3_224 _ lm12) rfl), (gx_iT (ck_3_224 _ lm13) rfl)⟩
abbrev mX1_doneAgain : gx_M := (⟨"CrossroadsChoose$Changes", "doneAgain", "(LCrossroadsChoose$Crossing;)Z"⟩, prog_3_method_5_code, 2, (some Jvm.ClassFile.FieldType.boolean))
theorem mi_X1_doneAgain : gx_MI mX1_doneAgain 1 := ⟨(gx_iT (ck_4_0 _ lm2) rfl), in_z2.1, in_z2.2, (by decide +kernel), by decide⟩
theorem mv_X1_doneAgain : gx_MV mX1_doneAgain := ⟨(gx_iT (ck_4_0 _ lm0) rfl), (gx_iT (ck_4_0 _ lm1) rfl)⟩
abbrev mX9_body : gx_M := (⟨"CrossroadsChoose", "body", "(I)I"⟩, prog_1_method_46_code, 2, (some Jvm.ClassFile.FieldType.int))
theorem mi_X9_body : gx_MI mX9_body 1 := ⟨(gx_iT (ck_4_0 _ lm6) rfl), in_z0.1, in_z0.2, (by decide +kernel), by decide⟩
theorem mv_X9_body : gx_MV mX9_body := ⟨(gx_iT (ck_4_0 _ lm4) rfl), (gx_iT (ck_4_0 _ lm5) rfl)⟩
abbrev mX0_isFull : gx_M := (⟨"CrossroadsChoose$Bodies", "isFull", "()Z"⟩, prog_2_method_2_code, 1, (some Jvm.ClassFile.FieldType.boolean))
theorem mi_X0_isFull : gx_MI mX0_isFull 0 := ⟨(gx_iT (ck_4_0 _ lm10) rfl), in_z1.1, in_z1.2, (by decide +kernel), by decide⟩
theorem mv_X0_isFull : gx_MV mX0_isFull := ⟨(gx_iT (ck_4_0 _ lm8) rfl), (gx_iT (ck_4_0 _ lm9) rfl)⟩
abbrev mX0_add : gx_M := (⟨"CrossroadsChoose$Bodies", "add", "(I)I"⟩, prog_2_method_5_code, 2, (some Jvm.ClassFile.FieldType.int))
theorem mi_X0_add : gx_MI mX0_add 1 := ⟨(gx_iT (ck_4_0 _ lm14) rfl), in_z1.1, in_z1.2, (by decide +kernel), by decide⟩
theorem mv_X0_add : gx_MV mX0_add := ⟨(gx_iT (ck_4_0 _ lm12) rfl), (gx_iT (ck_4_0 _ lm13) rfl)⟩
abbrev mX9_act : gx_M := (⟨"CrossroadsChoose", "act", "(III)I"⟩, prog_1_method_47_code, 4, (some Jvm.ClassFile.FieldType.int))
theorem mi_X9_act : gx_MI mX9_act 3 := ⟨(gx_iT (ck_4_16 _ lm3) rfl), in_z0.1, in_z0.2, (by decide +kernel), by decide⟩
theorem mv_X9_act : gx_MV mX9_act := ⟨(gx_iT (ck_4_16 _ lm1) rfl), (gx_iT (ck_4_16 _ lm2) rfl)⟩
abbrev mX0_perform : gx_M := (⟨"CrossroadsChoose$Bodies", "perform", "(III)I"⟩, prog_2_method_9_code, 4, (some Jvm.ClassFile.FieldType.int))
theorem mi_X0_perform : gx_MI mX0_perform 3 := ⟨(gx_iT (ck_4_16 _ lm7) rfl), in_z1.1, in_z1.2, (by decide +kernel), by decide⟩
theorem mv_X0_perform : gx_MV mX0_perform := ⟨(gx_iT (ck_4_16 _ lm5) rfl), (gx_iT (ck_4_16 _ lm6) rfl)⟩
abbrev mX0_isBody : gx_M := (⟨"CrossroadsChoose$Bodies", "isBody", "(I)Z"⟩, prog_2_method_3_code, 2, (some Jvm.ClassFile.FieldType.boolean))
theorem mi_X0_isBody : gx_MI mX0_isBody 1 := ⟨(gx_iT (ck_4_16 _ lm11) rfl), in_z1.1, in_z1.2, (by decide +kernel), by decide⟩
theorem mv_X0_isBody : gx_MV mX0_isBody := ⟨(gx_iT (ck_4_16 _ lm9) rfl), (gx_iT (ck_4_16 _ lm10) rfl)⟩
abbrev mX0_work : gx_M := (⟨"CrossroadsChoose$Bodies", "work", "(IIIII)I"⟩, prog_2_method_12_code, 11, (some Jvm.ClassFile.FieldType.int))
theorem mi_X0_work : gx_MI mX0_work 5 := ⟨(gx_iT (ck_4_16 _ lm15) rfl), in_z1.1, in_z1.2, (by decide +kernel), by decide⟩
theorem mv_X0_work : gx_MV mX0_work := ⟨(gx_iT (ck_4_16 _ lm14) rfl), (gx_iT (pk_2 (q := (⟨"CrossroadsChoose$Bodies", "work", "(IIIII)I"⟩, 4)) lm8) rfl)⟩
abbrev mX0_kindWith : gx_M := (⟨"CrossroadsChoose$Bodies", "kindWith", "(II)I"⟩, prog_2_method_10_code, 4, (some Jvm.ClassFile.FieldType.int))
theorem mi_X0_kindWith : gx_MI mX0_kindWith 2 := ⟨(gx_iT (ck_4_32 _ lm2) rfl), in_z1.1, in_z1.2, (by decide +kernel), by decide⟩
theorem ms_X0_kindWith : Cond.static mX0_kindWith.1 ∈ gx_T := (gx_iT (ck_4_32 _ lm1) rfl)
abbrev mX0_above : gx_M := (⟨"CrossroadsChoose$Bodies", "above", "(I)I"⟩, prog_2_method_7_code, 1, (some Jvm.ClassFile.FieldType.int))
theorem mi_X0_above : gx_MI mX0_above 1 := ⟨(gx_iT (ck_4_32 _ lm7) rfl), in_z1.1, in_z1.2, (by decide +kernel), by decide⟩
theorem ms_X0_above : Cond.static mX0_above.1 ∈ gx_T := (gx_iT (ck_4_32 _ lm6) rfl)
abbrev mX0_note : gx_M := (⟨"CrossroadsChoose$Bodies", "note", "(I)V"⟩, prog_2_method_11_code, 2, none)
theorem mi_X0_note : gx_MI mX0_note 1 := ⟨(gx_iT (ck_4_32 _ lm13) rfl), in_z1.1, in_z1.2, (by decide +kernel), by decide⟩
theorem mv_X0_note : gx_MV mX0_note := ⟨(gx_iT (ck_4_32 _ lm12) rfl), (gx_iT (pk_2 (q := (⟨"CrossroadsChoose$Bodies", "note", "(I)V"⟩, 4)) lm9) rfl)⟩
abbrev mX0_kindOf : gx_M := (⟨"CrossroadsChoose$Bodies", "kindOf", "(I)I"⟩, prog_2_method_4_code, 2, (some Jvm.ClassFile.FieldType.int))
theorem mi_X0_kindOf : gx_MI mX0_kindOf 1 := ⟨(gx_iT (ck_4_48 _ lm1) rfl), in_z1.1, in_z1.2, (by decide +kernel), by decide⟩
theorem mv_X0_kindOf : gx_MV mX0_kindOf := ⟨(gx_iT (ck_4_32 _ lm15) rfl), (gx_iT (ck_4_48 _ lm0) rfl)⟩
abbrev mX9_trace : gx_M := (⟨"CrossroadsChoose", "trace", "(I)I"⟩, prog_1_method_48_code, 2, (some Jvm.ClassFile.FieldType.int))
theorem mi_X9_trace : gx_MI mX9_trace 1 := ⟨(gx_iT (ck_4_48 _ lm5) rfl), in_z0.1, in_z0.2, (by decide +kernel), by decide⟩
theorem mv_X9_trace : gx_MV mX9_trace := ⟨(gx_iT (ck_4_48 _ lm3) rfl), (gx_iT (ck_4_48 _ lm4) rfl)⟩
abbrev mX0_traced : gx_M := (⟨"CrossroadsChoose$Bodies", "traced", "(I)I"⟩, prog_2_method_6_code, 2, (some Jvm.ClassFile.FieldType.int))
theorem mi_X0_traced : gx_MI mX0_traced 1 := ⟨(gx_iT (ck_4_48 _ lm9) rfl), in_z1.1, in_z1.2, (by decide +kernel), by decide⟩
theorem mv_X0_traced : gx_MV mX0_traced := ⟨(gx_iT (ck_4_48 _ lm7) rfl), (gx_iT (ck_4_48 _ lm8) rfl)⟩
abbrev mX9_keep : gx_M := (⟨"CrossroadsChoose", "keep", "(II)I"⟩, prog_1_method_49_code, 4, (some Jvm.ClassFile.FieldType.int))
theorem mi_X9_keep : gx_MI mX9_keep 2 := ⟨(gx_iT (ck_4_48 _ lm13) rfl), in_z0.1, in_z0.2, (by decide +kernel), by decide⟩
theorem mv_X9_keep : gx_MV mX9_keep := ⟨(gx_iT (ck_4_48 _ lm11) rfl), (gx_iT (ck_4_48 _ lm12) rfl)⟩
abbrev mX5_holdNothing : gx_M := (⟨"CrossroadsChoose$Shelf", "holdNothing", "()V"⟩, prog_7_method_5_code, 1, none)
theorem mi_X5_holdNothing : gx_MI mX5_holdNothing 0 := ⟨(gx_iT (ck_4_64 _ lm2) rfl), in_z6.1, in_z6.2, (by decide +kernel), by decide⟩
theorem mv_X5_holdNothing : gx_MV mX5_holdNothing := ⟨(gx_iT (ck_4_64 _ lm0) rfl), (gx_iT (ck_4_64 _ lm1) rfl)⟩
abbrev mX5_holdBody : gx_M := (⟨"CrossroadsChoose$Shelf", "holdBody", "(I)V"⟩, prog_7_method_6_code, 2, none)
theorem mi_X5_holdBody : gx_MI mX5_holdBody 1 := ⟨(gx_iT (ck_4_64 _ lm6) rfl), in_z6.1, in_z6.2, (by decide +kernel), by decide⟩
theorem mv_X5_holdBody : gx_MV mX5_holdBody := ⟨(gx_iT (ck_4_64 _ lm4) rfl), (gx_iT (ck_4_64 _ lm5) rfl)⟩
abbrev mX9_row : gx_M := (⟨"CrossroadsChoose", "row", "(III)I"⟩, prog_1_method_50_code, 5, (some Jvm.ClassFile.FieldType.int))
theorem mi_X9_row : gx_MI mX9_row 3 := ⟨(gx_iT (ck_4_64 _ lm10) rfl), in_z0.1, in_z0.2, (by decide +kernel), by decide⟩
theorem mv_X9_row : gx_MV mX9_row := ⟨(gx_iT (ck_4_64 _ lm8) rfl), (gx_iT (ck_4_64 _ lm9) rfl)⟩
abbrev mX5_holdRow : gx_M := (⟨"CrossroadsChoose$Shelf", "holdRow", "(II)V"⟩, prog_7_method_7_code, 3, none)
theorem mi_X5_holdRow : gx_MI mX5_holdRow 2 := ⟨(gx_iT (ck_4_64 _ lm14) rfl), in_z6.1, in_z6.2, (by decide +kernel), by decide⟩
theorem mv_X5_holdRow : gx_MV mX5_holdRow := ⟨(gx_iT (ck_4_64 _ lm12) rfl), (gx_iT (ck_4_64 _ lm13) rfl)⟩
abbrev mJ7_fill_d0a16 : gx_M := (⟨"java/util/Arrays", "fill", "([JJ)V"⟩, prog_16_method_101_code, 5, none)
theorem mi_J7_fill_d0a16 : gx_MI mJ7_fill_d0a16 2 := ⟨(gx_iT (ck_4_80 _ lm3) rfl), in_z14.1, in_z14.2, (by decide +kernel), by decide⟩
theorem ms_J7_fill_d0a16 : Cond.static mJ7_fill_d0a16.1 ∈ gx_T := (gx_iT (ck_4_80 _ lm2) rfl)
abbrev mX9_put : gx_M := (⟨"CrossroadsChoose", "put", "(IIJ)I"⟩, prog_1_method_51_code, 7, (some Jvm.ClassFile.FieldType.int))
theorem mi_X9_put : gx_MI mX9_put 3 := ⟨(gx_iT (ck_4_80 _ lm7) rfl), in_z0.1, in_z0.2, (by decide +kernel), by decide⟩
theorem mv_X9_put : gx_MV mX9_put := ⟨(gx_iT (ck_4_80 _ lm5) rfl), (gx_iT (ck_4_80 _ lm6) rfl)⟩
abbrev mX9_placeRefusal : gx_M := (⟨"CrossroadsChoose", "placeRefusal", "(II)I"⟩, prog_1_method_58_code, 5, (some Jvm.ClassFile.FieldType.int))
theorem mi_X9_placeRefusal : gx_MI mX9_placeRefusal 2 := ⟨(gx_iT (ck_4_80 _ lm11) rfl), in_z0.1, in_z0.2, (by decide +kernel), by decide⟩
theorem mv_X9_placeRefusal : gx_MV mX9_placeRefusal := ⟨(gx_iT (ck_4_80 _ lm10) rfl), (gx_iT (pk_2 (q := (⟨"CrossroadsChoose", "placeRefusal", "(II)I"⟩, 11)) lm10) rfl)⟩
abbrev mX5_write : gx_M := (⟨"CrossroadsChoose$Shelf", "write", "(IJ)V"⟩, prog_7_method_11_code, 4, none)
theorem mi_X5_write : gx_MI mX5_write 2 := ⟨(gx_iT (ck_4_80 _ lm15) rfl), in_z6.1, in_z6.2, (by decide +kernel), by decide⟩
theorem mv_X5_write : gx_MV mX5_write := ⟨(gx_iT (ck_4_80 _ lm13) rfl), (gx_iT (ck_4_80 _ lm14) rfl)⟩
abbrev mX5_narrowed : gx_M := (⟨"CrossroadsChoose$Shelf", "narrowed", "(J)J"⟩, prog_7_method_12_code, 3, (some Jvm.ClassFile.FieldType.long))
theorem mi_X5_narrowed : gx_MI mX5_narrowed 1 := ⟨(gx_iT (ck_4_96 _ lm3) rfl), in_z6.1, in_z6.2, (by decide +kernel), by decide⟩
theorem mv_X5_narrowed : gx_MV mX5_narrowed := ⟨(gx_iT (ck_4_96 _ lm2) rfl), (gx_iT (pk_2 (q := (⟨"CrossroadsChoose$Shelf", "narrowed", "(J)J"⟩, 5)) lm11) rfl)⟩
abbrev mX9_element : gx_M := (⟨"CrossroadsChoose", "element", "(II)J"⟩, prog_1_method_52_code, 4, (some Jvm.ClassFile.FieldType.long))
theorem mi_X9_element : gx_MI mX9_element 2 := ⟨(gx_iT (ck_4_96 _ lm7) rfl), in_z0.1, in_z0.2, (by decide +kernel), by decide⟩
theorem mv_X9_element : gx_MV mX9_element := ⟨(gx_iT (ck_4_96 _ lm5) rfl), (gx_iT (ck_4_96 _ lm6) rfl)⟩
abbrev mX9_shift : gx_M := (⟨"CrossroadsChoose", "shift", "(IIIII)I"⟩, prog_1_method_53_code, 9, (some Jvm.ClassFile.FieldType.int))
theorem mi_X9_shift : gx_MI mX9_shift 5 := ⟨(gx_iT (ck_4_96 _ lm12) rfl), in_z0.1, in_z0.2, (by decide +kernel), by decide⟩
theorem mv_X9_shift : gx_MV mX9_shift := ⟨(gx_iT (ck_4_96 _ lm10) rfl), (gx_iT (ck_4_96 _ lm11) rfl)⟩
abbrev mX9_pairRefusal : gx_M := (⟨"CrossroadsChoose", "pairRefusal", "(II)I"⟩, prog_1_method_59_code, 6, (some Jvm.ClassFile.FieldType.int))
theorem mi_X9_pairRefusal : gx_MI mX9_pairRefusal 2 := ⟨(gx_iT (ck_4_112 _ lm0) rfl), in_z0.1, in_z0.2, (by decide +kernel), by decide⟩
theorem mv_X9_pairRefusal : gx_MV mX9_pairRefusal := ⟨(gx_iT (ck_4_96 _ lm15) rfl), (gx_iT (pk_2 (q := (⟨"CrossroadsChoose", "pairRefusal", "(II)I"⟩, 11)) lm12) rfl)⟩
abbrev mX9_taken : gx_M := (⟨"CrossroadsChoose", "taken", "(II)I"⟩, prog_1_method_54_code, 5, (some Jvm.ClassFile.FieldType.int))
theorem mi_X9_taken : gx_MI mX9_taken 2 := ⟨(gx_iT (ck_4_112 _ lm4) rfl), in_z0.1, in_z0.2, (by decide +kernel), by decide⟩
theorem mv_X9_taken : gx_MV mX9_taken := ⟨(gx_iT (ck_4_112 _ lm2) rfl), (gx_iT (ck_4_112 _ lm3) rfl)⟩
abbrev mX0_isUnder : gx_M := (⟨"CrossroadsChoose$Bodies", "isUnder", "(II)Z"⟩, prog_2_method_8_code, 4, (some Jvm.ClassFile.FieldType.boolean))
theorem mi_X0_isUnder : gx_MI mX0_isUnder 2 := ⟨(gx_iT (ck_4_112 _ lm8) rfl), in_z1.1, in_z1.2, (by decide +kernel), by decide⟩
theorem ms_X0_isUnder : Cond.static mX0_isUnder.1 ∈ gx_T := (gx_iT (ck_4_112 _ lm7) rfl)
abbrev mX9_count : gx_M := (⟨"CrossroadsChoose", "count", "(I)I"⟩, prog_1_method_55_code, 2, (some Jvm.ClassFile.FieldType.int))
theorem mi_X9_count : gx_MI mX9_count 1 := ⟨(gx_iT (ck_4_112 _ lm12) rfl), in_z0.1, in_z0.2, (by decide +kernel), by decide⟩
theorem mv_X9_count : gx_MV mX9_count := ⟨(gx_iT (ck_4_112 _ lm10) rfl), (gx_iT (ck_4_112 _ lm11) rfl)⟩
abbrev mX10_init : gx_M := (⟨"CrossroadsChooseModel", "<init>", "()V"⟩, prog_12_method_1_code, 1, none)
theorem mi_X10_init : gx_MI mX10_init 0 := ⟨(gx_iT (ck_4_128 _ lm1) rfl), in_z10.1, in_z10.2, (by decide +kernel), by decide⟩
theorem mn_X10_init : Cond.instanceMethod mX10_init.1 ∈ gx_T := (gx_iT (ck_4_128 _ lm0) rfl)
abbrev mX10_road : gx_M := (⟨"CrossroadsChooseModel", "road", "(II)I"⟩, prog_12_method_8_code, 3, (some Jvm.ClassFile.FieldType.int))
theorem mi_X10_road : gx_MI mX10_road 2 := ⟨(gx_iT (ck_5_48 _ lm1) rfl), in_z10.1, in_z10.2, (by decide +kernel), by decide⟩
theorem mv_X10_road : gx_MV mX10_road := ⟨(gx_iT (ck_5_32 _ lm15) rfl), (gx_iT (ck_5_48 _ lm0) rfl)⟩
abbrev mX10_in : gx_M := (⟨"CrossroadsChooseModel", "in", "(III)Z"⟩, prog_12_method_3_code, 3, (some Jvm.ClassFile.FieldType.boolean))
theorem mi_X10_in : gx_MI mX10_in 3 := ⟨(gx_iT (ck_5_48 _ lm4) rfl), in_z10.1, in_z10.2, (by decide +kernel), by decide⟩
theorem ms_X10_in : Cond.static mX10_in.1 ∈ gx_T := (gx_iT (ck_5_48 _ lm3) rfl)
abbrev mX10_addRoad : gx_M := (⟨"CrossroadsChooseModel", "addRoad", "(III)I"⟩, prog_12_method_7_code, 4, (some Jvm.ClassFile.FieldType.int))
theorem mi_X10_addRoad : gx_MI mX10_addRoad 3 := ⟨(gx_iT (ck_5_48 _ lm8) rfl), in_z10.1, in_z10.2, (by decide +kernel), by decide⟩
theorem mv_X10_addRoad : gx_MV mX10_addRoad := ⟨(gx_iT (ck_5_48 _ lm7) rfl), (gx_iT (pk_2 (q := (⟨"CrossroadsChooseModel", "addRoad", "(III)I"⟩, 51)) lm13) rfl)⟩
abbrev mX10_roads : gx_M := (⟨"CrossroadsChooseModel", "roads", "(III)I"⟩, prog_12_method_9_code, 8, (some Jvm.ClassFile.FieldType.int))
theorem mi_X10_roads : gx_MI mX10_roads 3 := ⟨(gx_iT (ck_5_48 _ lm12) rfl), in_z10.1, in_z10.2, (by decide +kernel), by decide⟩
theorem mv_X10_roads : gx_MV mX10_roads := ⟨(gx_iT (ck_5_48 _ lm10) rfl), (gx_iT (ck_5_48 _ lm11) rfl)⟩
abbrev mX10_isShelf : gx_M := (⟨"CrossroadsChooseModel", "isShelf", "(I)Z"⟩, prog_12_method_104_code, 1, (some Jvm.ClassFile.FieldType.boolean))
theorem mi_X10_isShelf : gx_MI mX10_isShelf 1 := ⟨(gx_iT (ck_5_48 _ lm15) rfl), in_z10.1, in_z10.2, (by decide +kernel), by decide⟩
theorem ms_X10_isShelf : Cond.static mX10_isShelf.1 ∈ gx_T := (gx_iT (ck_5_48 _ lm14) rfl)
abbrev mX10_undo : gx_M := (⟨"CrossroadsChooseModel", "undo", "()I"⟩, prog_12_method_13_code, 1, (some Jvm.ClassFile.FieldType.int))
theorem mi_X10_undo : gx_MI mX10_undo 0 := ⟨(gx_iT (ck_5_64 _ lm4) rfl), in_z10.1, in_z10.2, (by decide +kernel), by decide⟩
theorem mv_X10_undo : gx_MV mX10_undo := ⟨(gx_iT (ck_5_64 _ lm2) rfl), (gx_iT (ck_5_64 _ lm3) rfl)⟩
abbrev mX10_lays : gx_M := (⟨"CrossroadsChooseModel", "lays", "(III)V"⟩, prog_12_method_11_code, 4, none)
theorem mi_X10_lays : gx_MI mX10_lays 3 := ⟨(gx_iT (ck_5_64 _ lm8) rfl), in_z10.1, in_z10.2, (by decide +kernel), by decide⟩
theorem mv_X10_lays : gx_MV mX10_lays := ⟨(gx_iT (ck_5_64 _ lm7) rfl), (gx_iT (pk_2 (q := (⟨"CrossroadsChooseModel", "lays", "(III)V"⟩, 51)) lm14) rfl)⟩
abbrev mX10_redo : gx_M := (⟨"CrossroadsChooseModel", "redo", "()I"⟩, prog_12_method_14_code, 1, (some Jvm.ClassFile.FieldType.int))
theorem mi_X10_redo : gx_MI mX10_redo 0 := ⟨(gx_iT (ck_5_64 _ lm12) rfl), in_z10.1, in_z10.2, (by decide +kernel), by decide⟩
theorem mv_X10_redo : gx_MV mX10_redo := ⟨(gx_iT (ck_5_64 _ lm10) rfl), (gx_iT (ck_5_64 _ lm11) rfl)⟩
abbrev mX10_mend : gx_M := (⟨"CrossroadsChooseModel", "mend", "(III)I"⟩, prog_12_method_17_code, 4, (some Jvm.ClassFile.FieldType.int))
theorem mi_X10_mend : gx_MI mX10_mend 3 := ⟨(gx_iT (ck_5_80 _ lm0) rfl), in_z10.1, in_z10.2, (by decide +kernel), by decide⟩
theorem mv_X10_mend : gx_MV mX10_mend := ⟨(gx_iT (ck_5_64 _ lm14) rfl), (gx_iT (ck_5_64 _ lm15) rfl)⟩
abbrev mX10_isOne : gx_M := (⟨"CrossroadsChooseModel", "isOne", "(II)Z"⟩, prog_12_method_15_code, 3, (some Jvm.ClassFile.FieldType.boolean))
theorem mi_X10_isOne : gx_MI mX10_isOne 2 := ⟨(gx_iT (ck_5_80 _ lm4) rfl), in_z10.1, in_z10.2, (by decide +kernel), by decide⟩
theorem mv_X10_isOne : gx_MV mX10_isOne := ⟨(gx_iT (ck_5_80 _ lm3) rfl), (gx_iT (pk_2 (q := (⟨"CrossroadsChooseModel", "isOne", "(II)Z"⟩, 51)) lm15) rfl)⟩
abbrev mX10_isRoad : gx_M := (⟨"CrossroadsChooseModel", "isRoad", "(I)Z"⟩, prog_12_method_4_code, 2, (some Jvm.ClassFile.FieldType.boolean))
theorem mi_X10_isRoad : gx_MI mX10_isRoad 1 := ⟨(gx_iT (ck_5_80 _ lm8) rfl), in_z10.1, in_z10.2, (by decide +kernel), by decide⟩
theorem mv_X10_isRoad : gx_MV mX10_isRoad := ⟨(gx_iT (ck_5_80 _ lm7) rfl), (gx_iT (pk_3 (q := (⟨"CrossroadsChooseModel", "isRoad", "(I)Z"⟩, 51)) lm0) rfl)⟩
abbrev mX10_mayHave : gx_M := (⟨"CrossroadsChooseModel", "mayHave", "(II)Z"⟩, prog_12_method_16_code, 2, (some Jvm.ClassFile.FieldType.boolean))
theorem mi_X10_mayHave : gx_MI mX10_mayHave 2 := ⟨(gx_iT (ck_5_80 _ lm11) rfl), in_z10.1, in_z10.2, (by decide +kernel), by decide⟩
theorem ms_X10_mayHave : Cond.static mX10_mayHave.1 ∈ gx_T := (gx_iT (ck_5_80 _ lm10) rfl)
abbrev mX10_changes : gx_M := (⟨"CrossroadsChooseModel", "changes", "(III)I"⟩, prog_12_method_12_code, 6, (some Jvm.ClassFile.FieldType.int))
theorem mi_X10_changes : gx_MI mX10_changes 3 := ⟨(gx_iT (ck_5_80 _ lm15) rfl), in_z10.1, in_z10.2, (by decide +kernel), by decide⟩
theorem mv_X10_changes : gx_MV mX10_changes := ⟨(gx_iT (ck_5_80 _ lm14) rfl), (gx_iT (pk_3 (q := (⟨"CrossroadsChooseModel", "changes", "(III)I"⟩, 51)) lm1) rfl)⟩
abbrev mX10_valueAt : gx_M := (⟨"CrossroadsChooseModel", "valueAt", "(II)I"⟩, prog_12_method_10_code, 3, (some Jvm.ClassFile.FieldType.int))
theorem mi_X10_valueAt : gx_MI mX10_valueAt 2 := ⟨(gx_iT (ck_5_96 _ lm3) rfl), in_z10.1, in_z10.2, (by decide +kernel), by decide⟩
theorem mv_X10_valueAt : gx_MV mX10_valueAt := ⟨(gx_iT (ck_5_96 _ lm2) rfl), (gx_iT (pk_3 (q := (⟨"CrossroadsChooseModel", "valueAt", "(II)I"⟩, 51)) lm2) rfl)⟩
abbrev mX10_of : gx_M := (⟨"CrossroadsChooseModel", "of", "(II)I"⟩, prog_12_method_18_code, 3, (some Jvm.ClassFile.FieldType.int))
theorem mi_X10_of : gx_MI mX10_of 2 := ⟨(gx_iT (ck_5_96 _ lm8) rfl), in_z10.1, in_z10.2, (by decide +kernel), by decide⟩
theorem mv_X10_of : gx_MV mX10_of := ⟨(gx_iT (ck_5_96 _ lm6) rfl), (gx_iT (ck_5_96 _ lm7) rfl)⟩
abbrev mX10_feed : gx_M := (⟨"CrossroadsChooseModel", "feed", "(I)I"⟩, prog_12_method_19_code, 2, (some Jvm.ClassFile.FieldType.int))
theorem mi_X10_feed : gx_MI mX10_feed 1 := ⟨(gx_iT (ck_5_96 _ lm12) rfl), in_z10.1, in_z10.2, (by decide +kernel), by decide⟩
theorem mv_X10_feed : gx_MV mX10_feed := ⟨(gx_iT (ck_5_96 _ lm10) rfl), (gx_iT (ck_5_96 _ lm11) rfl)⟩
abbrev mX10_law : gx_M := (⟨"CrossroadsChooseModel", "law", "()I"⟩, prog_12_method_37_code, 2, (some Jvm.ClassFile.FieldType.int))
theorem mi_X10_law : gx_MI mX10_law 0 := ⟨(gx_iT (ck_5_112 _ lm0) rfl), in_z10.1, in_z10.2, (by decide +kernel), by decide⟩
theorem mv_X10_law : gx_MV mX10_law := ⟨(gx_iT (ck_5_96 _ lm14) rfl), (gx_iT (ck_5_96 _ lm15) rfl)⟩
abbrev mX10_readText : gx_M := (⟨"CrossroadsChooseModel", "readText", "(I)I"⟩, prog_12_method_33_code, 3, (some Jvm.ClassFile.FieldType.int))
theorem mi_X10_readText : gx_MI mX10_readText 1 := ⟨(gx_iT (ck_5_112 _ lm4) rfl), in_z10.1, in_z10.2, (by decide +kernel), by decide⟩
theorem mv_X10_readText : gx_MV mX10_readText := ⟨(gx_iT (ck_5_112 _ lm3) rfl), (gx_iT (pk_3 (q := (⟨"CrossroadsChooseModel", "readText", "(I)I"⟩, 51)) lm3) rfl)⟩
abbrev mX10_line : gx_M := (⟨"CrossroadsChooseModel", "line", "()V"⟩, prog_12_method_32_code, 2, none)
theorem mi_X10_line : gx_MI mX10_line 0 := ⟨(gx_iT (ck_5_112 _ lm8) rfl), in_z10.1, in_z10.2, (by decide +kernel), by decide⟩
theorem mv_X10_line : gx_MV mX10_line := ⟨(gx_iT (ck_5_112 _ lm7) rfl), (gx_iT (pk_3 (q := (⟨"CrossroadsChooseModel", "line", "()V"⟩, 51)) lm4) rfl)⟩
abbrev mX10_either : gx_M := (⟨"CrossroadsChooseModel", "either", "()V"⟩, prog_12_method_31_code, 1, none)
theorem mi_X10_either : gx_MI mX10_either 0 := ⟨(gx_iT (ck_5_112 _ lm12) rfl), in_z10.1, in_z10.2, (by decide +kernel), by decide⟩
theorem mv_X10_either : gx_MV mX10_either := ⟨(gx_iT (ck_5_112 _ lm11) rfl), (gx_iT (pk_3 (q := (⟨"CrossroadsChooseModel", "either", "()V"⟩, 51)) lm5) rfl)⟩
abbrev mX10_both : gx_M := (⟨"CrossroadsChooseModel", "both", "()V"⟩, prog_12_method_30_code, 1, none)
theorem mi_X10_both : gx_MI mX10_both 0 := ⟨(gx_iT (ck_5_128 _ lm0) rfl), in_z10.1, in_z10.2, (by decide +kernel), by decide⟩
theorem mv_X10_both : gx_MV mX10_both := ⟨(gx_iT (ck_5_112 _ lm15) rfl), (gx_iT (pk_3 (q := (⟨"CrossroadsChooseModel", "both", "()V"⟩, 51)) lm6) rfl)⟩
abbrev mX10_compared : gx_M := (⟨"CrossroadsChooseModel", "compared", "()V"⟩, prog_12_method_29_code, 2, none)
theorem mi_X10_compared : gx_MI mX10_compared 0 := ⟨(gx_iT (ck_5_128 _ lm4) rfl), in_z10.1, in_z10.2, (by decide +kernel), by decide⟩
theorem mv_X10_compared : gx_MV mX10_compared := ⟨(gx_iT (ck_5_128 _ lm3) rfl), (gx_iT (pk_3 (q := (⟨"CrossroadsChooseModel", "compared", "()V"⟩, 51)) lm7) rfl)⟩
abbrev mX10_sum : gx_M := (⟨"CrossroadsChooseModel", "sum", "()V"⟩, prog_12_method_28_code, 2, none)
theorem mi_X10_sum : gx_MI mX10_sum 0 := ⟨(gx_iT (ck_5_128 _ lm8) rfl), in_z10.1, in_z10.2, (by decide +kernel), by decide⟩
theorem mv_X10_sum : gx_MV mX10_sum := ⟨(gx_iT (ck_5_128 _ lm7) rfl), (gx_iT (pk_3 (q := (⟨"CrossroadsChooseModel", "sum", "()V"⟩, 51)) lm8) rfl)⟩
abbrev mX10_product : gx_M := (⟨"CrossroadsChooseModel", "product", "()V"⟩, prog_12_method_27_code, 2, none)
theorem mi_X10_product : gx_MI mX10_product 0 := ⟨(gx_iT (ck_5_128 _ lm12) rfl), in_z10.1, in_z10.2, (by decide +kernel), by decide⟩
theorem mv_X10_product : gx_MV mX10_product := ⟨(gx_iT (ck_5_128 _ lm11) rfl), (gx_iT (pk_3 (q := (⟨"CrossroadsChooseModel", "product", "()V"⟩, 51)) lm9) rfl)⟩
abbrev mX10_operand : gx_M := (⟨"CrossroadsChooseModel", "operand", "()V"⟩, prog_12_method_26_code, 2, none)
theorem mi_X10_operand : gx_MI mX10_operand 0 := ⟨(gx_iT (ck_5_144 _ lm0) rfl), in_z10.1, in_z10.2, (by decide +kernel), by decide⟩
theorem mv_X10_operand : gx_MV mX10_operand := ⟨(gx_iT (ck_5_128 _ lm15) rfl), (gx_iT (pk_3 (q := (⟨"CrossroadsChooseModel", "operand", "()V"⟩, 51)) lm10) rfl)⟩
abbrev mX10_look : gx_M := (⟨"CrossroadsChooseModel", "look", "()I"⟩, prog_12_method_20_code, 1, (some Jvm.ClassFile.FieldType.int))
theorem mi_X10_look : gx_MI mX10_look 0 := ⟨(gx_iT (ck_5_144 _ lm4) rfl), in_z10.1, in_z10.2, (by decide +kernel), by decide⟩
theorem mv_X10_look : gx_MV mX10_look := ⟨(gx_iT (ck_5_144 _ lm3) rfl), (gx_iT (pk_3 (q := (⟨"CrossroadsChooseModel", "look", "()I"⟩, 51)) lm11) rfl)⟩
abbrev mX10_nameOf : gx_M := (⟨"CrossroadsChooseModel", "nameOf", "(I)I"⟩, prog_12_method_23_code, 1, (some Jvm.ClassFile.FieldType.int))
theorem mi_X10_nameOf : gx_MI mX10_nameOf 1 := ⟨(gx_iT (ck_5_144 _ lm7) rfl), in_z10.1, in_z10.2, (by decide +kernel), by decide⟩
theorem ms_X10_nameOf : Cond.static mX10_nameOf.1 ∈ gx_T := (gx_iT (ck_5_144 _ lm6) rfl)
abbrev mX10_addStep : gx_M := (⟨"CrossroadsChooseModel", "addStep", "(II)V"⟩, prog_12_method_22_code, 3, none)
theorem mi_X10_addStep : gx_MI mX10_addStep 2 := ⟨(gx_iT (ck_5_144 _ lm11) rfl), in_z10.1, in_z10.2, (by decide +kernel), by decide⟩
theorem mv_X10_addStep : gx_MV mX10_addStep := ⟨(gx_iT (ck_5_144 _ lm10) rfl), (gx_iT (pk_3 (q := (⟨"CrossroadsChooseModel", "addStep", "(II)V"⟩, 51)) lm12) rfl)⟩
abbrev mX10_opens : gx_M := (⟨"CrossroadsChooseModel", "opens", "()Z"⟩, prog_12_method_24_code, 1, (some Jvm.ClassFile.FieldType.boolean))
theorem mi_X10_opens : gx_MI mX10_opens 0 := ⟨(gx_iT (ck_5_144 _ lm15) rfl), in_z10.1, in_z10.2, (by decide +kernel), by decide⟩
theorem mv_X10_opens : gx_MV mX10_opens := ⟨(gx_iT (ck_5_144 _ lm14) rfl), (gx_iT (pk_3 (q := (⟨"CrossroadsChooseModel", "opens", "()Z"⟩, 51)) lm13) rfl)⟩
abbrev mX10_wrong : gx_M := (⟨"CrossroadsChooseModel", "wrong", "()V"⟩, prog_12_method_21_code, 1, none)
theorem mi_X10_wrong : gx_MI mX10_wrong 0 := ⟨(gx_iT (ck_5_160 _ lm3) rfl), in_z10.1, in_z10.2, (by decide +kernel), by decide⟩
theorem mv_X10_wrong : gx_MV mX10_wrong := ⟨(gx_iT (ck_5_160 _ lm2) rfl), (gx_iT (pk_3 (q := (⟨"CrossroadsChooseModel", "wrong", "()V"⟩, 51)) lm14) rfl)⟩
abbrev mX10_figure : gx_M := (⟨"CrossroadsChooseModel", "figure", "()V"⟩, prog_12_method_25_code, 3, none)
theorem mi_X10_figure : gx_MI mX10_figure 0 := ⟨(gx_iT (ck_5_160 _ lm7) rfl), in_z10.1, in_z10.2, (by decide +kernel), by decide⟩
theorem mv_X10_figure : gx_MV mX10_figure := ⟨(gx_iT (ck_5_160 _ lm6) rfl), (gx_iT (pk_3 (q := (⟨"CrossroadsChooseModel", "figure", "()V"⟩, 51)) lm15) rfl)⟩
abbrev mX10_pull : gx_M := (⟨"CrossroadsChooseModel", "pull", "(II)I"⟩, prog_12_method_45_code, 3, (some Jvm.ClassFile.FieldType.int))
theorem mi_X10_pull : gx_MI mX10_pull 2 := ⟨(gx_iT (ck_5_160 _ lm11) rfl), in_z10.1, in_z10.2, (by decide +kernel), by decide⟩
theorem mv_X10_pull : gx_MV mX10_pull := ⟨(gx_iT (ck_5_160 _ lm9) rfl), (gx_iT (ck_5_160 _ lm10) rfl)⟩
abbrev mX10_isComer : gx_M := (⟨"CrossroadsChooseModel", "isComer", "(I)Z"⟩, prog_12_method_5_code, 1, (some Jvm.ClassFile.FieldType.boolean))
theorem mi_X10_isComer : gx_MI mX10_isComer 1 := ⟨(gx_iT (ck_5_160 _ lm14) rfl), in_z10.1, in_z10.2, (by decide +kernel), by decide⟩
theorem ms_X10_isComer : Cond.static mX10_isComer.1 ∈ gx_T := (gx_iT (ck_5_160 _ lm13) rfl)
abbrev mX10_layNow : gx_M := (⟨"CrossroadsChooseModel", "layNow", "()V"⟩, prog_12_method_38_code, 2, none)
theorem mi_X10_layNow : gx_MI mX10_layNow 0 := ⟨(gx_iT (ck_5_176 _ lm2) rfl), in_z10.1, in_z10.2, (by decide +kernel), by decide⟩
theorem mv_X10_layNow : gx_MV mX10_layNow := ⟨(gx_iT (ck_5_176 _ lm1) rfl), (gx_iT (pk_4 (q := (⟨"CrossroadsChooseModel", "layNow", "()V"⟩, 51)) lm0) rfl)⟩
abbrev mX10_wants : gx_M := (⟨"CrossroadsChooseModel", "wants", "(II)I"⟩, prog_12_method_39_code, 4, (some Jvm.ClassFile.FieldType.int))
theorem mi_X10_wants : gx_MI mX10_wants 2 := ⟨(gx_iT (ck_5_176 _ lm6) rfl), in_z10.1, in_z10.2, (by decide +kernel), by decide⟩
theorem mv_X10_wants : gx_MV mX10_wants := ⟨(gx_iT (ck_5_176 _ lm5) rfl), (gx_iT (pk_4 (q := (⟨"CrossroadsChooseModel", "wants", "(II)I"⟩, 51)) lm1) rfl)⟩
abbrev mX10_gives : gx_M := (⟨"CrossroadsChooseModel", "gives", "(I)I"⟩, prog_12_method_36_code, 4, (some Jvm.ClassFile.FieldType.int))
theorem mi_X10_gives : gx_MI mX10_gives 1 := ⟨(gx_iT (ck_5_176 _ lm10) rfl), in_z10.1, in_z10.2, (by decide +kernel), by decide⟩
theorem mv_X10_gives : gx_MV mX10_gives := ⟨(gx_iT (ck_5_176 _ lm9) rfl), (gx_iT (pk_4 (q := (⟨"CrossroadsChooseModel", "gives", "(I)I"⟩, 51)) lm2) rfl)⟩
abbrev mX10_worked : gx_M := (⟨"CrossroadsChooseModel", "worked", "(III)I"⟩, prog_12_method_35_code, 7, (some Jvm.ClassFile.FieldType.int))
theorem mi_X10_worked : gx_MI mX10_worked 3 := ⟨(gx_iT (ck_5_176 _ lm14) rfl), in_z10.1, in_z10.2, (by decide +kernel), by decide⟩
theorem mv_X10_worked : gx_MV mX10_worked := ⟨(gx_iT (ck_5_176 _ lm13) rfl), (gx_iT (pk_4 (q := (⟨"CrossroadsChooseModel", "worked", "(III)I"⟩, 51)) lm3) rfl)⟩
abbrev mX10_twoOf : gx_M := (⟨"CrossroadsChooseModel", "twoOf", "(III)I"⟩, prog_12_method_34_code, 3, (some Jvm.ClassFile.FieldType.int))
theorem mi_X10_twoOf : gx_MI mX10_twoOf 3 := ⟨(gx_iT (ck_5_192 _ lm1) rfl), in_z10.1, in_z10.2, (by decide +kernel), by decide⟩
theorem ms_X10_twoOf : Cond.static mX10_twoOf.1 ∈ gx_T := (gx_iT (ck_5_192 _ lm0) rfl)
abbrev mX10_has : gx_M := (⟨"CrossroadsChooseModel", "has", "(I)I"⟩, prog_12_method_46_code, 2, (some Jvm.ClassFile.FieldType.int))
theorem mi_X10_has : gx_MI mX10_has 1 := ⟨(gx_iT (ck_5_192 _ lm5) rfl), in_z10.1, in_z10.2, (by decide +kernel), by decide⟩
theorem mv_X10_has : gx_MV mX10_has := ⟨(gx_iT (ck_5_192 _ lm3) rfl), (gx_iT (ck_5_192 _ lm4) rfl)⟩
abbrev mX10_hasNow : gx_M := (⟨"CrossroadsChooseModel", "hasNow", "(I)I"⟩, prog_12_method_42_code, 2, (some Jvm.ClassFile.FieldType.int))
theorem mi_X10_hasNow : gx_MI mX10_hasNow 1 := ⟨(gx_iT (ck_5_192 _ lm9) rfl), in_z10.1, in_z10.2, (by decide +kernel), by decide⟩
theorem mv_X10_hasNow : gx_MV mX10_hasNow := ⟨(gx_iT (ck_5_192 _ lm8) rfl), (gx_iT (pk_4 (q := (⟨"CrossroadsChooseModel", "hasNow", "(I)I"⟩, 51)) lm4) rfl)⟩
abbrev mX10_runsBy : gx_M := (⟨"CrossroadsChooseModel", "runsBy", "(I)Z"⟩, prog_12_method_40_code, 2, (some Jvm.ClassFile.FieldType.boolean))
theorem mi_X10_runsBy : gx_MI mX10_runsBy 1 := ⟨(gx_iT (ck_5_192 _ lm13) rfl), in_z10.1, in_z10.2, (by decide +kernel), by decide⟩
theorem mv_X10_runsBy : gx_MV mX10_runsBy := ⟨(gx_iT (ck_5_192 _ lm12) rfl), (gx_iT (pk_4 (q := (⟨"CrossroadsChooseModel", "runsBy", "(I)Z"⟩, 51)) lm5) rfl)⟩
abbrev mX10_mostOf : gx_M := (⟨"CrossroadsChooseModel", "mostOf", "(II)I"⟩, prog_12_method_41_code, 7, (some Jvm.ClassFile.FieldType.int))
theorem mi_X10_mostOf : gx_MI mX10_mostOf 2 := ⟨(gx_iT (ck_5_208 _ lm1) rfl), in_z10.1, in_z10.2, (by decide +kernel), by decide⟩
theorem mv_X10_mostOf : gx_MV mX10_mostOf := ⟨(gx_iT (ck_5_208 _ lm0) rfl), (gx_iT (pk_4 (q := (⟨"CrossroadsChooseModel", "mostOf", "(II)I"⟩, 51)) lm6) rfl)⟩
abbrev mX10_last : gx_M := (⟨"CrossroadsChooseModel", "last", "(II)I"⟩, prog_12_method_52_code, 3, (some Jvm.ClassFile.FieldType.int))
theorem mi_X10_last : gx_MI mX10_last 2 := ⟨(gx_iT (ck_5_208 _ lm5) rfl), in_z10.1, in_z10.2, (by decide +kernel), by decide⟩
theorem mv_X10_last : gx_MV mX10_last := ⟨(gx_iT (ck_5_208 _ lm3) rfl), (gx_iT (ck_5_208 _ lm4) rfl)⟩
abbrev mX10_areMany : gx_M := (⟨"CrossroadsChooseModel", "areMany", "(I)Z"⟩, prog_12_method_51_code, 1, (some Jvm.ClassFile.FieldType.boolean))
theorem mi_X10_areMany : gx_MI mX10_areMany 1 := ⟨(gx_iT (ck_5_208 _ lm8) rfl), in_z10.1, in_z10.2, (by decide +kernel), by decide⟩
theorem ms_X10_areMany : Cond.static mX10_areMany.1 ∈ gx_T := (gx_iT (ck_5_208 _ lm7) rfl)
abbrev mX10_rowFault : gx_M := (⟨"CrossroadsChooseModel", "rowFault", "(I)I"⟩, prog_12_method_47_code, 2, (some Jvm.ClassFile.FieldType.int))
theorem mi_X10_rowFault : gx_MI mX10_rowFault 1 := ⟨(gx_iT (ck_5_208 _ lm12) rfl), in_z10.1, in_z10.2, (by decide +kernel), by decide⟩
theorem mv_X10_rowFault : gx_MV mX10_rowFault := ⟨(gx_iT (ck_5_208 _ lm11) rfl), (gx_iT (pk_4 (q := (⟨"CrossroadsChooseModel", "rowFault", "(I)I"⟩, 51)) lm7) rfl)⟩
abbrev mX10_goDay : gx_M := (⟨"CrossroadsChooseModel", "goDay", "(II)V"⟩, prog_12_method_50_code, 6, none)
theorem mi_X10_goDay : gx_MI mX10_goDay 2 := ⟨(gx_iT (ck_5_224 _ lm0) rfl), in_z10.1, in_z10.2, (by decide +kernel), by decide⟩
theorem mv_X10_goDay : gx_MV mX10_goDay := ⟨(gx_iT (ck_5_208 _ lm15) rfl), (gx_iT (pk_4 (q := (⟨"CrossroadsChooseModel", "goDay", "(II)V"⟩, 51)) lm8) rfl)⟩
abbrev mX10_longOf : gx_M := (⟨"CrossroadsChooseModel", "longOf", "(II)I"⟩, prog_12_method_49_code, 4, (some Jvm.ClassFile.FieldType.int))
theorem mi_X10_longOf : gx_MI mX10_longOf 2 := ⟨(gx_iT (ck_5_224 _ lm4) rfl), in_z10.1, in_z10.2, (by decide +kernel), by decide⟩
theorem mv_X10_longOf : gx_MV mX10_longOf := ⟨(gx_iT (ck_5_224 _ lm3) rfl), (gx_iT (pk_4 (q := (⟨"CrossroadsChooseModel", "longOf", "(II)I"⟩, 51)) lm9) rfl)⟩
abbrev mX10_at : gx_M := (⟨"CrossroadsChooseModel", "at", "(II)I"⟩, prog_12_method_48_code, 3, (some Jvm.ClassFile.FieldType.int))
theorem mi_X10_at : gx_MI mX10_at 2 := ⟨(gx_iT (ck_5_224 _ lm8) rfl), in_z10.1, in_z10.2, (by decide +kernel), by decide⟩
theorem mv_X10_at : gx_MV mX10_at := ⟨(gx_iT (ck_5_224 _ lm7) rfl), (gx_iT (pk_4 (q := (⟨"CrossroadsChooseModel", "at", "(II)I"⟩, 51)) lm10) rfl)⟩
abbrev mX10_goComer : gx_M := (⟨"CrossroadsChooseModel", "goComer", "(I)I"⟩, prog_12_method_44_code, 3, (some Jvm.ClassFile.FieldType.int))
theorem mi_X10_goComer : gx_MI mX10_goComer 1 := ⟨(gx_iT (ck_5_224 _ lm12) rfl), in_z10.1, in_z10.2, (by decide +kernel), by decide⟩
theorem mv_X10_goComer : gx_MV mX10_goComer := ⟨(gx_iT (ck_5_224 _ lm11) rfl), (gx_iT (pk_4 (q := (⟨"CrossroadsChooseModel", "goComer", "(I)I"⟩, 51)) lm11) rfl)⟩
abbrev mX10_takesNow : gx_M := (⟨"CrossroadsChooseModel", "takesNow", "(I)V"⟩, prog_12_method_43_code, 3, none)
theorem mi_X10_takesNow : gx_MI mX10_takesNow 1 := ⟨(gx_iT (ck_6_0 _ lm0) rfl), in_z10.1, in_z10.2, (by decide +kernel), by decide⟩
theorem mv_X10_takesNow : gx_MV mX10_takesNow := ⟨(gx_iT (ck_5_224 _ lm15) rfl), (gx_iT (pk_4 (q := (⟨"CrossroadsChooseModel", "takesNow", "(I)V"⟩, 51)) lm12) rfl)⟩
abbrev mX10_day : gx_M := (⟨"CrossroadsChooseModel", "day", "(IIII)I"⟩, prog_12_method_53_code, 5, (some Jvm.ClassFile.FieldType.int))
theorem mi_X10_day : gx_MI mX10_day 4 := ⟨(gx_iT (ck_6_0 _ lm4) rfl), in_z10.1, in_z10.2, (by decide +kernel), by decide⟩
theorem mv_X10_day : gx_MV mX10_day := ⟨(gx_iT (ck_6_0 _ lm2) rfl), (gx_iT (ck_6_0 _ lm3) rfl)⟩
abbrev mX10_unlike : gx_M := (⟨"CrossroadsChooseModel", "unlike", "(II)I"⟩, prog_12_method_54_code, 6, (some Jvm.ClassFile.FieldType.int))
theorem mi_X10_unlike : gx_MI mX10_unlike 2 := ⟨(gx_iT (ck_6_0 _ lm8) rfl), in_z10.1, in_z10.2, (by decide +kernel), by decide⟩
theorem mv_X10_unlike : gx_MV mX10_unlike := ⟨(gx_iT (ck_6_0 _ lm6) rfl), (gx_iT (ck_6_0 _ lm7) rfl)⟩
abbrev mX10_how : gx_M := (⟨"CrossroadsChooseModel", "how", "(II)I"⟩, prog_12_method_55_code, 6, (some Jvm.ClassFile.FieldType.int))
theorem mi_X10_how : gx_MI mX10_how 2 := ⟨(gx_iT (ck_6_0 _ lm12) rfl), in_z10.1, in_z10.2, (by decide +kernel), by decide⟩
theorem mv_X10_how : gx_MV mX10_how := ⟨(gx_iT (ck_6_0 _ lm10) rfl), (gx_iT (ck_6_0 _ lm11) rfl)⟩
abbrev mX10_ahead : gx_M := (⟨"CrossroadsChooseModel", "ahead", "(II)I"⟩, prog_12_method_57_code, 4, (some Jvm.ClassFile.FieldType.int))
theorem mi_X10_ahead : gx_MI mX10_ahead 2 := ⟨(gx_iT (ck_6_16 _ lm0) rfl), in_z10.1, in_z10.2, (by decide +kernel), by decide⟩
theorem mv_X10_ahead : gx_MV mX10_ahead := ⟨(gx_iT (ck_6_0 _ lm14) rfl), (gx_iT (ck_6_0 _ lm15) rfl)⟩
abbrev mX10_areComer : gx_M := (⟨"CrossroadsChooseModel", "areComer", "(I)Z"⟩, prog_12_method_6_code, 2, (some Jvm.ClassFile.FieldType.boolean))
theorem mi_X10_areComer : gx_MI mX10_areComer 1 := ⟨(gx_iT (ck_6_16 _ lm4) rfl), in_z10.1, in_z10.2, (by decide +kernel), by decide⟩
theorem mv_X10_areComer : gx_MV mX10_areComer := ⟨(gx_iT (ck_6_16 _ lm3) rfl), (gx_iT (pk_4 (q := (⟨"CrossroadsChooseModel", "areComer", "(I)Z"⟩, 51)) lm13) rfl)⟩
abbrev mX10_goAhead : gx_M := (⟨"CrossroadsChooseModel", "goAhead", "(IIII)Z"⟩, prog_12_method_56_code, 9, (some Jvm.ClassFile.FieldType.boolean))
theorem mi_X10_goAhead : gx_MI mX10_goAhead 4 := ⟨(gx_iT (ck_6_16 _ lm8) rfl), in_z10.1, in_z10.2, (by decide +kernel), by decide⟩
theorem mv_X10_goAhead : gx_MV mX10_goAhead := ⟨(gx_iT (ck_6_16 _ lm7) rfl), (gx_iT (pk_4 (q := (⟨"CrossroadsChooseModel", "goAhead", "(IIII)Z"⟩, 51)) lm14) rfl)⟩
abbrev mX10_again : gx_M := (⟨"CrossroadsChooseModel", "again", "(I)I"⟩, prog_12_method_58_code, 3, (some Jvm.ClassFile.FieldType.int))
theorem mi_X10_again : gx_MI mX10_again 1 := ⟨(gx_iT (ck_6_16 _ lm12) rfl), in_z10.1, in_z10.2, (by decide +kernel), by decide⟩
theorem mv_X10_again : gx_MV mX10_again := ⟨(gx_iT (ck_6_16 _ lm10) rfl), (gx_iT (ck_6_16 _ lm11) rfl)⟩
abbrev mX10_green : gx_M := (⟨"CrossroadsChooseModel", "green", "()I"⟩, prog_12_method_59_code, 3, (some Jvm.ClassFile.FieldType.int))
theorem mi_X10_green : gx_MI mX10_green 0 := ⟨(gx_iT (ck_6_32 _ lm0) rfl), in_z10.1, in_z10.2, (by decide +kernel), by decide⟩
theorem mv_X10_green : gx_MV mX10_green := ⟨(gx_iT (ck_6_16 _ lm14) rfl), (gx_iT (ck_6_16 _ lm15) rfl)⟩
abbrev mX10_second : gx_M := (⟨"CrossroadsChooseModel", "second", "(II)I"⟩, prog_12_method_61_code, 3, (some Jvm.ClassFile.FieldType.int))
theorem mi_X10_second : gx_MI mX10_second 2 := ⟨(gx_iT (ck_6_32 _ lm4) rfl), in_z10.1, in_z10.2, (by decide +kernel), by decide⟩
theorem mv_X10_second : gx_MV mX10_second := ⟨(gx_iT (ck_6_32 _ lm2) rfl), (gx_iT (ck_6_32 _ lm3) rfl)⟩
abbrev mX10_findAsked : gx_M := (⟨"CrossroadsChooseModel", "findAsked", "(I)V"⟩, prog_12_method_60_code, 4, none)
theorem mi_X10_findAsked : gx_MI mX10_findAsked 1 := ⟨(gx_iT (ck_6_32 _ lm8) rfl), in_z10.1, in_z10.2, (by decide +kernel), by decide⟩
theorem mv_X10_findAsked : gx_MV mX10_findAsked := ⟨(gx_iT (ck_6_32 _ lm7) rfl), (gx_iT (pk_4 (q := (⟨"CrossroadsChooseModel", "findAsked", "(I)V"⟩, 51)) lm15) rfl)⟩
abbrev mX10_sit : gx_M := (⟨"CrossroadsChooseModel", "sit", "(II)I"⟩, prog_12_method_62_code, 5, (some Jvm.ClassFile.FieldType.int))
theorem mi_X10_sit : gx_MI mX10_sit 2 := ⟨(gx_iT (ck_6_32 _ lm12) rfl), in_z10.1, in_z10.2, (by decide +kernel), by decide⟩
theorem mv_X10_sit : gx_MV mX10_sit := ⟨(gx_iT (ck_6_32 _ lm10) rfl), (gx_iT (ck_6_32 _ lm11) rfl)⟩
abbrev mX10_power : gx_M := (⟨"CrossroadsChooseModel", "power", "(II)J"⟩, prog_12_method_67_code, 6, (some Jvm.ClassFile.FieldType.long))
theorem mi_X10_power : gx_MI mX10_power 2 := ⟨(gx_iT (ck_6_48 _ lm0) rfl), in_z10.1, in_z10.2, (by decide +kernel), by decide⟩
theorem mv_X10_power : gx_MV mX10_power := ⟨(gx_iT (ck_6_32 _ lm14) rfl), (gx_iT (ck_6_32 _ lm15) rfl)⟩
abbrev mX10_winsBy : gx_M := (⟨"CrossroadsChooseModel", "winsBy", "(I)Z"⟩, prog_12_method_63_code, 4, (some Jvm.ClassFile.FieldType.boolean))
theorem mi_X10_winsBy : gx_MI mX10_winsBy 1 := ⟨(gx_iT (ck_6_48 _ lm5) rfl), in_z10.1, in_z10.2, (by decide +kernel), by decide⟩
theorem mv_X10_winsBy : gx_MV mX10_winsBy := ⟨(gx_iT (ck_6_48 _ lm4) rfl), (gx_iT (pk_5 (q := (⟨"CrossroadsChooseModel", "winsBy", "(I)Z"⟩, 51)) lm0) rfl)⟩
abbrev mX10_bitsOf : gx_M := (⟨"CrossroadsChooseModel", "bitsOf", "(I)I"⟩, prog_12_method_66_code, 3, (some Jvm.ClassFile.FieldType.int))
theorem mi_X10_bitsOf : gx_MI mX10_bitsOf 1 := ⟨(gx_iT (ck_6_48 _ lm8) rfl), in_z10.1, in_z10.2, (by decide +kernel), by decide⟩
theorem ms_X10_bitsOf : Cond.static mX10_bitsOf.1 ∈ gx_T := (gx_iT (ck_6_48 _ lm7) rfl)
abbrev mX10_factorial : gx_M := (⟨"CrossroadsChooseModel", "factorial", "(I)I"⟩, prog_12_method_65_code, 3, (some Jvm.ClassFile.FieldType.int))
theorem mi_X10_factorial : gx_MI mX10_factorial 1 := ⟨(gx_iT (ck_6_48 _ lm11) rfl), in_z10.1, in_z10.2, (by decide +kernel), by decide⟩
theorem ms_X10_factorial : Cond.static mX10_factorial.1 ∈ gx_T := (gx_iT (ck_6_48 _ lm10) rfl)
abbrev mX10_lowest : gx_M := (⟨"CrossroadsChooseModel", "lowest", "(JJI)J"⟩, prog_12_method_64_code, 11, (some Jvm.ClassFile.FieldType.long))
theorem mi_X10_lowest : gx_MI mX10_lowest 3 := ⟨(gx_iT (ck_6_48 _ lm14) rfl), in_z10.1, in_z10.2, (by decide +kernel), by decide⟩
theorem ms_X10_lowest : Cond.static mX10_lowest.1 ∈ gx_T := (gx_iT (ck_6_48 _ lm13) rfl)
abbrev mX10_winning : gx_M := (⟨"CrossroadsChooseModel", "winning", "(I)I"⟩, prog_12_method_69_code, 9, (some Jvm.ClassFile.FieldType.int))
theorem mi_X10_winning : gx_MI mX10_winning 1 := ⟨(gx_iT (ck_6_64 _ lm2) rfl), in_z10.1, in_z10.2, (by decide +kernel), by decide⟩
theorem mv_X10_winning : gx_MV mX10_winning := ⟨(gx_iT (ck_6_64 _ lm0) rfl), (gx_iT (ck_6_64 _ lm1) rfl)⟩
abbrev mX10_isJust : gx_M := (⟨"CrossroadsChooseModel", "isJust", "(I)Z"⟩, prog_12_method_68_code, 3, (some Jvm.ClassFile.FieldType.boolean))
theorem mi_X10_isJust : gx_MI mX10_isJust 1 := ⟨(gx_iT (ck_6_64 _ lm6) rfl), in_z10.1, in_z10.2, (by decide +kernel), by decide⟩
theorem mv_X10_isJust : gx_MV mX10_isJust := ⟨(gx_iT (ck_6_64 _ lm5) rfl), (gx_iT (pk_5 (q := (⟨"CrossroadsChooseModel", "isJust", "(I)Z"⟩, 51)) lm1) rfl)⟩
abbrev mX10_more : gx_M := (⟨"CrossroadsChooseModel", "more", "(I)I"⟩, prog_12_method_70_code, 6, (some Jvm.ClassFile.FieldType.int))
theorem mi_X10_more : gx_MI mX10_more 1 := ⟨(gx_iT (ck_6_64 _ lm10) rfl), in_z10.1, in_z10.2, (by decide +kernel), by decide⟩
theorem mv_X10_more : gx_MV mX10_more := ⟨(gx_iT (ck_6_64 _ lm8) rfl), (gx_iT (ck_6_64 _ lm9) rfl)⟩
abbrev mX10_whatever : gx_M := (⟨"CrossroadsChooseModel", "whatever", "(II)I"⟩, prog_12_method_72_code, 6, (some Jvm.ClassFile.FieldType.int))
theorem mi_X10_whatever : gx_MI mX10_whatever 2 := ⟨(gx_iT (ck_6_64 _ lm14) rfl), in_z10.1, in_z10.2, (by decide +kernel), by decide⟩
theorem mv_X10_whatever : gx_MV mX10_whatever := ⟨(gx_iT (ck_6_64 _ lm12) rfl), (gx_iT (ck_6_64 _ lm13) rfl)⟩
abbrev mX10_hasAll : gx_M := (⟨"CrossroadsChooseModel", "hasAll", "(II)Z"⟩, prog_12_method_71_code, 4, (some Jvm.ClassFile.FieldType.boolean))
theorem mi_X10_hasAll : gx_MI mX10_hasAll 2 := ⟨(gx_iT (ck_6_80 _ lm2) rfl), in_z10.1, in_z10.2, (by decide +kernel), by decide⟩
theorem mv_X10_hasAll : gx_MV mX10_hasAll := ⟨(gx_iT (ck_6_80 _ lm1) rfl), (gx_iT (pk_5 (q := (⟨"CrossroadsChooseModel", "hasAll", "(II)Z"⟩, 51)) lm2) rfl)⟩
abbrev mX10_least : gx_M := (⟨"CrossroadsChooseModel", "least", "()I"⟩, prog_12_method_73_code, 5, (some Jvm.ClassFile.FieldType.int))
theorem mi_X10_least : gx_MI mX10_least 0 := ⟨(gx_iT (ck_6_80 _ lm6) rfl), in_z10.1, in_z10.2, (by decide +kernel), by decide⟩
theorem mv_X10_least : gx_MV mX10_least := ⟨(gx_iT (ck_6_80 _ lm4) rfl), (gx_iT (ck_6_80 _ lm5) rfl)⟩
abbrev mX10_judge : gx_M := (⟨"CrossroadsChooseModel", "judge", "(I)I"⟩, prog_12_method_75_code, 2, (some Jvm.ClassFile.FieldType.int))
theorem mi_X10_judge : gx_MI mX10_judge 1 := ⟨(gx_iT (ck_6_80 _ lm10) rfl), in_z10.1, in_z10.2, (by decide +kernel), by decide⟩
theorem mv_X10_judge : gx_MV mX10_judge := ⟨(gx_iT (ck_6_80 _ lm8) rfl), (gx_iT (ck_6_80 _ lm9) rfl)⟩
abbrev mX10_wrongTwo : gx_M := (⟨"CrossroadsChooseModel", "wrongTwo", "(I)I"⟩, prog_12_method_74_code, 3, (some Jvm.ClassFile.FieldType.int))
theorem mi_X10_wrongTwo : gx_MI mX10_wrongTwo 1 := ⟨(gx_iT (ck_6_80 _ lm14) rfl), in_z10.1, in_z10.2, (by decide +kernel), by decide⟩
theorem mv_X10_wrongTwo : gx_MV mX10_wrongTwo := ⟨(gx_iT (ck_6_80 _ lm13) rfl), (gx_iT (pk_5 (q := (⟨"CrossroadsChooseModel", "wrongTwo", "(I)I"⟩, 51)) lm3) rfl)⟩
abbrev mX10_liking : gx_M := (⟨"CrossroadsChooseModel", "liking", "(III)I"⟩, prog_12_method_76_code, 8, (some Jvm.ClassFile.FieldType.int))
theorem mi_X10_liking : gx_MI mX10_liking 3 := ⟨(gx_iT (ck_6_96 _ lm2) rfl), in_z10.1, in_z10.2, (by decide +kernel), by decide⟩
theorem mv_X10_liking : gx_MV mX10_liking := ⟨(gx_iT (ck_6_96 _ lm0) rfl), (gx_iT (ck_6_96 _ lm1) rfl)⟩
abbrev mX10_waited : gx_M := (⟨"CrossroadsChooseModel", "waited", "(III)I"⟩, prog_12_method_77_code, 8, (some Jvm.ClassFile.FieldType.int))
theorem mi_X10_waited : gx_MI mX10_waited 3 := ⟨(gx_iT (ck_6_96 _ lm6) rfl), in_z10.1, in_z10.2, (by decide +kernel), by decide⟩
theorem mv_X10_waited : gx_MV mX10_waited := ⟨(gx_iT (ck_6_96 _ lm4) rfl), (gx_iT (ck_6_96 _ lm5) rfl)⟩
abbrev mX10_fair : gx_M := (⟨"CrossroadsChooseModel", "fair", "(II)I"⟩, prog_12_method_78_code, 6, (some Jvm.ClassFile.FieldType.int))
theorem mi_X10_fair : gx_MI mX10_fair 2 := ⟨(gx_iT (ck_6_96 _ lm10) rfl), in_z10.1, in_z10.2, (by decide +kernel), by decide⟩
theorem mv_X10_fair : gx_MV mX10_fair := ⟨(gx_iT (ck_6_96 _ lm8) rfl), (gx_iT (ck_6_96 _ lm9) rfl)⟩
abbrev mX10_drawn : gx_M := (⟨"CrossroadsChooseModel", "drawn", "(III)I"⟩, prog_12_method_79_code, 10, (some Jvm.ClassFile.FieldType.int))
theorem mi_X10_drawn : gx_MI mX10_drawn 3 := ⟨(gx_iT (ck_6_96 _ lm14) rfl), in_z10.1, in_z10.2, (by decide +kernel), by decide⟩
theorem mv_X10_drawn : gx_MV mX10_drawn := ⟨(gx_iT (ck_6_96 _ lm12) rfl), (gx_iT (ck_6_96 _ lm13) rfl)⟩
abbrev mX10_comes : gx_M := (⟨"CrossroadsChooseModel", "comes", "(I)I"⟩, prog_12_method_81_code, 3, (some Jvm.ClassFile.FieldType.int))
theorem mi_X10_comes : gx_MI mX10_comes 1 := ⟨(gx_iT (ck_6_112 _ lm3) rfl), in_z10.1, in_z10.2, (by decide +kernel), by decide⟩
theorem mv_X10_comes : gx_MV mX10_comes := ⟨(gx_iT (ck_6_112 _ lm1) rfl), (gx_iT (ck_6_112 _ lm2) rfl)⟩
abbrev mX10_takesInDeed : gx_M := (⟨"CrossroadsChooseModel", "takesInDeed", "(I)V"⟩, prog_12_method_80_code, 3, none)
theorem mi_X10_takesInDeed : gx_MI mX10_takesInDeed 1 := ⟨(gx_iT (ck_6_112 _ lm7) rfl), in_z10.1, in_z10.2, (by decide +kernel), by decide⟩
theorem mv_X10_takesInDeed : gx_MV mX10_takesInDeed := ⟨(gx_iT (ck_6_112 _ lm6) rfl), (gx_iT (pk_5 (q := (⟨"CrossroadsChooseModel", "takesInDeed", "(I)V"⟩, 51)) lm4) rfl)⟩
abbrev mX10_send : gx_M := (⟨"CrossroadsChooseModel", "send", "(I)I"⟩, prog_12_method_82_code, 3, (some Jvm.ClassFile.FieldType.int))
theorem mi_X10_send : gx_MI mX10_send 1 := ⟨(gx_iT (ck_6_112 _ lm11) rfl), in_z10.1, in_z10.2, (by decide +kernel), by decide⟩
theorem mv_X10_send : gx_MV mX10_send := ⟨(gx_iT (ck_6_112 _ lm9) rfl), (gx_iT (ck_6_112 _ lm10) rfl)⟩
abbrev mX10_led : gx_M := (⟨"CrossroadsChooseModel", "led", "(I)I"⟩, prog_12_method_83_code, 2, (some Jvm.ClassFile.FieldType.int))
theorem mi_X10_led : gx_MI mX10_led 1 := ⟨(gx_iT (ck_6_112 _ lm15) rfl), in_z10.1, in_z10.2, (by decide +kernel), by decide⟩
theorem mv_X10_led : gx_MV mX10_led := ⟨(gx_iT (ck_6_112 _ lm13) rfl), (gx_iT (ck_6_112 _ lm14) rfl)⟩
abbrev mX10_image : gx_M := (⟨"CrossroadsChooseModel", "image", "()I"⟩, prog_12_method_84_code, 2, (some Jvm.ClassFile.FieldType.int))
theorem mi_X10_image : gx_MI mX10_image 0 := ⟨(gx_iT (ck_6_128 _ lm3) rfl), in_z10.1, in_z10.2, (by decide +kernel), by decide⟩
theorem mv_X10_image : gx_MV mX10_image := ⟨(gx_iT (ck_6_128 _ lm1) rfl), (gx_iT (ck_6_128 _ lm2) rfl)⟩
abbrev mX10_back : gx_M := (⟨"CrossroadsChooseModel", "back", "()I"⟩, prog_12_method_85_code, 2, (some Jvm.ClassFile.FieldType.int))
theorem mi_X10_back : gx_MI mX10_back 0 := ⟨(gx_iT (ck_6_128 _ lm7) rfl), in_z10.1, in_z10.2, (by decide +kernel), by decide⟩
theorem mv_X10_back : gx_MV mX10_back := ⟨(gx_iT (ck_6_128 _ lm5) rfl), (gx_iT (ck_6_128 _ lm6) rfl)⟩
abbrev mX10_trace : gx_M := (⟨"CrossroadsChooseModel", "trace", "(I)I"⟩, prog_12_method_88_code, 2, (some Jvm.ClassFile.FieldType.int))
theorem mi_X10_trace : gx_MI mX10_trace 1 := ⟨(gx_iT (ck_6_128 _ lm11) rfl), in_z10.1, in_z10.2, (by decide +kernel), by decide⟩
theorem mv_X10_trace : gx_MV mX10_trace := ⟨(gx_iT (ck_6_128 _ lm9) rfl), (gx_iT (ck_6_128 _ lm10) rfl)⟩
abbrev mX10_body : gx_M := (⟨"CrossroadsChooseModel", "body", "(I)I"⟩, prog_12_method_89_code, 2, (some Jvm.ClassFile.FieldType.int))
theorem mi_X10_body : gx_MI mX10_body 1 := ⟨(gx_iT (ck_6_128 _ lm15) rfl), in_z10.1, in_z10.2, (by decide +kernel), by decide⟩
theorem mv_X10_body : gx_MV mX10_body := ⟨(gx_iT (ck_6_128 _ lm13) rfl), (gx_iT (ck_6_128 _ lm14) rfl)⟩
abbrev mX10_act : gx_M := (⟨"CrossroadsChooseModel", "act", "(III)I"⟩, prog_12_method_102_code, 4, (some Jvm.ClassFile.FieldType.int))
theorem mi_X10_act : gx_MI mX10_act 3 := ⟨(gx_iT (ck_6_144 _ lm3) rfl), in_z10.1, in_z10.2, (by decide +kernel), by decide⟩
theorem mv_X10_act : gx_MV mX10_act := ⟨(gx_iT (ck_6_144 _ lm1) rfl), (gx_iT (ck_6_144 _ lm2) rfl)⟩
abbrev mX10_isBody : gx_M := (⟨"CrossroadsChooseModel", "isBody", "(I)Z"⟩, prog_12_method_86_code, 2, (some Jvm.ClassFile.FieldType.boolean))
theorem mi_X10_isBody : gx_MI mX10_isBody 1 := ⟨(gx_iT (ck_6_144 _ lm7) rfl), in_z10.1, in_z10.2, (by decide +kernel), by decide⟩
theorem mv_X10_isBody : gx_MV mX10_isBody := ⟨(gx_iT (ck_6_144 _ lm6) rfl), (gx_iT (pk_5 (q := (⟨"CrossroadsChooseModel", "isBody", "(I)Z"⟩, 51)) lm5) rfl)⟩
abbrev mX10_wanting : gx_M := (⟨"CrossroadsChooseModel", "wanting", "(II)I"⟩, prog_12_method_93_code, 3, (some Jvm.ClassFile.FieldType.int))
theorem mi_X10_wanting : gx_MI mX10_wanting 2 := ⟨(gx_iT (ck_6_144 _ lm11) rfl), in_z10.1, in_z10.2, (by decide +kernel), by decide⟩
theorem mv_X10_wanting : gx_MV mX10_wanting := ⟨(gx_iT (ck_6_144 _ lm10) rfl), (gx_iT (pk_5 (q := (⟨"CrossroadsChooseModel", "wanting", "(II)I"⟩, 51)) lm6) rfl)⟩
abbrev mX10_isUnder : gx_M := (⟨"CrossroadsChooseModel", "isUnder", "(II)Z"⟩, prog_12_method_90_code, 2, (some Jvm.ClassFile.FieldType.boolean))
theorem mi_X10_isUnder : gx_MI mX10_isUnder 2 := ⟨(gx_iT (ck_6_144 _ lm14) rfl), in_z10.1, in_z10.2, (by decide +kernel), by decide⟩
theorem ms_X10_isUnder : Cond.static mX10_isUnder.1 ∈ gx_T := (gx_iT (ck_6_144 _ lm13) rfl)
abbrev mX10_ran : gx_M := (⟨"CrossroadsChooseModel", "ran", "(I)V"⟩, prog_12_method_87_code, 2, none)
theorem mi_X10_ran : gx_MI mX10_ran 1 := ⟨(gx_iT (ck_6_160 _ lm2) rfl), in_z10.1, in_z10.2, (by decide +kernel), by decide⟩
theorem mv_X10_ran : gx_MV mX10_ran := ⟨(gx_iT (ck_6_160 _ lm1) rfl), (gx_iT (pk_5 (q := (⟨"CrossroadsChooseModel", "ran", "(I)V"⟩, 51)) lm7) rfl)⟩
abbrev mX10_plainWants : gx_M := (⟨"CrossroadsChooseModel", "plainWants", "(II)I"⟩, prog_12_method_91_code, 3, (some Jvm.ClassFile.FieldType.int))
theorem mi_X10_plainWants : gx_MI mX10_plainWants 2 := ⟨(gx_iT (ck_6_160 _ lm6) rfl), in_z10.1, in_z10.2, (by decide +kernel), by decide⟩
theorem mv_X10_plainWants : gx_MV mX10_plainWants := ⟨(gx_iT (ck_6_160 _ lm5) rfl), (gx_iT (pk_5 (q := (⟨"CrossroadsChooseModel", "plainWants", "(II)I"⟩, 51)) lm8) rfl)⟩
abbrev mX10_elmWants : gx_M := (⟨"CrossroadsChooseModel", "elmWants", "(II)I"⟩, prog_12_method_92_code, 3, (some Jvm.ClassFile.FieldType.int))
theorem mi_X10_elmWants : gx_MI mX10_elmWants 2 := ⟨(gx_iT (ck_6_160 _ lm10) rfl), in_z10.1, in_z10.2, (by decide +kernel), by decide⟩
theorem mv_X10_elmWants : gx_MV mX10_elmWants := ⟨(gx_iT (ck_6_160 _ lm9) rfl), (gx_iT (pk_5 (q := (⟨"CrossroadsChooseModel", "elmWants", "(II)I"⟩, 51)) lm9) rfl)⟩
abbrev mX10_waiting : gx_M := (⟨"CrossroadsChooseModel", "waiting", "(II)I"⟩, prog_12_method_96_code, 4, (some Jvm.ClassFile.FieldType.int))
theorem mi_X10_waiting : gx_MI mX10_waiting 2 := ⟨(gx_iT (ck_6_160 _ lm14) rfl), in_z10.1, in_z10.2, (by decide +kernel), by decide⟩
theorem mv_X10_waiting : gx_MV mX10_waiting := ⟨(gx_iT (ck_6_160 _ lm13) rfl), (gx_iT (pk_5 (q := (⟨"CrossroadsChooseModel", "waiting", "(II)I"⟩, 51)) lm10) rfl)⟩
abbrev mX10_greenWaits : gx_M := (⟨"CrossroadsChooseModel", "greenWaits", "(II)I"⟩, prog_12_method_95_code, 3, (some Jvm.ClassFile.FieldType.int))
theorem mi_X10_greenWaits : gx_MI mX10_greenWaits 2 := ⟨(gx_iT (ck_6_176 _ lm2) rfl), in_z10.1, in_z10.2, (by decide +kernel), by decide⟩
theorem mv_X10_greenWaits : gx_MV mX10_greenWaits := ⟨(gx_iT (ck_6_176 _ lm1) rfl), (gx_iT (pk_5 (q := (⟨"CrossroadsChooseModel", "greenWaits", "(II)I"⟩, 51)) lm11) rfl)⟩
abbrev mX10_plainWaits : gx_M := (⟨"CrossroadsChooseModel", "plainWaits", "(II)I"⟩, prog_12_method_94_code, 3, (some Jvm.ClassFile.FieldType.int))
theorem mi_X10_plainWaits : gx_MI mX10_plainWaits 2 := ⟨(gx_iT (ck_6_176 _ lm6) rfl), in_z10.1, in_z10.2, (by decide +kernel), by decide⟩
theorem mv_X10_plainWaits : gx_MV mX10_plainWaits := ⟨(gx_iT (ck_6_176 _ lm5) rfl), (gx_iT (pk_5 (q := (⟨"CrossroadsChooseModel", "plainWaits", "(II)I"⟩, 51)) lm12) rfl)⟩
abbrev mX10_taking : gx_M := (⟨"CrossroadsChooseModel", "taking", "(II)I"⟩, prog_12_method_99_code, 4, (some Jvm.ClassFile.FieldType.int))
theorem mi_X10_taking : gx_MI mX10_taking 2 := ⟨(gx_iT (ck_6_176 _ lm10) rfl), in_z10.1, in_z10.2, (by decide +kernel), by decide⟩
theorem mv_X10_taking : gx_MV mX10_taking := ⟨(gx_iT (ck_6_176 _ lm9) rfl), (gx_iT (pk_5 (q := (⟨"CrossroadsChooseModel", "taking", "(II)I"⟩, 51)) lm13) rfl)⟩
abbrev mX10_bankTakes : gx_M := (⟨"CrossroadsChooseModel", "bankTakes", "(II)I"⟩, prog_12_method_98_code, 3, (some Jvm.ClassFile.FieldType.int))
theorem mi_X10_bankTakes : gx_MI mX10_bankTakes 2 := ⟨(gx_iT (ck_6_176 _ lm14) rfl), in_z10.1, in_z10.2, (by decide +kernel), by decide⟩
theorem mv_X10_bankTakes : gx_MV mX10_bankTakes := ⟨(gx_iT (ck_6_176 _ lm13) rfl), (gx_iT (pk_5 (q := (⟨"CrossroadsChooseModel", "bankTakes", "(II)I"⟩, 51)) lm14) rfl)⟩
abbrev mX10_plainTakes : gx_M := (⟨"CrossroadsChooseModel", "plainTakes", "(II)I"⟩, prog_12_method_97_code, 3, (some Jvm.ClassFile.FieldType.int))
theorem mi_X10_plainTakes : gx_MI mX10_plainTakes 2 := ⟨(gx_iT (ck_6_192 _ lm2) rfl), in_z10.1, in_z10.2, (by decide +kernel), by decide⟩
theorem mv_X10_plainTakes : gx_MV mX10_plainTakes := ⟨(gx_iT (ck_6_192 _ lm1) rfl), (gx_iT (pk_5 (q := (⟨"CrossroadsChooseModel", "plainTakes", "(II)I"⟩, 51)) lm15) rfl)⟩
abbrev mX10_telling : gx_M := (⟨"CrossroadsChooseModel", "telling", "(II)I"⟩, prog_12_method_101_code, 3, (some Jvm.ClassFile.FieldType.int))
theorem mi_X10_telling : gx_MI mX10_telling 2 := ⟨(gx_iT (ck_6_192 _ lm6) rfl), in_z10.1, in_z10.2, (by decide +kernel), by decide⟩
theorem mv_X10_telling : gx_MV mX10_telling := ⟨(gx_iT (ck_6_192 _ lm5) rfl), (gx_iT (pk_6 (q := (⟨"CrossroadsChooseModel", "telling", "(II)I"⟩, 51)) lm0) rfl)⟩
abbrev mX10_plainTells : gx_M := (⟨"CrossroadsChooseModel", "plainTells", "(II)I"⟩, prog_12_method_100_code, 4, (some Jvm.ClassFile.FieldType.int))
theorem mi_X10_plainTells : gx_MI mX10_plainTells 2 := ⟨(gx_iT (ck_6_192 _ lm10) rfl), in_z10.1, in_z10.2, (by decide +kernel), by decide⟩
theorem mv_X10_plainTells : gx_MV mX10_plainTells := ⟨(gx_iT (ck_6_192 _ lm9) rfl), (gx_iT (pk_6 (q := (⟨"CrossroadsChooseModel", "plainTells", "(II)I"⟩, 51)) lm1) rfl)⟩
abbrev mX10_count : gx_M := (⟨"CrossroadsChooseModel", "count", "(I)I"⟩, prog_12_method_103_code, 2, (some Jvm.ClassFile.FieldType.int))
theorem mi_X10_count : gx_MI mX10_count 1 := ⟨(gx_iT (ck_6_192 _ lm14) rfl), in_z10.1, in_z10.2, (by decide +kernel), by decide⟩
theorem mv_X10_count : gx_MV mX10_count := ⟨(gx_iT (ck_6_192 _ lm12) rfl), (gx_iT (ck_6_192 _ lm13) rfl)⟩
abbrev mX10_keep : gx_M := (⟨"CrossroadsChooseModel", "keep", "(II)I"⟩, prog_12_method_105_code, 3, (some Jvm.ClassFile.FieldType.int))
theorem mi_X10_keep : gx_MI mX10_keep 2 := ⟨(gx_iT (ck_6_208 _ lm2) rfl), in_z10.1, in_z10.2, (by decide +kernel), by decide⟩
theorem mv_X10_keep : gx_MV mX10_keep := ⟨(gx_iT (ck_6_208 _ lm0) rfl), (gx_iT (ck_6_208 _ lm1) rfl)⟩
abbrev mX10_row : gx_M := (⟨"CrossroadsChooseModel", "row", "(III)I"⟩, prog_12_method_106_code, 5, (some Jvm.ClassFile.FieldType.int))
theorem mi_X10_row : gx_MI mX10_row 3 := ⟨(gx_iT (ck_6_208 _ lm6) rfl), in_z10.1, in_z10.2, (by decide +kernel), by decide⟩
theorem mv_X10_row : gx_MV mX10_row := ⟨(gx_iT (ck_6_208 _ lm4) rfl), (gx_iT (ck_6_208 _ lm5) rfl)⟩
abbrev mX10_put : gx_M := (⟨"CrossroadsChooseModel", "put", "(IIJ)I"⟩, prog_12_method_108_code, 7, (some Jvm.ClassFile.FieldType.int))
theorem mi_X10_put : gx_MI mX10_put 3 := ⟨(gx_iT (ck_6_208 _ lm10) rfl), in_z10.1, in_z10.2, (by decide +kernel), by decide⟩
theorem mv_X10_put : gx_MV mX10_put := ⟨(gx_iT (ck_6_208 _ lm8) rfl), (gx_iT (ck_6_208 _ lm9) rfl)⟩
abbrev mX10_whyNoPlace : gx_M := (⟨"CrossroadsChooseModel", "whyNoPlace", "(II)I"⟩, prog_12_method_107_code, 3, (some Jvm.ClassFile.FieldType.int))
theorem mi_X10_whyNoPlace : gx_MI mX10_whyNoPlace 2 := ⟨(gx_iT (ck_6_208 _ lm14) rfl), in_z10.1, in_z10.2, (by decide +kernel), by decide⟩
theorem mv_X10_whyNoPlace : gx_MV mX10_whyNoPlace := ⟨(gx_iT (ck_6_208 _ lm13) rfl), (gx_iT (pk_6 (q := (⟨"CrossroadsChooseModel", "whyNoPlace", "(II)I"⟩, 51)) lm2) rfl)⟩
abbrev mX10_element : gx_M := (⟨"CrossroadsChooseModel", "element", "(II)J"⟩, prog_12_method_109_code, 3, (some Jvm.ClassFile.FieldType.long))
theorem mi_X10_element : gx_MI mX10_element 2 := ⟨(gx_iT (ck_6_224 _ lm2) rfl), in_z10.1, in_z10.2, (by decide +kernel), by decide⟩
theorem mv_X10_element : gx_MV mX10_element := ⟨(gx_iT (ck_6_224 _ lm0) rfl), (gx_iT (ck_6_224 _ lm1) rfl)⟩
abbrev mX10_shift : gx_M := (⟨"CrossroadsChooseModel", "shift", "(IIIII)I"⟩, prog_12_method_110_code, 7, (some Jvm.ClassFile.FieldType.int))
theorem mi_X10_shift : gx_MI mX10_shift 5 := ⟨(gx_iT (ck_6_224 _ lm6) rfl), in_z10.1, in_z10.2, (by decide +kernel), by decide⟩
theorem mv_X10_shift : gx_MV mX10_shift := ⟨(gx_iT (ck_6_224 _ lm4) rfl), (gx_iT (ck_6_224 _ lm5) rfl)⟩
abbrev mX10_taken : gx_M := (⟨"CrossroadsChooseModel", "taken", "(II)I"⟩, prog_12_method_111_code, 3, (some Jvm.ClassFile.FieldType.int))
theorem mi_X10_taken : gx_MI mX10_taken 2 := ⟨(gx_iT (ck_6_224 _ lm10) rfl), in_z10.1, in_z10.2, (by decide +kernel), by decide⟩
theorem mv_X10_taken : gx_MV mX10_taken := ⟨(gx_iT (ck_6_224 _ lm8) rfl), (gx_iT (ck_6_224 _ lm9) rfl)⟩
theorem oi_1 : Cond.instanceMethod Lib.objectInit ∈ gx_T := (gx_iT (ck_1_16 _ lm6) rfl)
theorem oi_2 : Cond.code Lib.objectInit ⟨#[0xb1]⟩ 1 none ∈ gx_T := (gx_iT (ck_1_16 _ lm7) rfl)
theorem ml_L_9 : gx_ML "CrossroadsChooseLaw" 9 mX9_init.1 := .inl (gx_iT (ck_1_16 _ lm2) rfl)
theorem ol_X9_1 : Cond.methodLink "CrossroadsChoose" 1 Lib.objectInit ∈ gx_T := (gx_iT (ck_1_16 _ lm5) rfl)
theorem ml_X9_9 : gx_ML "CrossroadsChoose" 9 mX6_init.1 := .inr ⟨"CrossroadsChoose", (gx_iN (ck_1_16 _ lm10) rfl)⟩
theorem ol_X6_1 : Cond.methodLink "CrossroadsChoose$Tape" 1 Lib.objectInit ∈ gx_T := (gx_iT (ck_1_16 _ lm13) rfl)
theorem ml_X9_18 : gx_ML "CrossroadsChoose" 18 mX1_init.1 := .inr ⟨"CrossroadsChoose", (gx_iN (ck_1_32 _ lm12) rfl)⟩
theorem ol_X1_1 : Cond.methodLink "CrossroadsChoose$Changes" 1 Lib.objectInit ∈ gx_T := (gx_iT (ck_1_32 _ lm15) rfl)
theorem ml_X9_25 : gx_ML "CrossroadsChoose" 25 mX3_init.1 := .inr ⟨"CrossroadsChoose", (gx_iN (ck_1_64 _ lm7) rfl)⟩
theorem ol_X3_3 : Cond.methodLink "CrossroadsChoose$Image" 3 Lib.objectInit ∈ gx_T := (gx_iT (ck_1_64 _ lm10) rfl)
theorem ml_X9_32 : gx_ML "CrossroadsChoose" 32 mX0_init.1 := .inr ⟨"CrossroadsChoose", (gx_iN (ck_1_80 _ lm12) rfl)⟩
theorem ol_X0_3 : Cond.methodLink "CrossroadsChoose$Bodies" 3 Lib.objectInit ∈ gx_T := (gx_iT (ck_1_80 _ lm15) rfl)
theorem ml_X9_57 : gx_ML "CrossroadsChoose" 57 mX4_init.1 := .inr ⟨"CrossroadsChoose", (gx_iN (ck_1_112 _ lm5) rfl)⟩
theorem ol_X4_1 : Cond.methodLink "CrossroadsChoose$Law" 1 Lib.objectInit ∈ gx_T := (gx_iT (ck_1_112 _ lm8) rfl)
theorem ml_X9_64 : gx_ML "CrossroadsChoose" 64 mX2_init.1 := .inl (gx_iT (ck_1_128 _ lm14) rfl)
theorem ol_X2_5 : Cond.methodLink "CrossroadsChoose$Crossing" 5 Lib.objectInit ∈ gx_T := (gx_iT (ck_1_144 _ lm1) rfl)
theorem ml_X9_73 : gx_ML "CrossroadsChoose" 73 mX7_init.1 := .inl (gx_iT (ck_1_160 _ lm2) rfl)
theorem ol_X7_3 : Cond.methodLink "CrossroadsChoose$Thought" 3 Lib.objectInit ∈ gx_T := (gx_iT (ck_1_160 _ lm5) rfl)
theorem ml_X7_23 : gx_ML "CrossroadsChoose$Thought" 23 mX2_init.1 := .inl (gx_iT (ck_1_160 _ lm7) rfl)
theorem ml_X9_78 : gx_ML "CrossroadsChoose" 78 mX5_init.1 := .inr ⟨"CrossroadsChoose", (gx_iN (ck_1_192 _ lm5) rfl)⟩
theorem ol_X5_3 : Cond.methodLink "CrossroadsChoose$Shelf" 3 Lib.objectInit ∈ gx_T := (gx_iT (ck_1_192 _ lm8) rfl)
theorem ml_L_13 : gx_ML "CrossroadsChooseLaw" 13 mX9_road.1 := .inl (gx_iT (ck_2_16 _ lm0) rfl)
theorem ml_X9_79 : gx_ML "CrossroadsChoose" 79 mX9_fits.1 := .inl (gx_iT (ck_2_16 _ lm4) rfl)
theorem ml_X9_83 : gx_ML "CrossroadsChoose" 83 mX2_isFull.1 := .inl (gx_iT (ck_2_16 _ lm11) rfl)
theorem ml_X9_87 : gx_ML "CrossroadsChoose" 87 mX2_add.1 := .inl (gx_iT (ck_2_16 _ lm15) rfl)
theorem ml_X2_23 : gx_ML "CrossroadsChoose$Crossing" 23 mX2_isFull.1 := .inl (gx_iT (ck_2_32 _ lm3) rfl)
theorem ml_X2_27 : gx_ML "CrossroadsChoose$Crossing" 27 mX2_become.1 := .inl (gx_iT (ck_2_32 _ lm4) rfl)
theorem ml_X2_31 : gx_ML "CrossroadsChoose$Crossing" 31 mX2_placeOf.1 := .inl (gx_iT (ck_2_32 _ lm8) rfl)
theorem ml_L_18 : gx_ML "CrossroadsChooseLaw" 18 mX9_roads.1 := .inl (gx_iT (ck_2_32 _ lm12) rfl)
theorem ml_X9_91 : gx_ML "CrossroadsChoose" 91 mX9_shelfAt.1 := .inl (gx_iT (ck_2_48 _ lm0) rfl)
theorem ml_X9_95 : gx_ML "CrossroadsChoose" 95 mX5_holdsNothing.1 := .inl (gx_iT (ck_2_48 _ lm4) rfl)
theorem ml_X9_98 : gx_ML "CrossroadsChoose" 98 mX5_holdsBytes.1 := .inl (gx_iT (ck_2_48 _ lm8) rfl)
theorem ml_X9_101 : gx_ML "CrossroadsChoose" 101 mX9_addedFrom.1 := .inl (gx_iT (ck_2_48 _ lm12) rfl)
theorem ml_X9_105 : gx_ML "CrossroadsChoose" 105 mX5_hasRoom.1 := .inl (gx_iT (ck_2_64 _ lm0) rfl)
theorem ml_X9_108 : gx_ML "CrossroadsChoose" 108 mX5_small.1 := .inl (gx_iT (ck_2_64 _ lm4) rfl)
theorem ml_X5_47 : gx_ML "CrossroadsChoose$Shelf" 47 mX5_valueAt.1 := .inl (gx_iT (ck_2_64 _ lm8) rfl)
theorem ml_X5_43 : gx_ML "CrossroadsChoose$Shelf" 43 mX5_hasRoom.1 := .inl (gx_iT (ck_2_64 _ lm12) rfl)
theorem ml_L_23 : gx_ML "CrossroadsChooseLaw" 23 mX9_mend.1 := .inl (gx_iT (ck_2_64 _ lm13) rfl)
theorem ml_X9_112 : gx_ML "CrossroadsChoose" 112 mX2_number.1 := .inl (gx_iT (ck_2_80 _ lm1) rfl)
theorem ml_X9_117 : gx_ML "CrossroadsChoose" 117 mX1_note.1 := .inl (gx_iT (ck_2_80 _ lm7) rfl)
theorem ml_X1_26 : gx_ML "CrossroadsChoose$Changes" 26 mX1_dropFirst.1 := .inl (gx_iT (ck_2_80 _ lm11) rfl)
theorem cp_X1_33 : gx_CP "CrossroadsChoose$Changes" 33 := ⟨(gx_iT (ck_2_80 _ lm14) rfl), (gx_iT (ck_2_96 _ lm0) rfl), (gx_iT (ck_2_80 _ lm15) rfl), (gx_iT (ck_1_0 _ lm11) rfl)⟩
theorem ml_X9_121 : gx_ML "CrossroadsChoose" 121 mX2_become.1 := .inl (gx_iT (ck_2_96 _ lm1) rfl)
theorem ml_L_27 : gx_ML "CrossroadsChooseLaw" 27 mX9_of.1 := .inl (gx_iT (ck_2_96 _ lm2) rfl)
theorem ml_L_31 : gx_ML "CrossroadsChooseLaw" 31 mX9_feed.1 := .inl (gx_iT (ck_2_96 _ lm6) rfl)
theorem ml_X9_125 : gx_ML "CrossroadsChoose" 125 mX6_isFull.1 := .inl (gx_iT (ck_2_96 _ lm10) rfl)
theorem ml_X9_126 : gx_ML "CrossroadsChoose" 126 mX6_add.1 := .inl (gx_iT (ck_2_96 _ lm14) rfl)
theorem ml_X6_17 : gx_ML "CrossroadsChoose$Tape" 17 mX6_isFull.1 := .inl (gx_iT (ck_2_112 _ lm2) rfl)
theorem ml_L_36 : gx_ML "CrossroadsChooseLaw" 36 mX9_law.1 := .inl (gx_iT (ck_2_112 _ lm3) rfl)
theorem ml_X9_128 : gx_ML "CrossroadsChoose" 128 mX6_readInto.1 := .inl (gx_iT (ck_2_112 _ lm7) rfl)
theorem ml_X6_21 : gx_ML "CrossroadsChoose$Tape" 21 mX4_clear.1 := .inl (gx_iT (ck_2_112 _ lm11) rfl)
theorem ml_X6_29 : gx_ML "CrossroadsChoose$Tape" 29 mX6_readLines.1 := .inl (gx_iT (ck_2_112 _ lm15) rfl)
theorem ml_X6_33 : gx_ML "CrossroadsChoose$Tape" 33 mX6_readLine.1 := .inl (gx_iT (ck_2_128 _ lm3) rfl)
theorem ml_X6_40 : gx_ML "CrossroadsChoose$Tape" 40 mX6_readJoined.1 := .inl (gx_iT (ck_2_128 _ lm7) rfl)
theorem ml_X6_48 : gx_ML "CrossroadsChoose$Tape" 48 mX6_readOperand.1 := .inl (gx_iT (ck_2_128 _ lm11) rfl)
theorem ml_X6_36 : gx_ML "CrossroadsChoose$Tape" 36 mX6_here.1 := .inl (gx_iT (ck_2_128 _ lm15) rfl)
theorem ml_X6_56 : gx_ML "CrossroadsChoose$Tape" 56 mX6_isDigit.1 := .inl (gx_iT (ck_2_144 _ lm3) rfl)
theorem ml_X6_60 : gx_ML "CrossroadsChoose$Tape" 60 mX6_readNumber.1 := .inl (gx_iT (ck_2_144 _ lm6) rfl)
theorem ml_X6_44 : gx_ML "CrossroadsChoose$Tape" 44 mX4_add.1 := .inl (gx_iT (ck_2_144 _ lm10) rfl)
theorem ml_X6_64 : gx_ML "CrossroadsChoose$Tape" 64 mX6_nameOf.1 := .inl (gx_iT (ck_2_144 _ lm14) rfl)
theorem ml_X6_68 : gx_ML "CrossroadsChoose$Tape" 68 mX6_readBracket.1 := .inl (gx_iT (ck_2_160 _ lm1) rfl)
theorem ml_X6_71 : gx_ML "CrossroadsChoose$Tape" 71 mX6_readSigned.1 := .inl (gx_iT (ck_2_160 _ lm5) rfl)
theorem ml_X6_52 : gx_ML "CrossroadsChoose$Tape" 52 mX6_joins.1 := .inl (gx_iT (ck_2_160 _ lm9) rfl)
theorem ml_L_41 : gx_ML "CrossroadsChooseLaw" 41 mX9_pull.1 := .inl (gx_iT (ck_2_160 _ lm12) rfl)
theorem ml_X9_141 : gx_ML "CrossroadsChoose" 141 mX2_isRoad.1 := .inl (gx_iT (ck_2_176 _ lm0) rfl)
theorem ml_X9_145 : gx_ML "CrossroadsChoose" 145 mX9_isComer.1 := .inl (gx_iT (ck_2_176 _ lm4) rfl)
theorem ml_X9_148 : gx_ML "CrossroadsChoose" 148 mX2_wants.1 := .inl (gx_iT (ck_2_176 _ lm7) rfl)
theorem ml_X2_50 : gx_ML "CrossroadsChoose$Crossing" 50 mX2_number.1 := .inl (gx_iT (ck_2_176 _ lm11) rfl)
theorem ml_X2_57 : gx_ML "CrossroadsChoose$Crossing" 57 mX4_isTold.1 := .inl (gx_iT (ck_2_176 _ lm12) rfl)
theorem ml_X2_62 : gx_ML "CrossroadsChoose$Crossing" 62 mX4_gives.1 := .inl (gx_iT (ck_2_192 _ lm0) rfl)
theorem ml_X4_29 : gx_ML "CrossroadsChoose$Law" 29 mX4_take.1 := .inl (gx_iT (ck_2_192 _ lm4) rfl)
theorem ml_X4_33 : gx_ML "CrossroadsChoose$Law" 33 mX4_lay.1 := .inl (gx_iT (ck_2_192 _ lm8) rfl)
theorem ml_X4_37 : gx_ML "CrossroadsChoose$Law" 37 mX4_named.1 := .inl (gx_iT (ck_2_192 _ lm12) rfl)
theorem ml_X4_41 : gx_ML "CrossroadsChoose$Law" 41 mX4_joined.1 := .inl (gx_iT (ck_2_208 _ lm0) rfl)
theorem ml_X2_42 : gx_ML "CrossroadsChoose$Crossing" 42 mJ9_min_7cf53.1 := .inl (gx_iT (ck_2_208 _ lm3) rfl)
theorem ml_X2_47 : gx_ML "CrossroadsChoose$Crossing" 47 mJ9_max_7cf53.1 := .inl (gx_iT (ck_2_208 _ lm6) rfl)
theorem ml_L_45 : gx_ML "CrossroadsChooseLaw" 45 mX9_has.1 := .inl (gx_iT (ck_2_208 _ lm9) rfl)
theorem ml_X9_151 : gx_ML "CrossroadsChoose" 151 mX2_haver.1 := .inl (gx_iT (ck_2_208 _ lm13) rfl)
theorem ml_X2_66 : gx_ML "CrossroadsChoose$Crossing" 66 mX2_isRunner.1 := .inl (gx_iT (ck_2_224 _ lm1) rfl)
theorem ml_X2_53 : gx_ML "CrossroadsChoose$Crossing" 53 mX2_isRoad.1 := .inl (gx_iT (ck_2_224 _ lm5) rfl)
theorem ml_X2_69 : gx_ML "CrossroadsChoose$Crossing" 69 mX2_wanter.1 := .inl (gx_iT (ck_2_224 _ lm6) rfl)
theorem ml_X2_72 : gx_ML "CrossroadsChoose$Crossing" 72 mX2_wants.1 := .inl (gx_iT (ck_2_224 _ lm10) rfl)
theorem ml_L_49 : gx_ML "CrossroadsChooseLaw" 49 mX9_last.1 := .inl (gx_iT (ck_2_224 _ lm11) rfl)
theorem ml_X9_154 : gx_ML "CrossroadsChoose" 154 mX9_dayRefusal.1 := .inl (gx_iT (ck_2_224 _ lm15) rfl)
theorem ml_X9_216 : gx_ML "CrossroadsChoose" 216 mX9_bytesRefusal.1 := .inl (gx_iT (ck_3_0 _ lm3) rfl)
theorem ml_X9_219 : gx_ML "CrossroadsChoose" 219 mX9_rowRefusal.1 := .inl (gx_iT (ck_3_0 _ lm7) rfl)
theorem ml_X9_329 : gx_ML "CrossroadsChoose" 329 mX5_holdsRow.1 := .inl (gx_iT (ck_3_0 _ lm11) rfl)
theorem ml_X9_157 : gx_ML "CrossroadsChoose" 157 mX9_thinkDay.1 := .inl (gx_iT (ck_3_0 _ lm15) rfl)
theorem ml_X9_184 : gx_ML "CrossroadsChoose" 184 mX7_begin.1 := .inl (gx_iT (ck_3_16 _ lm3) rfl)
theorem ml_X7_30 : gx_ML "CrossroadsChoose$Thought" 30 mX2_copy.1 := .inl (gx_iT (ck_3_16 _ lm7) rfl)
theorem cp_X2_36 : gx_CP "CrossroadsChoose$Crossing" 36 := ⟨(gx_iT (ck_3_16 _ lm11) rfl), (gx_iT (ck_2_96 _ lm0) rfl), (gx_iT (ck_2_80 _ lm15) rfl), (gx_iT (ck_1_0 _ lm11) rfl)⟩
theorem ml_X7_34 : gx_ML "CrossroadsChoose$Thought" 34 mJ7_fill_53178.1 := .inl (gx_iT (ck_3_16 _ lm12) rfl)
theorem ml_X7_40 : gx_ML "CrossroadsChoose$Thought" 40 mX2_giveWaits.1 := .inl (gx_iT (ck_3_16 _ lm15) rfl)
theorem ml_X9_222 : gx_ML "CrossroadsChoose" 222 mX5_comers.1 := .inl (gx_iT (ck_3_32 _ lm3) rfl)
theorem ml_X5_55 : gx_ML "CrossroadsChoose$Shelf" 55 mX5_small.1 := .inl (gx_iT (ck_3_32 _ lm7) rfl)
theorem ml_X5_59 : gx_ML "CrossroadsChoose$Shelf" 59 mX9_isComer.1 := .inr ⟨"CrossroadsChoose", (gx_iN (ck_3_32 _ lm8) rfl)⟩
theorem ml_X9_207 : gx_ML "CrossroadsChoose" 207 mX7_meet.1 := .inl (gx_iT (ck_3_32 _ lm9) rfl)
theorem ml_X7_65 : gx_ML "CrossroadsChoose$Thought" 65 mX2_haver.1 := .inl (gx_iT (ck_3_32 _ lm13) rfl)
theorem ml_X7_69 : gx_ML "CrossroadsChoose$Thought" 69 mX2_settle.1 := .inl (gx_iT (ck_3_32 _ lm14) rfl)
theorem ml_X7_57 : gx_ML "CrossroadsChoose$Thought" 57 mX2_number.1 := .inl (gx_iT (ck_3_48 _ lm3) rfl)
theorem ml_X7_73 : gx_ML "CrossroadsChoose$Thought" 73 mX7_noteWaits.1 := .inl (gx_iT (ck_3_48 _ lm4) rfl)
theorem ml_X7_76 : gx_ML "CrossroadsChoose$Thought" 76 mJ9_max_7cf53.1 := .inl (gx_iT (ck_3_48 _ lm8) rfl)
theorem ml_L_53 : gx_ML "CrossroadsChooseLaw" 53 mX9_day.1 := .inl (gx_iT (ck_3_48 _ lm9) rfl)
theorem ml_L_58 : gx_ML "CrossroadsChooseLaw" 58 mX9_unlike.1 := .inl (gx_iT (ck_3_48 _ lm13) rfl)
theorem ml_X9_177 : gx_ML "CrossroadsChoose" 177 mX7_unlikeness.1 := .inl (gx_iT (ck_3_64 _ lm1) rfl)
theorem ml_X7_81 : gx_ML "CrossroadsChoose$Thought" 81 mJ9_min_7cf53.1 := .inl (gx_iT (ck_3_64 _ lm5) rfl)
theorem ml_L_62 : gx_ML "CrossroadsChooseLaw" 62 mX9_how.1 := .inl (gx_iT (ck_3_64 _ lm6) rfl)
theorem ml_L_66 : gx_ML "CrossroadsChooseLaw" 66 mX9_ahead.1 := .inl (gx_iT (ck_3_64 _ lm10) rfl)
theorem ml_X9_181 : gx_ML "CrossroadsChoose" 181 mX9_isPair.1 := .inl (gx_iT (ck_3_64 _ lm14) rfl)
theorem ml_X9_188 : gx_ML "CrossroadsChoose" 188 mX9_reaches.1 := .inl (gx_iT (ck_3_80 _ lm2) rfl)
theorem ml_X9_192 : gx_ML "CrossroadsChoose" 192 mX2_giveWaits.1 := .inl (gx_iT (ck_3_80 _ lm6) rfl)
theorem ml_X9_199 : gx_ML "CrossroadsChoose" 199 mX2_settle.1 := .inl (gx_iT (ck_3_80 _ lm7) rfl)
theorem ml_X9_203 : gx_ML "CrossroadsChoose" 203 mX2_takeWaits.1 := .inl (gx_iT (ck_3_80 _ lm8) rfl)
theorem ml_L_70 : gx_ML "CrossroadsChooseLaw" 70 mX9_again.1 := .inl (gx_iT (ck_3_80 _ lm12) rfl)
theorem ml_L_74 : gx_ML "CrossroadsChooseLaw" 74 mX9_green.1 := .inl (gx_iT (ck_3_96 _ lm0) rfl)
theorem ml_X9_210 : gx_ML "CrossroadsChoose" 210 mX2_allRoads.1 := .inl (gx_iT (ck_3_96 _ lm4) rfl)
theorem ml_L_78 : gx_ML "CrossroadsChooseLaw" 78 mX9_second.1 := .inl (gx_iT (ck_3_96 _ lm8) rfl)
theorem ml_X9_213 : gx_ML "CrossroadsChoose" 213 mX2_asked.1 := .inl (gx_iT (ck_3_96 _ lm12) rfl)
theorem ml_L_82 : gx_ML "CrossroadsChooseLaw" 82 mX9_sit.1 := .inl (gx_iT (ck_3_112 _ lm0) rfl)
theorem ml_L_86 : gx_ML "CrossroadsChooseLaw" 86 mX9_power.1 := .inl (gx_iT (ck_3_112 _ lm4) rfl)
theorem ml_X9_229 : gx_ML "CrossroadsChoose" 229 mX8_powerOf.1 := .inl (gx_iT (ck_3_112 _ lm9) rfl)
theorem ml_X8_29 : gx_ML "CrossroadsChoose$Votes" 29 mX8_ordersOf.1 := .inl (gx_iT (ck_3_112 _ lm12) rfl)
theorem ml_X8_19 : gx_ML "CrossroadsChoose$Votes" 19 mX8_wins.1 := .inl (gx_iT (ck_3_128 _ lm1) rfl)
theorem ml_X8_15 : gx_ML "CrossroadsChoose$Votes" 15 mX2_number.1 := .inl (gx_iT (ck_3_128 _ lm4) rfl)
theorem ml_X8_33 : gx_ML "CrossroadsChoose$Votes" 33 mJ6_bitCount_0f7a4.1 := .inl (gx_iT (ck_3_128 _ lm5) rfl)
theorem ml_X8_38 : gx_ML "CrossroadsChoose$Votes" 38 mX8_sharedDivisor.1 := .inl (gx_iT (ck_3_128 _ lm11) rfl)
theorem ml_L_91 : gx_ML "CrossroadsChooseLaw" 91 mX9_winning.1 := .inl (gx_iT (ck_3_128 _ lm14) rfl)
theorem ml_X9_235 : gx_ML "CrossroadsChoose" 235 mX8_winners.1 := .inl (gx_iT (ck_3_144 _ lm2) rfl)
theorem ml_X8_41 : gx_ML "CrossroadsChoose$Votes" 41 mX2_allRoads.1 := .inl (gx_iT (ck_3_144 _ lm5) rfl)
theorem ml_X8_45 : gx_ML "CrossroadsChoose$Votes" 45 mX8_winsBarely.1 := .inl (gx_iT (ck_3_144 _ lm6) rfl)
theorem ml_L_95 : gx_ML "CrossroadsChooseLaw" 95 mX9_more.1 := .inl (gx_iT (ck_3_144 _ lm9) rfl)
theorem ml_L_99 : gx_ML "CrossroadsChooseLaw" 99 mX9_whatever.1 := .inl (gx_iT (ck_3_144 _ lm13) rfl)
theorem ml_X9_239 : gx_ML "CrossroadsChoose" 239 mX2_hasAllOf.1 := .inl (gx_iT (ck_3_160 _ lm1) rfl)
theorem ml_X2_75 : gx_ML "CrossroadsChoose$Crossing" 75 mX2_haver.1 := .inl (gx_iT (ck_3_160 _ lm5) rfl)
theorem ml_L_103 : gx_ML "CrossroadsChooseLaw" 103 mX9_least.1 := .inl (gx_iT (ck_3_160 _ lm6) rfl)
theorem ml_L_107 : gx_ML "CrossroadsChooseLaw" 107 mX9_judge.1 := .inl (gx_iT (ck_3_160 _ lm10) rfl)
theorem ml_X9_242 : gx_ML "CrossroadsChoose" 242 mX9_firstWrong.1 := .inl (gx_iT (ck_3_160 _ lm14) rfl)
theorem ml_L_111 : gx_ML "CrossroadsChooseLaw" 111 mX9_liking.1 := .inl (gx_iT (ck_3_176 _ lm2) rfl)
theorem ml_L_115 : gx_ML "CrossroadsChooseLaw" 115 mX9_waited.1 := .inl (gx_iT (ck_3_176 _ lm6) rfl)
theorem ml_L_119 : gx_ML "CrossroadsChooseLaw" 119 mX9_fair.1 := .inl (gx_iT (ck_3_176 _ lm10) rfl)
theorem ml_L_123 : gx_ML "CrossroadsChooseLaw" 123 mX9_drawn.1 := .inl (gx_iT (ck_3_176 _ lm14) rfl)
theorem ml_X9_252 : gx_ML "CrossroadsChoose" 252 mX7_waitAs.1 := .inl (gx_iT (ck_3_192 _ lm2) rfl)
theorem ml_X7_61 : gx_ML "CrossroadsChoose$Thought" 61 mX2_become.1 := .inl (gx_iT (ck_3_192 _ lm6) rfl)
theorem ml_L_127 : gx_ML "CrossroadsChooseLaw" 127 mX9_comes.1 := .inl (gx_iT (ck_3_192 _ lm8) rfl)
theorem ml_X9_256 : gx_ML "CrossroadsChoose" 256 mX2_isRunner.1 := .inl (gx_iT (ck_3_192 _ lm12) rfl)
theorem ml_X9_259 : gx_ML "CrossroadsChoose" 259 mX9_lead.1 := .inl (gx_iT (ck_3_192 _ lm13) rfl)
theorem ml_L_131 : gx_ML "CrossroadsChooseLaw" 131 mX9_send.1 := .inl (gx_iT (ck_3_208 _ lm1) rfl)
theorem ml_L_135 : gx_ML "CrossroadsChooseLaw" 135 mX9_led.1 := .inl (gx_iT (ck_3_208 _ lm5) rfl)
theorem ml_L_139 : gx_ML "CrossroadsChooseLaw" 139 mX9_image.1 := .inl (gx_iT (ck_3_208 _ lm9) rfl)
theorem cp_X9_271 : gx_CP "CrossroadsChoose" 271 := ⟨(gx_iT (ck_3_208 _ lm13) rfl), (gx_iT (ck_2_96 _ lm0) rfl), (gx_iT (ck_2_80 _ lm15) rfl), (gx_iT (ck_1_0 _ lm11) rfl)⟩
theorem ml_L_143 : gx_ML "CrossroadsChooseLaw" 143 mX9_back.1 := .inl (gx_iT (ck_3_208 _ lm14) rfl)
theorem ml_L_147 : gx_ML "CrossroadsChooseLaw" 147 mX9_undo.1 := .inl (gx_iT (ck_3_224 _ lm2) rfl)
theorem ml_X9_277 : gx_ML "CrossroadsChoose" 277 mX1_undone.1 := .inl (gx_iT (ck_3_224 _ lm6) rfl)
theorem ml_X1_39 : gx_ML "CrossroadsChoose$Changes" 39 mX2_become.1 := .inl (gx_iT (ck_3_224 _ lm10) rfl)
theorem ml_L_151 : gx_ML "CrossroadsChooseLaw" 151 mX9_redo.1 := .inl (gx_iT (ck_3_224 _ lm11) rfl)
theorem ml_X9_284 : gx_ML "CrossroadsChoose" 284 mX1_doneAgain.1 := .inl (gx_iT (ck_3_224 _ lm15) rfl)
theorem ml_L_155 : gx_ML "CrossroadsChooseLaw" 155 mX9_body.1 := .inl (gx_iT (ck_4_0 _ lm3) rfl)
theorem ml_X9_290 : gx_ML "CrossroadsChoose" 290 mX0_isFull.1 := .inl (gx_iT (ck_4_0 _ lm7) rfl)
theorem ml_X9_291 : gx_ML "CrossroadsChoose" 291 mX0_add.1 := .inl (gx_iT (ck_4_0 _ lm11) rfl)
theorem ml_X0_26 : gx_ML "CrossroadsChoose$Bodies" 26 mX0_isFull.1 := .inl (gx_iT (ck_4_0 _ lm15) rfl)
theorem ml_L_159 : gx_ML "CrossroadsChooseLaw" 159 mX9_act.1 := .inl (gx_iT (ck_4_16 _ lm0) rfl)
theorem ml_X9_292 : gx_ML "CrossroadsChoose" 292 mX0_perform.1 := .inl (gx_iT (ck_4_16 _ lm4) rfl)
theorem ml_X0_22 : gx_ML "CrossroadsChoose$Bodies" 22 mX0_isBody.1 := .inl (gx_iT (ck_4_16 _ lm8) rfl)
theorem ml_X0_40 : gx_ML "CrossroadsChoose$Bodies" 40 mX0_work.1 := .inl (gx_iT (ck_4_16 _ lm12) rfl)
theorem ml_X0_47 : gx_ML "CrossroadsChoose$Bodies" 47 mX0_kindWith.1 := .inl (gx_iT (ck_4_32 _ lm0) rfl)
theorem ml_X0_36 : gx_ML "CrossroadsChoose$Bodies" 36 mX0_above.1 := .inl (gx_iT (ck_4_32 _ lm5) rfl)
theorem ml_X0_51 : gx_ML "CrossroadsChoose$Bodies" 51 mX0_note.1 := .inl (gx_iT (ck_4_32 _ lm10) rfl)
theorem ml_X0_55 : gx_ML "CrossroadsChoose$Bodies" 55 mX0_kindOf.1 := .inl (gx_iT (ck_4_32 _ lm14) rfl)
theorem ml_L_163 : gx_ML "CrossroadsChooseLaw" 163 mX9_trace.1 := .inl (gx_iT (ck_4_48 _ lm2) rfl)
theorem ml_X9_295 : gx_ML "CrossroadsChoose" 295 mX0_traced.1 := .inl (gx_iT (ck_4_48 _ lm6) rfl)
theorem ml_L_167 : gx_ML "CrossroadsChooseLaw" 167 mX9_keep.1 := .inl (gx_iT (ck_4_48 _ lm10) rfl)
theorem ml_X9_298 : gx_ML "CrossroadsChoose" 298 mX0_isBody.1 := .inl (gx_iT (ck_4_48 _ lm14) rfl)
theorem ml_X9_301 : gx_ML "CrossroadsChoose" 301 mX5_holdNothing.1 := .inl (gx_iT (ck_4_48 _ lm15) rfl)
theorem ml_X9_304 : gx_ML "CrossroadsChoose" 304 mX5_holdBody.1 := .inl (gx_iT (ck_4_64 _ lm3) rfl)
theorem ml_L_171 : gx_ML "CrossroadsChooseLaw" 171 mX9_row.1 := .inl (gx_iT (ck_4_64 _ lm7) rfl)
theorem ml_X9_307 : gx_ML "CrossroadsChoose" 307 mX5_holdRow.1 := .inl (gx_iT (ck_4_64 _ lm11) rfl)
theorem ml_X5_28 : gx_ML "CrossroadsChoose$Shelf" 28 mJ9_min_7cf53.1 := .inl (gx_iT (ck_4_64 _ lm15) rfl)
theorem ml_X5_34 : gx_ML "CrossroadsChoose$Shelf" 34 mJ9_max_7cf53.1 := .inl (gx_iT (ck_4_80 _ lm0) rfl)
theorem ml_X5_37 : gx_ML "CrossroadsChoose$Shelf" 37 mJ7_fill_d0a16.1 := .inl (gx_iT (ck_4_80 _ lm1) rfl)
theorem ml_L_177 : gx_ML "CrossroadsChooseLaw" 177 mX9_put.1 := .inl (gx_iT (ck_4_80 _ lm4) rfl)
theorem ml_X9_311 : gx_ML "CrossroadsChoose" 311 mX9_placeRefusal.1 := .inl (gx_iT (ck_4_80 _ lm8) rfl)
theorem ml_X9_314 : gx_ML "CrossroadsChoose" 314 mX5_write.1 := .inl (gx_iT (ck_4_80 _ lm12) rfl)
theorem ml_X5_51 : gx_ML "CrossroadsChoose$Shelf" 51 mX5_narrowed.1 := .inl (gx_iT (ck_4_96 _ lm0) rfl)
theorem ml_L_182 : gx_ML "CrossroadsChooseLaw" 182 mX9_element.1 := .inl (gx_iT (ck_4_96 _ lm4) rfl)
theorem ml_X9_318 : gx_ML "CrossroadsChoose" 318 mX5_valueAt.1 := .inl (gx_iT (ck_4_96 _ lm8) rfl)
theorem ml_L_186 : gx_ML "CrossroadsChooseLaw" 186 mX9_shift.1 := .inl (gx_iT (ck_4_96 _ lm9) rfl)
theorem ml_X9_322 : gx_ML "CrossroadsChoose" 322 mX9_pairRefusal.1 := .inl (gx_iT (ck_4_96 _ lm13) rfl)
theorem ml_L_191 : gx_ML "CrossroadsChooseLaw" 191 mX9_taken.1 := .inl (gx_iT (ck_4_112 _ lm1) rfl)
theorem ml_X9_335 : gx_ML "CrossroadsChoose" 335 mX0_kindOf.1 := .inl (gx_iT (ck_4_112 _ lm5) rfl)
theorem ml_X9_338 : gx_ML "CrossroadsChoose" 338 mX0_isUnder.1 := .inl (gx_iT (ck_4_112 _ lm6) rfl)
theorem ml_L_195 : gx_ML "CrossroadsChooseLaw" 195 mX9_count.1 := .inl (gx_iT (ck_4_112 _ lm9) rfl)
theorem ml_L_12 : gx_ML "CrossroadsChooseLaw" 12 mX10_init.1 := .inl (gx_iT (ck_4_112 _ lm15) rfl)
theorem ol_X10_3 : Cond.methodLink "CrossroadsChooseModel" 3 Lib.objectInit ∈ gx_T := (gx_iT (ck_4_128 _ lm2) rfl)
theorem ml_L_17 : gx_ML "CrossroadsChooseLaw" 17 mX10_road.1 := .inl (gx_iT (ck_5_32 _ lm14) rfl)
theorem ml_X10_124 : gx_ML "CrossroadsChooseModel" 124 mX10_in.1 := .inl (gx_iT (ck_5_48 _ lm2) rfl)
theorem ml_X10_132 : gx_ML "CrossroadsChooseModel" 132 mX10_addRoad.1 := .inl (gx_iT (ck_5_48 _ lm5) rfl)
theorem ml_L_22 : gx_ML "CrossroadsChooseLaw" 22 mX10_roads.1 := .inl (gx_iT (ck_5_48 _ lm9) rfl)
theorem ml_X10_136 : gx_ML "CrossroadsChooseModel" 136 mX10_isShelf.1 := .inl (gx_iT (ck_5_48 _ lm13) rfl)
theorem ml_L_150 : gx_ML "CrossroadsChooseLaw" 150 mX10_undo.1 := .inl (gx_iT (ck_5_64 _ lm1) rfl)
theorem ml_X10_151 : gx_ML "CrossroadsChooseModel" 151 mX10_lays.1 := .inl (gx_iT (ck_5_64 _ lm5) rfl)
theorem ml_L_154 : gx_ML "CrossroadsChooseLaw" 154 mX10_redo.1 := .inl (gx_iT (ck_5_64 _ lm9) rfl)
theorem ml_L_26 : gx_ML "CrossroadsChooseLaw" 26 mX10_mend.1 := .inl (gx_iT (ck_5_64 _ lm13) rfl)
theorem ml_X10_155 : gx_ML "CrossroadsChooseModel" 155 mX10_isOne.1 := .inl (gx_iT (ck_5_80 _ lm1) rfl)
theorem ml_X10_128 : gx_ML "CrossroadsChooseModel" 128 mX10_isRoad.1 := .inl (gx_iT (ck_5_80 _ lm5) rfl)
theorem ml_X10_159 : gx_ML "CrossroadsChooseModel" 159 mX10_mayHave.1 := .inl (gx_iT (ck_5_80 _ lm9) rfl)
theorem ml_X10_162 : gx_ML "CrossroadsChooseModel" 162 mX10_changes.1 := .inl (gx_iT (ck_5_80 _ lm12) rfl)
theorem ml_X10_141 : gx_ML "CrossroadsChooseModel" 141 mX10_valueAt.1 := .inl (gx_iT (ck_5_96 _ lm0) rfl)
theorem ml_L_30 : gx_ML "CrossroadsChooseLaw" 30 mX10_of.1 := .inl (gx_iT (ck_5_96 _ lm5) rfl)
theorem ml_L_35 : gx_ML "CrossroadsChooseLaw" 35 mX10_feed.1 := .inl (gx_iT (ck_5_96 _ lm9) rfl)
theorem ml_L_40 : gx_ML "CrossroadsChooseLaw" 40 mX10_law.1 := .inl (gx_iT (ck_5_96 _ lm13) rfl)
theorem ml_X10_230 : gx_ML "CrossroadsChooseModel" 230 mX10_readText.1 := .inl (gx_iT (ck_5_112 _ lm1) rfl)
theorem ml_X10_221 : gx_ML "CrossroadsChooseModel" 221 mX10_line.1 := .inl (gx_iT (ck_5_112 _ lm5) rfl)
theorem ml_X10_203 : gx_ML "CrossroadsChooseModel" 203 mX10_either.1 := .inl (gx_iT (ck_5_112 _ lm9) rfl)
theorem ml_X10_218 : gx_ML "CrossroadsChooseModel" 218 mX10_both.1 := .inl (gx_iT (ck_5_112 _ lm13) rfl)
theorem ml_X10_215 : gx_ML "CrossroadsChooseModel" 215 mX10_compared.1 := .inl (gx_iT (ck_5_128 _ lm1) rfl)
theorem ml_X10_212 : gx_ML "CrossroadsChooseModel" 212 mX10_sum.1 := .inl (gx_iT (ck_5_128 _ lm5) rfl)
theorem ml_X10_209 : gx_ML "CrossroadsChooseModel" 209 mX10_product.1 := .inl (gx_iT (ck_5_128 _ lm9) rfl)
theorem ml_X10_200 : gx_ML "CrossroadsChooseModel" 200 mX10_operand.1 := .inl (gx_iT (ck_5_128 _ lm13) rfl)
theorem ml_X10_184 : gx_ML "CrossroadsChooseModel" 184 mX10_look.1 := .inl (gx_iT (ck_5_144 _ lm1) rfl)
theorem ml_X10_192 : gx_ML "CrossroadsChooseModel" 192 mX10_nameOf.1 := .inl (gx_iT (ck_5_144 _ lm5) rfl)
theorem ml_X10_188 : gx_ML "CrossroadsChooseModel" 188 mX10_addStep.1 := .inl (gx_iT (ck_5_144 _ lm8) rfl)
theorem ml_X10_196 : gx_ML "CrossroadsChooseModel" 196 mX10_opens.1 := .inl (gx_iT (ck_5_144 _ lm12) rfl)
theorem ml_X10_181 : gx_ML "CrossroadsChooseModel" 181 mX10_wrong.1 := .inl (gx_iT (ck_5_160 _ lm0) rfl)
theorem ml_X10_206 : gx_ML "CrossroadsChooseModel" 206 mX10_figure.1 := .inl (gx_iT (ck_5_160 _ lm4) rfl)
theorem ml_L_44 : gx_ML "CrossroadsChooseLaw" 44 mX10_pull.1 := .inl (gx_iT (ck_5_160 _ lm8) rfl)
theorem ml_X10_256 : gx_ML "CrossroadsChooseModel" 256 mX10_isComer.1 := .inl (gx_iT (ck_5_160 _ lm12) rfl)
theorem ml_X10_259 : gx_ML "CrossroadsChooseModel" 259 mX10_layNow.1 := .inl (gx_iT (ck_5_160 _ lm15) rfl)
theorem ml_X10_240 : gx_ML "CrossroadsChooseModel" 240 mX10_wants.1 := .inl (gx_iT (ck_5_176 _ lm3) rfl)
theorem ml_X10_237 : gx_ML "CrossroadsChooseModel" 237 mX10_gives.1 := .inl (gx_iT (ck_5_176 _ lm7) rfl)
theorem ml_X10_227 : gx_ML "CrossroadsChooseModel" 227 mX10_worked.1 := .inl (gx_iT (ck_5_176 _ lm11) rfl)
theorem ml_X10_224 : gx_ML "CrossroadsChooseModel" 224 mX10_twoOf.1 := .inl (gx_iT (ck_5_176 _ lm15) rfl)
theorem ml_L_48 : gx_ML "CrossroadsChooseLaw" 48 mX10_has.1 := .inl (gx_iT (ck_5_192 _ lm2) rfl)
theorem ml_X10_249 : gx_ML "CrossroadsChooseModel" 249 mX10_hasNow.1 := .inl (gx_iT (ck_5_192 _ lm6) rfl)
theorem ml_X10_243 : gx_ML "CrossroadsChooseModel" 243 mX10_runsBy.1 := .inl (gx_iT (ck_5_192 _ lm10) rfl)
theorem ml_X10_246 : gx_ML "CrossroadsChooseModel" 246 mX10_mostOf.1 := .inl (gx_iT (ck_5_192 _ lm14) rfl)
theorem ml_L_52 : gx_ML "CrossroadsChooseLaw" 52 mX10_last.1 := .inl (gx_iT (ck_5_208 _ lm2) rfl)
theorem ml_X10_274 : gx_ML "CrossroadsChooseModel" 274 mX10_areMany.1 := .inl (gx_iT (ck_5_208 _ lm6) rfl)
theorem ml_X10_277 : gx_ML "CrossroadsChooseModel" 277 mX10_rowFault.1 := .inl (gx_iT (ck_5_208 _ lm9) rfl)
theorem ml_X10_280 : gx_ML "CrossroadsChooseModel" 280 mX10_goDay.1 := .inl (gx_iT (ck_5_208 _ lm13) rfl)
theorem ml_X10_268 : gx_ML "CrossroadsChooseModel" 268 mX10_longOf.1 := .inl (gx_iT (ck_5_224 _ lm1) rfl)
theorem ml_X10_262 : gx_ML "CrossroadsChooseModel" 262 mX10_at.1 := .inl (gx_iT (ck_5_224 _ lm5) rfl)
theorem ml_X10_271 : gx_ML "CrossroadsChooseModel" 271 mX10_goComer.1 := .inl (gx_iT (ck_5_224 _ lm9) rfl)
theorem ml_X10_252 : gx_ML "CrossroadsChooseModel" 252 mX10_takesNow.1 := .inl (gx_iT (ck_5_224 _ lm13) rfl)
theorem ml_L_57 : gx_ML "CrossroadsChooseLaw" 57 mX10_day.1 := .inl (gx_iT (ck_6_0 _ lm1) rfl)
theorem ml_L_61 : gx_ML "CrossroadsChooseLaw" 61 mX10_unlike.1 := .inl (gx_iT (ck_6_0 _ lm5) rfl)
theorem ml_L_65 : gx_ML "CrossroadsChooseLaw" 65 mX10_how.1 := .inl (gx_iT (ck_6_0 _ lm9) rfl)
theorem ml_L_69 : gx_ML "CrossroadsChooseLaw" 69 mX10_ahead.1 := .inl (gx_iT (ck_6_0 _ lm13) rfl)
theorem ml_X10_287 : gx_ML "CrossroadsChooseModel" 287 mX10_areComer.1 := .inl (gx_iT (ck_6_16 _ lm1) rfl)
theorem ml_X10_283 : gx_ML "CrossroadsChooseModel" 283 mX10_goAhead.1 := .inl (gx_iT (ck_6_16 _ lm5) rfl)
theorem ml_L_73 : gx_ML "CrossroadsChooseLaw" 73 mX10_again.1 := .inl (gx_iT (ck_6_16 _ lm9) rfl)
theorem ml_L_77 : gx_ML "CrossroadsChooseLaw" 77 mX10_green.1 := .inl (gx_iT (ck_6_16 _ lm13) rfl)
theorem ml_L_81 : gx_ML "CrossroadsChooseLaw" 81 mX10_second.1 := .inl (gx_iT (ck_6_32 _ lm1) rfl)
theorem ml_X10_293 : gx_ML "CrossroadsChooseModel" 293 mX10_findAsked.1 := .inl (gx_iT (ck_6_32 _ lm5) rfl)
theorem ml_L_85 : gx_ML "CrossroadsChooseLaw" 85 mX10_sit.1 := .inl (gx_iT (ck_6_32 _ lm9) rfl)
theorem ml_L_90 : gx_ML "CrossroadsChooseLaw" 90 mX10_power.1 := .inl (gx_iT (ck_6_32 _ lm13) rfl)
theorem ml_X10_298 : gx_ML "CrossroadsChooseModel" 298 mX10_winsBy.1 := .inl (gx_iT (ck_6_48 _ lm2) rfl)
theorem ml_X10_301 : gx_ML "CrossroadsChooseModel" 301 mX10_bitsOf.1 := .inl (gx_iT (ck_6_48 _ lm6) rfl)
theorem ml_X10_304 : gx_ML "CrossroadsChooseModel" 304 mX10_factorial.1 := .inl (gx_iT (ck_6_48 _ lm9) rfl)
theorem ml_X10_307 : gx_ML "CrossroadsChooseModel" 307 mX10_lowest.1 := .inl (gx_iT (ck_6_48 _ lm12) rfl)
theorem ml_L_94 : gx_ML "CrossroadsChooseLaw" 94 mX10_winning.1 := .inl (gx_iT (ck_6_48 _ lm15) rfl)
theorem ml_X10_311 : gx_ML "CrossroadsChooseModel" 311 mX10_isJust.1 := .inl (gx_iT (ck_6_64 _ lm3) rfl)
theorem ml_L_98 : gx_ML "CrossroadsChooseLaw" 98 mX10_more.1 := .inl (gx_iT (ck_6_64 _ lm7) rfl)
theorem ml_L_102 : gx_ML "CrossroadsChooseLaw" 102 mX10_whatever.1 := .inl (gx_iT (ck_6_64 _ lm11) rfl)
theorem ml_X10_314 : gx_ML "CrossroadsChooseModel" 314 mX10_hasAll.1 := .inl (gx_iT (ck_6_64 _ lm15) rfl)
theorem ml_L_106 : gx_ML "CrossroadsChooseLaw" 106 mX10_least.1 := .inl (gx_iT (ck_6_80 _ lm3) rfl)
theorem ml_L_110 : gx_ML "CrossroadsChooseLaw" 110 mX10_judge.1 := .inl (gx_iT (ck_6_80 _ lm7) rfl)
theorem ml_X10_317 : gx_ML "CrossroadsChooseModel" 317 mX10_wrongTwo.1 := .inl (gx_iT (ck_6_80 _ lm11) rfl)
theorem ml_L_114 : gx_ML "CrossroadsChooseLaw" 114 mX10_liking.1 := .inl (gx_iT (ck_6_80 _ lm15) rfl)
theorem ml_L_118 : gx_ML "CrossroadsChooseLaw" 118 mX10_waited.1 := .inl (gx_iT (ck_6_96 _ lm3) rfl)
theorem ml_L_122 : gx_ML "CrossroadsChooseLaw" 122 mX10_fair.1 := .inl (gx_iT (ck_6_96 _ lm7) rfl)
theorem ml_L_126 : gx_ML "CrossroadsChooseLaw" 126 mX10_drawn.1 := .inl (gx_iT (ck_6_96 _ lm11) rfl)
theorem ml_L_130 : gx_ML "CrossroadsChooseLaw" 130 mX10_comes.1 := .inl (gx_iT (ck_6_112 _ lm0) rfl)
theorem ml_X10_321 : gx_ML "CrossroadsChooseModel" 321 mX10_takesInDeed.1 := .inl (gx_iT (ck_6_112 _ lm4) rfl)
theorem ml_L_134 : gx_ML "CrossroadsChooseLaw" 134 mX10_send.1 := .inl (gx_iT (ck_6_112 _ lm8) rfl)
theorem ml_L_138 : gx_ML "CrossroadsChooseLaw" 138 mX10_led.1 := .inl (gx_iT (ck_6_112 _ lm12) rfl)
theorem ml_L_142 : gx_ML "CrossroadsChooseLaw" 142 mX10_image.1 := .inl (gx_iT (ck_6_128 _ lm0) rfl)
theorem ml_L_146 : gx_ML "CrossroadsChooseLaw" 146 mX10_back.1 := .inl (gx_iT (ck_6_128 _ lm4) rfl)
theorem ml_L_166 : gx_ML "CrossroadsChooseLaw" 166 mX10_trace.1 := .inl (gx_iT (ck_6_128 _ lm8) rfl)
theorem ml_L_158 : gx_ML "CrossroadsChooseLaw" 158 mX10_body.1 := .inl (gx_iT (ck_6_128 _ lm12) rfl)
theorem ml_L_162 : gx_ML "CrossroadsChooseLaw" 162 mX10_act.1 := .inl (gx_iT (ck_6_144 _ lm0) rfl)
theorem ml_X10_375 : gx_ML "CrossroadsChooseModel" 375 mX10_isBody.1 := .inl (gx_iT (ck_6_144 _ lm4) rfl)
theorem ml_X10_351 : gx_ML "CrossroadsChooseModel" 351 mX10_wanting.1 := .inl (gx_iT (ck_6_144 _ lm8) rfl)
theorem ml_X10_345 : gx_ML "CrossroadsChooseModel" 345 mX10_isUnder.1 := .inl (gx_iT (ck_6_144 _ lm12) rfl)
theorem ml_X10_339 : gx_ML "CrossroadsChooseModel" 339 mX10_ran.1 := .inl (gx_iT (ck_6_144 _ lm15) rfl)
theorem ml_X10_342 : gx_ML "CrossroadsChooseModel" 342 mX10_plainWants.1 := .inl (gx_iT (ck_6_160 _ lm3) rfl)
theorem ml_X10_348 : gx_ML "CrossroadsChooseModel" 348 mX10_elmWants.1 := .inl (gx_iT (ck_6_160 _ lm7) rfl)
theorem ml_X10_369 : gx_ML "CrossroadsChooseModel" 369 mX10_waiting.1 := .inl (gx_iT (ck_6_160 _ lm11) rfl)
theorem ml_X10_357 : gx_ML "CrossroadsChooseModel" 357 mX10_greenWaits.1 := .inl (gx_iT (ck_6_160 _ lm15) rfl)
theorem ml_X10_354 : gx_ML "CrossroadsChooseModel" 354 mX10_plainWaits.1 := .inl (gx_iT (ck_6_176 _ lm3) rfl)
theorem ml_X10_360 : gx_ML "CrossroadsChooseModel" 360 mX10_taking.1 := .inl (gx_iT (ck_6_176 _ lm7) rfl)
theorem ml_X10_366 : gx_ML "CrossroadsChooseModel" 366 mX10_bankTakes.1 := .inl (gx_iT (ck_6_176 _ lm11) rfl)
theorem ml_X10_363 : gx_ML "CrossroadsChooseModel" 363 mX10_plainTakes.1 := .inl (gx_iT (ck_6_176 _ lm15) rfl)
theorem ml_X10_378 : gx_ML "CrossroadsChooseModel" 378 mX10_telling.1 := .inl (gx_iT (ck_6_192 _ lm3) rfl)
theorem ml_X10_372 : gx_ML "CrossroadsChooseModel" 372 mX10_plainTells.1 := .inl (gx_iT (ck_6_192 _ lm7) rfl)
theorem ml_L_198 : gx_ML "CrossroadsChooseLaw" 198 mX10_count.1 := .inl (gx_iT (ck_6_192 _ lm11) rfl)
theorem ml_L_170 : gx_ML "CrossroadsChooseLaw" 170 mX10_keep.1 := .inl (gx_iT (ck_6_192 _ lm15) rfl)
theorem ml_L_174 : gx_ML "CrossroadsChooseLaw" 174 mX10_row.1 := .inl (gx_iT (ck_6_208 _ lm3) rfl)
theorem ml_L_181 : gx_ML "CrossroadsChooseLaw" 181 mX10_put.1 := .inl (gx_iT (ck_6_208 _ lm7) rfl)
theorem ml_X10_381 : gx_ML "CrossroadsChooseModel" 381 mX10_whyNoPlace.1 := .inl (gx_iT (ck_6_208 _ lm11) rfl)
theorem ml_L_185 : gx_ML "CrossroadsChooseLaw" 185 mX10_element.1 := .inl (gx_iT (ck_6_208 _ lm15) rfl)
theorem ml_L_190 : gx_ML "CrossroadsChooseLaw" 190 mX10_shift.1 := .inl (gx_iT (ck_6_224 _ lm3) rfl)
theorem ml_L_194 : gx_ML "CrossroadsChooseLaw" 194 mX10_taken.1 := .inl (gx_iT (ck_6_224 _ lm7) rfl)
theorem fl_X6_9 : gx_FL "CrossroadsChoose$Tape" 9 6 0 false := ⟨_, rfl, by decide, (by decide +kernel), .inl (gx_iT (ck_1_16 _ lm14) rfl)⟩
theorem fl_X6_13 : gx_FL "CrossroadsChoose$Tape" 13 6 1 true := ⟨_, rfl, by decide, (by decide +kernel), .inl (gx_iT (ck_1_16 _ lm15) rfl)⟩
theorem fl_X9_341 : gx_FL "CrossroadsChoose" 341 6 1 true := ⟨_, rfl, by decide, (by decide +kernel), .inr ⟨"CrossroadsChoose", (gx_iN (ck_1_32 _ lm0) rfl)⟩⟩
theorem fl_X6_26 : gx_FL "CrossroadsChoose$Tape" 26 6 2 true := ⟨_, rfl, by decide, (by decide +kernel), .inl (gx_iT (ck_1_32 _ lm1) rfl)⟩
theorem fl_X1_9 : gx_FL "CrossroadsChoose$Changes" 9 1 0 false := ⟨_, rfl, by decide, (by decide +kernel), .inl (gx_iT (ck_1_48 _ lm0) rfl)⟩
theorem fl_X1_13 : gx_FL "CrossroadsChoose$Changes" 13 1 1 false := ⟨_, rfl, by decide, (by decide +kernel), .inl (gx_iT (ck_1_48 _ lm1) rfl)⟩
theorem fl_X1_16 : gx_FL "CrossroadsChoose$Changes" 16 1 2 false := ⟨_, rfl, by decide, (by decide +kernel), .inl (gx_iT (ck_1_48 _ lm2) rfl)⟩
theorem fl_X1_19 : gx_FL "CrossroadsChoose$Changes" 19 1 3 false := ⟨_, rfl, by decide, (by decide +kernel), .inl (gx_iT (ck_1_48 _ lm3) rfl)⟩
theorem fl_X1_22 : gx_FL "CrossroadsChoose$Changes" 22 1 4 true := ⟨_, rfl, by decide, (by decide +kernel), .inl (gx_iT (ck_1_48 _ lm4) rfl)⟩
theorem fl_X9_281 : gx_FL "CrossroadsChoose" 281 1 4 true := ⟨_, rfl, by decide, (by decide +kernel), .inr ⟨"CrossroadsChoose", (gx_iN (ck_1_48 _ lm5) rfl)⟩⟩
theorem fl_X1_30 : gx_FL "CrossroadsChoose$Changes" 30 1 5 true := ⟨_, rfl, by decide, (by decide +kernel), .inl (gx_iT (ck_1_48 _ lm6) rfl)⟩
theorem fl_X9_287 : gx_FL "CrossroadsChoose" 287 1 5 true := ⟨_, rfl, by decide, (by decide +kernel), .inr ⟨"CrossroadsChoose", (gx_iN (ck_1_48 _ lm7) rfl)⟩⟩
theorem fl_X3_9 : gx_FL "CrossroadsChoose$Image" 9 3 0 false := ⟨_, rfl, by decide, (by decide +kernel), .inl (gx_iT (ck_1_64 _ lm11) rfl)⟩
theorem fl_X9_267 : gx_FL "CrossroadsChoose" 267 3 0 false := ⟨_, rfl, by decide, (by decide +kernel), .inr ⟨"CrossroadsChoose", (gx_iN (ck_1_64 _ lm12) rfl)⟩⟩
theorem fl_X3_15 : gx_FL "CrossroadsChoose$Image" 15 3 1 false := ⟨_, rfl, by decide, (by decide +kernel), .inl (gx_iT (ck_1_64 _ lm13) rfl)⟩
theorem fl_X9_270 : gx_FL "CrossroadsChoose" 270 3 1 false := ⟨_, rfl, by decide, (by decide +kernel), .inr ⟨"CrossroadsChoose", (gx_iN (ck_1_64 _ lm14) rfl)⟩⟩
theorem fl_X9_262 : gx_FL "CrossroadsChoose" 262 3 2 true := ⟨_, rfl, by decide, (by decide +kernel), .inr ⟨"CrossroadsChoose", (gx_iN (ck_1_64 _ lm15) rfl)⟩⟩
theorem fl_X9_266 : gx_FL "CrossroadsChoose" 266 3 3 true := ⟨_, rfl, by decide, (by decide +kernel), .inr ⟨"CrossroadsChoose", (gx_iN (ck_1_80 _ lm0) rfl)⟩⟩
theorem fl_X0_11 : gx_FL "CrossroadsChoose$Bodies" 11 0 0 false := ⟨_, rfl, by decide, (by decide +kernel), .inl (gx_iT (ck_1_96 _ lm0) rfl)⟩
theorem fl_X0_15 : gx_FL "CrossroadsChoose$Bodies" 15 0 1 false := ⟨_, rfl, by decide, (by decide +kernel), .inl (gx_iT (ck_1_96 _ lm1) rfl)⟩
theorem fl_X0_18 : gx_FL "CrossroadsChoose$Bodies" 18 0 2 true := ⟨_, rfl, by decide, (by decide +kernel), .inl (gx_iT (ck_1_96 _ lm2) rfl)⟩
theorem fl_X9_342 : gx_FL "CrossroadsChoose" 342 0 2 true := ⟨_, rfl, by decide, (by decide +kernel), .inr ⟨"CrossroadsChoose", (gx_iN (ck_1_96 _ lm3) rfl)⟩⟩
theorem fl_X0_30 : gx_FL "CrossroadsChoose$Bodies" 30 0 3 true := ⟨_, rfl, by decide, (by decide +kernel), .inl (gx_iT (ck_1_96 _ lm4) rfl)⟩
theorem fl_X9_345 : gx_FL "CrossroadsChoose" 345 0 3 true := ⟨_, rfl, by decide, (by decide +kernel), .inr ⟨"CrossroadsChoose", (gx_iN (ck_1_96 _ lm5) rfl)⟩⟩
theorem fl_X4_9 : gx_FL "CrossroadsChoose$Law" 9 4 0 false := ⟨_, rfl, by decide, (by decide +kernel), .inl (gx_iT (ck_1_112 _ lm9) rfl)⟩
theorem fl_X4_13 : gx_FL "CrossroadsChoose$Law" 13 4 1 false := ⟨_, rfl, by decide, (by decide +kernel), .inl (gx_iT (ck_1_112 _ lm10) rfl)⟩
theorem fl_X4_16 : gx_FL "CrossroadsChoose$Law" 16 4 2 false := ⟨_, rfl, by decide, (by decide +kernel), .inl (gx_iT (ck_1_112 _ lm11) rfl)⟩
theorem fl_X4_19 : gx_FL "CrossroadsChoose$Law" 19 4 3 false := ⟨_, rfl, by decide, (by decide +kernel), .inl (gx_iT (ck_1_112 _ lm12) rfl)⟩
theorem fl_X4_22 : gx_FL "CrossroadsChoose$Law" 22 4 4 true := ⟨_, rfl, by decide, (by decide +kernel), .inl (gx_iT (ck_1_112 _ lm13) rfl)⟩
theorem fl_X4_26 : gx_FL "CrossroadsChoose$Law" 26 4 5 true := ⟨_, rfl, by decide, (by decide +kernel), .inl (gx_iT (ck_1_112 _ lm14) rfl)⟩
theorem fl_X2_11 : gx_FL "CrossroadsChoose$Crossing" 11 2 0 false := ⟨_, rfl, by decide, (by decide +kernel), .inl (gx_iT (ck_1_144 _ lm2) rfl)⟩
theorem fl_X2_19 : gx_FL "CrossroadsChoose$Crossing" 19 2 1 true := ⟨_, rfl, by decide, (by decide +kernel), .inl (gx_iT (ck_1_144 _ lm3) rfl)⟩
theorem fl_X8_9 : gx_FL "CrossroadsChoose$Votes" 9 2 1 true := ⟨_, rfl, by decide, (by decide +kernel), .inr ⟨"CrossroadsChoose", (gx_iN (ck_1_144 _ lm4) rfl)⟩⟩
theorem fl_X7_54 : gx_FL "CrossroadsChoose$Thought" 54 2 1 true := ⟨_, rfl, by decide, (by decide +kernel), .inr ⟨"CrossroadsChoose", (gx_iN (ck_1_144 _ lm5) rfl)⟩⟩
theorem fl_X9_196 : gx_FL "CrossroadsChoose" 196 2 1 true := ⟨_, rfl, by decide, (by decide +kernel), .inr ⟨"CrossroadsChoose", (gx_iN (ck_1_144 _ lm6) rfl)⟩⟩
theorem fl_X2_15 : gx_FL "CrossroadsChoose$Crossing" 15 2 2 false := ⟨_, rfl, by decide, (by decide +kernel), .inl (gx_iT (ck_1_144 _ lm7) rfl)⟩
theorem fl_X9_132 : gx_FL "CrossroadsChoose" 132 2 2 false := ⟨_, rfl, by decide, (by decide +kernel), .inr ⟨"CrossroadsChoose", (gx_iN (ck_1_144 _ lm8) rfl)⟩⟩
theorem fl_X7_26 : gx_FL "CrossroadsChoose$Thought" 26 7 0 false := ⟨_, rfl, by decide, (by decide +kernel), .inl (gx_iT (ck_1_160 _ lm8) rfl)⟩
theorem fl_X9_165 : gx_FL "CrossroadsChoose" 165 7 0 false := ⟨_, rfl, by decide, (by decide +kernel), .inr ⟨"CrossroadsChoose", (gx_iN (ck_1_160 _ lm9) rfl)⟩⟩
theorem fl_X7_9 : gx_FL "CrossroadsChoose$Thought" 9 7 1 false := ⟨_, rfl, by decide, (by decide +kernel), .inl (gx_iT (ck_1_160 _ lm10) rfl)⟩
theorem fl_X9_168 : gx_FL "CrossroadsChoose" 168 7 1 false := ⟨_, rfl, by decide, (by decide +kernel), .inr ⟨"CrossroadsChoose", (gx_iN (ck_1_160 _ lm11) rfl)⟩⟩
theorem fl_X7_15 : gx_FL "CrossroadsChoose$Thought" 15 7 2 false := ⟨_, rfl, by decide, (by decide +kernel), .inl (gx_iT (ck_1_160 _ lm12) rfl)⟩
theorem fl_X9_171 : gx_FL "CrossroadsChoose" 171 7 2 false := ⟨_, rfl, by decide, (by decide +kernel), .inr ⟨"CrossroadsChoose", (gx_iN (ck_1_160 _ lm13) rfl)⟩⟩
theorem fl_X7_18 : gx_FL "CrossroadsChoose$Thought" 18 7 3 false := ⟨_, rfl, by decide, (by decide +kernel), .inl (gx_iT (ck_1_160 _ lm14) rfl)⟩
theorem fl_X9_174 : gx_FL "CrossroadsChoose" 174 7 3 false := ⟨_, rfl, by decide, (by decide +kernel), .inr ⟨"CrossroadsChoose", (gx_iN (ck_1_160 _ lm15) rfl)⟩⟩
theorem fl_X7_44 : gx_FL "CrossroadsChoose$Thought" 44 7 4 true := ⟨_, rfl, by decide, (by decide +kernel), .inl (gx_iT (ck_1_176 _ lm0) rfl)⟩
theorem fl_X7_48 : gx_FL "CrossroadsChoose$Thought" 48 7 5 true := ⟨_, rfl, by decide, (by decide +kernel), .inl (gx_iT (ck_1_176 _ lm1) rfl)⟩
theorem fl_X9_161 : gx_FL "CrossroadsChoose" 161 7 5 true := ⟨_, rfl, by decide, (by decide +kernel), .inr ⟨"CrossroadsChoose", (gx_iN (ck_1_176 _ lm2) rfl)⟩⟩
theorem fl_X7_51 : gx_FL "CrossroadsChoose$Thought" 51 7 6 true := ⟨_, rfl, by decide, (by decide +kernel), .inl (gx_iT (ck_1_176 _ lm3) rfl)⟩
theorem fl_X9_249 : gx_FL "CrossroadsChoose" 249 7 6 true := ⟨_, rfl, by decide, (by decide +kernel), .inr ⟨"CrossroadsChoose", (gx_iN (ck_1_176 _ lm4) rfl)⟩⟩
theorem fl_X5_9 : gx_FL "CrossroadsChoose$Shelf" 9 5 0 false := ⟨_, rfl, by decide, (by decide +kernel), .inl (gx_iT (ck_1_192 _ lm9) rfl)⟩
theorem fl_X9_325 : gx_FL "CrossroadsChoose" 325 5 0 false := ⟨_, rfl, by decide, (by decide +kernel), .inr ⟨"CrossroadsChoose", (gx_iN (ck_1_192 _ lm10) rfl)⟩⟩
theorem fl_X5_15 : gx_FL "CrossroadsChoose$Shelf" 15 5 1 true := ⟨_, rfl, by decide, (by decide +kernel), .inl (gx_iT (ck_1_192 _ lm11) rfl)⟩
theorem fl_X5_25 : gx_FL "CrossroadsChoose$Shelf" 25 5 2 true := ⟨_, rfl, by decide, (by decide +kernel), .inl (gx_iT (ck_1_192 _ lm12) rfl)⟩
theorem fl_X9_332 : gx_FL "CrossroadsChoose" 332 5 2 true := ⟨_, rfl, by decide, (by decide +kernel), .inr ⟨"CrossroadsChoose", (gx_iN (ck_1_192 _ lm13) rfl)⟩⟩
theorem fl_X5_19 : gx_FL "CrossroadsChoose$Shelf" 19 5 3 true := ⟨_, rfl, by decide, (by decide +kernel), .inl (gx_iT (ck_1_192 _ lm14) rfl)⟩
theorem fl_X9_348 : gx_FL "CrossroadsChoose" 348 5 3 true := ⟨_, rfl, by decide, (by decide +kernel), .inr ⟨"CrossroadsChoose", (gx_iN (ck_1_192 _ lm15) rfl)⟩⟩
theorem fl_X5_22 : gx_FL "CrossroadsChoose$Shelf" 22 5 4 true := ⟨_, rfl, by decide, (by decide +kernel), .inl (gx_iT (ck_1_208 _ lm0) rfl)⟩
theorem fl_X9_246 : gx_FL "CrossroadsChoose" 246 5 4 true := ⟨_, rfl, by decide, (by decide +kernel), .inr ⟨"CrossroadsChoose", (gx_iN (ck_1_208 _ lm1) rfl)⟩⟩
theorem fl_X9_67 : gx_FL "CrossroadsChoose" 67 9 0 false := ⟨_, rfl, by decide, (by decide +kernel), .inl (gx_iT (ck_1_208 _ lm14) rfl)⟩
theorem fl_X9_74 : gx_FL "CrossroadsChoose" 74 9 1 false := ⟨_, rfl, by decide, (by decide +kernel), .inl (gx_iT (ck_1_208 _ lm15) rfl)⟩
theorem fl_X9_10 : gx_FL "CrossroadsChoose" 10 9 2 false := ⟨_, rfl, by decide, (by decide +kernel), .inl (gx_iT (ck_1_224 _ lm0) rfl)⟩
theorem fl_X9_19 : gx_FL "CrossroadsChoose" 19 9 3 false := ⟨_, rfl, by decide, (by decide +kernel), .inl (gx_iT (ck_1_224 _ lm1) rfl)⟩
theorem fl_X9_26 : gx_FL "CrossroadsChoose" 26 9 4 false := ⟨_, rfl, by decide, (by decide +kernel), .inl (gx_iT (ck_1_224 _ lm2) rfl)⟩
theorem fl_X9_33 : gx_FL "CrossroadsChoose" 33 9 5 false := ⟨_, rfl, by decide, (by decide +kernel), .inl (gx_iT (ck_1_224 _ lm3) rfl)⟩
theorem fl_X9_39 : gx_FL "CrossroadsChoose" 39 9 6 false := ⟨_, rfl, by decide, (by decide +kernel), .inl (gx_iT (ck_1_224 _ lm4) rfl)⟩
theorem fl_X9_43 : gx_FL "CrossroadsChoose" 43 9 7 false := ⟨_, rfl, by decide, (by decide +kernel), .inl (gx_iT (ck_1_224 _ lm5) rfl)⟩
theorem fl_X9_47 : gx_FL "CrossroadsChoose" 47 9 8 false := ⟨_, rfl, by decide, (by decide +kernel), .inl (gx_iT (ck_1_224 _ lm6) rfl)⟩
theorem fl_X9_52 : gx_FL "CrossroadsChoose" 52 9 9 false := ⟨_, rfl, by decide, (by decide +kernel), .inl (gx_iT (ck_1_224 _ lm7) rfl)⟩
theorem fl_X9_58 : gx_FL "CrossroadsChoose" 58 9 10 false := ⟨_, rfl, by decide, (by decide +kernel), .inl (gx_iT (ck_1_224 _ lm8) rfl)⟩
theorem gs_X9_135 : Cond.fieldLink "CrossroadsChoose" 135 "CrossroadsChoose" "LOWEST" "[I" ∈ gx_T ∨ ∃ h, Cond.fieldLinkNest "CrossroadsChoose" 135 "CrossroadsChoose" "LOWEST" "[I" h ∈ gx_N := .inl (gx_iT (ck_2_16 _ lm7) rfl)
theorem gs_X9_138 : Cond.fieldLink "CrossroadsChoose" 138 "CrossroadsChoose" "HIGHEST" "[I" ∈ gx_T ∨ ∃ h, Cond.fieldLinkNest "CrossroadsChoose" 138 "CrossroadsChoose" "HIGHEST" "[I" h ∈ gx_N := .inl (gx_iT (ck_2_16 _ lm9) rfl)
theorem gs_X2_79 : Cond.fieldLink "CrossroadsChoose$Crossing" 79 "CrossroadsChoose" "HIGHEST" "[I" ∈ gx_T ∨ ∃ h, Cond.fieldLinkNest "CrossroadsChoose$Crossing" 79 "CrossroadsChoose" "HIGHEST" "[I" h ∈ gx_N := .inr ⟨"CrossroadsChoose", (gx_iN (ck_3_48 _ lm2) rfl)⟩
theorem gs_X8_25 : Cond.fieldLink "CrossroadsChoose$Votes" 25 "CrossroadsChoose$Votes" "ORDERS" "[I" ∈ gx_T ∨ ∃ h, Cond.fieldLinkNest "CrossroadsChoose$Votes" 25 "CrossroadsChoose$Votes" "ORDERS" "[I" h ∈ gx_N := .inl (gx_iT (ck_3_112 _ lm15) rfl)
theorem gs_X0_44 : Cond.fieldLink "CrossroadsChoose$Bodies" 44 "CrossroadsChoose$Bodies" "OWN" "[I" ∈ gx_T ∨ ∃ h, Cond.fieldLinkNest "CrossroadsChoose$Bodies" 44 "CrossroadsChoose$Bodies" "OWN" "[I" h ∈ gx_N := .inl (gx_iT (ck_4_32 _ lm3) rfl)
theorem gs_X0_33 : Cond.fieldLink "CrossroadsChoose$Bodies" 33 "CrossroadsChoose$Bodies" "ABOVE" "[I" ∈ gx_T ∨ ∃ h, Cond.fieldLinkNest "CrossroadsChoose$Bodies" 33 "CrossroadsChoose$Bodies" "ABOVE" "[I" h ∈ gx_N := .inl (gx_iT (ck_4_32 _ lm8) rfl)
theorem fl_X10_121 : gx_FL "CrossroadsChooseModel" 121 10 1 true := ⟨_, rfl, by decide, (by decide +kernel), .inl (gx_iT (ck_4_128 _ lm3) rfl)⟩
theorem fl_X10_9 : gx_FL "CrossroadsChooseModel" 9 10 2 false := ⟨_, rfl, by decide, (by decide +kernel), .inl (gx_iT (ck_4_128 _ lm4) rfl)⟩
theorem fl_X10_15 : gx_FL "CrossroadsChooseModel" 15 10 3 false := ⟨_, rfl, by decide, (by decide +kernel), .inl (gx_iT (ck_4_128 _ lm5) rfl)⟩
theorem fl_X10_18 : gx_FL "CrossroadsChooseModel" 18 10 4 false := ⟨_, rfl, by decide, (by decide +kernel), .inl (gx_iT (ck_4_128 _ lm6) rfl)⟩
theorem fl_X10_21 : gx_FL "CrossroadsChooseModel" 21 10 5 false := ⟨_, rfl, by decide, (by decide +kernel), .inl (gx_iT (ck_4_128 _ lm7) rfl)⟩
theorem fl_X10_24 : gx_FL "CrossroadsChooseModel" 24 10 6 false := ⟨_, rfl, by decide, (by decide +kernel), .inl (gx_iT (ck_4_128 _ lm8) rfl)⟩
theorem fl_X10_148 : gx_FL "CrossroadsChooseModel" 148 10 7 true := ⟨_, rfl, by decide, (by decide +kernel), .inl (gx_iT (ck_4_128 _ lm9) rfl)⟩
theorem fl_X10_145 : gx_FL "CrossroadsChooseModel" 145 10 8 true := ⟨_, rfl, by decide, (by decide +kernel), .inl (gx_iT (ck_4_128 _ lm10) rfl)⟩
theorem fl_X10_27 : gx_FL "CrossroadsChooseModel" 27 10 9 false := ⟨_, rfl, by decide, (by decide +kernel), .inl (gx_iT (ck_4_128 _ lm11) rfl)⟩
theorem fl_X10_30 : gx_FL "CrossroadsChooseModel" 30 10 10 false := ⟨_, rfl, by decide, (by decide +kernel), .inl (gx_iT (ck_4_128 _ lm12) rfl)⟩
theorem fl_X10_33 : gx_FL "CrossroadsChooseModel" 33 10 11 false := ⟨_, rfl, by decide, (by decide +kernel), .inl (gx_iT (ck_4_128 _ lm13) rfl)⟩
theorem fl_X10_36 : gx_FL "CrossroadsChooseModel" 36 10 12 false := ⟨_, rfl, by decide, (by decide +kernel), .inl (gx_iT (ck_4_128 _ lm14) rfl)⟩
theorem fl_X10_39 : gx_FL "CrossroadsChooseModel" 39 10 13 false := ⟨_, rfl, by decide, (by decide +kernel), .inl (gx_iT (ck_4_128 _ lm15) rfl)⟩
theorem fl_X10_166 : gx_FL "CrossroadsChooseModel" 166 10 14 true := ⟨_, rfl, by decide, (by decide +kernel), .inl (gx_iT (ck_4_144 _ lm0) rfl)⟩
theorem fl_X10_169 : gx_FL "CrossroadsChooseModel" 169 10 15 true := ⟨_, rfl, by decide, (by decide +kernel), .inl (gx_iT (ck_4_144 _ lm1) rfl)⟩
theorem fl_X10_172 : gx_FL "CrossroadsChooseModel" 172 10 16 true := ⟨_, rfl, by decide, (by decide +kernel), .inl (gx_iT (ck_4_144 _ lm2) rfl)⟩
theorem fl_X10_178 : gx_FL "CrossroadsChooseModel" 178 10 17 true := ⟨_, rfl, by decide, (by decide +kernel), .inl (gx_iT (ck_4_144 _ lm3) rfl)⟩
theorem fl_X10_175 : gx_FL "CrossroadsChooseModel" 175 10 18 true := ⟨_, rfl, by decide, (by decide +kernel), .inl (gx_iT (ck_4_144 _ lm4) rfl)⟩
theorem fl_X10_43 : gx_FL "CrossroadsChooseModel" 43 10 19 false := ⟨_, rfl, by decide, (by decide +kernel), .inl (gx_iT (ck_4_144 _ lm5) rfl)⟩
theorem fl_X10_46 : gx_FL "CrossroadsChooseModel" 46 10 20 false := ⟨_, rfl, by decide, (by decide +kernel), .inl (gx_iT (ck_4_144 _ lm6) rfl)⟩
theorem fl_X10_49 : gx_FL "CrossroadsChooseModel" 49 10 21 false := ⟨_, rfl, by decide, (by decide +kernel), .inl (gx_iT (ck_4_144 _ lm7) rfl)⟩
theorem fl_X10_52 : gx_FL "CrossroadsChooseModel" 52 10 22 false := ⟨_, rfl, by decide, (by decide +kernel), .inl (gx_iT (ck_4_144 _ lm8) rfl)⟩
theorem fl_X10_56 : gx_FL "CrossroadsChooseModel" 56 10 23 false := ⟨_, rfl, by decide, (by decide +kernel), .inl (gx_iT (ck_4_144 _ lm9) rfl)⟩
theorem fl_X10_59 : gx_FL "CrossroadsChooseModel" 59 10 24 false := ⟨_, rfl, by decide, (by decide +kernel), .inl (gx_iT (ck_4_144 _ lm10) rfl)⟩
theorem fl_X10_62 : gx_FL "CrossroadsChooseModel" 62 10 25 false := ⟨_, rfl, by decide, (by decide +kernel), .inl (gx_iT (ck_4_144 _ lm11) rfl)⟩
theorem fl_X10_233 : gx_FL "CrossroadsChooseModel" 233 10 26 true := ⟨_, rfl, by decide, (by decide +kernel), .inl (gx_iT (ck_4_144 _ lm12) rfl)⟩
theorem fl_X10_65 : gx_FL "CrossroadsChooseModel" 65 10 27 false := ⟨_, rfl, by decide, (by decide +kernel), .inl (gx_iT (ck_4_144 _ lm13) rfl)⟩
theorem fl_X10_68 : gx_FL "CrossroadsChooseModel" 68 10 28 false := ⟨_, rfl, by decide, (by decide +kernel), .inl (gx_iT (ck_4_144 _ lm14) rfl)⟩
theorem fl_X10_71 : gx_FL "CrossroadsChooseModel" 71 10 29 false := ⟨_, rfl, by decide, (by decide +kernel), .inl (gx_iT (ck_4_144 _ lm15) rfl)⟩
theorem fl_X10_74 : gx_FL "CrossroadsChooseModel" 74 10 30 false := ⟨_, rfl, by decide, (by decide +kernel), .inl (gx_iT (ck_4_160 _ lm0) rfl)⟩
theorem fl_X10_265 : gx_FL "CrossroadsChooseModel" 265 10 31 true := ⟨_, rfl, by decide, (by decide +kernel), .inl (gx_iT (ck_4_160 _ lm1) rfl)⟩
theorem fl_X10_77 : gx_FL "CrossroadsChooseModel" 77 10 32 false := ⟨_, rfl, by decide, (by decide +kernel), .inl (gx_iT (ck_4_160 _ lm2) rfl)⟩
theorem fl_X10_80 : gx_FL "CrossroadsChooseModel" 80 10 33 false := ⟨_, rfl, by decide, (by decide +kernel), .inl (gx_iT (ck_4_160 _ lm3) rfl)⟩
theorem fl_X10_83 : gx_FL "CrossroadsChooseModel" 83 10 34 false := ⟨_, rfl, by decide, (by decide +kernel), .inl (gx_iT (ck_4_160 _ lm4) rfl)⟩
theorem fl_X10_290 : gx_FL "CrossroadsChooseModel" 290 10 35 true := ⟨_, rfl, by decide, (by decide +kernel), .inl (gx_iT (ck_4_160 _ lm5) rfl)⟩
theorem fl_X10_86 : gx_FL "CrossroadsChooseModel" 86 10 36 false := ⟨_, rfl, by decide, (by decide +kernel), .inl (gx_iT (ck_4_160 _ lm6) rfl)⟩
theorem fl_X10_89 : gx_FL "CrossroadsChooseModel" 89 10 37 true := ⟨_, rfl, by decide, (by decide +kernel), .inl (gx_iT (ck_4_160 _ lm7) rfl)⟩
theorem fl_X10_324 : gx_FL "CrossroadsChooseModel" 324 10 38 true := ⟨_, rfl, by decide, (by decide +kernel), .inl (gx_iT (ck_4_160 _ lm8) rfl)⟩
theorem fl_X10_327 : gx_FL "CrossroadsChooseModel" 327 10 39 true := ⟨_, rfl, by decide, (by decide +kernel), .inl (gx_iT (ck_4_160 _ lm9) rfl)⟩
theorem fl_X10_330 : gx_FL "CrossroadsChooseModel" 330 10 40 true := ⟨_, rfl, by decide, (by decide +kernel), .inl (gx_iT (ck_4_160 _ lm10) rfl)⟩
theorem fl_X10_93 : gx_FL "CrossroadsChooseModel" 93 10 41 false := ⟨_, rfl, by decide, (by decide +kernel), .inl (gx_iT (ck_4_160 _ lm11) rfl)⟩
theorem fl_X10_96 : gx_FL "CrossroadsChooseModel" 96 10 42 false := ⟨_, rfl, by decide, (by decide +kernel), .inl (gx_iT (ck_4_160 _ lm12) rfl)⟩
theorem fl_X10_333 : gx_FL "CrossroadsChooseModel" 333 10 43 true := ⟨_, rfl, by decide, (by decide +kernel), .inl (gx_iT (ck_4_160 _ lm13) rfl)⟩
theorem fl_X10_99 : gx_FL "CrossroadsChooseModel" 99 10 44 false := ⟨_, rfl, by decide, (by decide +kernel), .inl (gx_iT (ck_4_160 _ lm14) rfl)⟩
theorem fl_X10_336 : gx_FL "CrossroadsChooseModel" 336 10 45 true := ⟨_, rfl, by decide, (by decide +kernel), .inl (gx_iT (ck_4_160 _ lm15) rfl)⟩
theorem fl_X10_102 : gx_FL "CrossroadsChooseModel" 102 10 46 false := ⟨_, rfl, by decide, (by decide +kernel), .inl (gx_iT (ck_4_176 _ lm0) rfl)⟩
theorem fl_X10_105 : gx_FL "CrossroadsChooseModel" 105 10 47 false := ⟨_, rfl, by decide, (by decide +kernel), .inl (gx_iT (ck_4_176 _ lm1) rfl)⟩
theorem fl_X10_108 : gx_FL "CrossroadsChooseModel" 108 10 48 false := ⟨_, rfl, by decide, (by decide +kernel), .inl (gx_iT (ck_4_176 _ lm2) rfl)⟩
theorem fl_X10_111 : gx_FL "CrossroadsChooseModel" 111 10 49 false := ⟨_, rfl, by decide, (by decide +kernel), .inl (gx_iT (ck_4_176 _ lm3) rfl)⟩
theorem fl_X10_115 : gx_FL "CrossroadsChooseModel" 115 10 50 false := ⟨_, rfl, by decide, (by decide +kernel), .inl (gx_iT (ck_4_176 _ lm4) rfl)⟩
theorem ft_0_0 : gx_FT 0 0 true (.array .int) := ⟨_, rfl, rfl, (by decide +kernel)⟩
theorem ft_0_1 : gx_FT 0 1 true (.array .int) := ⟨_, rfl, rfl, (by decide +kernel)⟩
theorem ft_0_2 : gx_FT 0 2 false .int := ⟨_, rfl, rfl, (by decide +kernel)⟩
theorem ft_0_3 : gx_FT 0 3 false .int := ⟨_, rfl, rfl, (by decide +kernel)⟩
theorem ft_1_0 : gx_FT 1 0 true (.array .int) := ⟨_, rfl, rfl, (by decide +kernel)⟩
theorem ft_1_1 : gx_FT 1 1 true (.array .int) := ⟨_, rfl, rfl, (by decide +kernel)⟩
theorem ft_1_2 : gx_FT 1 2 true (.array .int) := ⟨_, rfl, rfl, (by decide +kernel)⟩
theorem ft_1_3 : gx_FT 1 3 true (.array .int) := ⟨_, rfl, rfl, (by decide +kernel)⟩
theorem ft_1_4 : gx_FT 1 4 false .int := ⟨_, rfl, rfl, (by decide +kernel)⟩
theorem ft_1_5 : gx_FT 1 5 false .int := ⟨_, rfl, rfl, (by decide +kernel)⟩
theorem ft_2_0 : gx_FT 2 0 true (.array .int) := ⟨_, rfl, rfl, (by decide +kernel)⟩
theorem ft_2_1 : gx_FT 2 1 false .int := ⟨_, rfl, rfl, (by decide +kernel)⟩
theorem ft_2_2 : gx_FT 2 2 false (.object "CrossroadsChoose$Law") := ⟨_, rfl, rfl, (by decide +kernel)⟩
theorem ft_3_0 : gx_FT 3 0 true (.array .int) := ⟨_, rfl, rfl, (by decide +kernel)⟩
theorem ft_3_1 : gx_FT 3 1 true (.array .int) := ⟨_, rfl, rfl, (by decide +kernel)⟩
theorem ft_3_2 : gx_FT 3 2 false .boolean := ⟨_, rfl, rfl, (by decide +kernel)⟩
theorem ft_3_3 : gx_FT 3 3 false .int := ⟨_, rfl, rfl, (by decide +kernel)⟩
theorem ft_4_0 : gx_FT 4 0 true (.array .int) := ⟨_, rfl, rfl, (by decide +kernel)⟩
theorem ft_4_1 : gx_FT 4 1 true (.array .int) := ⟨_, rfl, rfl, (by decide +kernel)⟩
theorem ft_4_2 : gx_FT 4 2 true (.array .int) := ⟨_, rfl, rfl, (by decide +kernel)⟩
theorem ft_4_3 : gx_FT 4 3 true (.array .int) := ⟨_, rfl, rfl, (by decide +kernel)⟩
theorem ft_4_4 : gx_FT 4 4 false .int := ⟨_, rfl, rfl, (by decide +kernel)⟩
theorem ft_4_5 : gx_FT 4 5 false .int := ⟨_, rfl, rfl, (by decide +kernel)⟩
theorem ft_5_0 : gx_FT 5 0 true (.array .long) := ⟨_, rfl, rfl, (by decide +kernel)⟩
theorem ft_5_1 : gx_FT 5 1 false .int := ⟨_, rfl, rfl, (by decide +kernel)⟩
theorem ft_5_2 : gx_FT 5 2 false .int := ⟨_, rfl, rfl, (by decide +kernel)⟩
theorem ft_5_3 : gx_FT 5 3 false .int := ⟨_, rfl, rfl, (by decide +kernel)⟩
theorem ft_5_4 : gx_FT 5 4 false .int := ⟨_, rfl, rfl, (by decide +kernel)⟩
theorem ft_6_0 : gx_FT 6 0 true (.array .int) := ⟨_, rfl, rfl, (by decide +kernel)⟩
theorem ft_6_1 : gx_FT 6 1 false .int := ⟨_, rfl, rfl, (by decide +kernel)⟩
theorem ft_6_2 : gx_FT 6 2 false .int := ⟨_, rfl, rfl, (by decide +kernel)⟩
theorem ft_7_0 : gx_FT 7 0 true (.object "CrossroadsChoose$Crossing") := ⟨_, rfl, rfl, (by decide +kernel)⟩
theorem ft_7_1 : gx_FT 7 1 true (.array .int) := ⟨_, rfl, rfl, (by decide +kernel)⟩
theorem ft_7_2 : gx_FT 7 2 true (.array .int) := ⟨_, rfl, rfl, (by decide +kernel)⟩
theorem ft_7_3 : gx_FT 7 3 true (.array .int) := ⟨_, rfl, rfl, (by decide +kernel)⟩
theorem ft_7_4 : gx_FT 7 4 false .int := ⟨_, rfl, rfl, (by decide +kernel)⟩
theorem ft_7_5 : gx_FT 7 5 false .int := ⟨_, rfl, rfl, (by decide +kernel)⟩
theorem ft_7_6 : gx_FT 7 6 false .int := ⟨_, rfl, rfl, (by decide +kernel)⟩
theorem ft_9_0 : gx_FT 9 0 true (.object "CrossroadsChoose$Crossing") := ⟨_, rfl, rfl, (by decide +kernel)⟩
theorem ft_9_1 : gx_FT 9 1 true (.object "CrossroadsChoose$Thought") := ⟨_, rfl, rfl, (by decide +kernel)⟩
theorem ft_9_2 : gx_FT 9 2 true (.object "CrossroadsChoose$Tape") := ⟨_, rfl, rfl, (by decide +kernel)⟩
theorem ft_9_3 : gx_FT 9 3 true (.object "CrossroadsChoose$Changes") := ⟨_, rfl, rfl, (by decide +kernel)⟩
theorem ft_9_4 : gx_FT 9 4 true (.object "CrossroadsChoose$Image") := ⟨_, rfl, rfl, (by decide +kernel)⟩
theorem ft_9_5 : gx_FT 9 5 true (.object "CrossroadsChoose$Bodies") := ⟨_, rfl, rfl, (by decide +kernel)⟩
theorem ft_9_6 : gx_FT 9 6 true (.array (.object "CrossroadsChoose$Shelf")) := ⟨_, rfl, rfl, (by decide +kernel)⟩
theorem ft_9_7 : gx_FT 9 7 true (.array .int) := ⟨_, rfl, rfl, (by decide +kernel)⟩
theorem ft_9_8 : gx_FT 9 8 true (.array .int) := ⟨_, rfl, rfl, (by decide +kernel)⟩
theorem ft_9_9 : gx_FT 9 9 true (.array (.array .int)) := ⟨_, rfl, rfl, (by decide +kernel)⟩
theorem ft_9_10 : gx_FT 9 10 false (.object "CrossroadsChoose$Law") := ⟨_, rfl, rfl, (by decide +kernel)⟩
theorem ft_10_0 : gx_FT 10 0 false .int := ⟨_, rfl, rfl, (by decide +kernel)⟩
theorem ft_10_1 : gx_FT 10 1 false .int := ⟨_, rfl, rfl, (by decide +kernel)⟩
theorem ft_10_2 : gx_FT 10 2 true (.array .int) := ⟨_, rfl, rfl, (by decide +kernel)⟩
theorem ft_10_3 : gx_FT 10 3 true (.array .int) := ⟨_, rfl, rfl, (by decide +kernel)⟩
theorem ft_10_4 : gx_FT 10 4 true (.array .int) := ⟨_, rfl, rfl, (by decide +kernel)⟩
theorem ft_10_5 : gx_FT 10 5 true (.array .int) := ⟨_, rfl, rfl, (by decide +kernel)⟩
theorem ft_10_6 : gx_FT 10 6 true (.array .int) := ⟨_, rfl, rfl, (by decide +kernel)⟩
theorem ft_10_7 : gx_FT 10 7 false .int := ⟨_, rfl, rfl, (by decide +kernel)⟩
theorem ft_10_8 : gx_FT 10 8 false .int := ⟨_, rfl, rfl, (by decide +kernel)⟩
theorem ft_10_9 : gx_FT 10 9 true (.array .int) := ⟨_, rfl, rfl, (by decide +kernel)⟩
theorem ft_10_10 : gx_FT 10 10 true (.array .int) := ⟨_, rfl, rfl, (by decide +kernel)⟩
theorem ft_10_11 : gx_FT 10 11 true (.array .int) := ⟨_, rfl, rfl, (by decide +kernel)⟩
theorem ft_10_12 : gx_FT 10 12 true (.array .int) := ⟨_, rfl, rfl, (by decide +kernel)⟩
theorem ft_10_13 : gx_FT 10 13 true (.array .byte) := ⟨_, rfl, rfl, (by decide +kernel)⟩
theorem ft_10_14 : gx_FT 10 14 false .int := ⟨_, rfl, rfl, (by decide +kernel)⟩
theorem ft_10_15 : gx_FT 10 15 false .int := ⟨_, rfl, rfl, (by decide +kernel)⟩
theorem ft_10_16 : gx_FT 10 16 false .int := ⟨_, rfl, rfl, (by decide +kernel)⟩
theorem ft_10_17 : gx_FT 10 17 false .int := ⟨_, rfl, rfl, (by decide +kernel)⟩
theorem ft_10_18 : gx_FT 10 18 false .int := ⟨_, rfl, rfl, (by decide +kernel)⟩
theorem ft_10_19 : gx_FT 10 19 true (.array .byte) := ⟨_, rfl, rfl, (by decide +kernel)⟩
theorem ft_10_20 : gx_FT 10 20 true (.array .int) := ⟨_, rfl, rfl, (by decide +kernel)⟩
theorem ft_10_21 : gx_FT 10 21 true (.array .int) := ⟨_, rfl, rfl, (by decide +kernel)⟩
theorem ft_10_22 : gx_FT 10 22 true (.array .short) := ⟨_, rfl, rfl, (by decide +kernel)⟩
theorem ft_10_23 : gx_FT 10 23 true (.array .short) := ⟨_, rfl, rfl, (by decide +kernel)⟩
theorem ft_10_24 : gx_FT 10 24 true (.array .int) := ⟨_, rfl, rfl, (by decide +kernel)⟩
theorem ft_10_25 : gx_FT 10 25 true (.array .int) := ⟨_, rfl, rfl, (by decide +kernel)⟩
theorem ft_10_26 : gx_FT 10 26 false .boolean := ⟨_, rfl, rfl, (by decide +kernel)⟩
theorem ft_10_27 : gx_FT 10 27 true (.array .int) := ⟨_, rfl, rfl, (by decide +kernel)⟩
theorem ft_10_28 : gx_FT 10 28 true (.array .int) := ⟨_, rfl, rfl, (by decide +kernel)⟩
theorem ft_10_29 : gx_FT 10 29 true (.array .int) := ⟨_, rfl, rfl, (by decide +kernel)⟩
theorem ft_10_30 : gx_FT 10 30 true (.array .int) := ⟨_, rfl, rfl, (by decide +kernel)⟩
theorem ft_10_31 : gx_FT 10 31 false .int := ⟨_, rfl, rfl, (by decide +kernel)⟩
theorem ft_10_32 : gx_FT 10 32 true (.array .int) := ⟨_, rfl, rfl, (by decide +kernel)⟩
theorem ft_10_33 : gx_FT 10 33 true (.array .int) := ⟨_, rfl, rfl, (by decide +kernel)⟩
theorem ft_10_34 : gx_FT 10 34 true (.array .int) := ⟨_, rfl, rfl, (by decide +kernel)⟩
theorem ft_10_35 : gx_FT 10 35 false .int := ⟨_, rfl, rfl, (by decide +kernel)⟩
theorem ft_10_36 : gx_FT 10 36 true (.array .int) := ⟨_, rfl, rfl, (by decide +kernel)⟩
theorem ft_10_37 : gx_FT 10 37 false .int := ⟨_, rfl, rfl, (by decide +kernel)⟩
theorem ft_10_38 : gx_FT 10 38 false .boolean := ⟨_, rfl, rfl, (by decide +kernel)⟩
theorem ft_10_39 : gx_FT 10 39 false .int := ⟨_, rfl, rfl, (by decide +kernel)⟩
theorem ft_10_40 : gx_FT 10 40 false .int := ⟨_, rfl, rfl, (by decide +kernel)⟩
theorem ft_10_41 : gx_FT 10 41 true (.array .int) := ⟨_, rfl, rfl, (by decide +kernel)⟩
theorem ft_10_42 : gx_FT 10 42 true (.array .int) := ⟨_, rfl, rfl, (by decide +kernel)⟩
theorem ft_10_43 : gx_FT 10 43 false .int := ⟨_, rfl, rfl, (by decide +kernel)⟩
theorem ft_10_44 : gx_FT 10 44 true (.array .int) := ⟨_, rfl, rfl, (by decide +kernel)⟩
theorem ft_10_45 : gx_FT 10 45 false .int := ⟨_, rfl, rfl, (by decide +kernel)⟩
theorem ft_10_46 : gx_FT 10 46 true (.array .int) := ⟨_, rfl, rfl, (by decide +kernel)⟩
theorem ft_10_47 : gx_FT 10 47 true (.array .int) := ⟨_, rfl, rfl, (by decide +kernel)⟩
theorem ft_10_48 : gx_FT 10 48 true (.array .int) := ⟨_, rfl, rfl, (by decide +kernel)⟩
theorem ft_10_49 : gx_FT 10 49 true (.array .long) := ⟨_, rfl, rfl, (by decide +kernel)⟩
theorem ft_10_50 : gx_FT 10 50 true (.array .long) := ⟨_, rfl, rfl, (by decide +kernel)⟩
theorem kl_L_7 : Cond.classLink "CrossroadsChooseLaw" 7 "CrossroadsChoose" ∈ gx_T := (gx_iT (ck_1_16 _ lm0) rfl)
theorem kl_X9_7 : Cond.classLink "CrossroadsChoose" 7 "CrossroadsChoose$Tape" ∈ gx_T := (gx_iT (ck_1_16 _ lm8) rfl)
theorem kl_X9_16 : Cond.classLink "CrossroadsChoose" 16 "CrossroadsChoose$Changes" ∈ gx_T := (gx_iT (ck_1_32 _ lm10) rfl)
theorem kl_X9_23 : Cond.classLink "CrossroadsChoose" 23 "CrossroadsChoose$Image" ∈ gx_T := (gx_iT (ck_1_64 _ lm5) rfl)
theorem kl_X9_30 : Cond.classLink "CrossroadsChoose" 30 "CrossroadsChoose$Bodies" ∈ gx_T := (gx_iT (ck_1_80 _ lm10) rfl)
theorem kl_X9_37 : Cond.classLink "CrossroadsChoose" 37 "CrossroadsChoose$Shelf" ∈ gx_T := (gx_iT (ck_1_96 _ lm15) rfl)
theorem kl_X9_50 : Cond.classLink "CrossroadsChoose" 50 "[[I" ∈ gx_T := (gx_iT (ck_1_112 _ lm1) rfl)
theorem kl_X9_55 : Cond.classLink "CrossroadsChoose" 55 "CrossroadsChoose$Law" ∈ gx_T := (gx_iT (ck_1_112 _ lm3) rfl)
theorem kl_X9_62 : Cond.classLink "CrossroadsChoose" 62 "CrossroadsChoose$Crossing" ∈ gx_T := (gx_iT (ck_1_128 _ lm12) rfl)
theorem kl_X9_71 : Cond.classLink "CrossroadsChoose" 71 "CrossroadsChoose$Thought" ∈ gx_T := (gx_iT (ck_1_160 _ lm0) rfl)
theorem kl_X7_21 : Cond.classLink "CrossroadsChoose$Thought" 21 "CrossroadsChoose$Crossing" ∈ gx_T := (gx_iT (ck_1_160 _ lm6) rfl)
theorem kl_L_10 : Cond.classLink "CrossroadsChooseLaw" 10 "CrossroadsChooseModel" ∈ gx_T := (gx_iT (ck_4_112 _ lm13) rfl)
theorem kn_0 : Cond.instantiable "CrossroadsChoose$Bodies" 4 ∈ gx_T := (gx_iT (ck_1_80 _ lm11) rfl)
theorem ki_0 : Cond.initialized "CrossroadsChoose$Bodies" ∈ gx_T := (gx_iT (ck_1_0 _ lm5) rfl)
theorem kn_1 : Cond.instantiable "CrossroadsChoose$Changes" 6 ∈ gx_T := (gx_iT (ck_1_32 _ lm11) rfl)
theorem ki_1 : Cond.initialized "CrossroadsChoose$Changes" ∈ gx_T := (gx_iT (ck_1_0 _ lm3) rfl)
theorem kn_2 : Cond.instantiable "CrossroadsChoose$Crossing" 3 ∈ gx_T := (gx_iT (ck_1_128 _ lm13) rfl)
theorem ki_2 : Cond.initialized "CrossroadsChoose$Crossing" ∈ gx_T := (gx_iT (ck_1_0 _ lm7) rfl)
theorem kn_3 : Cond.instantiable "CrossroadsChoose$Image" 4 ∈ gx_T := (gx_iT (ck_1_64 _ lm6) rfl)
theorem ki_3 : Cond.initialized "CrossroadsChoose$Image" ∈ gx_T := (gx_iT (ck_1_0 _ lm4) rfl)
theorem kn_4 : Cond.instantiable "CrossroadsChoose$Law" 6 ∈ gx_T := (gx_iT (ck_1_112 _ lm4) rfl)
theorem ki_4 : Cond.initialized "CrossroadsChoose$Law" ∈ gx_T := (gx_iT (ck_1_0 _ lm6) rfl)
theorem kn_5 : Cond.instantiable "CrossroadsChoose$Shelf" 5 ∈ gx_T := (gx_iT (ck_1_192 _ lm4) rfl)
theorem ki_5 : Cond.initialized "CrossroadsChoose$Shelf" ∈ gx_T := (gx_iT (ck_1_0 _ lm9) rfl)
theorem kn_6 : Cond.instantiable "CrossroadsChoose$Tape" 3 ∈ gx_T := (gx_iT (ck_1_16 _ lm9) rfl)
theorem ki_6 : Cond.initialized "CrossroadsChoose$Tape" ∈ gx_T := (gx_iT (ck_1_0 _ lm2) rfl)
theorem kn_7 : Cond.instantiable "CrossroadsChoose$Thought" 7 ∈ gx_T := (gx_iT (ck_1_160 _ lm1) rfl)
theorem ki_7 : Cond.initialized "CrossroadsChoose$Thought" ∈ gx_T := (gx_iT (ck_1_0 _ lm8) rfl)
theorem kn_9 : Cond.instantiable "CrossroadsChoose" 11 ∈ gx_T := (gx_iT (ck_1_16 _ lm1) rfl)
theorem ki_9 : Cond.initialized "CrossroadsChoose" ∈ gx_T := (gx_iT (ck_1_0 _ lm1) rfl)
theorem kn_10 : Cond.instantiable "CrossroadsChooseModel" 51 ∈ gx_T := (gx_iT (ck_4_112 _ lm14) rfl)
theorem ki_10 : Cond.initialized "CrossroadsChooseModel" ∈ gx_T := (gx_iT (ck_1_0 _ lm10) rfl)
theorem ct_X2_35 : Cond.constant "CrossroadsChoose$Crossing" 35 (-2000000000) ∈ gx_T := (gx_iT (ck_2_80 _ lm5) rfl)
theorem ct_X9_116 : Cond.constant "CrossroadsChoose" 116 (-2000000000) ∈ gx_T := (gx_iT (ck_2_80 _ lm6) rfl)
theorem ct_J6_265 : Cond.constant "java/lang/Integer" 265 (1431655765) ∈ gx_T := (gx_iT (ck_3_128 _ lm8) rfl)
theorem ct_J6_266 : Cond.constant "java/lang/Integer" 266 (858993459) ∈ gx_T := (gx_iT (ck_3_128 _ lm9) rfl)
theorem ct_J6_267 : Cond.constant "java/lang/Integer" 267 (252645135) ∈ gx_T := (gx_iT (ck_3_128 _ lm10) rfl)
theorem ct_X9_255 : Cond.constant "CrossroadsChoose" 255 (1103515245) ∈ gx_T := (gx_iT (ck_3_192 _ lm7) rfl)
theorem ct_X10_165 : Cond.constant "CrossroadsChooseModel" 165 (-2000000000) ∈ gx_T := (gx_iT (ck_5_96 _ lm4) rfl)
theorem ct_X10_320 : Cond.constant "CrossroadsChooseModel" 320 (1103515245) ∈ gx_T := (gx_iT (ck_6_96 _ lm15) rfl)
theorem ct_X9_227 : Cond.constantLong "CrossroadsChoose" 227 (-9223372036854775808) ∈ gx_T := (gx_iT (ck_3_112 _ lm8) rfl)
theorem ct_X10_139 : Cond.constantLong "CrossroadsChooseModel" 139 (2) ∈ gx_T := (gx_iT (ck_5_64 _ lm0) rfl)
theorem ct_X10_296 : Cond.constantLong "CrossroadsChooseModel" 296 (-9223372036854775808) ∈ gx_T := (gx_iT (ck_6_48 _ lm1) rfl)
theorem ct_L_175 : Cond.constantLong "CrossroadsChooseLaw" 175 (4294967295) ∈ gx_T := (gx_iT (ck_6_224 _ lm11) rfl)
theorem ar_int : Cond.arrayClass .int ∈ gx_T := (gx_iT (ck_1_32 _ lm9) rfl)
theorem ar_byte : Cond.arrayClass .byte ∈ gx_T := (gx_iT (ck_5_32 _ lm12) rfl)
theorem ar_short : Cond.arrayClass .short ∈ gx_T := (gx_iT (ck_5_32 _ lm13) rfl)
theorem ar_long : Cond.arrayClass .long ∈ gx_T := (gx_iT (ck_1_208 _ lm13) rfl)
end
section
/-! typed ends, calls by the number of arguments and the kind of answer -/
def Qi (k : Int32 → gx_W → Prop) : Option Value → gx_W → Prop := fun r w => ∃ v, r = some (.int v) ∧ k v w
def Ql (k : Int64 → gx_W → Prop) : Option Value → gx_W → Prop := fun r w => ∃ v, r = some (.long v) ∧ k v w
def Qv (k : gx_W → Prop) : Option Value → gx_W → Prop := fun r w => r = none ∧ k w
def gx_rl : Option Nat → Value
  | some a => .ref a
  | none => .null
def Qq (k : Option Nat → gx_W → Prop) : Option Value → gx_W → Prop := fun r w => ∃ o, r = some (gx_rl o) ∧ k o w
theorem gx_C_mono {nc ns d : Nat} {M : gx_M} {as : List Value} {w : gx_W} {Q Q' : Option Value → gx_W → Prop} (h : ∀ r w, Q r w → Q' r w) (k : gx_C nc ns d M as w Q) : gx_C nc ns d M as w Q' := fun D l p e ha hc hk s m args below hf happ hP ht => by
  obtain ⟨n, o, h1, h2, h3, ⟨⟨r, w', q1, q2, q3⟩, q4⟩, hL⟩ := k D l p e ha hc hk s m args below hf happ hP ht
  exact ⟨n, o, h1, h2, h3, ⟨⟨r, w', q1, h r w' q2, q3⟩, q4⟩, hL⟩
theorem gx_C_of' {nc ns d : Nat} {M : gx_M} {as L : List Value} {w : gx_W} {Q : Option Value → gx_W → Prop} (hy : plainName M.1.cls = true) (hL : gx_in as M.2.2.1 = L) (hsz : (gx_lay0 as).length ≤ M.2.2.1) (h : gx_G nc ns d M Q 0 L [] w) : gx_C nc ns d M as w Q := gx_C_of hy hsz (hL ▸ h)
theorem gx_C_ofF {nc ns d : Nat} {M : gx_M} {as L : List Value} {w : gx_W} {Q : Option Value → gx_W → Prop} (hy : plainFor M.1 = true) (hL : gx_in as M.2.2.1 = L) (hsz : (gx_lay0 as).length ≤ M.2.2.1) (h : gx_G nc ns d M Q 0 L [] w) : gx_C nc ns d M as w Q := by
  subst hL
  intro D l
  refine va_MetF (cc := M.2.1) (maxL := M.2.2.1) (ret := M.2.2.2) hy rfl ?_
  intro p e s m args below meth c s₁ B hml hv
  obtain ⟨rfl, hE, hR, hP⟩ := hv
  have hts := atoms_spec (ws := gx_all M) B.pre
  have hown : s.vm.findClass M.1.cls = some m.cls := findClass_of_methodNamed B.named
  have hl := lv_entry (as.map (gx_c D)) (n := M.2.2.1) (by rw [gx_lay0_len]; exact hsz)
  rw [lg_entry_eq]
  generalize (lg_sl (as.map (gx_c D)) ++ List.replicate (M.2.2.1 - (lg_sl (as.map (gx_c D))).length) Slot.unset).toArray = ls at hl ⊢
  have hz : gx_z D ≤ s.heap.size := by rw [← hP.1]; exact Nat.le_add_right _ _
  have K := h D p l e { frames := d, cells := nc, slots := ns, locals := 100 * d } s m (as.map (gx_c D)).toArray below meth c s.heap [] 0 0 ls ⟨B.exec, B.bytes, B.returns, hml, hown, fun w hw => hts w (List.mem_cons_of_mem _ hw), B.notSynchronized, fun h => (name_of_methodNamed B.named B.method).1.trans h, hE, hR, hz⟩ ⟨Nat.le_refl _, Nat.le_refl _, by show 0 + nc ≤ nc; omega, by show 0 + ns ≤ ns; omega⟩ hP va_S.rf (gx_in_ls hl hsz)
  rw [Nat.zero_add, Nat.zero_add] at K
  exact K
theorem gx_dk {M : gx_M} {pc n : Nat} {i : Instr} (h : decode M.2.1 pc = .ok (i, n)) : gx_d M pc i n := h
section GXK
variable {nc ns mc ms d : Nat} {M M' : gx_M} {Q : Option Value → gx_W → Prop} {pc idx : Nat} {L st : List Value} {w : gx_W}
theorem g_cV0i {r ci k : Nat} (hd : gx_d M pc (.invokevirtual idx) 3) (hl : gx_ML M.1.cls idx M'.1) (hm : gx_MI M' 0) (hv : gx_MV M') (hs : w.1[r]? = some (ci, k)) (hc : ∃ q : vw_C, gx_cl[ci]? = some q ∧ q.1 = M'.1.cls) (hcat : (st.map fun v => v.category).sum ≤ 8) (hL0 : L.length = M.2.2.1) (h1 : 1 ≤ d) (kk : gx_C 0 0 (d - 1) M' [.ref r] w (Qi fun v w' => gx_G nc ns d M Q (pc + 3) L (.int v :: st) w')) : gx_G nc ns d M Q pc L (.ref r :: st) w :=
  g_callV (mc := 0) (ms := 0) (d' := d - 1) (as := []) hd hl hm hv hs hc rfl rfl hcat hL0 (by omega) (gx_C_mono (fun r w' h => by obtain ⟨v, e, h⟩ := h; subst e; exact h) kk)
theorem g_cV0v {r ci k : Nat} (hd : gx_d M pc (.invokevirtual idx) 3) (hl : gx_ML M.1.cls idx M'.1) (hm : gx_MI M' 0) (hv : gx_MV M') (hs : w.1[r]? = some (ci, k)) (hc : ∃ q : vw_C, gx_cl[ci]? = some q ∧ q.1 = M'.1.cls) (hcat : (st.map fun v => v.category).sum ≤ 8) (hL0 : L.length = M.2.2.1) (h1 : 1 ≤ d) (kk : gx_C 0 0 (d - 1) M' [.ref r] w (Qv fun w' => gx_G nc ns d M Q (pc + 3) L (st) w')) : gx_G nc ns d M Q pc L (.ref r :: st) w :=
  g_callV (mc := 0) (ms := 0) (d' := d - 1) (as := []) hd hl hm hv hs hc rfl rfl hcat hL0 (by omega) (gx_C_mono (fun r w' h => by obtain ⟨e, h⟩ := h; subst e; exact h) kk)
theorem g_cV0l {r ci k : Nat} (hd : gx_d M pc (.invokevirtual idx) 3) (hl : gx_ML M.1.cls idx M'.1) (hm : gx_MI M' 0) (hv : gx_MV M') (hs : w.1[r]? = some (ci, k)) (hc : ∃ q : vw_C, gx_cl[ci]? = some q ∧ q.1 = M'.1.cls) (hcat : (st.map fun v => v.category).sum ≤ 8) (hL0 : L.length = M.2.2.1) (h1 : 1 ≤ d) (kk : gx_C 0 0 (d - 1) M' [.ref r] w (Ql fun v w' => gx_G nc ns d M Q (pc + 3) L (.long v :: st) w')) : gx_G nc ns d M Q pc L (.ref r :: st) w :=
  g_callV (mc := 0) (ms := 0) (d' := d - 1) (as := []) hd hl hm hv hs hc rfl rfl hcat hL0 (by omega) (gx_C_mono (fun r w' h => by obtain ⟨v, e, h⟩ := h; subst e; exact h) kk)
theorem g_cV0q {r ci k : Nat} (hd : gx_d M pc (.invokevirtual idx) 3) (hl : gx_ML M.1.cls idx M'.1) (hm : gx_MI M' 0) (hv : gx_MV M') (hs : w.1[r]? = some (ci, k)) (hc : ∃ q : vw_C, gx_cl[ci]? = some q ∧ q.1 = M'.1.cls) (hcat : (st.map fun v => v.category).sum ≤ 8) (hL0 : L.length = M.2.2.1) (h1 : 1 ≤ d) (kk : gx_C 0 0 (d - 1) M' [.ref r] w (Qq fun o w' => gx_G nc ns d M Q (pc + 3) L (gx_rl o :: st) w')) : gx_G nc ns d M Q pc L (.ref r :: st) w :=
  g_callV (mc := 0) (ms := 0) (d' := d - 1) (as := []) hd hl hm hv hs hc rfl rfl hcat hL0 (by omega) (gx_C_mono (fun r w' h => by obtain ⟨v, e, h⟩ := h; subst e; exact h) kk)
theorem g_cV1i {r ci k : Nat} {a : Value} (hd : gx_d M pc (.invokevirtual idx) 3) (hl : gx_ML M.1.cls idx M'.1) (hm : gx_MI M' 1) (hv : gx_MV M') (hs : w.1[r]? = some (ci, k)) (hc : ∃ q : vw_C, gx_cl[ci]? = some q ∧ q.1 = M'.1.cls) (hcat : (st.map fun v => v.category).sum ≤ 8) (hL0 : L.length = M.2.2.1) (h1 : 1 ≤ d) (kk : gx_C 0 0 (d - 1) M' [.ref r, a] w (Qi fun v w' => gx_G nc ns d M Q (pc + 3) L (.int v :: st) w')) : gx_G nc ns d M Q pc L (a :: .ref r :: st) w :=
  g_callV (mc := 0) (ms := 0) (d' := d - 1) (as := [a]) hd hl hm hv hs hc rfl rfl hcat hL0 (by omega) (gx_C_mono (fun r w' h => by obtain ⟨v, e, h⟩ := h; subst e; exact h) kk)
theorem g_cV1v {r ci k : Nat} {a : Value} (hd : gx_d M pc (.invokevirtual idx) 3) (hl : gx_ML M.1.cls idx M'.1) (hm : gx_MI M' 1) (hv : gx_MV M') (hs : w.1[r]? = some (ci, k)) (hc : ∃ q : vw_C, gx_cl[ci]? = some q ∧ q.1 = M'.1.cls) (hcat : (st.map fun v => v.category).sum ≤ 8) (hL0 : L.length = M.2.2.1) (h1 : 1 ≤ d) (kk : gx_C 0 0 (d - 1) M' [.ref r, a] w (Qv fun w' => gx_G nc ns d M Q (pc + 3) L (st) w')) : gx_G nc ns d M Q pc L (a :: .ref r :: st) w :=
  g_callV (mc := 0) (ms := 0) (d' := d - 1) (as := [a]) hd hl hm hv hs hc rfl rfl hcat hL0 (by omega) (gx_C_mono (fun r w' h => by obtain ⟨e, h⟩ := h; subst e; exact h) kk)
theorem g_cV1l {r ci k : Nat} {a : Value} (hd : gx_d M pc (.invokevirtual idx) 3) (hl : gx_ML M.1.cls idx M'.1) (hm : gx_MI M' 1) (hv : gx_MV M') (hs : w.1[r]? = some (ci, k)) (hc : ∃ q : vw_C, gx_cl[ci]? = some q ∧ q.1 = M'.1.cls) (hcat : (st.map fun v => v.category).sum ≤ 8) (hL0 : L.length = M.2.2.1) (h1 : 1 ≤ d) (kk : gx_C 0 0 (d - 1) M' [.ref r, a] w (Ql fun v w' => gx_G nc ns d M Q (pc + 3) L (.long v :: st) w')) : gx_G nc ns d M Q pc L (a :: .ref r :: st) w :=
  g_callV (mc := 0) (ms := 0) (d' := d - 1) (as := [a]) hd hl hm hv hs hc rfl rfl hcat hL0 (by omega) (gx_C_mono (fun r w' h => by obtain ⟨v, e, h⟩ := h; subst e; exact h) kk)
theorem g_cV1q {r ci k : Nat} {a : Value} (hd : gx_d M pc (.invokevirtual idx) 3) (hl : gx_ML M.1.cls idx M'.1) (hm : gx_MI M' 1) (hv : gx_MV M') (hs : w.1[r]? = some (ci, k)) (hc : ∃ q : vw_C, gx_cl[ci]? = some q ∧ q.1 = M'.1.cls) (hcat : (st.map fun v => v.category).sum ≤ 8) (hL0 : L.length = M.2.2.1) (h1 : 1 ≤ d) (kk : gx_C 0 0 (d - 1) M' [.ref r, a] w (Qq fun o w' => gx_G nc ns d M Q (pc + 3) L (gx_rl o :: st) w')) : gx_G nc ns d M Q pc L (a :: .ref r :: st) w :=
  g_callV (mc := 0) (ms := 0) (d' := d - 1) (as := [a]) hd hl hm hv hs hc rfl rfl hcat hL0 (by omega) (gx_C_mono (fun r w' h => by obtain ⟨v, e, h⟩ := h; subst e; exact h) kk)
theorem g_cV2i {r ci k : Nat} {a b : Value} (hd : gx_d M pc (.invokevirtual idx) 3) (hl : gx_ML M.1.cls idx M'.1) (hm : gx_MI M' 2) (hv : gx_MV M') (hs : w.1[r]? = some (ci, k)) (hc : ∃ q : vw_C, gx_cl[ci]? = some q ∧ q.1 = M'.1.cls) (hcat : (st.map fun v => v.category).sum ≤ 8) (hL0 : L.length = M.2.2.1) (h1 : 1 ≤ d) (kk : gx_C 0 0 (d - 1) M' [.ref r, a, b] w (Qi fun v w' => gx_G nc ns d M Q (pc + 3) L (.int v :: st) w')) : gx_G nc ns d M Q pc L (b :: a :: .ref r :: st) w :=
  g_callV (mc := 0) (ms := 0) (d' := d - 1) (as := [a, b]) hd hl hm hv hs hc rfl rfl hcat hL0 (by omega) (gx_C_mono (fun r w' h => by obtain ⟨v, e, h⟩ := h; subst e; exact h) kk)
theorem g_cV2v {r ci k : Nat} {a b : Value} (hd : gx_d M pc (.invokevirtual idx) 3) (hl : gx_ML M.1.cls idx M'.1) (hm : gx_MI M' 2) (hv : gx_MV M') (hs : w.1[r]? = some (ci, k)) (hc : ∃ q : vw_C, gx_cl[ci]? = some q ∧ q.1 = M'.1.cls) (hcat : (st.map fun v => v.category).sum ≤ 8) (hL0 : L.length = M.2.2.1) (h1 : 1 ≤ d) (kk : gx_C 0 0 (d - 1) M' [.ref r, a, b] w (Qv fun w' => gx_G nc ns d M Q (pc + 3) L (st) w')) : gx_G nc ns d M Q pc L (b :: a :: .ref r :: st) w :=
  g_callV (mc := 0) (ms := 0) (d' := d - 1) (as := [a, b]) hd hl hm hv hs hc rfl rfl hcat hL0 (by omega) (gx_C_mono (fun r w' h => by obtain ⟨e, h⟩ := h; subst e; exact h) kk)
theorem g_cV2l {r ci k : Nat} {a b : Value} (hd : gx_d M pc (.invokevirtual idx) 3) (hl : gx_ML M.1.cls idx M'.1) (hm : gx_MI M' 2) (hv : gx_MV M') (hs : w.1[r]? = some (ci, k)) (hc : ∃ q : vw_C, gx_cl[ci]? = some q ∧ q.1 = M'.1.cls) (hcat : (st.map fun v => v.category).sum ≤ 8) (hL0 : L.length = M.2.2.1) (h1 : 1 ≤ d) (kk : gx_C 0 0 (d - 1) M' [.ref r, a, b] w (Ql fun v w' => gx_G nc ns d M Q (pc + 3) L (.long v :: st) w')) : gx_G nc ns d M Q pc L (b :: a :: .ref r :: st) w :=
  g_callV (mc := 0) (ms := 0) (d' := d - 1) (as := [a, b]) hd hl hm hv hs hc rfl rfl hcat hL0 (by omega) (gx_C_mono (fun r w' h => by obtain ⟨v, e, h⟩ := h; subst e; exact h) kk)
theorem g_cV2q {r ci k : Nat} {a b : Value} (hd : gx_d M pc (.invokevirtual idx) 3) (hl : gx_ML M.1.cls idx M'.1) (hm : gx_MI M' 2) (hv : gx_MV M') (hs : w.1[r]? = some (ci, k)) (hc : ∃ q : vw_C, gx_cl[ci]? = some q ∧ q.1 = M'.1.cls) (hcat : (st.map fun v => v.category).sum ≤ 8) (hL0 : L.length = M.2.2.1) (h1 : 1 ≤ d) (kk : gx_C 0 0 (d - 1) M' [.ref r, a, b] w (Qq fun o w' => gx_G nc ns d M Q (pc + 3) L (gx_rl o :: st) w')) : gx_G nc ns d M Q pc L (b :: a :: .ref r :: st) w :=
  g_callV (mc := 0) (ms := 0) (d' := d - 1) (as := [a, b]) hd hl hm hv hs hc rfl rfl hcat hL0 (by omega) (gx_C_mono (fun r w' h => by obtain ⟨v, e, h⟩ := h; subst e; exact h) kk)
theorem g_cV3i {r ci k : Nat} {a b c : Value} (hd : gx_d M pc (.invokevirtual idx) 3) (hl : gx_ML M.1.cls idx M'.1) (hm : gx_MI M' 3) (hv : gx_MV M') (hs : w.1[r]? = some (ci, k)) (hc : ∃ q : vw_C, gx_cl[ci]? = some q ∧ q.1 = M'.1.cls) (hcat : (st.map fun v => v.category).sum ≤ 8) (hL0 : L.length = M.2.2.1) (h1 : 1 ≤ d) (kk : gx_C 0 0 (d - 1) M' [.ref r, a, b, c] w (Qi fun v w' => gx_G nc ns d M Q (pc + 3) L (.int v :: st) w')) : gx_G nc ns d M Q pc L (c :: b :: a :: .ref r :: st) w :=
  g_callV (mc := 0) (ms := 0) (d' := d - 1) (as := [a, b, c]) hd hl hm hv hs hc rfl rfl hcat hL0 (by omega) (gx_C_mono (fun r w' h => by obtain ⟨v, e, h⟩ := h; subst e; exact h) kk)
theorem g_cV3v {r ci k : Nat} {a b c : Value} (hd : gx_d M pc (.invokevirtual idx) 3) (hl : gx_ML M.1.cls idx M'.1) (hm : gx_MI M' 3) (hv : gx_MV M') (hs : w.1[r]? = some (ci, k)) (hc : ∃ q : vw_C, gx_cl[ci]? = some q ∧ q.1 = M'.1.cls) (hcat : (st.map fun v => v.category).sum ≤ 8) (hL0 : L.length = M.2.2.1) (h1 : 1 ≤ d) (kk : gx_C 0 0 (d - 1) M' [.ref r, a, b, c] w (Qv fun w' => gx_G nc ns d M Q (pc + 3) L (st) w')) : gx_G nc ns d M Q pc L (c :: b :: a :: .ref r :: st) w :=
  g_callV (mc := 0) (ms := 0) (d' := d - 1) (as := [a, b, c]) hd hl hm hv hs hc rfl rfl hcat hL0 (by omega) (gx_C_mono (fun r w' h => by obtain ⟨e, h⟩ := h; subst e; exact h) kk)
theorem g_cV4i {r ci k : Nat} {a b c e : Value} (hd : gx_d M pc (.invokevirtual idx) 3) (hl : gx_ML M.1.cls idx M'.1) (hm : gx_MI M' 4) (hv : gx_MV M') (hs : w.1[r]? = some (ci, k)) (hc : ∃ q : vw_C, gx_cl[ci]? = some q ∧ q.1 = M'.1.cls) (hcat : (st.map fun v => v.category).sum ≤ 8) (hL0 : L.length = M.2.2.1) (h1 : 1 ≤ d) (kk : gx_C 0 0 (d - 1) M' [.ref r, a, b, c, e] w (Qi fun v w' => gx_G nc ns d M Q (pc + 3) L (.int v :: st) w')) : gx_G nc ns d M Q pc L (e :: c :: b :: a :: .ref r :: st) w :=
  g_callV (mc := 0) (ms := 0) (d' := d - 1) (as := [a, b, c, e]) hd hl hm hv hs hc rfl rfl hcat hL0 (by omega) (gx_C_mono (fun r w' h => by obtain ⟨v, e, h⟩ := h; subst e; exact h) kk)
theorem g_cV4v {r ci k : Nat} {a b c e : Value} (hd : gx_d M pc (.invokevirtual idx) 3) (hl : gx_ML M.1.cls idx M'.1) (hm : gx_MI M' 4) (hv : gx_MV M') (hs : w.1[r]? = some (ci, k)) (hc : ∃ q : vw_C, gx_cl[ci]? = some q ∧ q.1 = M'.1.cls) (hcat : (st.map fun v => v.category).sum ≤ 8) (hL0 : L.length = M.2.2.1) (h1 : 1 ≤ d) (kk : gx_C 0 0 (d - 1) M' [.ref r, a, b, c, e] w (Qv fun w' => gx_G nc ns d M Q (pc + 3) L (st) w')) : gx_G nc ns d M Q pc L (e :: c :: b :: a :: .ref r :: st) w :=
  g_callV (mc := 0) (ms := 0) (d' := d - 1) (as := [a, b, c, e]) hd hl hm hv hs hc rfl rfl hcat hL0 (by omega) (gx_C_mono (fun r w' h => by obtain ⟨e, h⟩ := h; subst e; exact h) kk)
theorem g_cV5i {r ci k : Nat} {a b c e f : Value} (hd : gx_d M pc (.invokevirtual idx) 3) (hl : gx_ML M.1.cls idx M'.1) (hm : gx_MI M' 5) (hv : gx_MV M') (hs : w.1[r]? = some (ci, k)) (hc : ∃ q : vw_C, gx_cl[ci]? = some q ∧ q.1 = M'.1.cls) (hcat : (st.map fun v => v.category).sum ≤ 8) (hL0 : L.length = M.2.2.1) (h1 : 1 ≤ d) (kk : gx_C 0 0 (d - 1) M' [.ref r, a, b, c, e, f] w (Qi fun v w' => gx_G nc ns d M Q (pc + 3) L (.int v :: st) w')) : gx_G nc ns d M Q pc L (f :: e :: c :: b :: a :: .ref r :: st) w :=
  g_callV (mc := 0) (ms := 0) (d' := d - 1) (as := [a, b, c, e, f]) hd hl hm hv hs hc rfl rfl hcat hL0 (by omega) (gx_C_mono (fun r w' h => by obtain ⟨v, e, h⟩ := h; subst e; exact h) kk)
theorem g_cV5v {r ci k : Nat} {a b c e f : Value} (hd : gx_d M pc (.invokevirtual idx) 3) (hl : gx_ML M.1.cls idx M'.1) (hm : gx_MI M' 5) (hv : gx_MV M') (hs : w.1[r]? = some (ci, k)) (hc : ∃ q : vw_C, gx_cl[ci]? = some q ∧ q.1 = M'.1.cls) (hcat : (st.map fun v => v.category).sum ≤ 8) (hL0 : L.length = M.2.2.1) (h1 : 1 ≤ d) (kk : gx_C 0 0 (d - 1) M' [.ref r, a, b, c, e, f] w (Qv fun w' => gx_G nc ns d M Q (pc + 3) L (st) w')) : gx_G nc ns d M Q pc L (f :: e :: c :: b :: a :: .ref r :: st) w :=
  g_callV (mc := 0) (ms := 0) (d' := d - 1) (as := [a, b, c, e, f]) hd hl hm hv hs hc rfl rfl hcat hL0 (by omega) (gx_C_mono (fun r w' h => by obtain ⟨e, h⟩ := h; subst e; exact h) kk)
theorem g_cV6i {r ci k : Nat} {a b c e f g : Value} (hd : gx_d M pc (.invokevirtual idx) 3) (hl : gx_ML M.1.cls idx M'.1) (hm : gx_MI M' 6) (hv : gx_MV M') (hs : w.1[r]? = some (ci, k)) (hc : ∃ q : vw_C, gx_cl[ci]? = some q ∧ q.1 = M'.1.cls) (hcat : (st.map fun v => v.category).sum ≤ 8) (hL0 : L.length = M.2.2.1) (h1 : 1 ≤ d) (kk : gx_C 0 0 (d - 1) M' [.ref r, a, b, c, e, f, g] w (Qi fun v w' => gx_G nc ns d M Q (pc + 3) L (.int v :: st) w')) : gx_G nc ns d M Q pc L (g :: f :: e :: c :: b :: a :: .ref r :: st) w :=
  g_callV (mc := 0) (ms := 0) (d' := d - 1) (as := [a, b, c, e, f, g]) hd hl hm hv hs hc rfl rfl hcat hL0 (by omega) (gx_C_mono (fun r w' h => by obtain ⟨v, e, h⟩ := h; subst e; exact h) kk)
theorem g_cV6v {r ci k : Nat} {a b c e f g : Value} (hd : gx_d M pc (.invokevirtual idx) 3) (hl : gx_ML M.1.cls idx M'.1) (hm : gx_MI M' 6) (hv : gx_MV M') (hs : w.1[r]? = some (ci, k)) (hc : ∃ q : vw_C, gx_cl[ci]? = some q ∧ q.1 = M'.1.cls) (hcat : (st.map fun v => v.category).sum ≤ 8) (hL0 : L.length = M.2.2.1) (h1 : 1 ≤ d) (kk : gx_C 0 0 (d - 1) M' [.ref r, a, b, c, e, f, g] w (Qv fun w' => gx_G nc ns d M Q (pc + 3) L (st) w')) : gx_G nc ns d M Q pc L (g :: f :: e :: c :: b :: a :: .ref r :: st) w :=
  g_callV (mc := 0) (ms := 0) (d' := d - 1) (as := [a, b, c, e, f, g]) hd hl hm hv hs hc rfl rfl hcat hL0 (by omega) (gx_C_mono (fun r w' h => by obtain ⟨e, h⟩ := h; subst e; exact h) kk)
theorem g_cS0i (hd : gx_d M pc (.invokestatic idx) 3) (hl : gx_ML M.1.cls idx M'.1) (hm : gx_MI M' 0) (hst : Cond.static M'.1 ∈ gx_T) (hcat : (st.map fun v => v.category).sum ≤ 8) (hL0 : L.length = M.2.2.1) (h1 : 1 ≤ d) (kk : gx_C 0 0 (d - 1) M' [] w (Qi fun v w' => gx_G nc ns d M Q (pc + 3) L (.int v :: st) w')) : gx_G nc ns d M Q pc L (st) w :=
  g_callS (mc := 0) (ms := 0) (d' := d - 1) (as := []) hd hl hm hst rfl rfl hcat hL0 (by omega) (gx_C_mono (fun r w' h => by obtain ⟨v, e, h⟩ := h; subst e; exact h) kk)
theorem g_cS0v (hd : gx_d M pc (.invokestatic idx) 3) (hl : gx_ML M.1.cls idx M'.1) (hm : gx_MI M' 0) (hst : Cond.static M'.1 ∈ gx_T) (hcat : (st.map fun v => v.category).sum ≤ 8) (hL0 : L.length = M.2.2.1) (h1 : 1 ≤ d) (kk : gx_C 0 0 (d - 1) M' [] w (Qv fun w' => gx_G nc ns d M Q (pc + 3) L (st) w')) : gx_G nc ns d M Q pc L (st) w :=
  g_callS (mc := 0) (ms := 0) (d' := d - 1) (as := []) hd hl hm hst rfl rfl hcat hL0 (by omega) (gx_C_mono (fun r w' h => by obtain ⟨e, h⟩ := h; subst e; exact h) kk)
theorem g_cS0l (hd : gx_d M pc (.invokestatic idx) 3) (hl : gx_ML M.1.cls idx M'.1) (hm : gx_MI M' 0) (hst : Cond.static M'.1 ∈ gx_T) (hcat : (st.map fun v => v.category).sum ≤ 8) (hL0 : L.length = M.2.2.1) (h1 : 1 ≤ d) (kk : gx_C 0 0 (d - 1) M' [] w (Ql fun v w' => gx_G nc ns d M Q (pc + 3) L (.long v :: st) w')) : gx_G nc ns d M Q pc L (st) w :=
  g_callS (mc := 0) (ms := 0) (d' := d - 1) (as := []) hd hl hm hst rfl rfl hcat hL0 (by omega) (gx_C_mono (fun r w' h => by obtain ⟨v, e, h⟩ := h; subst e; exact h) kk)
theorem g_cS0q (hd : gx_d M pc (.invokestatic idx) 3) (hl : gx_ML M.1.cls idx M'.1) (hm : gx_MI M' 0) (hst : Cond.static M'.1 ∈ gx_T) (hcat : (st.map fun v => v.category).sum ≤ 8) (hL0 : L.length = M.2.2.1) (h1 : 1 ≤ d) (kk : gx_C 0 0 (d - 1) M' [] w (Qq fun o w' => gx_G nc ns d M Q (pc + 3) L (gx_rl o :: st) w')) : gx_G nc ns d M Q pc L (st) w :=
  g_callS (mc := 0) (ms := 0) (d' := d - 1) (as := []) hd hl hm hst rfl rfl hcat hL0 (by omega) (gx_C_mono (fun r w' h => by obtain ⟨v, e, h⟩ := h; subst e; exact h) kk)
theorem g_cS1i {a : Value} (hd : gx_d M pc (.invokestatic idx) 3) (hl : gx_ML M.1.cls idx M'.1) (hm : gx_MI M' 1) (hst : Cond.static M'.1 ∈ gx_T) (hcat : (st.map fun v => v.category).sum ≤ 8) (hL0 : L.length = M.2.2.1) (h1 : 1 ≤ d) (kk : gx_C 0 0 (d - 1) M' [a] w (Qi fun v w' => gx_G nc ns d M Q (pc + 3) L (.int v :: st) w')) : gx_G nc ns d M Q pc L (a :: st) w :=
  g_callS (mc := 0) (ms := 0) (d' := d - 1) (as := [a]) hd hl hm hst rfl rfl hcat hL0 (by omega) (gx_C_mono (fun r w' h => by obtain ⟨v, e, h⟩ := h; subst e; exact h) kk)
theorem g_cS1v {a : Value} (hd : gx_d M pc (.invokestatic idx) 3) (hl : gx_ML M.1.cls idx M'.1) (hm : gx_MI M' 1) (hst : Cond.static M'.1 ∈ gx_T) (hcat : (st.map fun v => v.category).sum ≤ 8) (hL0 : L.length = M.2.2.1) (h1 : 1 ≤ d) (kk : gx_C 0 0 (d - 1) M' [a] w (Qv fun w' => gx_G nc ns d M Q (pc + 3) L (st) w')) : gx_G nc ns d M Q pc L (a :: st) w :=
  g_callS (mc := 0) (ms := 0) (d' := d - 1) (as := [a]) hd hl hm hst rfl rfl hcat hL0 (by omega) (gx_C_mono (fun r w' h => by obtain ⟨e, h⟩ := h; subst e; exact h) kk)
theorem g_cS1l {a : Value} (hd : gx_d M pc (.invokestatic idx) 3) (hl : gx_ML M.1.cls idx M'.1) (hm : gx_MI M' 1) (hst : Cond.static M'.1 ∈ gx_T) (hcat : (st.map fun v => v.category).sum ≤ 8) (hL0 : L.length = M.2.2.1) (h1 : 1 ≤ d) (kk : gx_C 0 0 (d - 1) M' [a] w (Ql fun v w' => gx_G nc ns d M Q (pc + 3) L (.long v :: st) w')) : gx_G nc ns d M Q pc L (a :: st) w :=
  g_callS (mc := 0) (ms := 0) (d' := d - 1) (as := [a]) hd hl hm hst rfl rfl hcat hL0 (by omega) (gx_C_mono (fun r w' h => by obtain ⟨v, e, h⟩ := h; subst e; exact h) kk)
theorem g_cS1q {a : Value} (hd : gx_d M pc (.invokestatic idx) 3) (hl : gx_ML M.1.cls idx M'.1) (hm : gx_MI M' 1) (hst : Cond.static M'.1 ∈ gx_T) (hcat : (st.map fun v => v.category).sum ≤ 8) (hL0 : L.length = M.2.2.1) (h1 : 1 ≤ d) (kk : gx_C 0 0 (d - 1) M' [a] w (Qq fun o w' => gx_G nc ns d M Q (pc + 3) L (gx_rl o :: st) w')) : gx_G nc ns d M Q pc L (a :: st) w :=
  g_callS (mc := 0) (ms := 0) (d' := d - 1) (as := [a]) hd hl hm hst rfl rfl hcat hL0 (by omega) (gx_C_mono (fun r w' h => by obtain ⟨v, e, h⟩ := h; subst e; exact h) kk)
theorem g_cS2i {a b : Value} (hd : gx_d M pc (.invokestatic idx) 3) (hl : gx_ML M.1.cls idx M'.1) (hm : gx_MI M' 2) (hst : Cond.static M'.1 ∈ gx_T) (hcat : (st.map fun v => v.category).sum ≤ 8) (hL0 : L.length = M.2.2.1) (h1 : 1 ≤ d) (kk : gx_C 0 0 (d - 1) M' [a, b] w (Qi fun v w' => gx_G nc ns d M Q (pc + 3) L (.int v :: st) w')) : gx_G nc ns d M Q pc L (b :: a :: st) w :=
  g_callS (mc := 0) (ms := 0) (d' := d - 1) (as := [a, b]) hd hl hm hst rfl rfl hcat hL0 (by omega) (gx_C_mono (fun r w' h => by obtain ⟨v, e, h⟩ := h; subst e; exact h) kk)
theorem g_cS2v {a b : Value} (hd : gx_d M pc (.invokestatic idx) 3) (hl : gx_ML M.1.cls idx M'.1) (hm : gx_MI M' 2) (hst : Cond.static M'.1 ∈ gx_T) (hcat : (st.map fun v => v.category).sum ≤ 8) (hL0 : L.length = M.2.2.1) (h1 : 1 ≤ d) (kk : gx_C 0 0 (d - 1) M' [a, b] w (Qv fun w' => gx_G nc ns d M Q (pc + 3) L (st) w')) : gx_G nc ns d M Q pc L (b :: a :: st) w :=
  g_callS (mc := 0) (ms := 0) (d' := d - 1) (as := [a, b]) hd hl hm hst rfl rfl hcat hL0 (by omega) (gx_C_mono (fun r w' h => by obtain ⟨e, h⟩ := h; subst e; exact h) kk)
theorem g_cS2l {a b : Value} (hd : gx_d M pc (.invokestatic idx) 3) (hl : gx_ML M.1.cls idx M'.1) (hm : gx_MI M' 2) (hst : Cond.static M'.1 ∈ gx_T) (hcat : (st.map fun v => v.category).sum ≤ 8) (hL0 : L.length = M.2.2.1) (h1 : 1 ≤ d) (kk : gx_C 0 0 (d - 1) M' [a, b] w (Ql fun v w' => gx_G nc ns d M Q (pc + 3) L (.long v :: st) w')) : gx_G nc ns d M Q pc L (b :: a :: st) w :=
  g_callS (mc := 0) (ms := 0) (d' := d - 1) (as := [a, b]) hd hl hm hst rfl rfl hcat hL0 (by omega) (gx_C_mono (fun r w' h => by obtain ⟨v, e, h⟩ := h; subst e; exact h) kk)
theorem g_cS2q {a b : Value} (hd : gx_d M pc (.invokestatic idx) 3) (hl : gx_ML M.1.cls idx M'.1) (hm : gx_MI M' 2) (hst : Cond.static M'.1 ∈ gx_T) (hcat : (st.map fun v => v.category).sum ≤ 8) (hL0 : L.length = M.2.2.1) (h1 : 1 ≤ d) (kk : gx_C 0 0 (d - 1) M' [a, b] w (Qq fun o w' => gx_G nc ns d M Q (pc + 3) L (gx_rl o :: st) w')) : gx_G nc ns d M Q pc L (b :: a :: st) w :=
  g_callS (mc := 0) (ms := 0) (d' := d - 1) (as := [a, b]) hd hl hm hst rfl rfl hcat hL0 (by omega) (gx_C_mono (fun r w' h => by obtain ⟨v, e, h⟩ := h; subst e; exact h) kk)
theorem g_cS3i {a b c : Value} (hd : gx_d M pc (.invokestatic idx) 3) (hl : gx_ML M.1.cls idx M'.1) (hm : gx_MI M' 3) (hst : Cond.static M'.1 ∈ gx_T) (hcat : (st.map fun v => v.category).sum ≤ 8) (hL0 : L.length = M.2.2.1) (h1 : 1 ≤ d) (kk : gx_C 0 0 (d - 1) M' [a, b, c] w (Qi fun v w' => gx_G nc ns d M Q (pc + 3) L (.int v :: st) w')) : gx_G nc ns d M Q pc L (c :: b :: a :: st) w :=
  g_callS (mc := 0) (ms := 0) (d' := d - 1) (as := [a, b, c]) hd hl hm hst rfl rfl hcat hL0 (by omega) (gx_C_mono (fun r w' h => by obtain ⟨v, e, h⟩ := h; subst e; exact h) kk)
theorem g_cS3v {a b c : Value} (hd : gx_d M pc (.invokestatic idx) 3) (hl : gx_ML M.1.cls idx M'.1) (hm : gx_MI M' 3) (hst : Cond.static M'.1 ∈ gx_T) (hcat : (st.map fun v => v.category).sum ≤ 8) (hL0 : L.length = M.2.2.1) (h1 : 1 ≤ d) (kk : gx_C 0 0 (d - 1) M' [a, b, c] w (Qv fun w' => gx_G nc ns d M Q (pc + 3) L (st) w')) : gx_G nc ns d M Q pc L (c :: b :: a :: st) w :=
  g_callS (mc := 0) (ms := 0) (d' := d - 1) (as := [a, b, c]) hd hl hm hst rfl rfl hcat hL0 (by omega) (gx_C_mono (fun r w' h => by obtain ⟨e, h⟩ := h; subst e; exact h) kk)
theorem g_cS4i {a b c e : Value} (hd : gx_d M pc (.invokestatic idx) 3) (hl : gx_ML M.1.cls idx M'.1) (hm : gx_MI M' 4) (hst : Cond.static M'.1 ∈ gx_T) (hcat : (st.map fun v => v.category).sum ≤ 8) (hL0 : L.length = M.2.2.1) (h1 : 1 ≤ d) (kk : gx_C 0 0 (d - 1) M' [a, b, c, e] w (Qi fun v w' => gx_G nc ns d M Q (pc + 3) L (.int v :: st) w')) : gx_G nc ns d M Q pc L (e :: c :: b :: a :: st) w :=
  g_callS (mc := 0) (ms := 0) (d' := d - 1) (as := [a, b, c, e]) hd hl hm hst rfl rfl hcat hL0 (by omega) (gx_C_mono (fun r w' h => by obtain ⟨v, e, h⟩ := h; subst e; exact h) kk)
theorem g_cS4v {a b c e : Value} (hd : gx_d M pc (.invokestatic idx) 3) (hl : gx_ML M.1.cls idx M'.1) (hm : gx_MI M' 4) (hst : Cond.static M'.1 ∈ gx_T) (hcat : (st.map fun v => v.category).sum ≤ 8) (hL0 : L.length = M.2.2.1) (h1 : 1 ≤ d) (kk : gx_C 0 0 (d - 1) M' [a, b, c, e] w (Qv fun w' => gx_G nc ns d M Q (pc + 3) L (st) w')) : gx_G nc ns d M Q pc L (e :: c :: b :: a :: st) w :=
  g_callS (mc := 0) (ms := 0) (d' := d - 1) (as := [a, b, c, e]) hd hl hm hst rfl rfl hcat hL0 (by omega) (gx_C_mono (fun r w' h => by obtain ⟨e, h⟩ := h; subst e; exact h) kk)
theorem g_cS5i {a b c e f : Value} (hd : gx_d M pc (.invokestatic idx) 3) (hl : gx_ML M.1.cls idx M'.1) (hm : gx_MI M' 5) (hst : Cond.static M'.1 ∈ gx_T) (hcat : (st.map fun v => v.category).sum ≤ 8) (hL0 : L.length = M.2.2.1) (h1 : 1 ≤ d) (kk : gx_C 0 0 (d - 1) M' [a, b, c, e, f] w (Qi fun v w' => gx_G nc ns d M Q (pc + 3) L (.int v :: st) w')) : gx_G nc ns d M Q pc L (f :: e :: c :: b :: a :: st) w :=
  g_callS (mc := 0) (ms := 0) (d' := d - 1) (as := [a, b, c, e, f]) hd hl hm hst rfl rfl hcat hL0 (by omega) (gx_C_mono (fun r w' h => by obtain ⟨v, e, h⟩ := h; subst e; exact h) kk)
theorem g_cS5v {a b c e f : Value} (hd : gx_d M pc (.invokestatic idx) 3) (hl : gx_ML M.1.cls idx M'.1) (hm : gx_MI M' 5) (hst : Cond.static M'.1 ∈ gx_T) (hcat : (st.map fun v => v.category).sum ≤ 8) (hL0 : L.length = M.2.2.1) (h1 : 1 ≤ d) (kk : gx_C 0 0 (d - 1) M' [a, b, c, e, f] w (Qv fun w' => gx_G nc ns d M Q (pc + 3) L (st) w')) : gx_G nc ns d M Q pc L (f :: e :: c :: b :: a :: st) w :=
  g_callS (mc := 0) (ms := 0) (d' := d - 1) (as := [a, b, c, e, f]) hd hl hm hst rfl rfl hcat hL0 (by omega) (gx_C_mono (fun r w' h => by obtain ⟨e, h⟩ := h; subst e; exact h) kk)
theorem g_cS6i {a b c e f g : Value} (hd : gx_d M pc (.invokestatic idx) 3) (hl : gx_ML M.1.cls idx M'.1) (hm : gx_MI M' 6) (hst : Cond.static M'.1 ∈ gx_T) (hcat : (st.map fun v => v.category).sum ≤ 8) (hL0 : L.length = M.2.2.1) (h1 : 1 ≤ d) (kk : gx_C 0 0 (d - 1) M' [a, b, c, e, f, g] w (Qi fun v w' => gx_G nc ns d M Q (pc + 3) L (.int v :: st) w')) : gx_G nc ns d M Q pc L (g :: f :: e :: c :: b :: a :: st) w :=
  g_callS (mc := 0) (ms := 0) (d' := d - 1) (as := [a, b, c, e, f, g]) hd hl hm hst rfl rfl hcat hL0 (by omega) (gx_C_mono (fun r w' h => by obtain ⟨v, e, h⟩ := h; subst e; exact h) kk)
theorem g_cS6v {a b c e f g : Value} (hd : gx_d M pc (.invokestatic idx) 3) (hl : gx_ML M.1.cls idx M'.1) (hm : gx_MI M' 6) (hst : Cond.static M'.1 ∈ gx_T) (hcat : (st.map fun v => v.category).sum ≤ 8) (hL0 : L.length = M.2.2.1) (h1 : 1 ≤ d) (kk : gx_C 0 0 (d - 1) M' [a, b, c, e, f, g] w (Qv fun w' => gx_G nc ns d M Q (pc + 3) L (st) w')) : gx_G nc ns d M Q pc L (g :: f :: e :: c :: b :: a :: st) w :=
  g_callS (mc := 0) (ms := 0) (d' := d - 1) (as := [a, b, c, e, f, g]) hd hl hm hst rfl rfl hcat hL0 (by omega) (gx_C_mono (fun r w' h => by obtain ⟨e, h⟩ := h; subst e; exact h) kk)
end GXK
end
section
/-! small numbers, worlds that agree but for some rows -/
theorem pI_bmod {x : Int} (h1 : -2147483648 ≤ x) (h2 : x < 2147483648) : x.bmod (2 ^ 32) = x := by
  unfold Int.bmod
  have e : ((2 ^ 32 : Nat) : Int) = 4294967296 := by decide
  rw [e]
  simp only []
  omega
theorem pI_add {a b : Int32} (h1 : -2147483648 ≤ a.toInt + b.toInt) (h2 : a.toInt + b.toInt < 2147483648) : (a + b).toInt = a.toInt + b.toInt := by
  rw [Int32.toInt_add]; exact pI_bmod h1 h2
theorem pI_sub {a b : Int32} (h1 : -2147483648 ≤ a.toInt - b.toInt) (h2 : a.toInt - b.toInt < 2147483648) : (a - b).toInt = a.toInt - b.toInt := by
  rw [Int32.toInt_sub]; exact pI_bmod h1 h2
theorem pI_mul {a b : Int32} (h1 : -2147483648 ≤ a.toInt * b.toInt) (h2 : a.toInt * b.toInt < 2147483648) : (a * b).toInt = a.toInt * b.toInt := by
  rw [Int32.toInt_mul]; exact pI_bmod h1 h2
theorem pI_neg {a : Int32} (h1 : -2147483648 < a.toInt) : (-a).toInt = -a.toInt := by
  rw [Int32.toInt_neg]
  have := Int32.toInt_lt a
  exact pI_bmod (by omega) (by omega)
theorem pI_lt {a b : Int32} : a < b ↔ a.toInt < b.toInt := Int32.lt_iff_toInt_lt
theorem pI_le {a b : Int32} : a ≤ b ↔ a.toInt ≤ b.toInt := Int32.le_iff_toInt_le
theorem pI_gt {a b : Int32} : a > b ↔ b.toInt < a.toInt := Int32.lt_iff_toInt_lt
theorem pI_ge {a b : Int32} : a ≥ b ↔ b.toInt ≤ a.toInt := Int32.le_iff_toInt_le
theorem pI_eq {a b : Int32} : a = b ↔ a.toInt = b.toInt := Int32.toInt_inj.symm
theorem pI_b (a : Int32) : -2147483648 ≤ a.toInt ∧ a.toInt < 2147483648 := by
  have h1 := Int32.le_toInt a
  have h2 := Int32.toInt_lt a
  omega
theorem pI_nat {i : Int32} (h : 0 ≤ i.toInt) : i = nI i.toInt.toNat := by
  rw [pI_eq, nI_toInt (by have := pI_b i; omega)]
  omega
theorem pI_ex {i : Int32} {n : Nat} (h0 : ¬ i < 0) (h1 : i.toInt < n) : ∃ m, m < n ∧ i = nI m := by
  have h : 0 ≤ i.toInt := by
    rw [pI_lt] at h0
    simpa using h0
  exact ⟨i.toInt.toNat, by omega, pI_nat h⟩
theorem pI_inj {a b : Nat} (ha : a < 2 ^ 31) (hb : b < 2 ^ 31) (h : nI a = nI b) : a = b := by
  have := congrArg Int32.toInt h
  rw [nI_toInt ha, nI_toInt hb] at this
  omega
/-- worlds that agree but for the rows R and the int fields F -/
def same (R : List Nat) (F : List (Nat × Nat)) (w w' : gx_W) : Prop := w'.1 = w.1 ∧ (∀ k j, (k, j) ∉ F → w_i w' k j = w_i w k j) ∧ w_r w' = w_r w ∧ (∀ k, k ∉ R → w_a w' k = w_a w k ∧ w_l w' k = w_l w k) ∧ w_q w' = w_q w
theorem same.rf {R : List Nat} {F : List (Nat × Nat)} {w : gx_W} : same R F w w := ⟨rfl, fun _ _ _ => rfl, rfl, fun _ _ => ⟨rfl, rfl⟩, rfl⟩
theorem same.tr {R : List Nat} {F : List (Nat × Nat)} {w w' w'' : gx_W} (h : same R F w w') (h' : same R F w' w'') : same R F w w'' :=
  ⟨h'.1.trans h.1, fun k j q => (h'.2.1 k j q).trans (h.2.1 k j q), h'.2.2.1.trans h.2.2.1, fun k q => ⟨(h'.2.2.2.1 k q).1.trans (h.2.2.2.1 k q).1, (h'.2.2.2.1 k q).2.trans (h.2.2.2.1 k q).2⟩, h'.2.2.2.2.trans h.2.2.2.2⟩
theorem same.wk {R R' : List Nat} {F F' : List (Nat × Nat)} {w w' : gx_W} (h : same R F w w') (hR : ∀ k, k ∈ R → k ∈ R') (hF : ∀ q, q ∈ F → q ∈ F') : same R' F' w w' :=
  ⟨h.1, fun k j q => h.2.1 k j (fun z => q (hF _ z)), h.2.2.1, fun k q => h.2.2.2.1 k (fun z => q (hR _ z)), h.2.2.2.2⟩
theorem same.si {R : List Nat} {F : List (Nat × Nat)} {w w' : gx_W} {k j : Nat} {v : Int32} (h : same R F w w') (hm : (k, j) ∈ F) : same R F w (s_i w' k j v) := by
  refine ⟨h.1, fun k' j' q => ?_, h.2.2.1, h.2.2.2.1, h.2.2.2.2⟩
  show va_up w'.2.1 k (va_up (w'.2.1 k) j v) k' j' = _
  by_cases e : k' = k
  · subst e
    have z : j' ≠ j := fun z => q (by rw [z]; exact hm)
    rw [va_up_at, va_up_row z]
    exact h.2.1 k' j' q
  · rw [va_up_row e]
    exact h.2.1 k' j' q
theorem same.sa {R : List Nat} {F : List (Nat × Nat)} {w w' : gx_W} {k : Nat} {f : Nat → Int32} (h : same R F w w') (hm : k ∈ R) : same R F w (s_a w' k f) := by
  refine ⟨h.1, h.2.1, h.2.2.1, fun k' q => ⟨?_, (h.2.2.2.1 k' q).2⟩, h.2.2.2.2⟩
  have z : k' ≠ k := fun z => q (by rw [z]; exact hm)
  show va_up w'.2.2.2.1 k f k' = _
  rw [va_up_row z]
  exact (h.2.2.2.1 k' q).1
theorem same.sl {R : List Nat} {F : List (Nat × Nat)} {w w' : gx_W} {k : Nat} {f : Nat → Int64} (h : same R F w w') (hm : k ∈ R) : same R F w (s_l w' k f) := by
  refine ⟨h.1, h.2.1, h.2.2.1, fun k' q => ⟨(h.2.2.2.1 k' q).1, ?_⟩, h.2.2.2.2⟩
  have z : k' ≠ k := fun z => q (by rw [z]; exact hm)
  show va_up w'.2.2.2.2.1 k f k' = _
  rw [va_up_row z]
  exact (h.2.2.2.1 k' q).2
/-! what a store leaves -/
theorem wi_si {w : gx_W} {k j : Nat} {v : Int32} (k' j' : Nat) : w_i (s_i w k j v) k' j' = if k' = k ∧ j' = j then v else w_i w k' j' := by
  show va_up w.2.1 k (va_up (w.2.1 k) j v) k' j' = _
  by_cases e : k' = k
  · subst e
    rw [va_up_at]
    by_cases e2 : j' = j
    · subst e2; rw [va_up_at, if_pos ⟨rfl, rfl⟩]
    · rw [va_up_row e2, if_neg (fun z => e2 z.2)]; rfl
  · rw [va_up_row e, if_neg (fun z => e z.1)]; rfl
theorem wa_sa {w : gx_W} {k : Nat} {f : Nat → Int32} (k' : Nat) : w_a (s_a w k f) k' = if k' = k then f else w_a w k' := rfl
theorem wl_sl {w : gx_W} {k : Nat} {f : Nat → Int64} (k' : Nat) : w_l (s_l w k f) k' = if k' = k then f else w_l w k' := rfl
theorem wi_sa {w : gx_W} {k : Nat} {f : Nat → Int32} : w_i (s_a w k f) = w_i w := rfl
theorem wi_sl {w : gx_W} {k : Nat} {f : Nat → Int64} : w_i (s_l w k f) = w_i w := rfl
theorem wr_si {w : gx_W} {k j : Nat} {v : Int32} : w_r (s_i w k j v) = w_r w := rfl
theorem wr_sa {w : gx_W} {k : Nat} {f : Nat → Int32} : w_r (s_a w k f) = w_r w := rfl
theorem wr_sl {w : gx_W} {k : Nat} {f : Nat → Int64} : w_r (s_l w k f) = w_r w := rfl
theorem wa_si {w : gx_W} {k j : Nat} {v : Int32} : w_a (s_i w k j v) = w_a w := rfl
theorem wa_sl {w : gx_W} {k : Nat} {f : Nat → Int64} : w_a (s_l w k f) = w_a w := rfl
theorem wl_si {w : gx_W} {k j : Nat} {v : Int32} : w_l (s_i w k j v) = w_l w := rfl
theorem wl_sa {w : gx_W} {k : Nat} {f : Nat → Int32} : w_l (s_a w k f) = w_l w := rfl
theorem wq_si {w : gx_W} {k j : Nat} {v : Int32} : w_q (s_i w k j v) = w_q w := rfl
theorem wq_sa {w : gx_W} {k : Nat} {f : Nat → Int32} : w_q (s_a w k f) = w_q w := rfl
theorem wq_sl {w : gx_W} {k : Nat} {f : Nat → Int64} : w_q (s_l w k f) = w_q w := rfl
theorem ws_si {w : gx_W} {k j : Nat} {v : Int32} : (s_i w k j v).1 = w.1 := rfl
theorem ws_sa {w : gx_W} {k : Nat} {f : Nat → Int32} : (s_a w k f).1 = w.1 := rfl
theorem ws_sl {w : gx_W} {k : Nat} {f : Nat → Int64} : (s_l w k f).1 = w.1 := rfl
theorem up_at {α : Type} {f : Nat → α} {k : Nat} {v : α} (j : Nat) : va_up f k v j = if j = k then v else f j := rfl
theorem nI_n {n : Nat} (h : n < 2 ^ 31) : (nI n).toNatClampNeg = n := nI_clamp h
/-- an int that is told by its value -/
theorem pI_lit {i : Int32} {n : Nat} (h : i.toInt = n) : i = nI n := by
  rw [pI_eq, h]
  have := pI_b i
  rw [nI_toInt (by omega)]
/-- the law of rows of the given arrays -/
def isT (w : gx_W) : Prop := ∀ k, 1 ≤ k → k < 6 → w.1[k]? = some (30, (gx_tab k).length) ∧ w_a w k = fun j => (gx_tab k).getD j 0
theorem isT.same {R : List Nat} {F : List (Nat × Nat)} {w w' : gx_W} (h : isT w) (hs : same R F w w') (hR : ∀ k, k ∈ R → 6 ≤ k) : isT w' := fun k h1 h2 => by
  have h3 := h k h1 h2
  exact ⟨by rw [hs.1]; exact h3.1, by rw [(hs.2.2.2.1 k (fun z => by have := hR k z; omega)).1]; exact h3.2⟩
end
section
/-! Shelf, and the JDK methods that are reached -/
theorem dX5_init_0 : gx_d mX5_init 0 (.aload_n 0) 1 := gx_dk (by decide +kernel)
theorem dX5_init_1 : gx_d mX5_init 1 (.invokespecial 3) 3 := gx_dk (by decide +kernel)
theorem dX5_init_4 : gx_d mX5_init 4 (.aload_n 0) 1 := gx_dk (by decide +kernel)
theorem dX5_init_5 : gx_d mX5_init 5 (.bipush 60) 2 := gx_dk (by decide +kernel)
theorem dX5_init_7 : gx_d mX5_init 7 (.newarray .long) 2 := gx_dk (by decide +kernel)
theorem dX5_init_9 : gx_d mX5_init 9 (.putfield 9) 3 := gx_dk (by decide +kernel)
theorem dX5_init_12 : gx_d mX5_init 12 (.return_) 1 := gx_dk (by decide +kernel)
theorem dX5_holdsNothing_0 : gx_d mX5_holdsNothing 0 (.aload_n 0) 1 := gx_dk (by decide +kernel)
theorem dX5_holdsNothing_1 : gx_d mX5_holdsNothing 1 (.getfield 15) 3 := gx_dk (by decide +kernel)
theorem dX5_holdsNothing_4 : gx_d mX5_holdsNothing 4 (.ifCond .ne 7) 3 := gx_dk (by decide +kernel)
theorem dX5_holdsNothing_7 : gx_d mX5_holdsNothing 7 (.iconst 1) 1 := gx_dk (by decide +kernel)
theorem dX5_holdsNothing_8 : gx_d mX5_holdsNothing 8 (.goto 4) 3 := gx_dk (by decide +kernel)
theorem dX5_holdsNothing_11 : gx_d mX5_holdsNothing 11 (.iconst 0) 1 := gx_dk (by decide +kernel)
theorem dX5_holdsNothing_12 : gx_d mX5_holdsNothing 12 (.ireturn) 1 := gx_dk (by decide +kernel)
theorem dX5_holdsRow_0 : gx_d mX5_holdsRow 0 (.aload_n 0) 1 := gx_dk (by decide +kernel)
theorem dX5_holdsRow_1 : gx_d mX5_holdsRow 1 (.getfield 15) 3 := gx_dk (by decide +kernel)
theorem dX5_holdsRow_4 : gx_d mX5_holdsRow 4 (.iconst 2) 1 := gx_dk (by decide +kernel)
theorem dX5_holdsRow_5 : gx_d mX5_holdsRow 5 (.if_icmp .ne 7) 3 := gx_dk (by decide +kernel)
theorem dX5_holdsRow_8 : gx_d mX5_holdsRow 8 (.iconst 1) 1 := gx_dk (by decide +kernel)
theorem dX5_holdsRow_9 : gx_d mX5_holdsRow 9 (.goto 4) 3 := gx_dk (by decide +kernel)
theorem dX5_holdsRow_12 : gx_d mX5_holdsRow 12 (.iconst 0) 1 := gx_dk (by decide +kernel)
theorem dX5_holdsRow_13 : gx_d mX5_holdsRow 13 (.ireturn) 1 := gx_dk (by decide +kernel)
theorem dX5_holdsBytes_0 : gx_d mX5_holdsBytes 0 (.aload_n 0) 1 := gx_dk (by decide +kernel)
theorem dX5_holdsBytes_1 : gx_d mX5_holdsBytes 1 (.getfield 15) 3 := gx_dk (by decide +kernel)
theorem dX5_holdsBytes_4 : gx_d mX5_holdsBytes 4 (.iconst 2) 1 := gx_dk (by decide +kernel)
theorem dX5_holdsBytes_5 : gx_d mX5_holdsBytes 5 (.if_icmp .ne 14) 3 := gx_dk (by decide +kernel)
theorem dX5_holdsBytes_8 : gx_d mX5_holdsBytes 8 (.aload_n 0) 1 := gx_dk (by decide +kernel)
theorem dX5_holdsBytes_9 : gx_d mX5_holdsBytes 9 (.getfield 19) 3 := gx_dk (by decide +kernel)
theorem dX5_holdsBytes_12 : gx_d mX5_holdsBytes 12 (.ifCond .ne 7) 3 := gx_dk (by decide +kernel)
theorem dX5_holdsBytes_15 : gx_d mX5_holdsBytes 15 (.iconst 1) 1 := gx_dk (by decide +kernel)
theorem dX5_holdsBytes_16 : gx_d mX5_holdsBytes 16 (.goto 4) 3 := gx_dk (by decide +kernel)
theorem dX5_holdsBytes_19 : gx_d mX5_holdsBytes 19 (.iconst 0) 1 := gx_dk (by decide +kernel)
theorem dX5_holdsBytes_20 : gx_d mX5_holdsBytes 20 (.ireturn) 1 := gx_dk (by decide +kernel)
theorem dX5_holdNothing_0 : gx_d mX5_holdNothing 0 (.aload_n 0) 1 := gx_dk (by decide +kernel)
theorem dX5_holdNothing_1 : gx_d mX5_holdNothing 1 (.iconst 0) 1 := gx_dk (by decide +kernel)
theorem dX5_holdNothing_2 : gx_d mX5_holdNothing 2 (.putfield 15) 3 := gx_dk (by decide +kernel)
theorem dX5_holdNothing_5 : gx_d mX5_holdNothing 5 (.aload_n 0) 1 := gx_dk (by decide +kernel)
theorem dX5_holdNothing_6 : gx_d mX5_holdNothing 6 (.iconst 0) 1 := gx_dk (by decide +kernel)
theorem dX5_holdNothing_7 : gx_d mX5_holdNothing 7 (.putfield 22) 3 := gx_dk (by decide +kernel)
theorem dX5_holdNothing_10 : gx_d mX5_holdNothing 10 (.return_) 1 := gx_dk (by decide +kernel)
theorem dX5_holdBody_0 : gx_d mX5_holdBody 0 (.aload_n 0) 1 := gx_dk (by decide +kernel)
theorem dX5_holdBody_1 : gx_d mX5_holdBody 1 (.iconst 1) 1 := gx_dk (by decide +kernel)
theorem dX5_holdBody_2 : gx_d mX5_holdBody 2 (.putfield 15) 3 := gx_dk (by decide +kernel)
theorem dX5_holdBody_5 : gx_d mX5_holdBody 5 (.aload_n 0) 1 := gx_dk (by decide +kernel)
theorem dX5_holdBody_6 : gx_d mX5_holdBody 6 (.iload_n 1) 1 := gx_dk (by decide +kernel)
theorem dX5_holdBody_7 : gx_d mX5_holdBody 7 (.putfield 25) 3 := gx_dk (by decide +kernel)
theorem dX5_holdBody_10 : gx_d mX5_holdBody 10 (.aload_n 0) 1 := gx_dk (by decide +kernel)
theorem dX5_holdBody_11 : gx_d mX5_holdBody 11 (.iconst 0) 1 := gx_dk (by decide +kernel)
theorem dX5_holdBody_12 : gx_d mX5_holdBody 12 (.putfield 22) 3 := gx_dk (by decide +kernel)
theorem dX5_holdBody_15 : gx_d mX5_holdBody 15 (.return_) 1 := gx_dk (by decide +kernel)
theorem dX5_holdRow_0 : gx_d mX5_holdRow 0 (.aload_n 0) 1 := gx_dk (by decide +kernel)
theorem dX5_holdRow_1 : gx_d mX5_holdRow 1 (.iconst 2) 1 := gx_dk (by decide +kernel)
theorem dX5_holdRow_2 : gx_d mX5_holdRow 2 (.putfield 15) 3 := gx_dk (by decide +kernel)
theorem dX5_holdRow_5 : gx_d mX5_holdRow 5 (.aload_n 0) 1 := gx_dk (by decide +kernel)
theorem dX5_holdRow_6 : gx_d mX5_holdRow 6 (.iload_n 1) 1 := gx_dk (by decide +kernel)
theorem dX5_holdRow_7 : gx_d mX5_holdRow 7 (.putfield 19) 3 := gx_dk (by decide +kernel)
theorem dX5_holdRow_10 : gx_d mX5_holdRow 10 (.aload_n 0) 1 := gx_dk (by decide +kernel)
theorem dX5_holdRow_11 : gx_d mX5_holdRow 11 (.iconst 0) 1 := gx_dk (by decide +kernel)
theorem dX5_holdRow_12 : gx_d mX5_holdRow 12 (.iload_n 2) 1 := gx_dk (by decide +kernel)
theorem dX5_holdRow_13 : gx_d mX5_holdRow 13 (.bipush 60) 2 := gx_dk (by decide +kernel)
theorem dX5_holdRow_15 : gx_d mX5_holdRow 15 (.invokestatic 28) 3 := gx_dk (by decide +kernel)
theorem dX5_holdRow_18 : gx_d mX5_holdRow 18 (.invokestatic 34) 3 := gx_dk (by decide +kernel)
theorem dX5_holdRow_21 : gx_d mX5_holdRow 21 (.putfield 22) 3 := gx_dk (by decide +kernel)
theorem dX5_holdRow_24 : gx_d mX5_holdRow 24 (.aload_n 0) 1 := gx_dk (by decide +kernel)
theorem dX5_holdRow_25 : gx_d mX5_holdRow 25 (.getfield 9) 3 := gx_dk (by decide +kernel)
theorem dX5_holdRow_28 : gx_d mX5_holdRow 28 (.lconst 0) 1 := gx_dk (by decide +kernel)
theorem dX5_holdRow_29 : gx_d mX5_holdRow 29 (.invokestatic 37) 3 := gx_dk (by decide +kernel)
theorem dX5_holdRow_32 : gx_d mX5_holdRow 32 (.return_) 1 := gx_dk (by decide +kernel)
theorem dX5_hasRoom_0 : gx_d mX5_hasRoom 0 (.iload_n 1) 1 := gx_dk (by decide +kernel)
theorem dX5_hasRoom_1 : gx_d mX5_hasRoom 1 (.ifCond .lt 21) 3 := gx_dk (by decide +kernel)
theorem dX5_hasRoom_4 : gx_d mX5_hasRoom 4 (.iload_n 2) 1 := gx_dk (by decide +kernel)
theorem dX5_hasRoom_5 : gx_d mX5_hasRoom 5 (.ifCond .lt 17) 3 := gx_dk (by decide +kernel)
theorem dX5_hasRoom_8 : gx_d mX5_hasRoom 8 (.iload_n 1) 1 := gx_dk (by decide +kernel)
theorem dX5_hasRoom_9 : gx_d mX5_hasRoom 9 (.aload_n 0) 1 := gx_dk (by decide +kernel)
theorem dX5_hasRoom_10 : gx_d mX5_hasRoom 10 (.getfield 22) 3 := gx_dk (by decide +kernel)
theorem dX5_hasRoom_13 : gx_d mX5_hasRoom 13 (.iload_n 2) 1 := gx_dk (by decide +kernel)
theorem dX5_hasRoom_14 : gx_d mX5_hasRoom 14 (.isub) 1 := gx_dk (by decide +kernel)
theorem dX5_hasRoom_15 : gx_d mX5_hasRoom 15 (.if_icmp .gt 7) 3 := gx_dk (by decide +kernel)
theorem dX5_hasRoom_18 : gx_d mX5_hasRoom 18 (.iconst 1) 1 := gx_dk (by decide +kernel)
theorem dX5_hasRoom_19 : gx_d mX5_hasRoom 19 (.goto 4) 3 := gx_dk (by decide +kernel)
theorem dX5_hasRoom_22 : gx_d mX5_hasRoom 22 (.iconst 0) 1 := gx_dk (by decide +kernel)
theorem dX5_hasRoom_23 : gx_d mX5_hasRoom 23 (.ireturn) 1 := gx_dk (by decide +kernel)
theorem dX5_valueAt_0 : gx_d mX5_valueAt 0 (.aload_n 0) 1 := gx_dk (by decide +kernel)
theorem dX5_valueAt_1 : gx_d mX5_valueAt 1 (.iload_n 1) 1 := gx_dk (by decide +kernel)
theorem dX5_valueAt_2 : gx_d mX5_valueAt 2 (.iconst 1) 1 := gx_dk (by decide +kernel)
theorem dX5_valueAt_3 : gx_d mX5_valueAt 3 (.invokevirtual 43) 3 := gx_dk (by decide +kernel)
theorem dX5_valueAt_6 : gx_d mX5_valueAt 6 (.ifCond .eq 12) 3 := gx_dk (by decide +kernel)
theorem dX5_valueAt_9 : gx_d mX5_valueAt 9 (.aload_n 0) 1 := gx_dk (by decide +kernel)
theorem dX5_valueAt_10 : gx_d mX5_valueAt 10 (.getfield 9) 3 := gx_dk (by decide +kernel)
theorem dX5_valueAt_13 : gx_d mX5_valueAt 13 (.iload_n 1) 1 := gx_dk (by decide +kernel)
theorem dX5_valueAt_14 : gx_d mX5_valueAt 14 (.laload) 1 := gx_dk (by decide +kernel)
theorem dX5_valueAt_15 : gx_d mX5_valueAt 15 (.goto 4) 3 := gx_dk (by decide +kernel)
theorem dX5_valueAt_18 : gx_d mX5_valueAt 18 (.lconst 0) 1 := gx_dk (by decide +kernel)
theorem dX5_valueAt_19 : gx_d mX5_valueAt 19 (.lreturn) 1 := gx_dk (by decide +kernel)
theorem dX5_small_0 : gx_d mX5_small 0 (.aload_n 0) 1 := gx_dk (by decide +kernel)
theorem dX5_small_1 : gx_d mX5_small 1 (.iload_n 1) 1 := gx_dk (by decide +kernel)
theorem dX5_small_2 : gx_d mX5_small 2 (.invokevirtual 47) 3 := gx_dk (by decide +kernel)
theorem dX5_small_5 : gx_d mX5_small 5 (.l2i) 1 := gx_dk (by decide +kernel)
theorem dX5_small_6 : gx_d mX5_small 6 (.ireturn) 1 := gx_dk (by decide +kernel)
theorem dX5_write_0 : gx_d mX5_write 0 (.aload_n 0) 1 := gx_dk (by decide +kernel)
theorem dX5_write_1 : gx_d mX5_write 1 (.iload_n 1) 1 := gx_dk (by decide +kernel)
theorem dX5_write_2 : gx_d mX5_write 2 (.iconst 1) 1 := gx_dk (by decide +kernel)
theorem dX5_write_3 : gx_d mX5_write 3 (.invokevirtual 43) 3 := gx_dk (by decide +kernel)
theorem dX5_write_6 : gx_d mX5_write 6 (.ifCond .eq 14) 3 := gx_dk (by decide +kernel)
theorem dX5_write_9 : gx_d mX5_write 9 (.aload_n 0) 1 := gx_dk (by decide +kernel)
theorem dX5_write_10 : gx_d mX5_write 10 (.getfield 9) 3 := gx_dk (by decide +kernel)
theorem dX5_write_13 : gx_d mX5_write 13 (.iload_n 1) 1 := gx_dk (by decide +kernel)
theorem dX5_write_14 : gx_d mX5_write 14 (.aload_n 0) 1 := gx_dk (by decide +kernel)
theorem dX5_write_15 : gx_d mX5_write 15 (.lload_n 2) 1 := gx_dk (by decide +kernel)
theorem dX5_write_16 : gx_d mX5_write 16 (.invokevirtual 51) 3 := gx_dk (by decide +kernel)
theorem dX5_write_19 : gx_d mX5_write 19 (.lastore) 1 := gx_dk (by decide +kernel)
theorem dX5_write_20 : gx_d mX5_write 20 (.return_) 1 := gx_dk (by decide +kernel)
theorem dX5_narrowed_0 : gx_d mX5_narrowed 0 (.aload_n 0) 1 := gx_dk (by decide +kernel)
theorem dX5_narrowed_1 : gx_d mX5_narrowed 1 (.getfield 19) 3 := gx_dk (by decide +kernel)
theorem dX5_narrowed_4 : gx_d mX5_narrowed 4 (.tableswitch 48 0 3 #[32, 37, 42, 46]) 32 := gx_dk (by decide +kernel)
theorem dX5_narrowed_36 : gx_d mX5_narrowed 36 (.lload_n 1) 1 := gx_dk (by decide +kernel)
theorem dX5_narrowed_37 : gx_d mX5_narrowed 37 (.l2i) 1 := gx_dk (by decide +kernel)
theorem dX5_narrowed_38 : gx_d mX5_narrowed 38 (.i2b) 1 := gx_dk (by decide +kernel)
theorem dX5_narrowed_39 : gx_d mX5_narrowed 39 (.i2l) 1 := gx_dk (by decide +kernel)
theorem dX5_narrowed_40 : gx_d mX5_narrowed 40 (.lreturn) 1 := gx_dk (by decide +kernel)
theorem dX5_narrowed_41 : gx_d mX5_narrowed 41 (.lload_n 1) 1 := gx_dk (by decide +kernel)
theorem dX5_narrowed_42 : gx_d mX5_narrowed 42 (.l2i) 1 := gx_dk (by decide +kernel)
theorem dX5_narrowed_43 : gx_d mX5_narrowed 43 (.i2s) 1 := gx_dk (by decide +kernel)
theorem dX5_narrowed_44 : gx_d mX5_narrowed 44 (.i2l) 1 := gx_dk (by decide +kernel)
theorem dX5_narrowed_45 : gx_d mX5_narrowed 45 (.lreturn) 1 := gx_dk (by decide +kernel)
theorem dX5_narrowed_46 : gx_d mX5_narrowed 46 (.lload_n 1) 1 := gx_dk (by decide +kernel)
theorem dX5_narrowed_47 : gx_d mX5_narrowed 47 (.l2i) 1 := gx_dk (by decide +kernel)
theorem dX5_narrowed_48 : gx_d mX5_narrowed 48 (.i2l) 1 := gx_dk (by decide +kernel)
theorem dX5_narrowed_49 : gx_d mX5_narrowed 49 (.lreturn) 1 := gx_dk (by decide +kernel)
theorem dX5_narrowed_50 : gx_d mX5_narrowed 50 (.lload_n 1) 1 := gx_dk (by decide +kernel)
theorem dX5_narrowed_51 : gx_d mX5_narrowed 51 (.lreturn) 1 := gx_dk (by decide +kernel)
theorem dX5_narrowed_52 : gx_d mX5_narrowed 52 (.lload_n 1) 1 := gx_dk (by decide +kernel)
theorem dX5_narrowed_53 : gx_d mX5_narrowed 53 (.lconst 0) 1 := gx_dk (by decide +kernel)
theorem dX5_narrowed_54 : gx_d mX5_narrowed 54 (.lcmp) 1 := gx_dk (by decide +kernel)
theorem dX5_narrowed_55 : gx_d mX5_narrowed 55 (.ifCond .eq 7) 3 := gx_dk (by decide +kernel)
theorem dX5_narrowed_58 : gx_d mX5_narrowed 58 (.lconst 1) 1 := gx_dk (by decide +kernel)
theorem dX5_narrowed_59 : gx_d mX5_narrowed 59 (.goto 4) 3 := gx_dk (by decide +kernel)
theorem dX5_narrowed_62 : gx_d mX5_narrowed 62 (.lconst 0) 1 := gx_dk (by decide +kernel)
theorem dX5_narrowed_63 : gx_d mX5_narrowed 63 (.lreturn) 1 := gx_dk (by decide +kernel)
theorem dX5_comers_0 : gx_d mX5_comers 0 (.iconst 0) 1 := gx_dk (by decide +kernel)
theorem dX5_comers_1 : gx_d mX5_comers 1 (.istore_n 2) 1 := gx_dk (by decide +kernel)
theorem dX5_comers_2 : gx_d mX5_comers 2 (.iload_n 2) 1 := gx_dk (by decide +kernel)
theorem dX5_comers_3 : gx_d mX5_comers 3 (.iload_n 1) 1 := gx_dk (by decide +kernel)
theorem dX5_comers_4 : gx_d mX5_comers 4 (.if_icmp .ge 29) 3 := gx_dk (by decide +kernel)
theorem dX5_comers_7 : gx_d mX5_comers 7 (.aload_n 0) 1 := gx_dk (by decide +kernel)
theorem dX5_comers_8 : gx_d mX5_comers 8 (.iload_n 2) 1 := gx_dk (by decide +kernel)
theorem dX5_comers_9 : gx_d mX5_comers 9 (.iconst 1) 1 := gx_dk (by decide +kernel)
theorem dX5_comers_10 : gx_d mX5_comers 10 (.invokevirtual 43) 3 := gx_dk (by decide +kernel)
theorem dX5_comers_13 : gx_d mX5_comers 13 (.ifCond .eq 20) 3 := gx_dk (by decide +kernel)
theorem dX5_comers_16 : gx_d mX5_comers 16 (.aload_n 0) 1 := gx_dk (by decide +kernel)
theorem dX5_comers_17 : gx_d mX5_comers 17 (.iload_n 2) 1 := gx_dk (by decide +kernel)
theorem dX5_comers_18 : gx_d mX5_comers 18 (.invokevirtual 55) 3 := gx_dk (by decide +kernel)
theorem dX5_comers_21 : gx_d mX5_comers 21 (.invokestatic 59) 3 := gx_dk (by decide +kernel)
theorem dX5_comers_24 : gx_d mX5_comers 24 (.ifCond .eq 9) 3 := gx_dk (by decide +kernel)
theorem dX5_comers_27 : gx_d mX5_comers 27 (.iinc 2 1) 3 := gx_dk (by decide +kernel)
theorem dX5_comers_30 : gx_d mX5_comers 30 (.goto (-28)) 3 := gx_dk (by decide +kernel)
theorem dX5_comers_33 : gx_d mX5_comers 33 (.iload_n 2) 1 := gx_dk (by decide +kernel)
theorem dX5_comers_34 : gx_d mX5_comers 34 (.ireturn) 1 := gx_dk (by decide +kernel)
theorem dJ6_bitCount_0f7a4_0 : gx_d mJ6_bitCount_0f7a4 0 (.iload_n 0) 1 := gx_dk (by decide +kernel)
theorem dJ6_bitCount_0f7a4_1 : gx_d mJ6_bitCount_0f7a4 1 (.iload_n 0) 1 := gx_dk (by decide +kernel)
theorem dJ6_bitCount_0f7a4_2 : gx_d mJ6_bitCount_0f7a4 2 (.iconst 1) 1 := gx_dk (by decide +kernel)
theorem dJ6_bitCount_0f7a4_3 : gx_d mJ6_bitCount_0f7a4 3 (.iushr) 1 := gx_dk (by decide +kernel)
theorem dJ6_bitCount_0f7a4_4 : gx_d mJ6_bitCount_0f7a4 4 (.ldc_w 265) 3 := gx_dk (by decide +kernel)
theorem dJ6_bitCount_0f7a4_7 : gx_d mJ6_bitCount_0f7a4 7 (.iand) 1 := gx_dk (by decide +kernel)
theorem dJ6_bitCount_0f7a4_8 : gx_d mJ6_bitCount_0f7a4 8 (.isub) 1 := gx_dk (by decide +kernel)
theorem dJ6_bitCount_0f7a4_9 : gx_d mJ6_bitCount_0f7a4 9 (.istore_n 0) 1 := gx_dk (by decide +kernel)
theorem dJ6_bitCount_0f7a4_10 : gx_d mJ6_bitCount_0f7a4 10 (.iload_n 0) 1 := gx_dk (by decide +kernel)
theorem dJ6_bitCount_0f7a4_11 : gx_d mJ6_bitCount_0f7a4 11 (.ldc_w 266) 3 := gx_dk (by decide +kernel)
theorem dJ6_bitCount_0f7a4_14 : gx_d mJ6_bitCount_0f7a4 14 (.iand) 1 := gx_dk (by decide +kernel)
theorem dJ6_bitCount_0f7a4_15 : gx_d mJ6_bitCount_0f7a4 15 (.iload_n 0) 1 := gx_dk (by decide +kernel)
theorem dJ6_bitCount_0f7a4_16 : gx_d mJ6_bitCount_0f7a4 16 (.iconst 2) 1 := gx_dk (by decide +kernel)
theorem dJ6_bitCount_0f7a4_17 : gx_d mJ6_bitCount_0f7a4 17 (.iushr) 1 := gx_dk (by decide +kernel)
theorem dJ6_bitCount_0f7a4_18 : gx_d mJ6_bitCount_0f7a4 18 (.ldc_w 266) 3 := gx_dk (by decide +kernel)
theorem dJ6_bitCount_0f7a4_21 : gx_d mJ6_bitCount_0f7a4 21 (.iand) 1 := gx_dk (by decide +kernel)
theorem dJ6_bitCount_0f7a4_22 : gx_d mJ6_bitCount_0f7a4 22 (.iadd) 1 := gx_dk (by decide +kernel)
theorem dJ6_bitCount_0f7a4_23 : gx_d mJ6_bitCount_0f7a4 23 (.istore_n 0) 1 := gx_dk (by decide +kernel)
theorem dJ6_bitCount_0f7a4_24 : gx_d mJ6_bitCount_0f7a4 24 (.iload_n 0) 1 := gx_dk (by decide +kernel)
theorem dJ6_bitCount_0f7a4_25 : gx_d mJ6_bitCount_0f7a4 25 (.iload_n 0) 1 := gx_dk (by decide +kernel)
theorem dJ6_bitCount_0f7a4_26 : gx_d mJ6_bitCount_0f7a4 26 (.iconst 4) 1 := gx_dk (by decide +kernel)
theorem dJ6_bitCount_0f7a4_27 : gx_d mJ6_bitCount_0f7a4 27 (.iushr) 1 := gx_dk (by decide +kernel)
theorem dJ6_bitCount_0f7a4_28 : gx_d mJ6_bitCount_0f7a4 28 (.iadd) 1 := gx_dk (by decide +kernel)
theorem dJ6_bitCount_0f7a4_29 : gx_d mJ6_bitCount_0f7a4 29 (.ldc_w 267) 3 := gx_dk (by decide +kernel)
theorem dJ6_bitCount_0f7a4_32 : gx_d mJ6_bitCount_0f7a4 32 (.iand) 1 := gx_dk (by decide +kernel)
theorem dJ6_bitCount_0f7a4_33 : gx_d mJ6_bitCount_0f7a4 33 (.istore_n 0) 1 := gx_dk (by decide +kernel)
theorem dJ6_bitCount_0f7a4_34 : gx_d mJ6_bitCount_0f7a4 34 (.iload_n 0) 1 := gx_dk (by decide +kernel)
theorem dJ6_bitCount_0f7a4_35 : gx_d mJ6_bitCount_0f7a4 35 (.iload_n 0) 1 := gx_dk (by decide +kernel)
theorem dJ6_bitCount_0f7a4_36 : gx_d mJ6_bitCount_0f7a4 36 (.bipush 8) 2 := gx_dk (by decide +kernel)
theorem dJ6_bitCount_0f7a4_38 : gx_d mJ6_bitCount_0f7a4 38 (.iushr) 1 := gx_dk (by decide +kernel)
theorem dJ6_bitCount_0f7a4_39 : gx_d mJ6_bitCount_0f7a4 39 (.iadd) 1 := gx_dk (by decide +kernel)
theorem dJ6_bitCount_0f7a4_40 : gx_d mJ6_bitCount_0f7a4 40 (.istore_n 0) 1 := gx_dk (by decide +kernel)
theorem dJ6_bitCount_0f7a4_41 : gx_d mJ6_bitCount_0f7a4 41 (.iload_n 0) 1 := gx_dk (by decide +kernel)
theorem dJ6_bitCount_0f7a4_42 : gx_d mJ6_bitCount_0f7a4 42 (.iload_n 0) 1 := gx_dk (by decide +kernel)
theorem dJ6_bitCount_0f7a4_43 : gx_d mJ6_bitCount_0f7a4 43 (.bipush 16) 2 := gx_dk (by decide +kernel)
theorem dJ6_bitCount_0f7a4_45 : gx_d mJ6_bitCount_0f7a4 45 (.iushr) 1 := gx_dk (by decide +kernel)
theorem dJ6_bitCount_0f7a4_46 : gx_d mJ6_bitCount_0f7a4 46 (.iadd) 1 := gx_dk (by decide +kernel)
theorem dJ6_bitCount_0f7a4_47 : gx_d mJ6_bitCount_0f7a4 47 (.istore_n 0) 1 := gx_dk (by decide +kernel)
theorem dJ6_bitCount_0f7a4_48 : gx_d mJ6_bitCount_0f7a4 48 (.iload_n 0) 1 := gx_dk (by decide +kernel)
theorem dJ6_bitCount_0f7a4_49 : gx_d mJ6_bitCount_0f7a4 49 (.bipush 63) 2 := gx_dk (by decide +kernel)
theorem dJ6_bitCount_0f7a4_51 : gx_d mJ6_bitCount_0f7a4 51 (.iand) 1 := gx_dk (by decide +kernel)
theorem dJ6_bitCount_0f7a4_52 : gx_d mJ6_bitCount_0f7a4 52 (.ireturn) 1 := gx_dk (by decide +kernel)
theorem dJ9_max_7cf53_0 : gx_d mJ9_max_7cf53 0 (.iload_n 0) 1 := gx_dk (by decide +kernel)
theorem dJ9_max_7cf53_1 : gx_d mJ9_max_7cf53 1 (.iload_n 1) 1 := gx_dk (by decide +kernel)
theorem dJ9_max_7cf53_2 : gx_d mJ9_max_7cf53 2 (.if_icmp .lt 7) 3 := gx_dk (by decide +kernel)
theorem dJ9_max_7cf53_5 : gx_d mJ9_max_7cf53 5 (.iload_n 0) 1 := gx_dk (by decide +kernel)
theorem dJ9_max_7cf53_6 : gx_d mJ9_max_7cf53 6 (.goto 4) 3 := gx_dk (by decide +kernel)
theorem dJ9_max_7cf53_9 : gx_d mJ9_max_7cf53 9 (.iload_n 1) 1 := gx_dk (by decide +kernel)
theorem dJ9_max_7cf53_10 : gx_d mJ9_max_7cf53 10 (.ireturn) 1 := gx_dk (by decide +kernel)
theorem dJ9_min_7cf53_0 : gx_d mJ9_min_7cf53 0 (.iload_n 0) 1 := gx_dk (by decide +kernel)
theorem dJ9_min_7cf53_1 : gx_d mJ9_min_7cf53 1 (.iload_n 1) 1 := gx_dk (by decide +kernel)
theorem dJ9_min_7cf53_2 : gx_d mJ9_min_7cf53 2 (.if_icmp .gt 7) 3 := gx_dk (by decide +kernel)
theorem dJ9_min_7cf53_5 : gx_d mJ9_min_7cf53 5 (.iload_n 0) 1 := gx_dk (by decide +kernel)
theorem dJ9_min_7cf53_6 : gx_d mJ9_min_7cf53 6 (.goto 4) 3 := gx_dk (by decide +kernel)
theorem dJ9_min_7cf53_9 : gx_d mJ9_min_7cf53 9 (.iload_n 1) 1 := gx_dk (by decide +kernel)
theorem dJ9_min_7cf53_10 : gx_d mJ9_min_7cf53 10 (.ireturn) 1 := gx_dk (by decide +kernel)
theorem dJ7_fill_d0a16_0 : gx_d mJ7_fill_d0a16 0 (.iconst 0) 1 := gx_dk (by decide +kernel)
theorem dJ7_fill_d0a16_1 : gx_d mJ7_fill_d0a16 1 (.istore_n 3) 1 := gx_dk (by decide +kernel)
theorem dJ7_fill_d0a16_2 : gx_d mJ7_fill_d0a16 2 (.aload_n 0) 1 := gx_dk (by decide +kernel)
theorem dJ7_fill_d0a16_3 : gx_d mJ7_fill_d0a16 3 (.arraylength) 1 := gx_dk (by decide +kernel)
theorem dJ7_fill_d0a16_4 : gx_d mJ7_fill_d0a16 4 (.istore 4) 2 := gx_dk (by decide +kernel)
theorem dJ7_fill_d0a16_6 : gx_d mJ7_fill_d0a16 6 (.iload_n 3) 1 := gx_dk (by decide +kernel)
theorem dJ7_fill_d0a16_7 : gx_d mJ7_fill_d0a16 7 (.iload 4) 2 := gx_dk (by decide +kernel)
theorem dJ7_fill_d0a16_9 : gx_d mJ7_fill_d0a16 9 (.if_icmp .ge 13) 3 := gx_dk (by decide +kernel)
theorem dJ7_fill_d0a16_12 : gx_d mJ7_fill_d0a16 12 (.aload_n 0) 1 := gx_dk (by decide +kernel)
theorem dJ7_fill_d0a16_13 : gx_d mJ7_fill_d0a16 13 (.iload_n 3) 1 := gx_dk (by decide +kernel)
theorem dJ7_fill_d0a16_14 : gx_d mJ7_fill_d0a16 14 (.lload_n 1) 1 := gx_dk (by decide +kernel)
theorem dJ7_fill_d0a16_15 : gx_d mJ7_fill_d0a16 15 (.lastore) 1 := gx_dk (by decide +kernel)
theorem dJ7_fill_d0a16_16 : gx_d mJ7_fill_d0a16 16 (.iinc 3 1) 3 := gx_dk (by decide +kernel)
theorem dJ7_fill_d0a16_19 : gx_d mJ7_fill_d0a16 19 (.goto (-13)) 3 := gx_dk (by decide +kernel)
theorem dJ7_fill_d0a16_22 : gx_d mJ7_fill_d0a16 22 (.return_) 1 := gx_dk (by decide +kernel)
theorem dJ7_fill_53178_0 : gx_d mJ7_fill_53178 0 (.iconst 0) 1 := gx_dk (by decide +kernel)
theorem dJ7_fill_53178_1 : gx_d mJ7_fill_53178 1 (.istore_n 2) 1 := gx_dk (by decide +kernel)
theorem dJ7_fill_53178_2 : gx_d mJ7_fill_53178 2 (.aload_n 0) 1 := gx_dk (by decide +kernel)
theorem dJ7_fill_53178_3 : gx_d mJ7_fill_53178 3 (.arraylength) 1 := gx_dk (by decide +kernel)
theorem dJ7_fill_53178_4 : gx_d mJ7_fill_53178 4 (.istore_n 3) 1 := gx_dk (by decide +kernel)
theorem dJ7_fill_53178_5 : gx_d mJ7_fill_53178 5 (.iload_n 2) 1 := gx_dk (by decide +kernel)
theorem dJ7_fill_53178_6 : gx_d mJ7_fill_53178 6 (.iload_n 3) 1 := gx_dk (by decide +kernel)
theorem dJ7_fill_53178_7 : gx_d mJ7_fill_53178 7 (.if_icmp .ge 13) 3 := gx_dk (by decide +kernel)
theorem dJ7_fill_53178_10 : gx_d mJ7_fill_53178 10 (.aload_n 0) 1 := gx_dk (by decide +kernel)
theorem dJ7_fill_53178_11 : gx_d mJ7_fill_53178 11 (.iload_n 2) 1 := gx_dk (by decide +kernel)
theorem dJ7_fill_53178_12 : gx_d mJ7_fill_53178 12 (.iload_n 1) 1 := gx_dk (by decide +kernel)
theorem dJ7_fill_53178_13 : gx_d mJ7_fill_53178 13 (.iastore) 1 := gx_dk (by decide +kernel)
theorem dJ7_fill_53178_14 : gx_d mJ7_fill_53178 14 (.iinc 2 1) 3 := gx_dk (by decide +kernel)
theorem dJ7_fill_53178_17 : gx_d mJ7_fill_53178 17 (.goto (-12)) 3 := gx_dk (by decide +kernel)
theorem dJ7_fill_53178_20 : gx_d mJ7_fill_53178 20 (.return_) 1 := gx_dk (by decide +kernel)
theorem dX9_isComer_0 : gx_d mX9_isComer 0 (.iload_n 0) 1 := gx_dk (by decide +kernel)
theorem dX9_isComer_1 : gx_d mX9_isComer 1 (.ifCond .lt 13) 3 := gx_dk (by decide +kernel)
theorem dX9_isComer_4 : gx_d mX9_isComer 4 (.iload_n 0) 1 := gx_dk (by decide +kernel)
theorem dX9_isComer_5 : gx_d mX9_isComer 5 (.bipush 100) 2 := gx_dk (by decide +kernel)
theorem dX9_isComer_7 : gx_d mX9_isComer 7 (.if_icmp .ge 7) 3 := gx_dk (by decide +kernel)
theorem dX9_isComer_10 : gx_d mX9_isComer 10 (.iconst 1) 1 := gx_dk (by decide +kernel)
theorem dX9_isComer_11 : gx_d mX9_isComer 11 (.goto 4) 3 := gx_dk (by decide +kernel)
theorem dX9_isComer_14 : gx_d mX9_isComer 14 (.iconst 0) 1 := gx_dk (by decide +kernel)
theorem dX9_isComer_15 : gx_d mX9_isComer 15 (.ireturn) 1 := gx_dk (by decide +kernel)
/-- a shelf: its object r, its row a of 60 longs -/
def isSh (w : gx_W) (r a : Nat) : Prop := w.1[r]? = some (5, 0) ∧ w_r w r 0 = some a ∧ w.1[a]? = some (23, 60)
/-- and its length -/
def isSn (w : gx_W) (r a ln : Nat) : Prop := isSh w r a ∧ w_i w r 4 = nI ln ∧ ln ≤ 60
theorem sh_room {i n : Int32} {ln : Nat} (hb : ln ≤ 60) (h0 : ¬ i < 0) (h1 : ¬ n < 0) : i > nI ln - n ↔ ¬ i.toInt.toNat + n.toInt.toNat ≤ ln := by
  rw [pI_lt] at h0 h1
  have e0 : (0 : Int32).toInt = 0 := by decide
  rw [e0] at h0 h1
  have hl : (nI ln).toInt = ln := nI_toInt (by omega)
  have b1 := pI_b i
  have b2 := pI_b n
  rw [pI_gt, pI_sub (by omega) (by omega), hl]
  omega
/-- what a sort of row keeps of a long -/
def sh_nar (sort : Int32) (v : Int64) : Int64 := if sort = 0 then v.toInt32.toInt8.toInt32.toInt64 else if sort = 1 then v.toInt32.toInt16.toInt32.toInt64 else if sort = 2 then v.toInt32.toInt64 else if sort = 3 then v else if v = 0 then 0 else 1
/-- how many comers are ahead of the first that is none -/
def isCo (x : Int32) : Bool := !decide (x < 0) && !decide (x ≥ 100)
def sh_com (C : Nat → Bool) : Nat → Nat
  | 0 => 0
  | b + 1 => if sh_com C b = b ∧ C b = true then b + 1 else sh_com C b
theorem sh_com_le (C : Nat → Bool) (b : Nat) : sh_com C b ≤ b := by
  induction b with
  | zero => exact Nat.le_refl 0
  | succ b ih =>
    unfold sh_com
    split <;> omega
theorem sh_com_all (C : Nat → Bool) (b : Nat) (h : ∀ i, i < b → C i = true) : sh_com C b = b := by
  induction b with
  | zero => rfl
  | succ b ih =>
    have h1 := ih (fun i hi => h i (by omega))
    unfold sh_com
    rw [if_pos ⟨h1, h b (by omega)⟩]
theorem sh_com_at (C : Nat → Bool) (b j : Nat) (hj : j < b) (h : ∀ i, i < j → C i = true) (hn : ¬ C j = true) : sh_com C b = j := by
  induction b with
  | zero => omega
  | succ b ih =>
    unfold sh_com
    by_cases e : j = b
    · subst e
      have h1 := sh_com_all C j h
      rw [if_neg (fun z => hn z.2), h1]
    · have h1 := ih (by omega)
      rw [if_neg (fun z => by omega), h1]
theorem va_up_up {α : Type} {f : Nat → α} {k : Nat} {u v : α} : va_up (va_up f k u) k v = va_up f k v := by
  funext j
  by_cases h : j = k
  · subst h; rw [va_up_at, va_up_at]
  · rw [va_up_row h, va_up_row h, va_up_row h]
theorem s_l_l {w : gx_W} {k : Nat} {f g : Nat → Int64} : s_l (s_l w k f) k g = s_l w k g := by
  show (w.1, w.2.1, w.2.2.1, w.2.2.2.1, va_up (va_up w.2.2.2.2.1 k f) k g, w.2.2.2.2.2) = _
  rw [va_up_up]; rfl
theorem s_a_a {w : gx_W} {k : Nat} {f g : Nat → Int32} : s_a (s_a w k f) k g = s_a w k g := by
  show (w.1, w.2.1, w.2.2.1, va_up (va_up w.2.2.2.1 k f) k g, w.2.2.2.2) = _
  rw [va_up_up]; rfl
theorem sh_fill {α : Type} {f : Nat → α} {v : α} {i : Nat} : va_up (fun j => if j < i then v else f j) i v = fun j => if j < i + 1 then v else f j := by
  funext j
  by_cases h : j = i
  · subst h; rw [va_up_at, if_pos (by omega)]
  · rw [va_up_row h]
    by_cases h2 : j < i
    · rw [if_pos h2, if_pos (by omega)]
    · rw [if_neg h2, if_neg (by omega)]
theorem nI_1' (n : Nat) : nI n + Int32.ofInt 1 = nI (n + 1) := (nI_succ n).symm
theorem sh_clamp {m : Nat} (hm : m ≤ 60) : (if (0 : Int32) < (if nI m > 60 then 60 else nI m) then (if nI m > 60 then 60 else nI m) else 0) = nI m := by
  have h : ¬ nI m > 60 := by
    rw [pI_gt, nI_toInt (by omega)]
    have : (60 : Int32).toInt = 60 := by decide
    omega
  rw [if_neg h]
  by_cases h0 : m = 0
  · subst h0; rfl
  · rw [if_pos]
    rw [pI_lt, nI_toInt (by omega)]
    have : (0 : Int32).toInt = 0 := by decide
    omega
theorem c_J9_max_7cf53 {d : Nat} {w : gx_W} {a b : Int32} {k : Int32 → gx_W → Prop} (hd : 0 ≤ d) (kk : k (if a < b then b else a) w) : gx_C 0 0 d mJ9_max_7cf53 [.int a, .int b] w (Qi k) := by
  refine gx_C_ofF (L := [.int a, .int b]) (by decide +kernel) rfl (Nat.le_of_ble_eq_true rfl) ?_
  refine g_iload_n dJ9_max_7cf53_0 rfl ?_
  refine g_iload_n dJ9_max_7cf53_1 rfl ?_
  refine g_icmp_lt (tgt := 9) dJ9_max_7cf53_2 (by decide) (fun zc2 => ?_) (fun zc2 => ?_)
  · refine g_iload_n dJ9_max_7cf53_9 rfl ?_
    refine g_iret dJ9_max_7cf53_10 rfl ⟨_, rfl, ?_⟩
    first | (rw [if_pos (by assumption)] at kk; exact kk) | (rw [if_neg (by first | assumption | exact Int32.not_lt.mpr (by assumption))] at kk; exact kk)
  · refine g_iload_n dJ9_max_7cf53_5 rfl ?_
    refine g_goto (tgt := 10) dJ9_max_7cf53_6 (by decide) ?_
    refine g_iret dJ9_max_7cf53_10 rfl ⟨_, rfl, ?_⟩
    first | (rw [if_pos (by assumption)] at kk; exact kk) | (rw [if_neg (by first | assumption | exact Int32.not_lt.mpr (by assumption))] at kk; exact kk)
theorem c_J9_min_7cf53 {d : Nat} {w : gx_W} {a b : Int32} {k : Int32 → gx_W → Prop} (hd : 0 ≤ d) (kk : k (if a > b then b else a) w) : gx_C 0 0 d mJ9_min_7cf53 [.int a, .int b] w (Qi k) := by
  refine gx_C_ofF (L := [.int a, .int b]) (by decide +kernel) rfl (Nat.le_of_ble_eq_true rfl) ?_
  refine g_iload_n dJ9_min_7cf53_0 rfl ?_
  refine g_iload_n dJ9_min_7cf53_1 rfl ?_
  refine g_icmp_gt (tgt := 9) dJ9_min_7cf53_2 (by decide) (fun zc2 => ?_) (fun zc2 => ?_)
  · refine g_iload_n dJ9_min_7cf53_9 rfl ?_
    refine g_iret dJ9_min_7cf53_10 rfl ⟨_, rfl, ?_⟩
    first | (rw [if_pos (by assumption)] at kk; exact kk) | (rw [if_neg (by first | assumption | exact Int32.not_lt.mpr (by assumption))] at kk; exact kk)
  · refine g_iload_n dJ9_min_7cf53_5 rfl ?_
    refine g_goto (tgt := 10) dJ9_min_7cf53_6 (by decide) ?_
    refine g_iret dJ9_min_7cf53_10 rfl ⟨_, rfl, ?_⟩
    first | (rw [if_pos (by assumption)] at kk; exact kk) | (rw [if_neg (by first | assumption | exact Int32.not_lt.mpr (by assumption))] at kk; exact kk)
theorem c_X9_isComer {d : Nat} {w : gx_W} {x : Int32} {k : Int32 → gx_W → Prop} (hd : 0 ≤ d) (kt : isCo x = true → k 1 w) (kf : ¬ isCo x = true → k 0 w) : gx_C 0 0 d mX9_isComer [.int x] w (Qi k) := by
  refine gx_C_of' (L := [.int x]) (by decide +kernel) rfl (Nat.le_of_ble_eq_true rfl) ?_
  refine g_iload_n dX9_isComer_0 rfl ?_
  refine g_if_lt (tgt := 14) dX9_isComer_1 (by decide) (fun zc1 => ?_) (fun zc1 => ?_)
  · refine g_iconst (v := 0) dX9_isComer_14 rfl ?_
    refine g_zret dX9_isComer_15 rfl (Or.inl rfl) ⟨_, rfl, ?_⟩
    exact kf (fun z => by
      simp only [isCo, Bool.and_eq_true, Bool.not_eq_true', decide_eq_false_iff_not] at z
      first | exact z.1 zc1 | exact z.2 zc7)
  · refine g_iload_n dX9_isComer_4 rfl ?_
    refine g_bipush (v := 100) dX9_isComer_5 rfl ?_
    refine g_icmp_ge (tgt := 14) dX9_isComer_7 (by decide) (fun zc7 => ?_) (fun zc7 => ?_)
    · refine g_iconst (v := 0) dX9_isComer_14 rfl ?_
      refine g_zret dX9_isComer_15 rfl (Or.inl rfl) ⟨_, rfl, ?_⟩
      exact kf (fun z => by
        simp only [isCo, Bool.and_eq_true, Bool.not_eq_true', decide_eq_false_iff_not] at z
        first | exact z.1 zc1 | exact z.2 zc7)
    · refine g_iconst (v := 1) dX9_isComer_10 rfl ?_
      refine g_goto (tgt := 15) dX9_isComer_11 (by decide) ?_
      refine g_zret dX9_isComer_15 rfl (Or.inr rfl) ⟨_, rfl, ?_⟩
      exact kt (by simp only [isCo, Bool.and_eq_true, Bool.not_eq_true', decide_eq_false_iff_not]; exact ⟨by simpa using zc1, by simpa using zc7⟩)
theorem c_X5_holdsNothing {d : Nat} {w : gx_W} {r a : Nat} {k : Int32 → gx_W → Prop} (hd : 0 ≤ d) (h : isSh w r a) (kt : w_i w r 1 = 0 → k 1 w) (kf : ¬ w_i w r 1 = 0 → k 0 w) : gx_C 0 0 d mX5_holdsNothing [.ref r] w (Qi k) := by
  refine gx_C_of' (L := [.ref r]) (by decide +kernel) rfl (Nat.le_of_ble_eq_true rfl) ?_
  refine g_aload_n dX5_holdsNothing_0 rfl ?_
  refine g_geti dX5_holdsNothing_1 fl_X5_15 h.1 ?_
  refine g_if_ne (tgt := 11) dX5_holdsNothing_4 (by decide) (fun zc4 => ?_) (fun zc4 => ?_)
  · refine g_iconst (v := 0) dX5_holdsNothing_11 rfl ?_
    refine g_zret dX5_holdsNothing_12 rfl (Or.inl rfl) ⟨_, rfl, ?_⟩
    exact kf (by simpa using zc4)
  · refine g_iconst (v := 1) dX5_holdsNothing_7 rfl ?_
    refine g_goto (tgt := 12) dX5_holdsNothing_8 (by decide) ?_
    refine g_zret dX5_holdsNothing_12 rfl (Or.inr rfl) ⟨_, rfl, ?_⟩
    exact kt (by simpa using zc4)
theorem c_X5_holdsRow {d : Nat} {w : gx_W} {r a : Nat} {k : Int32 → gx_W → Prop} (hd : 0 ≤ d) (h : isSh w r a) (kt : w_i w r 1 = 2 → k 1 w) (kf : ¬ w_i w r 1 = 2 → k 0 w) : gx_C 0 0 d mX5_holdsRow [.ref r] w (Qi k) := by
  refine gx_C_of' (L := [.ref r]) (by decide +kernel) rfl (Nat.le_of_ble_eq_true rfl) ?_
  refine g_aload_n dX5_holdsRow_0 rfl ?_
  refine g_geti dX5_holdsRow_1 fl_X5_15 h.1 ?_
  refine g_iconst (v := 2) dX5_holdsRow_4 rfl ?_
  refine g_icmp_ne (tgt := 12) dX5_holdsRow_5 (by decide) (fun zc5 => ?_) (fun zc5 => ?_)
  · refine g_iconst (v := 0) dX5_holdsRow_12 rfl ?_
    refine g_zret dX5_holdsRow_13 rfl (Or.inl rfl) ⟨_, rfl, ?_⟩
    exact kf (by simpa using zc5)
  · refine g_iconst (v := 1) dX5_holdsRow_8 rfl ?_
    refine g_goto (tgt := 13) dX5_holdsRow_9 (by decide) ?_
    refine g_zret dX5_holdsRow_13 rfl (Or.inr rfl) ⟨_, rfl, ?_⟩
    exact kt (by simpa using zc5)
theorem c_X5_holdsBytes {d : Nat} {w : gx_W} {r a : Nat} {k : Int32 → gx_W → Prop} (hd : 0 ≤ d) (h : isSh w r a) (kt : w_i w r 1 = 2 → w_i w r 3 = 0 → k 1 w) (kf : ¬ (w_i w r 1 = 2 ∧ w_i w r 3 = 0) → k 0 w) : gx_C 0 0 d mX5_holdsBytes [.ref r] w (Qi k) := by
  refine gx_C_of' (L := [.ref r]) (by decide +kernel) rfl (Nat.le_of_ble_eq_true rfl) ?_
  refine g_aload_n dX5_holdsBytes_0 rfl ?_
  refine g_geti dX5_holdsBytes_1 fl_X5_15 h.1 ?_
  refine g_iconst (v := 2) dX5_holdsBytes_4 rfl ?_
  refine g_icmp_ne (tgt := 19) dX5_holdsBytes_5 (by decide) (fun zc5 => ?_) (fun zc5 => ?_)
  · refine g_iconst (v := 0) dX5_holdsBytes_19 rfl ?_
    refine g_zret dX5_holdsBytes_20 rfl (Or.inl rfl) ⟨_, rfl, ?_⟩
    exact kf (fun q => by simp_all)
  · refine g_aload_n dX5_holdsBytes_8 rfl ?_
    refine g_geti dX5_holdsBytes_9 fl_X5_19 h.1 ?_
    refine g_if_ne (tgt := 19) dX5_holdsBytes_12 (by decide) (fun zc12 => ?_) (fun zc12 => ?_)
    · refine g_iconst (v := 0) dX5_holdsBytes_19 rfl ?_
      refine g_zret dX5_holdsBytes_20 rfl (Or.inl rfl) ⟨_, rfl, ?_⟩
      exact kf (fun q => by simp_all)
    · refine g_iconst (v := 1) dX5_holdsBytes_15 rfl ?_
      refine g_goto (tgt := 20) dX5_holdsBytes_16 (by decide) ?_
      refine g_zret dX5_holdsBytes_20 rfl (Or.inr rfl) ⟨_, rfl, ?_⟩
      exact kt (by simpa using zc5) (by simpa using zc12)
theorem c_X5_holdNothing {d : Nat} {w : gx_W} {r a : Nat} {k : gx_W → Prop} (hd : 0 ≤ d) (h : isSh w r a) (kk : k (s_i (s_i w r 1 0) r 4 0)) : gx_C 0 0 d mX5_holdNothing [.ref r] w (Qv k) := by
  refine gx_C_of' (L := [.ref r]) (by decide +kernel) rfl (Nat.le_of_ble_eq_true rfl) ?_
  refine g_aload_n dX5_holdNothing_0 rfl ?_
  refine g_iconst (v := 0) dX5_holdNothing_1 rfl ?_
  refine g_puti dX5_holdNothing_2 fl_X5_15 ft_5_1 h.1 ?_
  refine g_aload_n dX5_holdNothing_5 rfl ?_
  refine g_iconst (v := 0) dX5_holdNothing_6 rfl ?_
  refine g_puti dX5_holdNothing_7 fl_X5_22 ft_5_4 h.1 ?_
  refine g_vret dX5_holdNothing_10 rfl ⟨rfl, ?_⟩
  exact kk
theorem c_X5_holdBody {d : Nat} {w : gx_W} {r a : Nat} {v : Int32} {k : gx_W → Prop} (hd : 0 ≤ d) (h : isSh w r a) (kk : k (s_i (s_i (s_i w r 1 1) r 2 v) r 4 0)) : gx_C 0 0 d mX5_holdBody [.ref r, .int v] w (Qv k) := by
  refine gx_C_of' (L := [.ref r, .int v]) (by decide +kernel) rfl (Nat.le_of_ble_eq_true rfl) ?_
  refine g_aload_n dX5_holdBody_0 rfl ?_
  refine g_iconst (v := 1) dX5_holdBody_1 rfl ?_
  refine g_puti dX5_holdBody_2 fl_X5_15 ft_5_1 h.1 ?_
  refine g_aload_n dX5_holdBody_5 rfl ?_
  refine g_iload_n dX5_holdBody_6 rfl ?_
  refine g_puti dX5_holdBody_7 fl_X5_25 ft_5_2 h.1 ?_
  refine g_aload_n dX5_holdBody_10 rfl ?_
  refine g_iconst (v := 0) dX5_holdBody_11 rfl ?_
  refine g_puti dX5_holdBody_12 fl_X5_22 ft_5_4 h.1 ?_
  refine g_vret dX5_holdBody_15 rfl ⟨rfl, ?_⟩
  exact kk
theorem c_X5_hasRoom {d : Nat} {w : gx_W} {r a ln : Nat} {i n : Int32} {k : Int32 → gx_W → Prop} (hd : 0 ≤ d) (h : isSn w r a ln) (kt : ∀ x y : Nat, i = nI x → n = nI y → x + y ≤ ln → k 1 w) (kf : (∀ x y : Nat, x < 2 ^ 31 → y < 2 ^ 31 → i = nI x → n = nI y → ¬ x + y ≤ ln) → k 0 w) : gx_C 0 0 d mX5_hasRoom [.ref r, .int i, .int n] w (Qi k) := by
  refine gx_C_of' (L := [.ref r, .int i, .int n]) (by decide +kernel) rfl (Nat.le_of_ble_eq_true rfl) ?_
  refine g_iload_n dX5_hasRoom_0 rfl ?_
  refine g_if_lt (tgt := 22) dX5_hasRoom_1 (by decide) (fun zc1 => ?_) (fun zc1 => ?_)
  · refine g_iconst (v := 0) dX5_hasRoom_22 rfl ?_
    refine g_zret dX5_hasRoom_23 rfl (Or.inl rfl) ⟨_, rfl, ?_⟩
    refine kf (fun x y hx hy e1 e2 => ?_)
    first
      | (exfalso; rw [pI_lt, e1, nI_toInt hx] at zc1; have e0 : (0 : Int32).toInt = 0 := by decide
         omega)
      | (exfalso; rw [pI_lt, e2, nI_toInt hy] at zc5; have e0 : (0 : Int32).toInt = 0 := by decide
         omega)
      | (have zc1' : ¬ i < 0 := by simpa using zc1
         have zc5' : ¬ n < 0 := by simpa using zc5
         have zc15' : i > w_i w r 4 - n := zc15
         rw [h.2.1, sh_room h.2.2 zc1' zc5', e1, e2, nI_toInt hx, nI_toInt hy] at zc15'
         simpa using zc15')
  · refine g_iload_n dX5_hasRoom_4 rfl ?_
    refine g_if_lt (tgt := 22) dX5_hasRoom_5 (by decide) (fun zc5 => ?_) (fun zc5 => ?_)
    · refine g_iconst (v := 0) dX5_hasRoom_22 rfl ?_
      refine g_zret dX5_hasRoom_23 rfl (Or.inl rfl) ⟨_, rfl, ?_⟩
      refine kf (fun x y hx hy e1 e2 => ?_)
      first
        | (exfalso; rw [pI_lt, e1, nI_toInt hx] at zc1; have e0 : (0 : Int32).toInt = 0 := by decide
           omega)
        | (exfalso; rw [pI_lt, e2, nI_toInt hy] at zc5; have e0 : (0 : Int32).toInt = 0 := by decide
           omega)
        | (have zc1' : ¬ i < 0 := by simpa using zc1
           have zc5' : ¬ n < 0 := by simpa using zc5
           have zc15' : i > w_i w r 4 - n := zc15
           rw [h.2.1, sh_room h.2.2 zc1' zc5', e1, e2, nI_toInt hx, nI_toInt hy] at zc15'
           simpa using zc15')
    · refine g_iload_n dX5_hasRoom_8 rfl ?_
      refine g_aload_n dX5_hasRoom_9 rfl ?_
      refine g_geti dX5_hasRoom_10 fl_X5_22 h.1.1 ?_
      refine g_iload_n dX5_hasRoom_13 rfl ?_
      refine g_isub dX5_hasRoom_14 ?_
      refine g_icmp_gt (tgt := 22) dX5_hasRoom_15 (by decide) (fun zc15 => ?_) (fun zc15 => ?_)
      · refine g_iconst (v := 0) dX5_hasRoom_22 rfl ?_
        refine g_zret dX5_hasRoom_23 rfl (Or.inl rfl) ⟨_, rfl, ?_⟩
        refine kf (fun x y hx hy e1 e2 => ?_)
        first
          | (exfalso; rw [pI_lt, e1, nI_toInt hx] at zc1; have e0 : (0 : Int32).toInt = 0 := by decide
             omega)
          | (exfalso; rw [pI_lt, e2, nI_toInt hy] at zc5; have e0 : (0 : Int32).toInt = 0 := by decide
             omega)
          | (have zc1' : ¬ i < 0 := by simpa using zc1
             have zc5' : ¬ n < 0 := by simpa using zc5
             have zc15' : i > w_i w r 4 - n := zc15
             rw [h.2.1, sh_room h.2.2 zc1' zc5', e1, e2, nI_toInt hx, nI_toInt hy] at zc15'
             simpa using zc15')
      · refine g_iconst (v := 1) dX5_hasRoom_18 rfl ?_
        refine g_goto (tgt := 23) dX5_hasRoom_19 (by decide) ?_
        refine g_zret dX5_hasRoom_23 rfl (Or.inr rfl) ⟨_, rfl, ?_⟩
        have zc1' : ¬ i < 0 := by simpa using zc1
        have zc5' : ¬ n < 0 := by simpa using zc5
        have zc15' : ¬ i > w_i w r 4 - n := by simpa using zc15
        rw [h.2.1, sh_room h.2.2 zc1' zc5', Classical.not_not] at zc15'
        have e0 : (0 : Int32).toInt = 0 := by decide
        rw [pI_lt, e0] at zc1' zc5'
        exact kt _ _ (pI_nat (by omega)) (pI_nat (by omega)) zc15'
/-- room for m elements, m told -/
theorem c_X5_hasRoomN {d : Nat} {w : gx_W} {r a ln m : Nat} {i n : Int32} {k : Int32 → gx_W → Prop} (h : isSn w r a ln) (hm : m < 2 ^ 31) (hn : n = nI m) (kt : ∀ x : Nat, i = nI x → x + m ≤ ln → k 1 w) (kf : (∀ x : Nat, x < 2 ^ 31 → i = nI x → ¬ x + m ≤ ln) → k 0 w) : gx_C 0 0 d mX5_hasRoom [.ref r, .int i, .int n] w (Qi k) := by
  refine c_X5_hasRoom (Nat.zero_le _) h (fun x y h1 h2 h3 => ?_) (fun hno => ?_)
  · have h4 := h.2.2
    have e : y = m := by
      rw [hn] at h2
      exact (pI_inj hm (by omega) h2).symm
    exact kt x h1 (by omega)
  · exact kf (fun x hx e => hno x m hx hm e hn)
theorem c_X5_valueAt {d : Nat} {w : gx_W} {r a ln : Nat} {i : Int32} {k : Int64 → gx_W → Prop} (hd : 1 ≤ d) (h : isSn w r a ln) (kt : ∀ x : Nat, i = nI x → x < ln → k (w_l w a x) w) (kf : (∀ x : Nat, x < 2 ^ 31 → i = nI x → ¬ x < ln) → k 0 w) : gx_C 0 0 d mX5_valueAt [.ref r, .int i] w (Ql k) := by
  refine gx_C_of' (L := [.ref r, .int i]) (by decide +kernel) rfl (Nat.le_of_ble_eq_true rfl) ?_
  refine g_aload_n dX5_valueAt_0 rfl ?_
  refine g_iload_n dX5_valueAt_1 rfl ?_
  refine g_iconst (v := 1) dX5_valueAt_2 rfl ?_
  refine g_cV2i dX5_valueAt_3 ml_X5_43 mi_X5_hasRoom mv_X5_hasRoom h.1.1 ⟨_, rfl, rfl⟩ (Nat.le_of_ble_eq_true rfl) rfl (by omega) ?_
  refine c_X5_hasRoomN (m := 1) h (by decide) rfl (fun x hx hxl => ?_) (fun hno => ?_)
  · refine g_if_eq (tgt := 18) dX5_valueAt_6 (by decide) (fun q => absurd q (by decide)) (fun _ => ?_)
    refine g_aload_n dX5_valueAt_9 rfl ?_
    refine g_getr dX5_valueAt_10 fl_X5_9 h.1.1 h.1.2.1 ?_
    refine g_iload_n dX5_valueAt_13 rfl ?_
    refine g_lald dX5_valueAt_14 h.1.2.2 (by rw [hx]; exact vp_in_nI (by have := h.2.2; omega) (by omega)) ?_
    refine g_goto (tgt := 19) dX5_valueAt_15 (by decide) ?_
    refine g_lret dX5_valueAt_19 rfl ⟨_, rfl, ?_⟩
    rw [hx, nI_n (by have := h.2.2; omega)]
    exact kt x hx (by omega)
  · refine g_if_eq (tgt := 18) dX5_valueAt_6 (by decide) (fun _ => ?_) (fun q => absurd q (by decide))
    refine g_lconst (v := 0) dX5_valueAt_18 rfl ?_
    refine g_lret dX5_valueAt_19 rfl ⟨_, rfl, ?_⟩
    exact kf (fun x h1 h2 h3 => hno x h1 h2 (by omega))
theorem c_X5_small {d : Nat} {w : gx_W} {r a ln : Nat} {i : Int32} {k : Int32 → gx_W → Prop} (hd : 2 ≤ d) (h : isSn w r a ln) (kt : ∀ x : Nat, i = nI x → x < ln → k (w_l w a x).toInt32 w) (kf : (∀ x : Nat, x < 2 ^ 31 → i = nI x → ¬ x < ln) → k 0 w) : gx_C 0 0 d mX5_small [.ref r, .int i] w (Qi k) := by
  refine gx_C_of' (L := [.ref r, .int i]) (by decide +kernel) rfl (Nat.le_of_ble_eq_true rfl) ?_
  refine g_aload_n dX5_small_0 rfl ?_
  refine g_iload_n dX5_small_1 rfl ?_
  refine g_cV1l dX5_small_2 ml_X5_47 mi_X5_valueAt mv_X5_valueAt h.1.1 ⟨_, rfl, rfl⟩ (Nat.le_of_ble_eq_true rfl) rfl (by omega) ?_
  refine c_X5_valueAt (by omega) h (fun x hx hxl => ?_) (fun hno => ?_)
  · refine g_l2i dX5_small_5 ?_
    refine g_iret dX5_small_6 rfl ⟨_, rfl, ?_⟩
    first | exact kt x hx hxl | exact kf hno
  · refine g_l2i dX5_small_5 ?_
    refine g_iret dX5_small_6 rfl ⟨_, rfl, ?_⟩
    first | exact kt x hx hxl | exact kf hno
theorem c_X5_narrowed {d : Nat} {w : gx_W} {r a : Nat} {v : Int64} {k : Int64 → gx_W → Prop} (hd : 0 ≤ d) (h : isSh w r a) (kk : k (sh_nar (w_i w r 3) v) w) : gx_C 0 0 d mX5_narrowed [.ref r, .long v] w (Ql k) := by
  refine gx_C_of' (L := [.ref r, .long v, .retAddr 0]) (by decide +kernel) rfl (Nat.le_of_ble_eq_true rfl) ?_
  refine g_aload_n dX5_narrowed_0 rfl ?_
  refine g_geti dX5_narrowed_1 fl_X5_19 h.1 ?_
  by_cases s4_0 : w_i w r 3 = 0
  · refine g_tableIn (off := 32) (tgt := 36) dX5_narrowed_4 (by rw [s4_0]; decide) (by rw [s4_0]; decide) (by rw [s4_0]; rfl) (by decide) ?_
    refine g_lload_n dX5_narrowed_36 rfl ?_
    refine g_l2i dX5_narrowed_37 ?_
    refine g_i2b dX5_narrowed_38 ?_
    refine g_i2l dX5_narrowed_39 ?_
    refine g_lret dX5_narrowed_40 rfl ⟨_, rfl, ?_⟩
    unfold sh_nar at kk
    first | (simp only [s4_0, s4_1, s4_2, s4_3, lg_cmp_eq, if_true, if_false] at *; first | exact kk | (simp_all; done)) | (simp_all [lg_cmp_eq]; done)
  by_cases s4_1 : w_i w r 3 = 1
  · refine g_tableIn (off := 37) (tgt := 41) dX5_narrowed_4 (by rw [s4_1]; decide) (by rw [s4_1]; decide) (by rw [s4_1]; rfl) (by decide) ?_
    refine g_lload_n dX5_narrowed_41 rfl ?_
    refine g_l2i dX5_narrowed_42 ?_
    refine g_i2s dX5_narrowed_43 ?_
    refine g_i2l dX5_narrowed_44 ?_
    refine g_lret dX5_narrowed_45 rfl ⟨_, rfl, ?_⟩
    unfold sh_nar at kk
    first | (simp only [s4_0, s4_1, s4_2, s4_3, lg_cmp_eq, if_true, if_false] at *; first | exact kk | (simp_all; done)) | (simp_all [lg_cmp_eq]; done)
  by_cases s4_2 : w_i w r 3 = 2
  · refine g_tableIn (off := 42) (tgt := 46) dX5_narrowed_4 (by rw [s4_2]; decide) (by rw [s4_2]; decide) (by rw [s4_2]; rfl) (by decide) ?_
    refine g_lload_n dX5_narrowed_46 rfl ?_
    refine g_l2i dX5_narrowed_47 ?_
    refine g_i2l dX5_narrowed_48 ?_
    refine g_lret dX5_narrowed_49 rfl ⟨_, rfl, ?_⟩
    unfold sh_nar at kk
    first | (simp only [s4_0, s4_1, s4_2, s4_3, lg_cmp_eq, if_true, if_false] at *; first | exact kk | (simp_all; done)) | (simp_all [lg_cmp_eq]; done)
  by_cases s4_3 : w_i w r 3 = 3
  · refine g_tableIn (off := 46) (tgt := 50) dX5_narrowed_4 (by rw [s4_3]; decide) (by rw [s4_3]; decide) (by rw [s4_3]; rfl) (by decide) ?_
    refine g_lload_n dX5_narrowed_50 rfl ?_
    refine g_lret dX5_narrowed_51 rfl ⟨_, rfl, ?_⟩
    unfold sh_nar at kk
    first | (simp only [s4_0, s4_1, s4_2, s4_3, lg_cmp_eq, if_true, if_false] at *; first | exact kk | (simp_all; done)) | (simp_all [lg_cmp_eq]; done)
  refine g_tableOut (tgt := 52) dX5_narrowed_4 (by have z0 := lv_neT s4_0 (a := 0) (by decide); have z1 := lv_neT s4_1 (a := 1) (by decide); have z2 := lv_neT s4_2 (a := 2) (by decide); have z3 := lv_neT s4_3 (a := 3) (by decide); omega) (by decide) ?_
  refine g_lload_n dX5_narrowed_52 rfl ?_
  refine g_lconst (v := 0) dX5_narrowed_53 rfl ?_
  refine g_lcmp dX5_narrowed_54 ?_
  refine g_if_eq (tgt := 62) dX5_narrowed_55 (by decide) (fun zc55 => ?_) (fun zc55 => ?_)
  · refine g_lconst (v := 0) dX5_narrowed_62 rfl ?_
    refine g_lret dX5_narrowed_63 rfl ⟨_, rfl, ?_⟩
    unfold sh_nar at kk
    first | (simp only [s4_0, s4_1, s4_2, s4_3, lg_cmp_eq, if_true, if_false] at *; first | exact kk | (simp_all; done)) | (simp_all [lg_cmp_eq]; done)
  · refine g_lconst (v := 1) dX5_narrowed_58 rfl ?_
    refine g_goto (tgt := 63) dX5_narrowed_59 (by decide) ?_
    refine g_lret dX5_narrowed_63 rfl ⟨_, rfl, ?_⟩
    unfold sh_nar at kk
    first | (simp only [s4_0, s4_1, s4_2, s4_3, lg_cmp_eq, if_true, if_false] at *; first | exact kk | (simp_all; done)) | (simp_all [lg_cmp_eq]; done)
theorem c_X5_write {d : Nat} {w : gx_W} {r a ln : Nat} {i : Int32} {v : Int64} {k : gx_W → Prop} (hd : 1 ≤ d) (h : isSn w r a ln) (kt : ∀ x : Nat, i = nI x → x < ln → k (s_l w a (va_up (w_l w a) x (sh_nar (w_i w r 3) v)))) (kf : (∀ x : Nat, x < 2 ^ 31 → i = nI x → ¬ x < ln) → k w) : gx_C 0 0 d mX5_write [.ref r, .int i, .long v] w (Qv k) := by
  refine gx_C_of' (L := [.ref r, .int i, .long v, .retAddr 0]) (by decide +kernel) rfl (Nat.le_of_ble_eq_true rfl) ?_
  refine g_aload_n dX5_write_0 rfl ?_
  refine g_iload_n dX5_write_1 rfl ?_
  refine g_iconst (v := 1) dX5_write_2 rfl ?_
  refine g_cV2i dX5_write_3 ml_X5_43 mi_X5_hasRoom mv_X5_hasRoom h.1.1 ⟨_, rfl, rfl⟩ (Nat.le_of_ble_eq_true rfl) rfl (by omega) ?_
  refine c_X5_hasRoomN (m := 1) h (by decide) rfl (fun x hx hxl => ?_) (fun hno => ?_)
  · refine g_if_eq (tgt := 20) dX5_write_6 (by decide) (fun q => absurd q (by decide)) (fun _ => ?_)
    refine g_aload_n dX5_write_9 rfl ?_
    refine g_getr dX5_write_10 fl_X5_9 h.1.1 h.1.2.1 ?_
    refine g_iload_n dX5_write_13 rfl ?_
    refine g_aload_n dX5_write_14 rfl ?_
    refine g_lload_n dX5_write_15 rfl ?_
    refine g_cV1l dX5_write_16 ml_X5_51 mi_X5_narrowed mv_X5_narrowed h.1.1 ⟨_, rfl, rfl⟩ (Nat.le_of_ble_eq_true rfl) rfl (by omega) ?_
    refine c_X5_narrowed (by omega) h.1 ?_
    refine g_last dX5_write_19 h.1.2.2 (by rw [hx]; exact vp_in_nI (by have := h.2.2; omega) (by omega)) ?_
    refine g_vret dX5_write_20 rfl ⟨rfl, ?_⟩
    first | exact kf (fun x h1 h2 h3 => hno x h1 h2 (by omega)) | (rw [hx, nI_n (by have := h.2.2; omega)]; exact kt x hx (by omega))
  · refine g_if_eq (tgt := 20) dX5_write_6 (by decide) (fun _ => ?_) (fun q => absurd q (by decide))
    refine g_vret dX5_write_20 rfl ⟨rfl, ?_⟩
    first | exact kf (fun x h1 h2 h3 => hno x h1 h2 (by omega)) | (rw [hx, nI_n (by have := h.2.2; omega)]; exact kt x hx (by omega))
theorem l_J7_fill_d0a16 {d a N : Nat} {v : Int64} {w : gx_W} {k : gx_W → Prop} (hN : N < 2 ^ 31) (ha : w.1[a]? = some (23, N)) (kk : k (s_l w a (fun j => if j < N then v else w_l w a j))) : ∀ m i : Nat, i + m = N → gx_G 0 0 d mJ7_fill_d0a16 (Qv k) 6 [.ref a, .long v, .retAddr 0, .int (nI i), .int (nI N)] [] (s_l w a (fun j => if j < i then v else w_l w a j)) := by
  intro m
  induction m with
  | zero =>
    intro i hi
    have e : i = N := by omega
    subst e
    refine g_iload_n dJ7_fill_d0a16_6 rfl ?_
    refine g_iload dJ7_fill_d0a16_7 rfl ?_
    refine g_icmp_ge (tgt := 22) dJ7_fill_d0a16_9 (by decide) (fun _ => ?_) (fun z => absurd (Int32.le_refl _) z)
    exact g_vret dJ7_fill_d0a16_22 rfl ⟨rfl, kk⟩
  | succ m ih =>
    intro i hi
    have hlt : i < N := by omega
    refine g_iload_n dJ7_fill_d0a16_6 rfl ?_
    refine g_iload dJ7_fill_d0a16_7 rfl ?_
    refine g_icmp_ge (tgt := 22) dJ7_fill_d0a16_9 (by decide) (fun zc9 => ?_) (fun zc9 => ?_)
    · refine g_vret dJ7_fill_d0a16_22 rfl ⟨rfl, ?_⟩
      exact absurd (show nI i ≥ nI N from zc9) (nI_ge hlt hN)
    · refine g_aload_n dJ7_fill_d0a16_12 rfl ?_
      refine g_iload_n dJ7_fill_d0a16_13 rfl ?_
      refine g_lload_n dJ7_fill_d0a16_14 rfl ?_
      refine g_last dJ7_fill_d0a16_15 ha (vp_in_nI hlt hN) ?_
      refine g_iinc dJ7_fill_d0a16_16 rfl rfl ?_
      refine g_goto (tgt := 6) dJ7_fill_d0a16_19 (by decide) ?_
      rw [nI_n (by omega), s_l_l, nI_1']
      show gx_G 0 0 d mJ7_fill_d0a16 (Qv k) 6 _ [] (s_l w a (va_up (va_up (w.2.2.2.2.1) a (fun j => if j < i then v else w_l w a j) a) i v))
      rw [va_up_at, sh_fill]
      exact ih (i + 1) (by omega)
theorem c_J7_fill_d0a16 {d : Nat} {w : gx_W} {a N : Nat} {v : Int64} {k : gx_W → Prop} (hd : 0 ≤ d) (hN : N < 2 ^ 31) (ha : w.1[a]? = some (23, N)) (kk : k (s_l w a (fun j => if j < N then v else w_l w a j))) : gx_C 0 0 d mJ7_fill_d0a16 [.ref a, .long v] w (Qv k) := by
  refine gx_C_ofF (L := [.ref a, .long v, .retAddr 0, .retAddr 0, .retAddr 0]) (by decide +kernel) rfl (Nat.le_of_ble_eq_true rfl) ?_
  refine g_iconst (v := 0) dJ7_fill_d0a16_0 rfl ?_
  refine g_istore_n dJ7_fill_d0a16_1 (Nat.le_of_ble_eq_true rfl) rfl ?_
  refine g_aload_n dJ7_fill_d0a16_2 rfl ?_
  refine g_alen dJ7_fill_d0a16_3 ha (by decide) ?_
  refine g_istore dJ7_fill_d0a16_4 (Nat.le_of_ble_eq_true rfl) rfl ?_
  have e0 : w = s_l w a (fun j => if j < 0 then v else w_l w a j) := by
    show w = (w.1, w.2.1, w.2.2.1, w.2.2.2.1, va_up w.2.2.2.2.1 a (fun j => if j < 0 then v else w_l w a j), w.2.2.2.2.2)
    have e1 : va_up w.2.2.2.2.1 a (fun j => if j < 0 then v else w_l w a j) = w.2.2.2.2.1 := by
      funext q
      by_cases h : q = a
      · subst h; rw [va_up_at]; funext j; rw [if_neg (by omega)]; rfl
      · rw [va_up_row h]
    rw [e1]
  have K := l_J7_fill_d0a16 (d := d) hN ha kk N 0 (by omega)
  rw [← e0] at K
  exact K
theorem l_J7_fill_53178 {d a N : Nat} {v : Int32} {w : gx_W} {k : gx_W → Prop} (hN : N < 2 ^ 31) (ha : w.1[a]? = some (20, N)) (kk : k (s_a w a (fun j => if j < N then v else w_a w a j))) : ∀ m i : Nat, i + m = N → gx_G 0 0 d mJ7_fill_53178 (Qv k) 5 [.ref a, .int v, .int (nI i), .int (nI N)] [] (s_a w a (fun j => if j < i then v else w_a w a j)) := by
  intro m
  induction m with
  | zero =>
    intro i hi
    have e : i = N := by omega
    subst e
    refine g_iload_n dJ7_fill_53178_5 rfl ?_
    refine g_iload_n dJ7_fill_53178_6 rfl ?_
    refine g_icmp_ge (tgt := 20) dJ7_fill_53178_7 (by decide) (fun _ => ?_) (fun z => absurd (Int32.le_refl _) z)
    exact g_vret dJ7_fill_53178_20 rfl ⟨rfl, kk⟩
  | succ m ih =>
    intro i hi
    have hlt : i < N := by omega
    refine g_iload_n dJ7_fill_53178_5 rfl ?_
    refine g_iload_n dJ7_fill_53178_6 rfl ?_
    refine g_icmp_ge (tgt := 20) dJ7_fill_53178_7 (by decide) (fun zc7 => ?_) (fun zc7 => ?_)
    · refine g_vret dJ7_fill_53178_20 rfl ⟨rfl, ?_⟩
      exact absurd (show nI i ≥ nI N from zc7) (nI_ge hlt hN)
    · refine g_aload_n dJ7_fill_53178_10 rfl ?_
      refine g_iload_n dJ7_fill_53178_11 rfl ?_
      refine g_iload_n dJ7_fill_53178_12 rfl ?_
      refine g_iast dJ7_fill_53178_13 ha (vp_in_nI hlt hN) ?_
      refine g_iinc dJ7_fill_53178_14 rfl rfl ?_
      refine g_goto (tgt := 5) dJ7_fill_53178_17 (by decide) ?_
      rw [nI_n (by omega), s_a_a, nI_1']
      show gx_G 0 0 d mJ7_fill_53178 (Qv k) 5 _ [] (s_a w a (va_up (va_up (w.2.2.2.1) a (fun j => if j < i then v else w_a w a j) a) i v))
      rw [va_up_at, sh_fill]
      exact ih (i + 1) (by omega)
theorem c_J7_fill_53178 {d : Nat} {w : gx_W} {a N : Nat} {v : Int32} {k : gx_W → Prop} (hd : 0 ≤ d) (hN : N < 2 ^ 31) (ha : w.1[a]? = some (20, N)) (kk : k (s_a w a (fun j => if j < N then v else w_a w a j))) : gx_C 0 0 d mJ7_fill_53178 [.ref a, .int v] w (Qv k) := by
  refine gx_C_ofF (L := [.ref a, .int v, .retAddr 0, .retAddr 0]) (by decide +kernel) rfl (Nat.le_of_ble_eq_true rfl) ?_
  refine g_iconst (v := 0) dJ7_fill_53178_0 rfl ?_
  refine g_istore_n dJ7_fill_53178_1 (Nat.le_of_ble_eq_true rfl) rfl ?_
  refine g_aload_n dJ7_fill_53178_2 rfl ?_
  refine g_alen dJ7_fill_53178_3 ha (by decide) ?_
  refine g_istore_n dJ7_fill_53178_4 (Nat.le_of_ble_eq_true rfl) rfl ?_
  have e0 : w = s_a w a (fun j => if j < 0 then v else w_a w a j) := by
    show w = (w.1, w.2.1, w.2.2.1, va_up w.2.2.2.1 a (fun j => if j < 0 then v else w_a w a j), w.2.2.2.2)
    have e1 : va_up w.2.2.2.1 a (fun j => if j < 0 then v else w_a w a j) = w.2.2.2.1 := by
      funext q
      by_cases h : q = a
      · subst h; rw [va_up_at]; funext j; rw [if_neg (by omega)]; rfl
      · rw [va_up_row h]
    rw [e1]
  have K := l_J7_fill_53178 (d := d) hN ha kk N 0 (by omega)
  rw [← e0] at K
  exact K
theorem c_X5_holdRow {d : Nat} {w : gx_W} {r a m : Nat} {of : Int32} {k : gx_W → Prop} (hd : 1 ≤ d) (h : isSh w r a) (hm : m ≤ 60) (kk : k (s_l (s_i (s_i (s_i w r 1 2) r 3 of) r 4 (nI m)) a (fun j => if j < 60 then 0 else w_l w a j))) : gx_C 0 0 d mX5_holdRow [.ref r, .int of, .int (nI m)] w (Qv k) := by
  refine gx_C_of' (L := [.ref r, .int of, .int (nI m)]) (by decide +kernel) rfl (Nat.le_of_ble_eq_true rfl) ?_
  refine g_aload_n dX5_holdRow_0 rfl ?_
  refine g_iconst (v := 2) dX5_holdRow_1 rfl ?_
  refine g_puti dX5_holdRow_2 fl_X5_15 ft_5_1 h.1 ?_
  refine g_aload_n dX5_holdRow_5 rfl ?_
  refine g_iload_n dX5_holdRow_6 rfl ?_
  refine g_puti dX5_holdRow_7 fl_X5_19 ft_5_3 h.1 ?_
  refine g_aload_n dX5_holdRow_10 rfl ?_
  refine g_iconst (v := 0) dX5_holdRow_11 rfl ?_
  refine g_iload_n dX5_holdRow_12 rfl ?_
  refine g_bipush (v := 60) dX5_holdRow_13 rfl ?_
  refine g_cS2i dX5_holdRow_15 ml_X5_28 mi_J9_min_7cf53 ms_J9_min_7cf53 (Nat.le_of_ble_eq_true rfl) rfl (by omega) ?_
  refine c_J9_min_7cf53 (by omega) ?_
  refine g_cS2i dX5_holdRow_18 ml_X5_34 mi_J9_max_7cf53 ms_J9_max_7cf53 (Nat.le_of_ble_eq_true rfl) rfl (by omega) ?_
  refine c_J9_max_7cf53 (by omega) ?_
  rw [sh_clamp hm]
  refine g_puti dX5_holdRow_21 fl_X5_22 ft_5_4 h.1 ?_
  refine g_aload_n dX5_holdRow_24 rfl ?_
  refine g_getr dX5_holdRow_25 fl_X5_9 h.1 h.2.1 ?_
  refine g_lconst (v := 0) dX5_holdRow_28 rfl ?_
  refine g_cS2v dX5_holdRow_29 ml_X5_37 mi_J7_fill_d0a16 ms_J7_fill_d0a16 (Nat.le_of_ble_eq_true rfl) rfl (by omega) ?_
  refine c_J7_fill_d0a16 (by omega) (by decide) h.2.2 ?_
  refine g_vret dX5_holdRow_32 rfl ⟨rfl, ?_⟩
  exact kk
theorem l_X5_comers {d r a ln m : Nat} (hd : 3 ≤ d) {w : gx_W} {k : Int32 → gx_W → Prop} (h : isSn w r a ln) (hm : m ≤ 60) (kk : k (nI (sh_com (fun j => isCo (w_l w a j).toInt32) (min m ln))) w) : ∀ z i : Nat, i + z = 61 → i ≤ min m ln → (∀ j, j < i → isCo (w_l w a j).toInt32 = true) → gx_G 0 0 d mX5_comers (Qi k) 2 [.ref r, .int (nI m), .int (nI i)] [] w := by
  intro z
  induction z with
  | zero => intro i hi hle; omega
  | succ z ih =>
    intro i hi hle hall
    have hb := h.2.2
    refine g_iload_n dX5_comers_2 rfl ?_
    refine g_iload_n dX5_comers_3 rfl ?_
    refine g_icmp_ge (tgt := 33) dX5_comers_4 (by decide) (fun zc4 => ?_) (fun zc4 => ?_)
    · refine g_iload_n dX5_comers_33 rfl ?_
      refine g_iret dX5_comers_34 rfl ⟨_, rfl, ?_⟩
      first
        | (have hge : m ≤ i := by
             have zc4' : nI i ≥ nI m := zc4
             rw [pI_ge, nI_toInt (by omega), nI_toInt (by omega)] at zc4'
             omega
           have e : i = min m ln := by omega
           rw [sh_com_all _ _ (fun j hj => hall j (by omega)), ← e] at kk
           exact kk)
        | (have hge : ln ≤ i := by
             have := hno i (by omega) rfl
             omega
           have e : i = min m ln := by omega
           rw [sh_com_all _ _ (fun j hj => hall j (by omega)), ← e] at kk
           exact kk)
        | (exfalso; exact hno i (by omega) rfl (by have := pI_inj (a := i) (b := x) (by omega) (by omega) hx; omega))
        | (have ex := pI_inj (a := i) (b := x) (by omega) (by omega) hx
           have ey := pI_inj (a := i) (b := y) (by omega) (by omega) hy
           subst ex
           subst ey
           have hlt : nI i < nI m := by simpa using zc4
           have hlt2 : i < m := by
             rw [pI_lt, nI_toInt (by omega), nI_toInt (by omega)] at hlt
             omega
           rw [sh_com_at _ (min m ln) i (by omega) hall hc] at kk
           exact kk)
    · refine g_aload_n dX5_comers_7 rfl ?_
      refine g_iload_n dX5_comers_8 rfl ?_
      refine g_iconst (v := 1) dX5_comers_9 rfl ?_
      refine g_cV2i dX5_comers_10 ml_X5_43 mi_X5_hasRoom mv_X5_hasRoom h.1.1 ⟨_, rfl, rfl⟩ (Nat.le_of_ble_eq_true rfl) rfl (by omega) ?_
      refine c_X5_hasRoomN (m := 1) h (by decide) rfl (fun x hx hxl => ?_) (fun hno => ?_)
      · refine g_if_eq (tgt := 33) dX5_comers_13 (by decide) (fun q => absurd q (by decide)) (fun _ => ?_)
        refine g_aload_n dX5_comers_16 rfl ?_
        refine g_iload_n dX5_comers_17 rfl ?_
        refine g_cV1i dX5_comers_18 ml_X5_55 mi_X5_small mv_X5_small h.1.1 ⟨_, rfl, rfl⟩ (Nat.le_of_ble_eq_true rfl) rfl (by omega) ?_
        refine c_X5_small (by omega) h (fun y hy hyl => ?_) (fun hno => ?_)
        · refine g_cS1i dX5_comers_21 ml_X5_59 mi_X9_isComer ms_X9_isComer (Nat.le_of_ble_eq_true rfl) rfl (by omega) ?_
          refine c_X9_isComer (by omega) (fun hc => ?_) (fun hc => ?_)
          · refine g_if_eq (tgt := 33) dX5_comers_24 (by decide) (fun q => absurd q (by decide)) (fun _ => ?_)
            refine g_iinc dX5_comers_27 rfl rfl ?_
            refine g_goto (tgt := 2) dX5_comers_30 (by decide) ?_
            first
              | (exfalso; exact hno i (by omega) rfl (by have := pI_inj (by omega) (by omega) hx; omega))
              | (have ex := pI_inj (a := i) (b := x) (by omega) (by omega) hx
                 have ey := pI_inj (a := i) (b := y) (by omega) (by omega) hy
                 subst ex
                 subst ey
                 rw [nI_1']
                 have hlt : nI i < nI m := by simpa using zc4
                 have hlt2 : i < m := by
                   rw [pI_lt, nI_toInt (by omega), nI_toInt (by omega)] at hlt
                   omega
                 refine ih (i + 1) (by omega) (by omega) (fun j hj => ?_)
                 by_cases e : j = i
                 · subst e; exact hc
                 · exact hall j (by omega))
          · refine g_if_eq (tgt := 33) dX5_comers_24 (by decide) (fun _ => ?_) (fun q => absurd q (by decide))
            refine g_iload_n dX5_comers_33 rfl ?_
            refine g_iret dX5_comers_34 rfl ⟨_, rfl, ?_⟩
            first
              | (have hge : m ≤ i := by
                   have zc4' : nI i ≥ nI m := zc4
                   rw [pI_ge, nI_toInt (by omega), nI_toInt (by omega)] at zc4'
                   omega
                 have e : i = min m ln := by omega
                 rw [sh_com_all _ _ (fun j hj => hall j (by omega)), ← e] at kk
                 exact kk)
              | (have hge : ln ≤ i := by
                   have := hno i (by omega) rfl
                   omega
                 have e : i = min m ln := by omega
                 rw [sh_com_all _ _ (fun j hj => hall j (by omega)), ← e] at kk
                 exact kk)
              | (exfalso; exact hno i (by omega) rfl (by have := pI_inj (a := i) (b := x) (by omega) (by omega) hx; omega))
              | (have ex := pI_inj (a := i) (b := x) (by omega) (by omega) hx
                 have ey := pI_inj (a := i) (b := y) (by omega) (by omega) hy
                 subst ex
                 subst ey
                 have hlt : nI i < nI m := by simpa using zc4
                 have hlt2 : i < m := by
                   rw [pI_lt, nI_toInt (by omega), nI_toInt (by omega)] at hlt
                   omega
                 rw [sh_com_at _ (min m ln) i (by omega) hall hc] at kk
                 exact kk)
        · refine g_cS1i dX5_comers_21 ml_X5_59 mi_X9_isComer ms_X9_isComer (Nat.le_of_ble_eq_true rfl) rfl (by omega) ?_
          refine c_X9_isComer (by omega) (fun hc => ?_) (fun hc => ?_)
          · refine g_if_eq (tgt := 33) dX5_comers_24 (by decide) (fun q => absurd q (by decide)) (fun _ => ?_)
            refine g_iinc dX5_comers_27 rfl rfl ?_
            refine g_goto (tgt := 2) dX5_comers_30 (by decide) ?_
            first
              | (exfalso; exact hno i (by omega) rfl (by have := pI_inj (by omega) (by omega) hx; omega))
              | (have ex := pI_inj (a := i) (b := x) (by omega) (by omega) hx
                 have ey := pI_inj (a := i) (b := y) (by omega) (by omega) hy
                 subst ex
                 subst ey
                 rw [nI_1']
                 have hlt : nI i < nI m := by simpa using zc4
                 have hlt2 : i < m := by
                   rw [pI_lt, nI_toInt (by omega), nI_toInt (by omega)] at hlt
                   omega
                 refine ih (i + 1) (by omega) (by omega) (fun j hj => ?_)
                 by_cases e : j = i
                 · subst e; exact hc
                 · exact hall j (by omega))
          · refine g_if_eq (tgt := 33) dX5_comers_24 (by decide) (fun _ => ?_) (fun q => absurd q (by decide))
            refine g_iload_n dX5_comers_33 rfl ?_
            refine g_iret dX5_comers_34 rfl ⟨_, rfl, ?_⟩
            first
              | (have hge : m ≤ i := by
                   have zc4' : nI i ≥ nI m := zc4
                   rw [pI_ge, nI_toInt (by omega), nI_toInt (by omega)] at zc4'
                   omega
                 have e : i = min m ln := by omega
                 rw [sh_com_all _ _ (fun j hj => hall j (by omega)), ← e] at kk
                 exact kk)
              | (have hge : ln ≤ i := by
                   have := hno i (by omega) rfl
                   omega
                 have e : i = min m ln := by omega
                 rw [sh_com_all _ _ (fun j hj => hall j (by omega)), ← e] at kk
                 exact kk)
              | (exfalso; exact hno i (by omega) rfl (by have := pI_inj (a := i) (b := x) (by omega) (by omega) hx; omega))
              | (have ex := pI_inj (a := i) (b := x) (by omega) (by omega) hx
                 have ey := pI_inj (a := i) (b := y) (by omega) (by omega) hy
                 subst ex
                 subst ey
                 have hlt : nI i < nI m := by simpa using zc4
                 have hlt2 : i < m := by
                   rw [pI_lt, nI_toInt (by omega), nI_toInt (by omega)] at hlt
                   omega
                 rw [sh_com_at _ (min m ln) i (by omega) hall hc] at kk
                 exact kk)
      · refine g_if_eq (tgt := 33) dX5_comers_13 (by decide) (fun _ => ?_) (fun q => absurd q (by decide))
        refine g_iload_n dX5_comers_33 rfl ?_
        refine g_iret dX5_comers_34 rfl ⟨_, rfl, ?_⟩
        first
          | (have hge : m ≤ i := by
               have zc4' : nI i ≥ nI m := zc4
               rw [pI_ge, nI_toInt (by omega), nI_toInt (by omega)] at zc4'
               omega
             have e : i = min m ln := by omega
             rw [sh_com_all _ _ (fun j hj => hall j (by omega)), ← e] at kk
             exact kk)
          | (have hge : ln ≤ i := by
               have := hno i (by omega) rfl
               omega
             have e : i = min m ln := by omega
             rw [sh_com_all _ _ (fun j hj => hall j (by omega)), ← e] at kk
             exact kk)
          | (exfalso; exact hno i (by omega) rfl (by have := pI_inj (a := i) (b := x) (by omega) (by omega) hx; omega))
          | (have ex := pI_inj (a := i) (b := x) (by omega) (by omega) hx
             have ey := pI_inj (a := i) (b := y) (by omega) (by omega) hy
             subst ex
             subst ey
             have hlt : nI i < nI m := by simpa using zc4
             have hlt2 : i < m := by
               rw [pI_lt, nI_toInt (by omega), nI_toInt (by omega)] at hlt
               omega
             rw [sh_com_at _ (min m ln) i (by omega) hall hc] at kk
             exact kk)
theorem c_X5_comers {d : Nat} {w : gx_W} {r a ln m : Nat} {k : Int32 → gx_W → Prop} (hd : 3 ≤ d) (h : isSn w r a ln) (hm : m ≤ 60) (kk : k (nI (sh_com (fun j => isCo (w_l w a j).toInt32) (min m ln))) w) : gx_C 0 0 d mX5_comers [.ref r, .int (nI m)] w (Qi k) := by
  refine gx_C_of' (L := [.ref r, .int (nI m), .retAddr 0]) (by decide +kernel) rfl (Nat.le_of_ble_eq_true rfl) ?_
  refine g_iconst (v := 0) dX5_comers_0 rfl ?_
  refine g_istore_n dX5_comers_1 (Nat.le_of_ble_eq_true rfl) rfl ?_
  exact l_X5_comers hd h hm kk 61 0 (by omega) (by omega) (fun j hj => by omega)
end
section
/-! Law: steps on a stack -/
theorem dX4_init_0 : gx_d mX4_init 0 (.aload_n 0) 1 := gx_dk (by decide +kernel)
theorem dX4_init_1 : gx_d mX4_init 1 (.invokespecial 1) 3 := gx_dk (by decide +kernel)
theorem dX4_init_4 : gx_d mX4_init 4 (.aload_n 0) 1 := gx_dk (by decide +kernel)
theorem dX4_init_5 : gx_d mX4_init 5 (.sipush 128) 3 := gx_dk (by decide +kernel)
theorem dX4_init_8 : gx_d mX4_init 8 (.newarray .int) 2 := gx_dk (by decide +kernel)
theorem dX4_init_10 : gx_d mX4_init 10 (.putfield 9) 3 := gx_dk (by decide +kernel)
theorem dX4_init_13 : gx_d mX4_init 13 (.aload_n 0) 1 := gx_dk (by decide +kernel)
theorem dX4_init_14 : gx_d mX4_init 14 (.sipush 128) 3 := gx_dk (by decide +kernel)
theorem dX4_init_17 : gx_d mX4_init 17 (.newarray .int) 2 := gx_dk (by decide +kernel)
theorem dX4_init_19 : gx_d mX4_init 19 (.putfield 13) 3 := gx_dk (by decide +kernel)
theorem dX4_init_22 : gx_d mX4_init 22 (.aload_n 0) 1 := gx_dk (by decide +kernel)
theorem dX4_init_23 : gx_d mX4_init 23 (.bipush 64) 2 := gx_dk (by decide +kernel)
theorem dX4_init_25 : gx_d mX4_init 25 (.newarray .int) 2 := gx_dk (by decide +kernel)
theorem dX4_init_27 : gx_d mX4_init 27 (.putfield 16) 3 := gx_dk (by decide +kernel)
theorem dX4_init_30 : gx_d mX4_init 30 (.aload_n 0) 1 := gx_dk (by decide +kernel)
theorem dX4_init_31 : gx_d mX4_init 31 (.bipush 6) 2 := gx_dk (by decide +kernel)
theorem dX4_init_33 : gx_d mX4_init 33 (.newarray .int) 2 := gx_dk (by decide +kernel)
theorem dX4_init_35 : gx_d mX4_init 35 (.putfield 19) 3 := gx_dk (by decide +kernel)
theorem dX4_init_38 : gx_d mX4_init 38 (.return_) 1 := gx_dk (by decide +kernel)
theorem dX4_isTold_0 : gx_d mX4_isTold 0 (.aload_n 0) 1 := gx_dk (by decide +kernel)
theorem dX4_isTold_1 : gx_d mX4_isTold 1 (.getfield 22) 3 := gx_dk (by decide +kernel)
theorem dX4_isTold_4 : gx_d mX4_isTold 4 (.ifCond .le 7) 3 := gx_dk (by decide +kernel)
theorem dX4_isTold_7 : gx_d mX4_isTold 7 (.iconst 1) 1 := gx_dk (by decide +kernel)
theorem dX4_isTold_8 : gx_d mX4_isTold 8 (.goto 4) 3 := gx_dk (by decide +kernel)
theorem dX4_isTold_11 : gx_d mX4_isTold 11 (.iconst 0) 1 := gx_dk (by decide +kernel)
theorem dX4_isTold_12 : gx_d mX4_isTold 12 (.ireturn) 1 := gx_dk (by decide +kernel)
theorem dX4_clear_0 : gx_d mX4_clear 0 (.aload_n 0) 1 := gx_dk (by decide +kernel)
theorem dX4_clear_1 : gx_d mX4_clear 1 (.iconst 0) 1 := gx_dk (by decide +kernel)
theorem dX4_clear_2 : gx_d mX4_clear 2 (.putfield 22) 3 := gx_dk (by decide +kernel)
theorem dX4_clear_5 : gx_d mX4_clear 5 (.return_) 1 := gx_dk (by decide +kernel)
theorem dX4_add_0 : gx_d mX4_add 0 (.aload_n 0) 1 := gx_dk (by decide +kernel)
theorem dX4_add_1 : gx_d mX4_add 1 (.getfield 22) 3 := gx_dk (by decide +kernel)
theorem dX4_add_4 : gx_d mX4_add 4 (.sipush 128) 3 := gx_dk (by decide +kernel)
theorem dX4_add_7 : gx_d mX4_add 7 (.if_icmp .ge 33) 3 := gx_dk (by decide +kernel)
theorem dX4_add_10 : gx_d mX4_add 10 (.aload_n 0) 1 := gx_dk (by decide +kernel)
theorem dX4_add_11 : gx_d mX4_add 11 (.getfield 9) 3 := gx_dk (by decide +kernel)
theorem dX4_add_14 : gx_d mX4_add 14 (.aload_n 0) 1 := gx_dk (by decide +kernel)
theorem dX4_add_15 : gx_d mX4_add 15 (.getfield 22) 3 := gx_dk (by decide +kernel)
theorem dX4_add_18 : gx_d mX4_add 18 (.iload_n 1) 1 := gx_dk (by decide +kernel)
theorem dX4_add_19 : gx_d mX4_add 19 (.iastore) 1 := gx_dk (by decide +kernel)
theorem dX4_add_20 : gx_d mX4_add 20 (.aload_n 0) 1 := gx_dk (by decide +kernel)
theorem dX4_add_21 : gx_d mX4_add 21 (.getfield 13) 3 := gx_dk (by decide +kernel)
theorem dX4_add_24 : gx_d mX4_add 24 (.aload_n 0) 1 := gx_dk (by decide +kernel)
theorem dX4_add_25 : gx_d mX4_add 25 (.getfield 22) 3 := gx_dk (by decide +kernel)
theorem dX4_add_28 : gx_d mX4_add 28 (.iload_n 2) 1 := gx_dk (by decide +kernel)
theorem dX4_add_29 : gx_d mX4_add 29 (.iastore) 1 := gx_dk (by decide +kernel)
theorem dX4_add_30 : gx_d mX4_add 30 (.aload_n 0) 1 := gx_dk (by decide +kernel)
theorem dX4_add_31 : gx_d mX4_add 31 (.dup) 1 := gx_dk (by decide +kernel)
theorem dX4_add_32 : gx_d mX4_add 32 (.getfield 22) 3 := gx_dk (by decide +kernel)
theorem dX4_add_35 : gx_d mX4_add 35 (.iconst 1) 1 := gx_dk (by decide +kernel)
theorem dX4_add_36 : gx_d mX4_add 36 (.iadd) 1 := gx_dk (by decide +kernel)
theorem dX4_add_37 : gx_d mX4_add 37 (.putfield 22) 3 := gx_dk (by decide +kernel)
theorem dX4_add_40 : gx_d mX4_add 40 (.return_) 1 := gx_dk (by decide +kernel)
theorem dX4_gives_0 : gx_d mX4_gives 0 (.aload_n 0) 1 := gx_dk (by decide +kernel)
theorem dX4_gives_1 : gx_d mX4_gives 1 (.getfield 19) 3 := gx_dk (by decide +kernel)
theorem dX4_gives_4 : gx_d mX4_gives 4 (.iconst 0) 1 := gx_dk (by decide +kernel)
theorem dX4_gives_5 : gx_d mX4_gives 5 (.iload_n 1) 1 := gx_dk (by decide +kernel)
theorem dX4_gives_6 : gx_d mX4_gives 6 (.iastore) 1 := gx_dk (by decide +kernel)
theorem dX4_gives_7 : gx_d mX4_gives 7 (.aload_n 0) 1 := gx_dk (by decide +kernel)
theorem dX4_gives_8 : gx_d mX4_gives 8 (.getfield 19) 3 := gx_dk (by decide +kernel)
theorem dX4_gives_11 : gx_d mX4_gives 11 (.iconst 1) 1 := gx_dk (by decide +kernel)
theorem dX4_gives_12 : gx_d mX4_gives 12 (.iload_n 2) 1 := gx_dk (by decide +kernel)
theorem dX4_gives_13 : gx_d mX4_gives 13 (.iastore) 1 := gx_dk (by decide +kernel)
theorem dX4_gives_14 : gx_d mX4_gives 14 (.aload_n 0) 1 := gx_dk (by decide +kernel)
theorem dX4_gives_15 : gx_d mX4_gives 15 (.getfield 19) 3 := gx_dk (by decide +kernel)
theorem dX4_gives_18 : gx_d mX4_gives 18 (.iconst 2) 1 := gx_dk (by decide +kernel)
theorem dX4_gives_19 : gx_d mX4_gives 19 (.iload_n 3) 1 := gx_dk (by decide +kernel)
theorem dX4_gives_20 : gx_d mX4_gives 20 (.iastore) 1 := gx_dk (by decide +kernel)
theorem dX4_gives_21 : gx_d mX4_gives 21 (.aload_n 0) 1 := gx_dk (by decide +kernel)
theorem dX4_gives_22 : gx_d mX4_gives 22 (.getfield 19) 3 := gx_dk (by decide +kernel)
theorem dX4_gives_25 : gx_d mX4_gives 25 (.iconst 3) 1 := gx_dk (by decide +kernel)
theorem dX4_gives_26 : gx_d mX4_gives 26 (.iload 4) 2 := gx_dk (by decide +kernel)
theorem dX4_gives_28 : gx_d mX4_gives 28 (.iastore) 1 := gx_dk (by decide +kernel)
theorem dX4_gives_29 : gx_d mX4_gives 29 (.aload_n 0) 1 := gx_dk (by decide +kernel)
theorem dX4_gives_30 : gx_d mX4_gives 30 (.getfield 19) 3 := gx_dk (by decide +kernel)
theorem dX4_gives_33 : gx_d mX4_gives 33 (.iconst 4) 1 := gx_dk (by decide +kernel)
theorem dX4_gives_34 : gx_d mX4_gives 34 (.iload 5) 2 := gx_dk (by decide +kernel)
theorem dX4_gives_36 : gx_d mX4_gives 36 (.iastore) 1 := gx_dk (by decide +kernel)
theorem dX4_gives_37 : gx_d mX4_gives 37 (.aload_n 0) 1 := gx_dk (by decide +kernel)
theorem dX4_gives_38 : gx_d mX4_gives 38 (.getfield 19) 3 := gx_dk (by decide +kernel)
theorem dX4_gives_41 : gx_d mX4_gives 41 (.iconst 5) 1 := gx_dk (by decide +kernel)
theorem dX4_gives_42 : gx_d mX4_gives 42 (.iload 6) 2 := gx_dk (by decide +kernel)
theorem dX4_gives_44 : gx_d mX4_gives 44 (.iastore) 1 := gx_dk (by decide +kernel)
theorem dX4_gives_45 : gx_d mX4_gives 45 (.aload_n 0) 1 := gx_dk (by decide +kernel)
theorem dX4_gives_46 : gx_d mX4_gives 46 (.iconst 0) 1 := gx_dk (by decide +kernel)
theorem dX4_gives_47 : gx_d mX4_gives 47 (.putfield 26) 3 := gx_dk (by decide +kernel)
theorem dX4_gives_50 : gx_d mX4_gives 50 (.iconst 0) 1 := gx_dk (by decide +kernel)
theorem dX4_gives_51 : gx_d mX4_gives 51 (.istore 7) 2 := gx_dk (by decide +kernel)
theorem dX4_gives_53 : gx_d mX4_gives 53 (.iconst 0) 1 := gx_dk (by decide +kernel)
theorem dX4_gives_54 : gx_d mX4_gives 54 (.istore 8) 2 := gx_dk (by decide +kernel)
theorem dX4_gives_56 : gx_d mX4_gives 56 (.iload 8) 2 := gx_dk (by decide +kernel)
theorem dX4_gives_58 : gx_d mX4_gives 58 (.aload_n 0) 1 := gx_dk (by decide +kernel)
theorem dX4_gives_59 : gx_d mX4_gives 59 (.getfield 22) 3 := gx_dk (by decide +kernel)
theorem dX4_gives_62 : gx_d mX4_gives 62 (.if_icmp .ge 192) 3 := gx_dk (by decide +kernel)
theorem dX4_gives_65 : gx_d mX4_gives 65 (.aload_n 0) 1 := gx_dk (by decide +kernel)
theorem dX4_gives_66 : gx_d mX4_gives 66 (.getfield 9) 3 := gx_dk (by decide +kernel)
theorem dX4_gives_69 : gx_d mX4_gives 69 (.iload 8) 2 := gx_dk (by decide +kernel)
theorem dX4_gives_71 : gx_d mX4_gives 71 (.iaload) 1 := gx_dk (by decide +kernel)
theorem dX4_gives_72 : gx_d mX4_gives 72 (.istore 9) 2 := gx_dk (by decide +kernel)
theorem dX4_gives_74 : gx_d mX4_gives 74 (.iload 7) 2 := gx_dk (by decide +kernel)
theorem dX4_gives_76 : gx_d mX4_gives 76 (.ifCond .eq 20) 3 := gx_dk (by decide +kernel)
theorem dX4_gives_79 : gx_d mX4_gives 79 (.iload 9) 2 := gx_dk (by decide +kernel)
theorem dX4_gives_81 : gx_d mX4_gives 81 (.bipush 59) 2 := gx_dk (by decide +kernel)
theorem dX4_gives_83 : gx_d mX4_gives 83 (.if_icmp .eq 7) 3 := gx_dk (by decide +kernel)
theorem dX4_gives_86 : gx_d mX4_gives 86 (.iconst 1) 1 := gx_dk (by decide +kernel)
theorem dX4_gives_87 : gx_d mX4_gives 87 (.goto 4) 3 := gx_dk (by decide +kernel)
theorem dX4_gives_90 : gx_d mX4_gives 90 (.iconst 0) 1 := gx_dk (by decide +kernel)
theorem dX4_gives_91 : gx_d mX4_gives 91 (.istore 7) 2 := gx_dk (by decide +kernel)
theorem dX4_gives_93 : gx_d mX4_gives 93 (.goto 155) 3 := gx_dk (by decide +kernel)
theorem dX4_gives_96 : gx_d mX4_gives 96 (.iload 9) 2 := gx_dk (by decide +kernel)
theorem dX4_gives_98 : gx_d mX4_gives 98 (.bipush 59) 2 := gx_dk (by decide +kernel)
theorem dX4_gives_100 : gx_d mX4_gives 100 (.if_icmp .ne 8) 3 := gx_dk (by decide +kernel)
theorem dX4_gives_103 : gx_d mX4_gives 103 (.aload_n 0) 1 := gx_dk (by decide +kernel)
theorem dX4_gives_104 : gx_d mX4_gives 104 (.invokevirtual 29) 3 := gx_dk (by decide +kernel)
theorem dX4_gives_107 : gx_d mX4_gives 107 (.ireturn) 1 := gx_dk (by decide +kernel)
theorem dX4_gives_108 : gx_d mX4_gives 108 (.iload 9) 2 := gx_dk (by decide +kernel)
theorem dX4_gives_110 : gx_d mX4_gives 110 (.bipush 63) 2 := gx_dk (by decide +kernel)
theorem dX4_gives_112 : gx_d mX4_gives 112 (.if_icmp .ne 20) 3 := gx_dk (by decide +kernel)
theorem dX4_gives_115 : gx_d mX4_gives 115 (.aload_n 0) 1 := gx_dk (by decide +kernel)
theorem dX4_gives_116 : gx_d mX4_gives 116 (.invokevirtual 29) 3 := gx_dk (by decide +kernel)
theorem dX4_gives_119 : gx_d mX4_gives 119 (.ifCond .ne 7) 3 := gx_dk (by decide +kernel)
theorem dX4_gives_122 : gx_d mX4_gives 122 (.iconst 1) 1 := gx_dk (by decide +kernel)
theorem dX4_gives_123 : gx_d mX4_gives 123 (.goto 4) 3 := gx_dk (by decide +kernel)
theorem dX4_gives_126 : gx_d mX4_gives 126 (.iconst 0) 1 := gx_dk (by decide +kernel)
theorem dX4_gives_127 : gx_d mX4_gives 127 (.istore 7) 2 := gx_dk (by decide +kernel)
theorem dX4_gives_129 : gx_d mX4_gives 129 (.goto 119) 3 := gx_dk (by decide +kernel)
theorem dX4_gives_132 : gx_d mX4_gives 132 (.iload 9) 2 := gx_dk (by decide +kernel)
theorem dX4_gives_134 : gx_d mX4_gives 134 (.bipush 48) 2 := gx_dk (by decide +kernel)
theorem dX4_gives_136 : gx_d mX4_gives 136 (.if_icmp .ne 17) 3 := gx_dk (by decide +kernel)
theorem dX4_gives_139 : gx_d mX4_gives 139 (.aload_n 0) 1 := gx_dk (by decide +kernel)
theorem dX4_gives_140 : gx_d mX4_gives 140 (.aload_n 0) 1 := gx_dk (by decide +kernel)
theorem dX4_gives_141 : gx_d mX4_gives 141 (.getfield 13) 3 := gx_dk (by decide +kernel)
theorem dX4_gives_144 : gx_d mX4_gives 144 (.iload 8) 2 := gx_dk (by decide +kernel)
theorem dX4_gives_146 : gx_d mX4_gives 146 (.iaload) 1 := gx_dk (by decide +kernel)
theorem dX4_gives_147 : gx_d mX4_gives 147 (.invokevirtual 33) 3 := gx_dk (by decide +kernel)
theorem dX4_gives_150 : gx_d mX4_gives 150 (.goto 98) 3 := gx_dk (by decide +kernel)
theorem dX4_gives_153 : gx_d mX4_gives 153 (.iload 9) 2 := gx_dk (by decide +kernel)
theorem dX4_gives_155 : gx_d mX4_gives 155 (.bipush 110) 2 := gx_dk (by decide +kernel)
theorem dX4_gives_157 : gx_d mX4_gives 157 (.if_icmp .ne 21) 3 := gx_dk (by decide +kernel)
theorem dX4_gives_160 : gx_d mX4_gives 160 (.aload_n 0) 1 := gx_dk (by decide +kernel)
theorem dX4_gives_161 : gx_d mX4_gives 161 (.aload_n 0) 1 := gx_dk (by decide +kernel)
theorem dX4_gives_162 : gx_d mX4_gives 162 (.aload_n 0) 1 := gx_dk (by decide +kernel)
theorem dX4_gives_163 : gx_d mX4_gives 163 (.getfield 13) 3 := gx_dk (by decide +kernel)
theorem dX4_gives_166 : gx_d mX4_gives 166 (.iload 8) 2 := gx_dk (by decide +kernel)
theorem dX4_gives_168 : gx_d mX4_gives 168 (.iaload) 1 := gx_dk (by decide +kernel)
theorem dX4_gives_169 : gx_d mX4_gives 169 (.invokevirtual 37) 3 := gx_dk (by decide +kernel)
theorem dX4_gives_172 : gx_d mX4_gives 172 (.invokevirtual 33) 3 := gx_dk (by decide +kernel)
theorem dX4_gives_175 : gx_d mX4_gives 175 (.goto 73) 3 := gx_dk (by decide +kernel)
theorem dX4_gives_178 : gx_d mX4_gives 178 (.iload 9) 2 := gx_dk (by decide +kernel)
theorem dX4_gives_180 : gx_d mX4_gives 180 (.bipush 33) 2 := gx_dk (by decide +kernel)
theorem dX4_gives_182 : gx_d mX4_gives 182 (.if_icmp .ne 22) 3 := gx_dk (by decide +kernel)
theorem dX4_gives_185 : gx_d mX4_gives 185 (.aload_n 0) 1 := gx_dk (by decide +kernel)
theorem dX4_gives_186 : gx_d mX4_gives 186 (.aload_n 0) 1 := gx_dk (by decide +kernel)
theorem dX4_gives_187 : gx_d mX4_gives 187 (.invokevirtual 29) 3 := gx_dk (by decide +kernel)
theorem dX4_gives_190 : gx_d mX4_gives 190 (.ifCond .ne 7) 3 := gx_dk (by decide +kernel)
theorem dX4_gives_193 : gx_d mX4_gives 193 (.iconst 1) 1 := gx_dk (by decide +kernel)
theorem dX4_gives_194 : gx_d mX4_gives 194 (.goto 4) 3 := gx_dk (by decide +kernel)
theorem dX4_gives_197 : gx_d mX4_gives 197 (.iconst 0) 1 := gx_dk (by decide +kernel)
theorem dX4_gives_198 : gx_d mX4_gives 198 (.invokevirtual 33) 3 := gx_dk (by decide +kernel)
theorem dX4_gives_201 : gx_d mX4_gives 201 (.goto 47) 3 := gx_dk (by decide +kernel)
theorem dX4_gives_204 : gx_d mX4_gives 204 (.iload 9) 2 := gx_dk (by decide +kernel)
theorem dX4_gives_206 : gx_d mX4_gives 206 (.bipush 126) 2 := gx_dk (by decide +kernel)
theorem dX4_gives_208 : gx_d mX4_gives 208 (.if_icmp .ne 15) 3 := gx_dk (by decide +kernel)
theorem dX4_gives_211 : gx_d mX4_gives 211 (.aload_n 0) 1 := gx_dk (by decide +kernel)
theorem dX4_gives_212 : gx_d mX4_gives 212 (.aload_n 0) 1 := gx_dk (by decide +kernel)
theorem dX4_gives_213 : gx_d mX4_gives 213 (.invokevirtual 29) 3 := gx_dk (by decide +kernel)
theorem dX4_gives_216 : gx_d mX4_gives 216 (.ineg) 1 := gx_dk (by decide +kernel)
theorem dX4_gives_217 : gx_d mX4_gives 217 (.invokevirtual 33) 3 := gx_dk (by decide +kernel)
theorem dX4_gives_220 : gx_d mX4_gives 220 (.goto 28) 3 := gx_dk (by decide +kernel)
theorem dX4_gives_223 : gx_d mX4_gives 223 (.aload_n 0) 1 := gx_dk (by decide +kernel)
theorem dX4_gives_224 : gx_d mX4_gives 224 (.invokevirtual 29) 3 := gx_dk (by decide +kernel)
theorem dX4_gives_227 : gx_d mX4_gives 227 (.istore 10) 2 := gx_dk (by decide +kernel)
theorem dX4_gives_229 : gx_d mX4_gives 229 (.aload_n 0) 1 := gx_dk (by decide +kernel)
theorem dX4_gives_230 : gx_d mX4_gives 230 (.invokevirtual 29) 3 := gx_dk (by decide +kernel)
theorem dX4_gives_233 : gx_d mX4_gives 233 (.istore 11) 2 := gx_dk (by decide +kernel)
theorem dX4_gives_235 : gx_d mX4_gives 235 (.aload_n 0) 1 := gx_dk (by decide +kernel)
theorem dX4_gives_236 : gx_d mX4_gives 236 (.iload 9) 2 := gx_dk (by decide +kernel)
theorem dX4_gives_238 : gx_d mX4_gives 238 (.iload 11) 2 := gx_dk (by decide +kernel)
theorem dX4_gives_240 : gx_d mX4_gives 240 (.iload 10) 2 := gx_dk (by decide +kernel)
theorem dX4_gives_242 : gx_d mX4_gives 242 (.invokestatic 41) 3 := gx_dk (by decide +kernel)
theorem dX4_gives_245 : gx_d mX4_gives 245 (.invokevirtual 33) 3 := gx_dk (by decide +kernel)
theorem dX4_gives_248 : gx_d mX4_gives 248 (.iinc 8 1) 3 := gx_dk (by decide +kernel)
theorem dX4_gives_251 : gx_d mX4_gives 251 (.goto (-195)) 3 := gx_dk (by decide +kernel)
theorem dX4_gives_254 : gx_d mX4_gives 254 (.iconst 0) 1 := gx_dk (by decide +kernel)
theorem dX4_gives_255 : gx_d mX4_gives 255 (.ireturn) 1 := gx_dk (by decide +kernel)
theorem dX4_named_0 : gx_d mX4_named 0 (.iload_n 1) 1 := gx_dk (by decide +kernel)
theorem dX4_named_1 : gx_d mX4_named 1 (.ifCond .lt 18) 3 := gx_dk (by decide +kernel)
theorem dX4_named_4 : gx_d mX4_named 4 (.iload_n 1) 1 := gx_dk (by decide +kernel)
theorem dX4_named_5 : gx_d mX4_named 5 (.bipush 6) 2 := gx_dk (by decide +kernel)
theorem dX4_named_7 : gx_d mX4_named 7 (.if_icmp .ge 12) 3 := gx_dk (by decide +kernel)
theorem dX4_named_10 : gx_d mX4_named 10 (.aload_n 0) 1 := gx_dk (by decide +kernel)
theorem dX4_named_11 : gx_d mX4_named 11 (.getfield 19) 3 := gx_dk (by decide +kernel)
theorem dX4_named_14 : gx_d mX4_named 14 (.iload_n 1) 1 := gx_dk (by decide +kernel)
theorem dX4_named_15 : gx_d mX4_named 15 (.iaload) 1 := gx_dk (by decide +kernel)
theorem dX4_named_16 : gx_d mX4_named 16 (.goto 4) 3 := gx_dk (by decide +kernel)
theorem dX4_named_19 : gx_d mX4_named 19 (.iconst 0) 1 := gx_dk (by decide +kernel)
theorem dX4_named_20 : gx_d mX4_named 20 (.ireturn) 1 := gx_dk (by decide +kernel)
theorem dX4_lay_0 : gx_d mX4_lay 0 (.aload_n 0) 1 := gx_dk (by decide +kernel)
theorem dX4_lay_1 : gx_d mX4_lay 1 (.getfield 26) 3 := gx_dk (by decide +kernel)
theorem dX4_lay_4 : gx_d mX4_lay 4 (.ifCond .lt 32) 3 := gx_dk (by decide +kernel)
theorem dX4_lay_7 : gx_d mX4_lay 7 (.aload_n 0) 1 := gx_dk (by decide +kernel)
theorem dX4_lay_8 : gx_d mX4_lay 8 (.getfield 26) 3 := gx_dk (by decide +kernel)
theorem dX4_lay_11 : gx_d mX4_lay 11 (.bipush 64) 2 := gx_dk (by decide +kernel)
theorem dX4_lay_13 : gx_d mX4_lay 13 (.if_icmp .ge 23) 3 := gx_dk (by decide +kernel)
theorem dX4_lay_16 : gx_d mX4_lay 16 (.aload_n 0) 1 := gx_dk (by decide +kernel)
theorem dX4_lay_17 : gx_d mX4_lay 17 (.getfield 16) 3 := gx_dk (by decide +kernel)
theorem dX4_lay_20 : gx_d mX4_lay 20 (.aload_n 0) 1 := gx_dk (by decide +kernel)
theorem dX4_lay_21 : gx_d mX4_lay 21 (.getfield 26) 3 := gx_dk (by decide +kernel)
theorem dX4_lay_24 : gx_d mX4_lay 24 (.iload_n 1) 1 := gx_dk (by decide +kernel)
theorem dX4_lay_25 : gx_d mX4_lay 25 (.iastore) 1 := gx_dk (by decide +kernel)
theorem dX4_lay_26 : gx_d mX4_lay 26 (.aload_n 0) 1 := gx_dk (by decide +kernel)
theorem dX4_lay_27 : gx_d mX4_lay 27 (.dup) 1 := gx_dk (by decide +kernel)
theorem dX4_lay_28 : gx_d mX4_lay 28 (.getfield 26) 3 := gx_dk (by decide +kernel)
theorem dX4_lay_31 : gx_d mX4_lay 31 (.iconst 1) 1 := gx_dk (by decide +kernel)
theorem dX4_lay_32 : gx_d mX4_lay 32 (.iadd) 1 := gx_dk (by decide +kernel)
theorem dX4_lay_33 : gx_d mX4_lay 33 (.putfield 26) 3 := gx_dk (by decide +kernel)
theorem dX4_lay_36 : gx_d mX4_lay 36 (.return_) 1 := gx_dk (by decide +kernel)
theorem dX4_take_0 : gx_d mX4_take 0 (.aload_n 0) 1 := gx_dk (by decide +kernel)
theorem dX4_take_1 : gx_d mX4_take 1 (.getfield 26) 3 := gx_dk (by decide +kernel)
theorem dX4_take_4 : gx_d mX4_take 4 (.ifCond .le 12) 3 := gx_dk (by decide +kernel)
theorem dX4_take_7 : gx_d mX4_take 7 (.aload_n 0) 1 := gx_dk (by decide +kernel)
theorem dX4_take_8 : gx_d mX4_take 8 (.getfield 26) 3 := gx_dk (by decide +kernel)
theorem dX4_take_11 : gx_d mX4_take 11 (.bipush 64) 2 := gx_dk (by decide +kernel)
theorem dX4_take_13 : gx_d mX4_take 13 (.if_icmp .le 5) 3 := gx_dk (by decide +kernel)
theorem dX4_take_16 : gx_d mX4_take 16 (.iconst 0) 1 := gx_dk (by decide +kernel)
theorem dX4_take_17 : gx_d mX4_take 17 (.ireturn) 1 := gx_dk (by decide +kernel)
theorem dX4_take_18 : gx_d mX4_take 18 (.aload_n 0) 1 := gx_dk (by decide +kernel)
theorem dX4_take_19 : gx_d mX4_take 19 (.dup) 1 := gx_dk (by decide +kernel)
theorem dX4_take_20 : gx_d mX4_take 20 (.getfield 26) 3 := gx_dk (by decide +kernel)
theorem dX4_take_23 : gx_d mX4_take 23 (.iconst 1) 1 := gx_dk (by decide +kernel)
theorem dX4_take_24 : gx_d mX4_take 24 (.isub) 1 := gx_dk (by decide +kernel)
theorem dX4_take_25 : gx_d mX4_take 25 (.putfield 26) 3 := gx_dk (by decide +kernel)
theorem dX4_take_28 : gx_d mX4_take 28 (.aload_n 0) 1 := gx_dk (by decide +kernel)
theorem dX4_take_29 : gx_d mX4_take 29 (.getfield 16) 3 := gx_dk (by decide +kernel)
theorem dX4_take_32 : gx_d mX4_take 32 (.aload_n 0) 1 := gx_dk (by decide +kernel)
theorem dX4_take_33 : gx_d mX4_take 33 (.getfield 26) 3 := gx_dk (by decide +kernel)
theorem dX4_take_36 : gx_d mX4_take 36 (.iaload) 1 := gx_dk (by decide +kernel)
theorem dX4_take_37 : gx_d mX4_take 37 (.ireturn) 1 := gx_dk (by decide +kernel)
theorem dX4_joined_0 : gx_d mX4_joined 0 (.iload_n 0) 1 := gx_dk (by decide +kernel)
theorem dX4_joined_1 : gx_d mX4_joined 1 (.lookupswitch 188 #[(37, 176), (38, 105), (42, 160), (43, 152), (45, 156), (47, 164), (60, 119), (61, 130), (62, 141), (124, 91)]) 91 := gx_dk (by decide +kernel)
theorem dX4_joined_92 : gx_d mX4_joined 92 (.iload_n 1) 1 := gx_dk (by decide +kernel)
theorem dX4_joined_93 : gx_d mX4_joined 93 (.ifCond .ne 7) 3 := gx_dk (by decide +kernel)
theorem dX4_joined_96 : gx_d mX4_joined 96 (.iload_n 2) 1 := gx_dk (by decide +kernel)
theorem dX4_joined_97 : gx_d mX4_joined 97 (.ifCond .eq 7) 3 := gx_dk (by decide +kernel)
theorem dX4_joined_100 : gx_d mX4_joined 100 (.iconst 1) 1 := gx_dk (by decide +kernel)
theorem dX4_joined_101 : gx_d mX4_joined 101 (.goto 4) 3 := gx_dk (by decide +kernel)
theorem dX4_joined_104 : gx_d mX4_joined 104 (.iconst 0) 1 := gx_dk (by decide +kernel)
theorem dX4_joined_105 : gx_d mX4_joined 105 (.ireturn) 1 := gx_dk (by decide +kernel)
theorem dX4_joined_106 : gx_d mX4_joined 106 (.iload_n 1) 1 := gx_dk (by decide +kernel)
theorem dX4_joined_107 : gx_d mX4_joined 107 (.ifCond .eq 11) 3 := gx_dk (by decide +kernel)
theorem dX4_joined_110 : gx_d mX4_joined 110 (.iload_n 2) 1 := gx_dk (by decide +kernel)
theorem dX4_joined_111 : gx_d mX4_joined 111 (.ifCond .eq 7) 3 := gx_dk (by decide +kernel)
theorem dX4_joined_114 : gx_d mX4_joined 114 (.iconst 1) 1 := gx_dk (by decide +kernel)
theorem dX4_joined_115 : gx_d mX4_joined 115 (.goto 4) 3 := gx_dk (by decide +kernel)
theorem dX4_joined_118 : gx_d mX4_joined 118 (.iconst 0) 1 := gx_dk (by decide +kernel)
theorem dX4_joined_119 : gx_d mX4_joined 119 (.ireturn) 1 := gx_dk (by decide +kernel)
theorem dX4_joined_120 : gx_d mX4_joined 120 (.iload_n 1) 1 := gx_dk (by decide +kernel)
theorem dX4_joined_121 : gx_d mX4_joined 121 (.iload_n 2) 1 := gx_dk (by decide +kernel)
theorem dX4_joined_122 : gx_d mX4_joined 122 (.if_icmp .ge 7) 3 := gx_dk (by decide +kernel)
theorem dX4_joined_125 : gx_d mX4_joined 125 (.iconst 1) 1 := gx_dk (by decide +kernel)
theorem dX4_joined_126 : gx_d mX4_joined 126 (.goto 4) 3 := gx_dk (by decide +kernel)
theorem dX4_joined_129 : gx_d mX4_joined 129 (.iconst 0) 1 := gx_dk (by decide +kernel)
theorem dX4_joined_130 : gx_d mX4_joined 130 (.ireturn) 1 := gx_dk (by decide +kernel)
theorem dX4_joined_131 : gx_d mX4_joined 131 (.iload_n 1) 1 := gx_dk (by decide +kernel)
theorem dX4_joined_132 : gx_d mX4_joined 132 (.iload_n 2) 1 := gx_dk (by decide +kernel)
theorem dX4_joined_133 : gx_d mX4_joined 133 (.if_icmp .ne 7) 3 := gx_dk (by decide +kernel)
theorem dX4_joined_136 : gx_d mX4_joined 136 (.iconst 1) 1 := gx_dk (by decide +kernel)
theorem dX4_joined_137 : gx_d mX4_joined 137 (.goto 4) 3 := gx_dk (by decide +kernel)
theorem dX4_joined_140 : gx_d mX4_joined 140 (.iconst 0) 1 := gx_dk (by decide +kernel)
theorem dX4_joined_141 : gx_d mX4_joined 141 (.ireturn) 1 := gx_dk (by decide +kernel)
theorem dX4_joined_142 : gx_d mX4_joined 142 (.iload_n 1) 1 := gx_dk (by decide +kernel)
theorem dX4_joined_143 : gx_d mX4_joined 143 (.iload_n 2) 1 := gx_dk (by decide +kernel)
theorem dX4_joined_144 : gx_d mX4_joined 144 (.if_icmp .le 7) 3 := gx_dk (by decide +kernel)
theorem dX4_joined_147 : gx_d mX4_joined 147 (.iconst 1) 1 := gx_dk (by decide +kernel)
theorem dX4_joined_148 : gx_d mX4_joined 148 (.goto 4) 3 := gx_dk (by decide +kernel)
theorem dX4_joined_151 : gx_d mX4_joined 151 (.iconst 0) 1 := gx_dk (by decide +kernel)
theorem dX4_joined_152 : gx_d mX4_joined 152 (.ireturn) 1 := gx_dk (by decide +kernel)
theorem dX4_joined_153 : gx_d mX4_joined 153 (.iload_n 1) 1 := gx_dk (by decide +kernel)
theorem dX4_joined_154 : gx_d mX4_joined 154 (.iload_n 2) 1 := gx_dk (by decide +kernel)
theorem dX4_joined_155 : gx_d mX4_joined 155 (.iadd) 1 := gx_dk (by decide +kernel)
theorem dX4_joined_156 : gx_d mX4_joined 156 (.ireturn) 1 := gx_dk (by decide +kernel)
theorem dX4_joined_157 : gx_d mX4_joined 157 (.iload_n 1) 1 := gx_dk (by decide +kernel)
theorem dX4_joined_158 : gx_d mX4_joined 158 (.iload_n 2) 1 := gx_dk (by decide +kernel)
theorem dX4_joined_159 : gx_d mX4_joined 159 (.isub) 1 := gx_dk (by decide +kernel)
theorem dX4_joined_160 : gx_d mX4_joined 160 (.ireturn) 1 := gx_dk (by decide +kernel)
theorem dX4_joined_161 : gx_d mX4_joined 161 (.iload_n 1) 1 := gx_dk (by decide +kernel)
theorem dX4_joined_162 : gx_d mX4_joined 162 (.iload_n 2) 1 := gx_dk (by decide +kernel)
theorem dX4_joined_163 : gx_d mX4_joined 163 (.imul) 1 := gx_dk (by decide +kernel)
theorem dX4_joined_164 : gx_d mX4_joined 164 (.ireturn) 1 := gx_dk (by decide +kernel)
theorem dX4_joined_165 : gx_d mX4_joined 165 (.iload_n 2) 1 := gx_dk (by decide +kernel)
theorem dX4_joined_166 : gx_d mX4_joined 166 (.ifCond .ne 7) 3 := gx_dk (by decide +kernel)
theorem dX4_joined_169 : gx_d mX4_joined 169 (.iconst 0) 1 := gx_dk (by decide +kernel)
theorem dX4_joined_170 : gx_d mX4_joined 170 (.goto 6) 3 := gx_dk (by decide +kernel)
theorem dX4_joined_173 : gx_d mX4_joined 173 (.iload_n 1) 1 := gx_dk (by decide +kernel)
theorem dX4_joined_174 : gx_d mX4_joined 174 (.iload_n 2) 1 := gx_dk (by decide +kernel)
theorem dX4_joined_175 : gx_d mX4_joined 175 (.idiv) 1 := gx_dk (by decide +kernel)
theorem dX4_joined_176 : gx_d mX4_joined 176 (.ireturn) 1 := gx_dk (by decide +kernel)
theorem dX4_joined_177 : gx_d mX4_joined 177 (.iload_n 2) 1 := gx_dk (by decide +kernel)
theorem dX4_joined_178 : gx_d mX4_joined 178 (.ifCond .ne 7) 3 := gx_dk (by decide +kernel)
theorem dX4_joined_181 : gx_d mX4_joined 181 (.iconst 0) 1 := gx_dk (by decide +kernel)
theorem dX4_joined_182 : gx_d mX4_joined 182 (.goto 6) 3 := gx_dk (by decide +kernel)
theorem dX4_joined_185 : gx_d mX4_joined 185 (.iload_n 1) 1 := gx_dk (by decide +kernel)
theorem dX4_joined_186 : gx_d mX4_joined 186 (.iload_n 2) 1 := gx_dk (by decide +kernel)
theorem dX4_joined_187 : gx_d mX4_joined 187 (.irem) 1 := gx_dk (by decide +kernel)
theorem dX4_joined_188 : gx_d mX4_joined 188 (.ireturn) 1 := gx_dk (by decide +kernel)
theorem dX4_joined_189 : gx_d mX4_joined 189 (.iconst 0) 1 := gx_dk (by decide +kernel)
theorem dX4_joined_190 : gx_d mX4_joined 190 (.ireturn) 1 := gx_dk (by decide +kernel)
def isLw (w : gx_W) (l s v k m : Nat) : Prop := w.1[l]? = some (4, 0) ∧ (w_r w l 0 = some s ∧ w.1[s]? = some (20, 128)) ∧ (w_r w l 1 = some v ∧ w.1[v]? = some (20, 128)) ∧ (w_r w l 2 = some k ∧ w.1[k]? = some (20, 64)) ∧ (w_r w l 3 = some m ∧ w.1[m]? = some (20, 6))
theorem isLw.same {R : List Nat} {F : List (Nat × Nat)} {w w' : gx_W} {l s v k m : Nat} (h : isLw w l s v k m) (hs : same R F w w') : isLw w' l s v k m := by
  unfold isLw at h ⊢
  rw [hs.1, hs.2.2.1]
  exact h
/-- the stack: its top first -/
def stR (w : gx_W) (l k : Nat) (st : List Int32) : Prop := w_i w l 5 = nI st.length ∧ st.length ≤ 64 ∧ ∀ i, i < st.length → w_a w k i = st.getD (st.length - 1 - i) 0
def lw_lay (x : Int32) (st : List Int32) : List Int32 := if st.length < 64 then x :: st else st
def lw_two (sign a b : Int32) : Int32 := if sign = 124 then (if a ≠ 0 ∨ b ≠ 0 then 1 else 0) else if sign = 38 then (if a ≠ 0 ∧ b ≠ 0 then 1 else 0) else if sign = 60 then (if a < b then 1 else 0) else if sign = 61 then (if a = b then 1 else 0) else if sign = 62 then (if a > b then 1 else 0) else if sign = 43 then a + b else if sign = 45 then a - b else if sign = 42 then a * b else if sign = 47 then (if b = 0 then 0 else a / b) else if sign = 37 then (if b = 0 then 0 else a - a / b * b) else 0
/-- one step that isn't the end of a line -/
def lw_step (nm : Nat → Int32) (sg va : Int32) (st : List Int32) : List Int32 :=
  if sg = 48 then lw_lay va st
  else if sg = 110 then lw_lay (if va < 0 ∨ va ≥ 6 then 0 else nm va.toNatClampNeg) st
  else if sg = 33 then lw_lay (if st.headD 0 = 0 then 1 else 0) st.tail
  else if sg = 126 then lw_lay (-(st.headD 0)) st.tail
  else lw_lay (lw_two sg (st.tail.headD 0) (st.headD 0)) st.tail.tail
def lw_run (sg va nm : Nat → Int32) : Nat → Nat → Bool → List Int32 → Int32
  | 0, _, _, _ => 0
  | z + 1, i, sk, st => if sk = true then lw_run sg va nm z (i + 1) (decide (sg i ≠ 59)) st
    else if sg i = 59 then st.headD 0
    else if sg i = 63 then lw_run sg va nm z (i + 1) (decide (st.headD 0 = 0)) st.tail
    else lw_run sg va nm z (i + 1) false (lw_step nm (sg i) (va i) st)
def lw_nm (a b c d e f : Int32) : Nat → Int32 := fun j => if j = 0 then a else if j = 1 then b else if j = 2 then c else if j = 3 then d else if j = 4 then e else f
theorem c_X4_isTold {d : Nat} {w : gx_W} {l s v k m : Nat} {q : Int32 → gx_W → Prop} (hd : 0 ≤ d) (h : isLw w l s v k m) (kt : w_i w l 4 > 0 → q 1 w) (kf : ¬ w_i w l 4 > 0 → q 0 w) : gx_C 0 0 d mX4_isTold [.ref l] w (Qi q) := by
  refine gx_C_of' (L := [.ref l]) (by decide +kernel) rfl (Nat.le_of_ble_eq_true rfl) ?_
  refine g_aload_n dX4_isTold_0 rfl ?_
  refine g_geti dX4_isTold_1 fl_X4_22 h.1 ?_
  refine g_if_le (tgt := 11) dX4_isTold_4 (by decide) (fun zc4 => ?_) (fun zc4 => ?_)
  · refine g_iconst (v := 0) dX4_isTold_11 rfl ?_
    refine g_zret dX4_isTold_12 rfl (Or.inl rfl) ⟨_, rfl, ?_⟩
    exact kf (by simpa using zc4)
  · refine g_iconst (v := 1) dX4_isTold_7 rfl ?_
    refine g_goto (tgt := 12) dX4_isTold_8 (by decide) ?_
    refine g_zret dX4_isTold_12 rfl (Or.inr rfl) ⟨_, rfl, ?_⟩
    exact kt (by simpa using zc4)
theorem c_X4_clear {d : Nat} {w : gx_W} {l s v k m : Nat} {q : gx_W → Prop} (hd : 0 ≤ d) (h : isLw w l s v k m) (kk : q (s_i w l 4 0)) : gx_C 0 0 d mX4_clear [.ref l] w (Qv q) := by
  refine gx_C_of' (L := [.ref l]) (by decide +kernel) rfl (Nat.le_of_ble_eq_true rfl) ?_
  refine g_aload_n dX4_clear_0 rfl ?_
  refine g_iconst (v := 0) dX4_clear_1 rfl ?_
  refine g_puti dX4_clear_2 fl_X4_22 ft_4_4 h.1 ?_
  refine g_vret dX4_clear_5 rfl ⟨rfl, ?_⟩
  exact kk
theorem c_X4_add {d : Nat} {w : gx_W} {l s v k m : Nat} {N : Nat} {a b : Int32} {q : gx_W → Prop} (hd : 0 ≤ d) (h : isLw w l s v k m) (hN : w_i w l 4 = nI N) (hb : N ≤ 128) (hsv : s ≠ v) (kt : N < 128 → q (s_i (s_a (s_a w s (va_up (w_a w s) N a)) v (va_up (w_a w v) N b)) l 4 (nI (N + 1)))) (kf : N = 128 → q w) : gx_C 0 0 d mX4_add [.ref l, .int a, .int b] w (Qv q) := by
  refine gx_C_of' (L := [.ref l, .int a, .int b]) (by decide +kernel) rfl (Nat.le_of_ble_eq_true rfl) ?_
  refine g_aload_n dX4_add_0 rfl ?_
  refine g_geti dX4_add_1 fl_X4_22 h.1 ?_
  refine g_sipush (v := 128) dX4_add_4 rfl ?_
  refine g_icmp_ge (tgt := 40) dX4_add_7 (by decide) (fun zc7 => ?_) (fun zc7 => ?_)
  · refine g_vret dX4_add_40 rfl ⟨rfl, ?_⟩
    have hge : ¬ N < 128 := by
      intro hlt
      have c := zc7
      rw [hN] at c
      exact absurd c (nI_ge (b := 128) hlt (by decide))
    exact kf (by omega)
  · have hlt : N < 128 := by
      have c := zc7
      rw [hN, pI_le, nI_toInt (by omega)] at c
      have e : (128 : Int32).toInt = 128 := by decide
      omega
    have hi : vp_in (w_i w l 4) 128 := by
      rw [hN]
      exact vp_in_nI hlt (by omega)
    refine g_aload_n dX4_add_10 rfl ?_
    refine g_getr dX4_add_11 fl_X4_9 h.1 h.2.1.1 ?_
    refine g_aload_n dX4_add_14 rfl ?_
    refine g_geti dX4_add_15 fl_X4_22 h.1 ?_
    refine g_iload_n dX4_add_18 rfl ?_
    refine g_iast dX4_add_19 h.2.1.2 hi ?_
    refine g_aload_n dX4_add_20 rfl ?_
    refine g_getr dX4_add_21 fl_X4_13 h.1 h.2.2.1.1 ?_
    refine g_aload_n dX4_add_24 rfl ?_
    refine g_geti dX4_add_25 fl_X4_22 h.1 ?_
    refine g_iload_n dX4_add_28 rfl ?_
    refine g_iast dX4_add_29 h.2.2.1.2 hi ?_
    refine g_aload_n dX4_add_30 rfl ?_
    refine g_dup dX4_add_31 rfl ?_
    refine g_geti dX4_add_32 fl_X4_22 h.1 ?_
    refine g_iconst (v := 1) dX4_add_35 rfl ?_
    refine g_iadd dX4_add_36 ?_
    refine g_puti dX4_add_37 fl_X4_22 ft_4_4 h.1 ?_
    refine g_vret dX4_add_40 rfl ⟨rfl, ?_⟩
    have e : s_i (s_a (s_a w s (va_up (w_a w s) (w_i w l 4).toNatClampNeg a)) v (va_up (w_a (s_a w s (va_up (w_a w s) (w_i w l 4).toNatClampNeg a)) v) (w_i w l 4).toNatClampNeg b)) l 4 (w_i w l 4 + 1) = s_i (s_a (s_a w s (va_up (w_a w s) N a)) v (va_up (w_a w v) N b)) l 4 (nI (N + 1)) := by
      rw [hN, nI_n (by omega), wa_sa, if_neg (Ne.symm hsv), nI_succ]
    have K := kt hlt
    rw [← e] at K
    exact K
theorem c_X4_named {d : Nat} {w : gx_W} {l s v k m : Nat} {x : Int32} {q : Int32 → gx_W → Prop} (hd : 0 ≤ d) (h : isLw w l s v k m) (kk : q (if x < 0 ∨ x ≥ 6 then 0 else w_a w m x.toNatClampNeg) w) : gx_C 0 0 d mX4_named [.ref l, .int x] w (Qi q) := by
  refine gx_C_of' (L := [.ref l, .int x]) (by decide +kernel) rfl (Nat.le_of_ble_eq_true rfl) ?_
  refine g_iload_n dX4_named_0 rfl ?_
  refine g_if_lt (tgt := 19) dX4_named_1 (by decide) (fun zc1 => ?_) (fun zc1 => ?_)
  · refine g_iconst (v := 0) dX4_named_19 rfl ?_
    refine g_iret dX4_named_20 rfl ⟨_, rfl, ?_⟩
    first
      | (rw [if_pos (Or.inl zc1)] at kk; exact kk)
      | (rw [if_pos (Or.inr zc7)] at kk; exact kk)
      | (rw [if_neg (fun z => by rcases z with z | z; exact zc1 z; exact zc7 z)] at kk; exact kk)
      | (rw [if_neg (fun z => by
          rcases z with z | z
          · exact zc1 z
          · exact absurd z (by simpa using zc7))] at kk
         exact kk)
  · refine g_iload_n dX4_named_4 rfl ?_
    refine g_bipush (v := 6) dX4_named_5 rfl ?_
    refine g_icmp_ge (tgt := 19) dX4_named_7 (by decide) (fun zc7 => ?_) (fun zc7 => ?_)
    · refine g_iconst (v := 0) dX4_named_19 rfl ?_
      refine g_iret dX4_named_20 rfl ⟨_, rfl, ?_⟩
      first
        | (rw [if_pos (Or.inl zc1)] at kk; exact kk)
        | (rw [if_pos (Or.inr zc7)] at kk; exact kk)
        | (rw [if_neg (fun z => by rcases z with z | z; exact zc1 z; exact zc7 z)] at kk; exact kk)
        | (rw [if_neg (fun z => by
            rcases z with z | z
            · exact zc1 z
            · exact absurd z (by simpa using zc7))] at kk
           exact kk)
    · refine g_aload_n dX4_named_10 rfl ?_
      refine g_getr dX4_named_11 fl_X4_19 h.1 h.2.2.2.2.1 ?_
      refine g_iload_n dX4_named_14 rfl ?_
      refine g_iald dX4_named_15 h.2.2.2.2.2 (by
        have h6 : ¬ x ≥ 6 := by simpa using zc7
        rw [vp_in_iff]
        rw [pI_lt] at zc1
        rw [pI_ge] at h6
        have e : (6 : Int32).toInt = 6 := by decide
        have e0 : (0 : Int32).toInt = 0 := by decide
        omega) ?_
      refine g_goto (tgt := 20) dX4_named_16 (by decide) ?_
      refine g_iret dX4_named_20 rfl ⟨_, rfl, ?_⟩
      first
        | (rw [if_pos (Or.inl zc1)] at kk; exact kk)
        | (rw [if_pos (Or.inr zc7)] at kk; exact kk)
        | (rw [if_neg (fun z => by rcases z with z | z; exact zc1 z; exact zc7 z)] at kk; exact kk)
        | (rw [if_neg (fun z => by
            rcases z with z | z
            · exact zc1 z
            · exact absurd z (by simpa using zc7))] at kk
           exact kk)
theorem stR_lay {w : gx_W} {l k : Nat} {st : List Int32} {x : Int32} (h : stR w l k st) (hlt : st.length < 64) : stR (s_i (s_a w k (va_up (w_a w k) st.length x)) l 5 (nI (st.length + 1))) l k (lw_lay x st) := by
  have e : lw_lay x st = x :: st := if_pos hlt
  rw [e]
  refine ⟨by rw [wi_si, if_pos ⟨rfl, rfl⟩, List.length_cons], by rw [List.length_cons]; omega, fun i hi => ?_⟩
  rw [List.length_cons] at hi ⊢
  rw [wa_si, wa_sa, if_pos rfl, up_at]
  by_cases hi2 : i = st.length
  · subst hi2
    rw [if_pos rfl]
    simp
  · rw [if_neg hi2, h.2.2 i (by omega)]
    have e2 : st.length + 1 - 1 - i = (st.length - 1 - i) + 1 := by omega
    rw [e2, List.getD_cons_succ]
theorem stR_full {w : gx_W} {l k : Nat} {st : List Int32} {x : Int32} (h : stR w l k st) (hlt : ¬ st.length < 64) : stR w l k (lw_lay x st) := by
  have e : lw_lay x st = st := if_neg hlt
  rw [e]
  exact h
theorem stR_take {w : gx_W} {l k : Nat} {x : Int32} {st : List Int32} (h : stR w l k (x :: st)) : stR (s_i w l 5 (nI st.length)) l k st ∧ w_a w k st.length = x := by
  have h1 := h.2.1
  rw [List.length_cons] at h1
  refine ⟨⟨by rw [wi_si, if_pos ⟨rfl, rfl⟩], by omega, fun i hi => ?_⟩, ?_⟩
  · rw [wa_si, h.2.2 i (by rw [List.length_cons]; omega), List.length_cons]
    have e2 : st.length + 1 - 1 - i = (st.length - 1 - i) + 1 := by omega
    rw [e2, List.getD_cons_succ]
  · rw [h.2.2 st.length (by rw [List.length_cons]; omega), List.length_cons]
    have e2 : st.length + 1 - 1 - st.length = 0 := by omega
    rw [e2, List.getD_cons_zero]
theorem c_X4_lay {d : Nat} {w : gx_W} {l s v k m : Nat} {st : List Int32} {x : Int32} {q : gx_W → Prop} (hd : 0 ≤ d) (h : isLw w l s v k m) (ht : stR w l k st) (kk : ∀ w', same [k] [(l, 5)] w w' → stR w' l k (lw_lay x st) → q w') : gx_C 0 0 d mX4_lay [.ref l, .int x] w (Qv q) := by
  refine gx_C_of' (L := [.ref l, .int x]) (by decide +kernel) rfl (Nat.le_of_ble_eq_true rfl) ?_
  refine g_aload_n dX4_lay_0 rfl ?_
  refine g_geti dX4_lay_1 fl_X4_26 h.1 ?_
  refine g_if_lt (tgt := 36) dX4_lay_4 (by decide) (fun zc4 => ?_) (fun zc4 => ?_)
  · refine g_vret dX4_lay_36 rfl ⟨rfl, ?_⟩
    exact absurd (show w_i w l 5 < 0 from zc4) (by rw [ht.1]; exact nI_pos (by have := ht.2.1; omega))
  · refine g_aload_n dX4_lay_7 rfl ?_
    refine g_geti dX4_lay_8 fl_X4_26 h.1 ?_
    refine g_bipush (v := 64) dX4_lay_11 rfl ?_
    refine g_icmp_ge (tgt := 36) dX4_lay_13 (by decide) (fun zc13 => ?_) (fun zc13 => ?_)
    · refine g_vret dX4_lay_36 rfl ⟨rfl, ?_⟩
      have hge : ¬ st.length < 64 := by
        intro hlt
        have c := zc13
        rw [ht.1] at c
        exact absurd c (nI_ge (b := 64) hlt (by decide))
      exact kk w same.rf (stR_full ht hge)
    · have hlt : st.length < 64 := by
        have c := zc13
        rw [ht.1, pI_le, nI_toInt (by have := ht.2.1; omega)] at c
        have e : (64 : Int32).toInt = 64 := by decide
        omega
      have hi : vp_in (w_i w l 5) 64 := by
        rw [ht.1]
        exact vp_in_nI hlt (by omega)
      refine g_aload_n dX4_lay_16 rfl ?_
      refine g_getr dX4_lay_17 fl_X4_16 h.1 h.2.2.2.1.1 ?_
      refine g_aload_n dX4_lay_20 rfl ?_
      refine g_geti dX4_lay_21 fl_X4_26 h.1 ?_
      refine g_iload_n dX4_lay_24 rfl ?_
      refine g_iast dX4_lay_25 h.2.2.2.1.2 hi ?_
      refine g_aload_n dX4_lay_26 rfl ?_
      refine g_dup dX4_lay_27 rfl ?_
      refine g_geti dX4_lay_28 fl_X4_26 h.1 ?_
      refine g_iconst (v := 1) dX4_lay_31 rfl ?_
      refine g_iadd dX4_lay_32 ?_
      refine g_puti dX4_lay_33 fl_X4_26 ft_4_5 h.1 ?_
      refine g_vret dX4_lay_36 rfl ⟨rfl, ?_⟩
      have e : s_i (s_a w k (va_up (w_a w k) (w_i w l 5).toNatClampNeg x)) l 5 (w_i w l 5 + 1) = s_i (s_a w k (va_up (w_a w k) st.length x)) l 5 (nI (st.length + 1)) := by
        rw [ht.1, nI_n (by omega), nI_succ]
      have K := kk _ ((same.rf.sa (k := k) (f := va_up (w_a w k) st.length x) (by simp)).si (k := l) (j := 5) (v := nI (st.length + 1)) (by simp)) (stR_lay ht hlt)
      rw [← e] at K
      exact K
theorem c_X4_take {d : Nat} {w : gx_W} {l s v k m : Nat} {st : List Int32} {q : Int32 → gx_W → Prop} (hd : 0 ≤ d) (h : isLw w l s v k m) (ht : stR w l k st) (kk : ∀ w', same [] [(l, 5)] w w' → stR w' l k st.tail → q (st.headD 0) w') : gx_C 0 0 d mX4_take [.ref l] w (Qi q) := by
  refine gx_C_of' (L := [.ref l]) (by decide +kernel) rfl (Nat.le_of_ble_eq_true rfl) ?_
  have hsz := ht.2.1
  have htop := ht.1
  refine g_aload_n dX4_take_0 rfl ?_
  refine g_geti dX4_take_1 fl_X4_26 h.1 ?_
  refine g_if_le (tgt := 16) dX4_take_4 (by decide) (fun zc4 => ?_) (fun zc4 => ?_)
  · refine g_iconst (v := 0) dX4_take_16 rfl ?_
    refine g_iret dX4_take_17 rfl ⟨_, rfl, ?_⟩
    first
      | (cases st with
         | nil => exact kk w same.rf ht
         | cons x0 st0 =>
           exfalso
           rw [List.length_cons] at hsz htop
           have c : w_i w l 5 ≤ 0 := zc4
           rw [htop, pI_le, nI_toInt (by omega)] at c
           have e : (0 : Int32).toInt = 0 := by decide
           omega)
      | (exfalso
         have c : w_i w l 5 > 64 := by simpa using zc13
         rw [htop, pI_gt, nI_toInt (by omega)] at c
         have e : (64 : Int32).toInt = 64 := by decide
         omega)
  · refine g_aload_n dX4_take_7 rfl ?_
    refine g_geti dX4_take_8 fl_X4_26 h.1 ?_
    refine g_bipush (v := 64) dX4_take_11 rfl ?_
    refine g_icmp_le (tgt := 18) dX4_take_13 (by decide) (fun zc13 => ?_) (fun zc13 => ?_)
    · cases st with
      | nil => exact absurd (show w_i w l 5 ≤ 0 by rw [htop]; decide) (by simpa using zc4)
      | cons x0 st0 =>
      obtain ⟨r1, r2⟩ := stR_take ht
      rw [List.length_cons] at hsz htop
      have ee : w_i w l 5 - 1 = nI st0.length := by rw [htop, nI_pred]
      have ei : w_i (s_i w l 5 (w_i w l 5 - 1)) l 5 = nI st0.length := by rw [wi_si, if_pos ⟨rfl, rfl⟩, ee]
      have hi : vp_in (w_i (s_i w l 5 (w_i w l 5 - 1)) l 5) 64 := by rw [ei]; exact vp_in_nI (by omega) (by omega)
      refine g_aload_n dX4_take_18 rfl ?_
      refine g_dup dX4_take_19 rfl ?_
      refine g_geti dX4_take_20 fl_X4_26 h.1 ?_
      refine g_iconst (v := 1) dX4_take_23 rfl ?_
      refine g_isub dX4_take_24 ?_
      refine g_puti dX4_take_25 fl_X4_26 ft_4_5 h.1 ?_
      refine g_aload_n dX4_take_28 rfl ?_
      refine g_getr dX4_take_29 fl_X4_16 h.1 h.2.2.2.1.1 ?_
      refine g_aload_n dX4_take_32 rfl ?_
      refine g_geti dX4_take_33 fl_X4_26 h.1 ?_
      refine g_iald dX4_take_36 h.2.2.2.1.2 hi ?_
      refine g_iret dX4_take_37 rfl ⟨_, rfl, ?_⟩
      rw [ei, nI_n (by omega), wa_si, r2, ee]
      exact kk _ (same.rf.si (by simp)) r1
    · refine g_iconst (v := 0) dX4_take_16 rfl ?_
      refine g_iret dX4_take_17 rfl ⟨_, rfl, ?_⟩
      first
        | (cases st with
           | nil => exact kk w same.rf ht
           | cons x0 st0 =>
             exfalso
             rw [List.length_cons] at hsz htop
             have c : w_i w l 5 ≤ 0 := zc4
             rw [htop, pI_le, nI_toInt (by omega)] at c
             have e : (0 : Int32).toInt = 0 := by decide
             omega)
        | (exfalso
           have c : w_i w l 5 > 64 := by simpa using zc13
           rw [htop, pI_gt, nI_toInt (by omega)] at c
           have e : (64 : Int32).toInt = 64 := by decide
           omega)
set_option maxHeartbeats 4000000 in
theorem c_X4_joined {d : Nat} {w : gx_W} {sg a b : Int32} {q : Int32 → gx_W → Prop} (hd : 0 ≤ d) (kk : q (lw_two sg a b) w) : gx_C 0 0 d mX4_joined [.int sg, .int a, .int b] w (Qi q) := by
  refine gx_C_of' (L := [.int sg, .int a, .int b]) (by decide +kernel) rfl (Nat.le_of_ble_eq_true rfl) ?_
  refine g_iload_n dX4_joined_0 rfl ?_
  by_cases s1_0 : sg = 37
  · refine g_lookup (off := 176) (tgt := 177) dX4_joined_1 (by decide) (by rw [s1_0]; rfl) (by decide) ?_
    refine g_iload_n dX4_joined_177 rfl ?_
    refine g_if_ne (tgt := 185) dX4_joined_178 (by decide) (fun zc178 => ?_) (fun zc178 => ?_)
    · refine g_iload_n dX4_joined_185 rfl ?_
      refine g_iload_n dX4_joined_186 rfl ?_
      refine g_irem dX4_joined_187 (by simpa using zc178) ?_
      refine g_iret dX4_joined_188 rfl ⟨_, rfl, ?_⟩
      unfold lw_two at kk
      simp_all
      try (rw [if_neg (Int32.not_lt.mpr (by assumption))] at kk; exact kk)
    · refine g_iconst (v := 0) dX4_joined_181 rfl ?_
      refine g_goto (tgt := 188) dX4_joined_182 (by decide) ?_
      refine g_iret dX4_joined_188 rfl ⟨_, rfl, ?_⟩
      unfold lw_two at kk
      simp_all
      try (rw [if_neg (Int32.not_lt.mpr (by assumption))] at kk; exact kk)
  by_cases s1_1 : sg = 38
  · refine g_lookup (off := 105) (tgt := 106) dX4_joined_1 (by decide) (by rw [s1_1]; rfl) (by decide) ?_
    refine g_iload_n dX4_joined_106 rfl ?_
    refine g_if_eq (tgt := 118) dX4_joined_107 (by decide) (fun zc107 => ?_) (fun zc107 => ?_)
    · refine g_iconst (v := 0) dX4_joined_118 rfl ?_
      refine g_iret dX4_joined_119 rfl ⟨_, rfl, ?_⟩
      unfold lw_two at kk
      simp_all
      try (rw [if_neg (Int32.not_lt.mpr (by assumption))] at kk; exact kk)
    · refine g_iload_n dX4_joined_110 rfl ?_
      refine g_if_eq (tgt := 118) dX4_joined_111 (by decide) (fun zc111 => ?_) (fun zc111 => ?_)
      · refine g_iconst (v := 0) dX4_joined_118 rfl ?_
        refine g_iret dX4_joined_119 rfl ⟨_, rfl, ?_⟩
        unfold lw_two at kk
        simp_all
        try (rw [if_neg (Int32.not_lt.mpr (by assumption))] at kk; exact kk)
      · refine g_iconst (v := 1) dX4_joined_114 rfl ?_
        refine g_goto (tgt := 119) dX4_joined_115 (by decide) ?_
        refine g_iret dX4_joined_119 rfl ⟨_, rfl, ?_⟩
        unfold lw_two at kk
        simp_all
        try (rw [if_neg (Int32.not_lt.mpr (by assumption))] at kk; exact kk)
  by_cases s1_2 : sg = 42
  · refine g_lookup (off := 160) (tgt := 161) dX4_joined_1 (by decide) (by rw [s1_2]; rfl) (by decide) ?_
    refine g_iload_n dX4_joined_161 rfl ?_
    refine g_iload_n dX4_joined_162 rfl ?_
    refine g_imul dX4_joined_163 ?_
    refine g_iret dX4_joined_164 rfl ⟨_, rfl, ?_⟩
    unfold lw_two at kk
    simp_all
    try (rw [if_neg (Int32.not_lt.mpr (by assumption))] at kk; exact kk)
  by_cases s1_3 : sg = 43
  · refine g_lookup (off := 152) (tgt := 153) dX4_joined_1 (by decide) (by rw [s1_3]; rfl) (by decide) ?_
    refine g_iload_n dX4_joined_153 rfl ?_
    refine g_iload_n dX4_joined_154 rfl ?_
    refine g_iadd dX4_joined_155 ?_
    refine g_iret dX4_joined_156 rfl ⟨_, rfl, ?_⟩
    unfold lw_two at kk
    simp_all
    try (rw [if_neg (Int32.not_lt.mpr (by assumption))] at kk; exact kk)
  by_cases s1_4 : sg = 45
  · refine g_lookup (off := 156) (tgt := 157) dX4_joined_1 (by decide) (by rw [s1_4]; rfl) (by decide) ?_
    refine g_iload_n dX4_joined_157 rfl ?_
    refine g_iload_n dX4_joined_158 rfl ?_
    refine g_isub dX4_joined_159 ?_
    refine g_iret dX4_joined_160 rfl ⟨_, rfl, ?_⟩
    unfold lw_two at kk
    simp_all
    try (rw [if_neg (Int32.not_lt.mpr (by assumption))] at kk; exact kk)
  by_cases s1_5 : sg = 47
  · refine g_lookup (off := 164) (tgt := 165) dX4_joined_1 (by decide) (by rw [s1_5]; rfl) (by decide) ?_
    refine g_iload_n dX4_joined_165 rfl ?_
    refine g_if_ne (tgt := 173) dX4_joined_166 (by decide) (fun zc166 => ?_) (fun zc166 => ?_)
    · refine g_iload_n dX4_joined_173 rfl ?_
      refine g_iload_n dX4_joined_174 rfl ?_
      refine g_idiv dX4_joined_175 (by simpa using zc166) ?_
      refine g_iret dX4_joined_176 rfl ⟨_, rfl, ?_⟩
      unfold lw_two at kk
      simp_all
      try (rw [if_neg (Int32.not_lt.mpr (by assumption))] at kk; exact kk)
    · refine g_iconst (v := 0) dX4_joined_169 rfl ?_
      refine g_goto (tgt := 176) dX4_joined_170 (by decide) ?_
      refine g_iret dX4_joined_176 rfl ⟨_, rfl, ?_⟩
      unfold lw_two at kk
      simp_all
      try (rw [if_neg (Int32.not_lt.mpr (by assumption))] at kk; exact kk)
  by_cases s1_6 : sg = 60
  · refine g_lookup (off := 119) (tgt := 120) dX4_joined_1 (by decide) (by rw [s1_6]; rfl) (by decide) ?_
    refine g_iload_n dX4_joined_120 rfl ?_
    refine g_iload_n dX4_joined_121 rfl ?_
    refine g_icmp_ge (tgt := 129) dX4_joined_122 (by decide) (fun zc122 => ?_) (fun zc122 => ?_)
    · refine g_iconst (v := 0) dX4_joined_129 rfl ?_
      refine g_iret dX4_joined_130 rfl ⟨_, rfl, ?_⟩
      unfold lw_two at kk
      simp_all
      try (rw [if_neg (Int32.not_lt.mpr (by assumption))] at kk; exact kk)
    · refine g_iconst (v := 1) dX4_joined_125 rfl ?_
      refine g_goto (tgt := 130) dX4_joined_126 (by decide) ?_
      refine g_iret dX4_joined_130 rfl ⟨_, rfl, ?_⟩
      unfold lw_two at kk
      simp_all
      try (rw [if_neg (Int32.not_lt.mpr (by assumption))] at kk; exact kk)
  by_cases s1_7 : sg = 61
  · refine g_lookup (off := 130) (tgt := 131) dX4_joined_1 (by decide) (by rw [s1_7]; rfl) (by decide) ?_
    refine g_iload_n dX4_joined_131 rfl ?_
    refine g_iload_n dX4_joined_132 rfl ?_
    refine g_icmp_ne (tgt := 140) dX4_joined_133 (by decide) (fun zc133 => ?_) (fun zc133 => ?_)
    · refine g_iconst (v := 0) dX4_joined_140 rfl ?_
      refine g_iret dX4_joined_141 rfl ⟨_, rfl, ?_⟩
      unfold lw_two at kk
      simp_all
      try (rw [if_neg (Int32.not_lt.mpr (by assumption))] at kk; exact kk)
    · refine g_iconst (v := 1) dX4_joined_136 rfl ?_
      refine g_goto (tgt := 141) dX4_joined_137 (by decide) ?_
      refine g_iret dX4_joined_141 rfl ⟨_, rfl, ?_⟩
      unfold lw_two at kk
      simp_all
      try (rw [if_neg (Int32.not_lt.mpr (by assumption))] at kk; exact kk)
  by_cases s1_8 : sg = 62
  · refine g_lookup (off := 141) (tgt := 142) dX4_joined_1 (by decide) (by rw [s1_8]; rfl) (by decide) ?_
    refine g_iload_n dX4_joined_142 rfl ?_
    refine g_iload_n dX4_joined_143 rfl ?_
    refine g_icmp_le (tgt := 151) dX4_joined_144 (by decide) (fun zc144 => ?_) (fun zc144 => ?_)
    · refine g_iconst (v := 0) dX4_joined_151 rfl ?_
      refine g_iret dX4_joined_152 rfl ⟨_, rfl, ?_⟩
      unfold lw_two at kk
      simp_all
      try (rw [if_neg (Int32.not_lt.mpr (by assumption))] at kk; exact kk)
    · refine g_iconst (v := 1) dX4_joined_147 rfl ?_
      refine g_goto (tgt := 152) dX4_joined_148 (by decide) ?_
      refine g_iret dX4_joined_152 rfl ⟨_, rfl, ?_⟩
      unfold lw_two at kk
      simp_all
      try (rw [if_neg (Int32.not_lt.mpr (by assumption))] at kk; exact kk)
  by_cases s1_9 : sg = 124
  · refine g_lookup (off := 91) (tgt := 92) dX4_joined_1 (by decide) (by rw [s1_9]; rfl) (by decide) ?_
    refine g_iload_n dX4_joined_92 rfl ?_
    refine g_if_ne (tgt := 100) dX4_joined_93 (by decide) (fun zc93 => ?_) (fun zc93 => ?_)
    · refine g_iconst (v := 1) dX4_joined_100 rfl ?_
      refine g_goto (tgt := 105) dX4_joined_101 (by decide) ?_
      refine g_iret dX4_joined_105 rfl ⟨_, rfl, ?_⟩
      unfold lw_two at kk
      simp_all
      try (rw [if_neg (Int32.not_lt.mpr (by assumption))] at kk; exact kk)
    · refine g_iload_n dX4_joined_96 rfl ?_
      refine g_if_eq (tgt := 104) dX4_joined_97 (by decide) (fun zc97 => ?_) (fun zc97 => ?_)
      · refine g_iconst (v := 0) dX4_joined_104 rfl ?_
        refine g_iret dX4_joined_105 rfl ⟨_, rfl, ?_⟩
        unfold lw_two at kk
        simp_all
        try (rw [if_neg (Int32.not_lt.mpr (by assumption))] at kk; exact kk)
      · refine g_iconst (v := 1) dX4_joined_100 rfl ?_
        refine g_goto (tgt := 105) dX4_joined_101 (by decide) ?_
        refine g_iret dX4_joined_105 rfl ⟨_, rfl, ?_⟩
        unfold lw_two at kk
        simp_all
        try (rw [if_neg (Int32.not_lt.mpr (by assumption))] at kk; exact kk)
  refine g_lookup (off := 188) (tgt := 189) dX4_joined_1 (by decide) (by
      show Op.lookupswitch.offset [(37, 176), (38, 105), (42, 160), (43, 152), (45, 156), (47, 164), (60, 119), (61, 130), (62, 141), (124, 91)] (188) _ = _
      rw [lv_osw s1_0 (by decide), lv_osw s1_1 (by decide), lv_osw s1_2 (by decide), lv_osw s1_3 (by decide), lv_osw s1_4 (by decide), lv_osw s1_5 (by decide), lv_osw s1_6 (by decide), lv_osw s1_7 (by decide), lv_osw s1_8 (by decide), lv_osw s1_9 (by decide)]
      rfl) (by decide) ?_
  refine g_iconst (v := 0) dX4_joined_189 rfl ?_
  refine g_iret dX4_joined_190 rfl ⟨_, rfl, ?_⟩
  unfold lw_two at kk
  simp_all
  try (rw [if_neg (Int32.not_lt.mpr (by assumption))] at kk; exact kk)
theorem lw_run_nm {sg va nm nm' : Nat → Int32} (h : ∀ j, j < 6 → nm j = nm' j) : ∀ (z i : Nat) (sk : Bool) (st : List Int32), lw_run sg va nm z i sk st = lw_run sg va nm' z i sk st := by
  have hs : ∀ (a b : Int32) (st : List Int32), lw_step nm a b st = lw_step nm' a b st := by
    intro a b st
    unfold lw_step
    by_cases hb : b < 0 ∨ b ≥ 6
    · rw [if_pos hb, if_pos hb]
    · have e : nm b.toNatClampNeg = nm' b.toNatClampNeg := by
        apply h
        have h1 : ¬ b < 0 := fun z => hb (Or.inl z)
        have h2 : ¬ b ≥ 6 := fun z => hb (Or.inr z)
        rw [pI_lt] at h1
        rw [pI_ge] at h2
        have e : (6 : Int32).toInt = 6 := by decide
        have e0 : (0 : Int32).toInt = 0 := by decide
        show b.toInt.toNat < 6
        omega
      rw [if_neg hb, if_neg hb, e]
  intro z
  induction z with
  | zero => intro i sk st; rfl
  | succ z ih =>
    intro i sk st
    unfold lw_run
    simp only [ih, hs]
set_option maxHeartbeats 8000000 in
theorem l_X4_gives {d l s v k m N : Nat} {w : gx_W} {q : Int32 → gx_W → Prop} {a1 a2 a3 a4 a5 a6 R : Int32} {NM : Nat → Int32} (hd : 2 ≤ d) (h : isLw w l s v k m) (hN : w_i w l 4 = nI N) (hb : N ≤ 128) (hne : s ≠ k ∧ s ≠ m ∧ v ≠ k ∧ v ≠ m ∧ k ≠ m) (kk : ∀ w', same [k, m] [(l, 5)] w w' → q R w') : ∀ z i : Nat, i + z = N → ∀ (sk : Bool) (x9 x10 x11 : Value) (st : List Int32) (w' : gx_W), same [k, m] [(l, 5)] w w' → w_a w' m = NM → stR w' l k st → lw_run (w_a w s) (w_a w v) NM z i sk st = R → gx_G 0 0 d mX4_gives (Qi q) 56 [.ref l, .int a1, .int a2, .int a3, .int a4, .int a5, .int a6, .int (if sk then 1 else 0), .int (nI i), x9, x10, x11] [] w' := by
  intro z
  induction z with
  | zero =>
    intro i hi sk x9 x10 x11 st w' hw hm ht hR
    have hl := h.same hw
    have hN' : w_i w' l 4 = nI N := (hw.2.1 l 4 (by simp)).trans hN
    refine g_iload dX4_gives_56 rfl ?_
    refine g_aload_n dX4_gives_58 rfl ?_
    refine g_geti dX4_gives_59 fl_X4_22 hl.1 ?_
    refine g_icmp_ge (tgt := 254) dX4_gives_62 (by decide) (fun zc62 => ?_) (fun zc62 => ?_)
    · refine g_iconst (v := 0) dX4_gives_254 rfl ?_
      refine g_iret dX4_gives_255 rfl ⟨_, rfl, ?_⟩
      rw [show (0 : Int32) = R from hR]
      exact kk _ hw
    · have e : i = N := by omega
      subst e
      rw [hN'] at zc62
      exact absurd (Int32.le_refl _) zc62
  | succ z ih =>
    intro i hi sk x9 x10 x11 st w' hw hm ht hR
    have hl := h.same hw
    have hN' : w_i w' l 4 = nI N := (hw.2.1 l 4 (by simp)).trans hN
    have hsg : w_a w' s = w_a w s := (hw.2.2.2.1 s (by simp [hne.1, hne.2.1])).1
    have hva : w_a w' v = w_a w v := (hw.2.2.2.1 v (by simp [hne.2.2.1, hne.2.2.2.1])).1
    obtain ⟨sg, hsgi⟩ : ∃ x, w_a w s i = x := ⟨_, rfl⟩
    obtain ⟨va, hvai⟩ : ∃ x, w_a w v i = x := ⟨_, rfl⟩
    have hi128 : vp_in (nI i) 128 := vp_in_nI (by omega) (by omega)
    cases sk with
    | true =>
      show gx_G 0 0 d mX4_gives (Qi q) 56 [.ref l, .int a1, .int a2, .int a3, .int a4, .int a5, .int a6, .int 1, .int (nI i), x9, x10, x11] [] w'
      refine g_iload dX4_gives_56 rfl ?_
      refine g_aload_n dX4_gives_58 rfl ?_
      refine g_geti dX4_gives_59 fl_X4_22 hl.1 ?_
      refine g_icmp_ge (tgt := 254) dX4_gives_62 (by decide) (fun zc62 => ?_) (fun zc62 => ?_)
      · refine g_iconst (v := 0) dX4_gives_254 rfl ?_
        refine g_iret dX4_gives_255 rfl ⟨_, rfl, ?_⟩
        exact absurd (show nI N ≤ nI i by rw [← hN']; exact zc62) (nI_ge (by omega) (by omega))
      · refine g_aload_n dX4_gives_65 rfl ?_
        refine g_getr dX4_gives_66 fl_X4_9 hl.1 hl.2.1.1 ?_
        refine g_iload dX4_gives_69 rfl ?_
        refine g_iald dX4_gives_71 hl.2.1.2 hi128 ?_
        rw [nI_n (by omega), hsg, hsgi]
        refine g_istore dX4_gives_72 (Nat.le_of_ble_eq_true rfl) rfl ?_
        refine g_iload dX4_gives_74 rfl ?_
        refine g_if_eq (tgt := 96) dX4_gives_76 (by decide) (fun q => absurd q (by decide)) (fun _ => ?_)
        refine g_iload dX4_gives_79 rfl ?_
        refine g_bipush (v := 59) dX4_gives_81 rfl ?_
        refine g_icmp_eq (tgt := 90) dX4_gives_83 (by decide) (fun zc83 => ?_) (fun zc83 => ?_)
        · refine g_iconst (v := 0) dX4_gives_90 rfl ?_
          refine g_istore dX4_gives_91 (Nat.le_of_ble_eq_true rfl) rfl ?_
          refine g_goto (tgt := 248) dX4_gives_93 (by decide) ?_
          refine g_iinc dX4_gives_248 rfl rfl ?_
          refine g_goto (tgt := 56) dX4_gives_251 (by decide) ?_
          rw [nI_1']
          exact ih (i + 1) (by omega) false _ _ _ _ w' hw hm ht (by
            rw [← hR]
            simp_all [lw_run, lw_step])
        · refine g_iconst (v := 1) dX4_gives_86 rfl ?_
          refine g_goto (tgt := 91) dX4_gives_87 (by decide) ?_
          refine g_istore dX4_gives_91 (Nat.le_of_ble_eq_true rfl) rfl ?_
          refine g_goto (tgt := 248) dX4_gives_93 (by decide) ?_
          refine g_iinc dX4_gives_248 rfl rfl ?_
          refine g_goto (tgt := 56) dX4_gives_251 (by decide) ?_
          rw [nI_1']
          exact ih (i + 1) (by omega) true _ _ _ _ w' hw hm ht (by
            rw [← hR]
            simp_all [lw_run, lw_step])
    | false =>
      show gx_G 0 0 d mX4_gives (Qi q) 56 [.ref l, .int a1, .int a2, .int a3, .int a4, .int a5, .int a6, .int 0, .int (nI i), x9, x10, x11] [] w'
      refine g_iload dX4_gives_56 rfl ?_
      refine g_aload_n dX4_gives_58 rfl ?_
      refine g_geti dX4_gives_59 fl_X4_22 hl.1 ?_
      refine g_icmp_ge (tgt := 254) dX4_gives_62 (by decide) (fun zc62 => ?_) (fun zc62 => ?_)
      · refine g_iconst (v := 0) dX4_gives_254 rfl ?_
        refine g_iret dX4_gives_255 rfl ⟨_, rfl, ?_⟩
        exact absurd (show nI N ≤ nI i by rw [← hN']; exact zc62) (nI_ge (by omega) (by omega))
      · refine g_aload_n dX4_gives_65 rfl ?_
        refine g_getr dX4_gives_66 fl_X4_9 hl.1 hl.2.1.1 ?_
        refine g_iload dX4_gives_69 rfl ?_
        refine g_iald dX4_gives_71 hl.2.1.2 hi128 ?_
        rw [nI_n (by omega), hsg, hsgi]
        refine g_istore dX4_gives_72 (Nat.le_of_ble_eq_true rfl) rfl ?_
        refine g_iload dX4_gives_74 rfl ?_
        refine g_if_eq (tgt := 96) dX4_gives_76 (by decide) (fun _ => ?_) (fun q => absurd q (by decide))
        refine g_iload dX4_gives_96 rfl ?_
        refine g_bipush (v := 59) dX4_gives_98 rfl ?_
        refine g_icmp_ne (tgt := 108) dX4_gives_100 (by decide) (fun zc100 => ?_) (fun zc100 => ?_)
        · refine g_iload dX4_gives_108 rfl ?_
          refine g_bipush (v := 63) dX4_gives_110 rfl ?_
          refine g_icmp_ne (tgt := 132) dX4_gives_112 (by decide) (fun zc112 => ?_) (fun zc112 => ?_)
          · refine g_iload dX4_gives_132 rfl ?_
            refine g_bipush (v := 48) dX4_gives_134 rfl ?_
            refine g_icmp_ne (tgt := 153) dX4_gives_136 (by decide) (fun zc136 => ?_) (fun zc136 => ?_)
            · refine g_iload dX4_gives_153 rfl ?_
              refine g_bipush (v := 110) dX4_gives_155 rfl ?_
              refine g_icmp_ne (tgt := 178) dX4_gives_157 (by decide) (fun zc157 => ?_) (fun zc157 => ?_)
              · refine g_iload dX4_gives_178 rfl ?_
                refine g_bipush (v := 33) dX4_gives_180 rfl ?_
                refine g_icmp_ne (tgt := 204) dX4_gives_182 (by decide) (fun zc182 => ?_) (fun zc182 => ?_)
                · refine g_iload dX4_gives_204 rfl ?_
                  refine g_bipush (v := 126) dX4_gives_206 rfl ?_
                  refine g_icmp_ne (tgt := 223) dX4_gives_208 (by decide) (fun zc208 => ?_) (fun zc208 => ?_)
                  · refine g_aload_n dX4_gives_223 rfl ?_
                    refine g_cV0i dX4_gives_224 ml_X4_29 mi_X4_take mv_X4_take hl.1 ⟨_, rfl, rfl⟩ (Nat.le_of_ble_eq_true rfl) rfl (by omega) ?_
                    refine c_X4_take (by omega) hl ht (fun w224 hs224 ht224 => ?_)
                    have hq224 := hs224.wk (R' := [k, m]) (F' := [(l, 5)]) (by simp) (by simp)
                    have hm224 := ((hs224.wk (R' := [k]) (F' := [(l, 5)]) (by simp) (by simp)).2.2.2.1 m (by simpa using Ne.symm hne.2.2.2.2)).1.trans hm
                    refine g_istore dX4_gives_227 (Nat.le_of_ble_eq_true rfl) rfl ?_
                    refine g_aload_n dX4_gives_229 rfl ?_
                    refine g_cV0i dX4_gives_230 ml_X4_29 mi_X4_take mv_X4_take (hl.same hq224).1 ⟨_, rfl, rfl⟩ (Nat.le_of_ble_eq_true rfl) rfl (by omega) ?_
                    refine c_X4_take (by omega) (hl.same hq224) ht224 (fun w230 hs230 ht230 => ?_)
                    have hq230 := hq224.tr (hs230.wk (R' := [k, m]) (F' := [(l, 5)]) (by simp) (by simp))
                    have hm230 := ((hs230.wk (R' := [k]) (F' := [(l, 5)]) (by simp) (by simp)).2.2.2.1 m (by simpa using Ne.symm hne.2.2.2.2)).1.trans hm224
                    refine g_istore dX4_gives_233 (Nat.le_of_ble_eq_true rfl) rfl ?_
                    refine g_aload_n dX4_gives_235 rfl ?_
                    refine g_iload dX4_gives_236 rfl ?_
                    refine g_iload dX4_gives_238 rfl ?_
                    refine g_iload dX4_gives_240 rfl ?_
                    refine g_cS3i dX4_gives_242 ml_X4_41 mi_X4_joined ms_X4_joined (Nat.le_of_ble_eq_true rfl) rfl (by omega) ?_
                    refine c_X4_joined (by omega) ?_
                    refine g_cV1v dX4_gives_245 ml_X4_33 mi_X4_lay mv_X4_lay (hl.same hq230).1 ⟨_, rfl, rfl⟩ (Nat.le_of_ble_eq_true rfl) rfl (by omega) ?_
                    refine c_X4_lay (by omega) (hl.same hq230) ht230 (fun w245 hs245 ht245 => ?_)
                    refine g_iinc dX4_gives_248 rfl rfl ?_
                    refine g_goto (tgt := 56) dX4_gives_251 (by decide) ?_
                    have hq245 := hq230.tr (hs245.wk (R' := [k, m]) (F' := [(l, 5)]) (by simp) (by simp))
                    have hm245 := ((hs245.wk (R' := [k]) (F' := [(l, 5)]) (by simp) (by simp)).2.2.2.1 m (by simpa using Ne.symm hne.2.2.2.2)).1.trans hm230
                    rw [nI_1']
                    exact ih (i + 1) (by omega) false _ _ _ _ w245 (hw.tr hq245) hm245 ht245 (by
                      rw [← hR]
                      simp_all [lw_run, lw_step])
                  · refine g_aload_n dX4_gives_211 rfl ?_
                    refine g_aload_n dX4_gives_212 rfl ?_
                    refine g_cV0i dX4_gives_213 ml_X4_29 mi_X4_take mv_X4_take hl.1 ⟨_, rfl, rfl⟩ (Nat.le_of_ble_eq_true rfl) rfl (by omega) ?_
                    refine c_X4_take (by omega) hl ht (fun w213 hs213 ht213 => ?_)
                    have hq213 := hs213.wk (R' := [k, m]) (F' := [(l, 5)]) (by simp) (by simp)
                    have hm213 := ((hs213.wk (R' := [k]) (F' := [(l, 5)]) (by simp) (by simp)).2.2.2.1 m (by simpa using Ne.symm hne.2.2.2.2)).1.trans hm
                    refine g_ineg dX4_gives_216 ?_
                    refine g_cV1v dX4_gives_217 ml_X4_33 mi_X4_lay mv_X4_lay (hl.same hq213).1 ⟨_, rfl, rfl⟩ (Nat.le_of_ble_eq_true rfl) rfl (by omega) ?_
                    refine c_X4_lay (by omega) (hl.same hq213) ht213 (fun w217 hs217 ht217 => ?_)
                    have hq217 := hq213.tr (hs217.wk (R' := [k, m]) (F' := [(l, 5)]) (by simp) (by simp))
                    have hm217 := ((hs217.wk (R' := [k]) (F' := [(l, 5)]) (by simp) (by simp)).2.2.2.1 m (by simpa using Ne.symm hne.2.2.2.2)).1.trans hm213
                    refine g_goto (tgt := 248) dX4_gives_220 (by decide) ?_
                    refine g_iinc dX4_gives_248 rfl rfl ?_
                    refine g_goto (tgt := 56) dX4_gives_251 (by decide) ?_
                    rw [nI_1']
                    exact ih (i + 1) (by omega) false _ _ _ _ w217 (hw.tr hq217) hm217 ht217 (by
                      rw [← hR]
                      simp_all [lw_run, lw_step])
                · refine g_aload_n dX4_gives_185 rfl ?_
                  refine g_aload_n dX4_gives_186 rfl ?_
                  refine g_cV0i dX4_gives_187 ml_X4_29 mi_X4_take mv_X4_take hl.1 ⟨_, rfl, rfl⟩ (Nat.le_of_ble_eq_true rfl) rfl (by omega) ?_
                  refine c_X4_take (by omega) hl ht (fun w187 hs187 ht187 => ?_)
                  have hq187 := hs187.wk (R' := [k, m]) (F' := [(l, 5)]) (by simp) (by simp)
                  have hm187 := ((hs187.wk (R' := [k]) (F' := [(l, 5)]) (by simp) (by simp)).2.2.2.1 m (by simpa using Ne.symm hne.2.2.2.2)).1.trans hm
                  refine g_if_ne (tgt := 197) dX4_gives_190 (by decide) (fun zc190 => ?_) (fun zc190 => ?_)
                  · refine g_iconst (v := 0) dX4_gives_197 rfl ?_
                    refine g_cV1v dX4_gives_198 ml_X4_33 mi_X4_lay mv_X4_lay (hl.same hq187).1 ⟨_, rfl, rfl⟩ (Nat.le_of_ble_eq_true rfl) rfl (by omega) ?_
                    refine c_X4_lay (by omega) (hl.same hq187) ht187 (fun w198 hs198 ht198 => ?_)
                    have hq198 := hq187.tr (hs198.wk (R' := [k, m]) (F' := [(l, 5)]) (by simp) (by simp))
                    have hm198 := ((hs198.wk (R' := [k]) (F' := [(l, 5)]) (by simp) (by simp)).2.2.2.1 m (by simpa using Ne.symm hne.2.2.2.2)).1.trans hm187
                    refine g_goto (tgt := 248) dX4_gives_201 (by decide) ?_
                    refine g_iinc dX4_gives_248 rfl rfl ?_
                    refine g_goto (tgt := 56) dX4_gives_251 (by decide) ?_
                    rw [nI_1']
                    exact ih (i + 1) (by omega) false _ _ _ _ w198 (hw.tr hq198) hm198 ht198 (by
                      rw [← hR]
                      simp_all [lw_run, lw_step])
                  · refine g_iconst (v := 1) dX4_gives_193 rfl ?_
                    refine g_goto (tgt := 198) dX4_gives_194 (by decide) ?_
                    refine g_cV1v dX4_gives_198 ml_X4_33 mi_X4_lay mv_X4_lay (hl.same hq187).1 ⟨_, rfl, rfl⟩ (Nat.le_of_ble_eq_true rfl) rfl (by omega) ?_
                    refine c_X4_lay (by omega) (hl.same hq187) ht187 (fun w198 hs198 ht198 => ?_)
                    have hq198 := hq187.tr (hs198.wk (R' := [k, m]) (F' := [(l, 5)]) (by simp) (by simp))
                    have hm198 := ((hs198.wk (R' := [k]) (F' := [(l, 5)]) (by simp) (by simp)).2.2.2.1 m (by simpa using Ne.symm hne.2.2.2.2)).1.trans hm187
                    refine g_goto (tgt := 248) dX4_gives_201 (by decide) ?_
                    refine g_iinc dX4_gives_248 rfl rfl ?_
                    refine g_goto (tgt := 56) dX4_gives_251 (by decide) ?_
                    rw [nI_1']
                    exact ih (i + 1) (by omega) false _ _ _ _ w198 (hw.tr hq198) hm198 ht198 (by
                      rw [← hR]
                      simp_all [lw_run, lw_step])
              · refine g_aload_n dX4_gives_160 rfl ?_
                refine g_aload_n dX4_gives_161 rfl ?_
                refine g_aload_n dX4_gives_162 rfl ?_
                refine g_getr dX4_gives_163 fl_X4_13 hl.1 hl.2.2.1.1 ?_
                refine g_iload dX4_gives_166 rfl ?_
                refine g_iald dX4_gives_168 hl.2.2.1.2 hi128 ?_
                rw [nI_n (by omega), hva, hvai]
                refine g_cV1i dX4_gives_169 ml_X4_37 mi_X4_named mv_X4_named hl.1 ⟨_, rfl, rfl⟩ (Nat.le_of_ble_eq_true rfl) rfl (by omega) ?_
                refine c_X4_named (by omega) hl ?_
                rw [hm]
                refine g_cV1v dX4_gives_172 ml_X4_33 mi_X4_lay mv_X4_lay hl.1 ⟨_, rfl, rfl⟩ (Nat.le_of_ble_eq_true rfl) rfl (by omega) ?_
                refine c_X4_lay (by omega) hl ht (fun w172 hs172 ht172 => ?_)
                have hq172 := hs172.wk (R' := [k, m]) (F' := [(l, 5)]) (by simp) (by simp)
                have hm172 := ((hs172.wk (R' := [k]) (F' := [(l, 5)]) (by simp) (by simp)).2.2.2.1 m (by simpa using Ne.symm hne.2.2.2.2)).1.trans hm
                refine g_goto (tgt := 248) dX4_gives_175 (by decide) ?_
                refine g_iinc dX4_gives_248 rfl rfl ?_
                refine g_goto (tgt := 56) dX4_gives_251 (by decide) ?_
                rw [nI_1']
                exact ih (i + 1) (by omega) false _ _ _ _ w172 (hw.tr hq172) hm172 ht172 (by
                  rw [← hR]
                  simp_all [lw_run, lw_step])
            · refine g_aload_n dX4_gives_139 rfl ?_
              refine g_aload_n dX4_gives_140 rfl ?_
              refine g_getr dX4_gives_141 fl_X4_13 hl.1 hl.2.2.1.1 ?_
              refine g_iload dX4_gives_144 rfl ?_
              refine g_iald dX4_gives_146 hl.2.2.1.2 hi128 ?_
              rw [nI_n (by omega), hva, hvai]
              refine g_cV1v dX4_gives_147 ml_X4_33 mi_X4_lay mv_X4_lay hl.1 ⟨_, rfl, rfl⟩ (Nat.le_of_ble_eq_true rfl) rfl (by omega) ?_
              refine c_X4_lay (by omega) hl ht (fun w147 hs147 ht147 => ?_)
              have hq147 := hs147.wk (R' := [k, m]) (F' := [(l, 5)]) (by simp) (by simp)
              have hm147 := ((hs147.wk (R' := [k]) (F' := [(l, 5)]) (by simp) (by simp)).2.2.2.1 m (by simpa using Ne.symm hne.2.2.2.2)).1.trans hm
              refine g_goto (tgt := 248) dX4_gives_150 (by decide) ?_
              refine g_iinc dX4_gives_248 rfl rfl ?_
              refine g_goto (tgt := 56) dX4_gives_251 (by decide) ?_
              rw [nI_1']
              exact ih (i + 1) (by omega) false _ _ _ _ w147 (hw.tr hq147) hm147 ht147 (by
                rw [← hR]
                simp_all [lw_run, lw_step])
          · refine g_aload_n dX4_gives_115 rfl ?_
            refine g_cV0i dX4_gives_116 ml_X4_29 mi_X4_take mv_X4_take hl.1 ⟨_, rfl, rfl⟩ (Nat.le_of_ble_eq_true rfl) rfl (by omega) ?_
            refine c_X4_take (by omega) hl ht (fun w116 hs116 ht116 => ?_)
            have hq116 := hs116.wk (R' := [k, m]) (F' := [(l, 5)]) (by simp) (by simp)
            have hm116 := ((hs116.wk (R' := [k]) (F' := [(l, 5)]) (by simp) (by simp)).2.2.2.1 m (by simpa using Ne.symm hne.2.2.2.2)).1.trans hm
            refine g_if_ne (tgt := 126) dX4_gives_119 (by decide) (fun zc119 => ?_) (fun zc119 => ?_)
            · refine g_iconst (v := 0) dX4_gives_126 rfl ?_
              refine g_istore dX4_gives_127 (Nat.le_of_ble_eq_true rfl) rfl ?_
              refine g_goto (tgt := 248) dX4_gives_129 (by decide) ?_
              refine g_iinc dX4_gives_248 rfl rfl ?_
              refine g_goto (tgt := 56) dX4_gives_251 (by decide) ?_
              rw [nI_1']
              exact ih (i + 1) (by omega) false _ _ _ _ w116 (hw.tr hq116) hm116 ht116 (by
                rw [← hR]
                simp_all [lw_run, lw_step])
            · refine g_iconst (v := 1) dX4_gives_122 rfl ?_
              refine g_goto (tgt := 127) dX4_gives_123 (by decide) ?_
              refine g_istore dX4_gives_127 (Nat.le_of_ble_eq_true rfl) rfl ?_
              refine g_goto (tgt := 248) dX4_gives_129 (by decide) ?_
              refine g_iinc dX4_gives_248 rfl rfl ?_
              refine g_goto (tgt := 56) dX4_gives_251 (by decide) ?_
              rw [nI_1']
              exact ih (i + 1) (by omega) true _ _ _ _ w116 (hw.tr hq116) hm116 ht116 (by
                rw [← hR]
                simp_all [lw_run, lw_step])
        · refine g_aload_n dX4_gives_103 rfl ?_
          refine g_cV0i dX4_gives_104 ml_X4_29 mi_X4_take mv_X4_take hl.1 ⟨_, rfl, rfl⟩ (Nat.le_of_ble_eq_true rfl) rfl (by omega) ?_
          refine c_X4_take (by omega) hl ht (fun w104 hs104 ht104 => ?_)
          refine g_iret dX4_gives_107 rfl ⟨_, rfl, ?_⟩
          have e : st.headD 0 = R := by
            rw [← hR]
            simp_all [lw_run]
          rw [e]
          exact kk _ (hw.tr (hs104.wk (by simp) (by simp)))
set_option maxHeartbeats 4000000 in
theorem c_X4_gives {d : Nat} {w : gx_W} {l s v k m : Nat} {N : Nat} {a1 a2 a3 a4 a5 a6 : Int32} {q : Int32 → gx_W → Prop} (hd : 2 ≤ d) (h : isLw w l s v k m) (hN : w_i w l 4 = nI N) (hb : N ≤ 128) (hne : s ≠ k ∧ s ≠ m ∧ v ≠ k ∧ v ≠ m ∧ k ≠ m) (kk : ∀ w', same [k, m] [(l, 5)] w w' → q (lw_run (w_a w s) (w_a w v) (lw_nm a1 a2 a3 a4 a5 a6) N 0 false []) w') : gx_C 0 0 d mX4_gives [.ref l, .int a1, .int a2, .int a3, .int a4, .int a5, .int a6] w (Qi q) := by
  refine gx_C_of' (L := [.ref l, .int a1, .int a2, .int a3, .int a4, .int a5, .int a6, .retAddr 0, .retAddr 0, .retAddr 0, .retAddr 0, .retAddr 0]) (by decide +kernel) rfl (Nat.le_of_ble_eq_true rfl) ?_
  refine g_aload_n dX4_gives_0 rfl ?_
  refine g_getr dX4_gives_1 fl_X4_19 h.1 h.2.2.2.2.1 ?_
  refine g_iconst (v := 0) dX4_gives_4 rfl ?_
  refine g_iload_n dX4_gives_5 rfl ?_
  refine g_iast dX4_gives_6 h.2.2.2.2.2 (by first | assumption | exact vp_in_iff.mpr (by decide)) ?_
  refine g_aload_n dX4_gives_7 rfl ?_
  refine g_getr dX4_gives_8 fl_X4_19 h.1 h.2.2.2.2.1 ?_
  refine g_iconst (v := 1) dX4_gives_11 rfl ?_
  refine g_iload_n dX4_gives_12 rfl ?_
  refine g_iast dX4_gives_13 h.2.2.2.2.2 (by first | assumption | exact vp_in_iff.mpr (by decide)) ?_
  refine g_aload_n dX4_gives_14 rfl ?_
  refine g_getr dX4_gives_15 fl_X4_19 h.1 h.2.2.2.2.1 ?_
  refine g_iconst (v := 2) dX4_gives_18 rfl ?_
  refine g_iload_n dX4_gives_19 rfl ?_
  refine g_iast dX4_gives_20 h.2.2.2.2.2 (by first | assumption | exact vp_in_iff.mpr (by decide)) ?_
  refine g_aload_n dX4_gives_21 rfl ?_
  refine g_getr dX4_gives_22 fl_X4_19 h.1 h.2.2.2.2.1 ?_
  refine g_iconst (v := 3) dX4_gives_25 rfl ?_
  refine g_iload dX4_gives_26 rfl ?_
  refine g_iast dX4_gives_28 h.2.2.2.2.2 (by first | assumption | exact vp_in_iff.mpr (by decide)) ?_
  refine g_aload_n dX4_gives_29 rfl ?_
  refine g_getr dX4_gives_30 fl_X4_19 h.1 h.2.2.2.2.1 ?_
  refine g_iconst (v := 4) dX4_gives_33 rfl ?_
  refine g_iload dX4_gives_34 rfl ?_
  refine g_iast dX4_gives_36 h.2.2.2.2.2 (by first | assumption | exact vp_in_iff.mpr (by decide)) ?_
  refine g_aload_n dX4_gives_37 rfl ?_
  refine g_getr dX4_gives_38 fl_X4_19 h.1 h.2.2.2.2.1 ?_
  refine g_iconst (v := 5) dX4_gives_41 rfl ?_
  refine g_iload dX4_gives_42 rfl ?_
  refine g_iast dX4_gives_44 h.2.2.2.2.2 (by first | assumption | exact vp_in_iff.mpr (by decide)) ?_
  refine g_aload_n dX4_gives_45 rfl ?_
  refine g_iconst (v := 0) dX4_gives_46 rfl ?_
  refine g_puti dX4_gives_47 fl_X4_26 ft_4_5 h.1 ?_
  refine g_iconst (v := 0) dX4_gives_50 rfl ?_
  refine g_istore dX4_gives_51 (Nat.le_of_ble_eq_true rfl) rfl ?_
  refine g_iconst (v := 0) dX4_gives_53 rfl ?_
  refine g_istore dX4_gives_54 (Nat.le_of_ble_eq_true rfl) rfl ?_
  refine l_X4_gives hd h hN hb hne kk N 0 (by omega) false _ _ _ [] _ ?_ rfl ?_ (lw_run_nm (fun j hj => ?_) N 0 false [])
  · refine same.si ?_ (by simp)
    refine same.sa (same.sa (same.sa (same.sa (same.sa (same.sa same.rf ?_) ?_) ?_) ?_) ?_) ?_ <;> simp
  · refine ⟨by rw [wi_si, if_pos ⟨rfl, rfl⟩]; rfl, by decide, fun i hi => by simp at hi⟩
  · rw [wa_si]
    simp only [wa_sa, if_true, up_at, lw_nm]
    match j, hj with
    | 0, _ => rfl
    | 1, _ => rfl
    | 2, _ => rfl
    | 3, _ => rfl
    | 4, _ => rfl
    | 5, _ => rfl
    | n + 6, hj => exact absurd hj (by omega)
end
section
/-! Crossing -/
theorem dX2_init_0 : gx_d mX2_init 0 (.aload_n 0) 1 := gx_dk (by decide +kernel)
theorem dX2_init_1 : gx_d mX2_init 1 (.invokespecial 5) 3 := gx_dk (by decide +kernel)
theorem dX2_init_4 : gx_d mX2_init 4 (.aload_n 0) 1 := gx_dk (by decide +kernel)
theorem dX2_init_5 : gx_d mX2_init 5 (.bipush 28) 2 := gx_dk (by decide +kernel)
theorem dX2_init_7 : gx_d mX2_init 7 (.newarray .int) 2 := gx_dk (by decide +kernel)
theorem dX2_init_9 : gx_d mX2_init 9 (.putfield 11) 3 := gx_dk (by decide +kernel)
theorem dX2_init_12 : gx_d mX2_init 12 (.aload_n 0) 1 := gx_dk (by decide +kernel)
theorem dX2_init_13 : gx_d mX2_init 13 (.aload_n 1) 1 := gx_dk (by decide +kernel)
theorem dX2_init_14 : gx_d mX2_init 14 (.putfield 15) 3 := gx_dk (by decide +kernel)
theorem dX2_init_17 : gx_d mX2_init 17 (.aload_n 0) 1 := gx_dk (by decide +kernel)
theorem dX2_init_18 : gx_d mX2_init 18 (.getfield 11) 3 := gx_dk (by decide +kernel)
theorem dX2_init_21 : gx_d mX2_init 21 (.bipush 24) 2 := gx_dk (by decide +kernel)
theorem dX2_init_23 : gx_d mX2_init 23 (.bipush 8) 2 := gx_dk (by decide +kernel)
theorem dX2_init_25 : gx_d mX2_init 25 (.iastore) 1 := gx_dk (by decide +kernel)
theorem dX2_init_26 : gx_d mX2_init 26 (.aload_n 0) 1 := gx_dk (by decide +kernel)
theorem dX2_init_27 : gx_d mX2_init 27 (.getfield 11) 3 := gx_dk (by decide +kernel)
theorem dX2_init_30 : gx_d mX2_init 30 (.bipush 26) 2 := gx_dk (by decide +kernel)
theorem dX2_init_32 : gx_d mX2_init 32 (.iconst 2) 1 := gx_dk (by decide +kernel)
theorem dX2_init_33 : gx_d mX2_init 33 (.iastore) 1 := gx_dk (by decide +kernel)
theorem dX2_init_34 : gx_d mX2_init 34 (.aload_n 0) 1 := gx_dk (by decide +kernel)
theorem dX2_init_35 : gx_d mX2_init 35 (.getfield 11) 3 := gx_dk (by decide +kernel)
theorem dX2_init_38 : gx_d mX2_init 38 (.bipush 27) 2 := gx_dk (by decide +kernel)
theorem dX2_init_40 : gx_d mX2_init 40 (.iconst 4) 1 := gx_dk (by decide +kernel)
theorem dX2_init_41 : gx_d mX2_init 41 (.iastore) 1 := gx_dk (by decide +kernel)
theorem dX2_init_42 : gx_d mX2_init 42 (.return_) 1 := gx_dk (by decide +kernel)
theorem dX2_isRoad_0 : gx_d mX2_isRoad 0 (.iload_n 1) 1 := gx_dk (by decide +kernel)
theorem dX2_isRoad_1 : gx_d mX2_isRoad 1 (.ifCond .lt 15) 3 := gx_dk (by decide +kernel)
theorem dX2_isRoad_4 : gx_d mX2_isRoad 4 (.iload_n 1) 1 := gx_dk (by decide +kernel)
theorem dX2_isRoad_5 : gx_d mX2_isRoad 5 (.aload_n 0) 1 := gx_dk (by decide +kernel)
theorem dX2_isRoad_6 : gx_d mX2_isRoad 6 (.getfield 19) 3 := gx_dk (by decide +kernel)
theorem dX2_isRoad_9 : gx_d mX2_isRoad 9 (.if_icmp .ge 7) 3 := gx_dk (by decide +kernel)
theorem dX2_isRoad_12 : gx_d mX2_isRoad 12 (.iconst 1) 1 := gx_dk (by decide +kernel)
theorem dX2_isRoad_13 : gx_d mX2_isRoad 13 (.goto 4) 3 := gx_dk (by decide +kernel)
theorem dX2_isRoad_16 : gx_d mX2_isRoad 16 (.iconst 0) 1 := gx_dk (by decide +kernel)
theorem dX2_isRoad_17 : gx_d mX2_isRoad 17 (.ireturn) 1 := gx_dk (by decide +kernel)
theorem dX2_isFull_0 : gx_d mX2_isFull 0 (.aload_n 0) 1 := gx_dk (by decide +kernel)
theorem dX2_isFull_1 : gx_d mX2_isFull 1 (.getfield 19) 3 := gx_dk (by decide +kernel)
theorem dX2_isFull_4 : gx_d mX2_isFull 4 (.bipush 6) 2 := gx_dk (by decide +kernel)
theorem dX2_isFull_6 : gx_d mX2_isFull 6 (.if_icmp .lt 7) 3 := gx_dk (by decide +kernel)
theorem dX2_isFull_9 : gx_d mX2_isFull 9 (.iconst 1) 1 := gx_dk (by decide +kernel)
theorem dX2_isFull_10 : gx_d mX2_isFull 10 (.goto 4) 3 := gx_dk (by decide +kernel)
theorem dX2_isFull_13 : gx_d mX2_isFull 13 (.iconst 0) 1 := gx_dk (by decide +kernel)
theorem dX2_isFull_14 : gx_d mX2_isFull 14 (.ireturn) 1 := gx_dk (by decide +kernel)
theorem dX2_allRoads_0 : gx_d mX2_allRoads 0 (.iconst 1) 1 := gx_dk (by decide +kernel)
theorem dX2_allRoads_1 : gx_d mX2_allRoads 1 (.aload_n 0) 1 := gx_dk (by decide +kernel)
theorem dX2_allRoads_2 : gx_d mX2_allRoads 2 (.getfield 19) 3 := gx_dk (by decide +kernel)
theorem dX2_allRoads_5 : gx_d mX2_allRoads 5 (.ishl) 1 := gx_dk (by decide +kernel)
theorem dX2_allRoads_6 : gx_d mX2_allRoads 6 (.iconst 1) 1 := gx_dk (by decide +kernel)
theorem dX2_allRoads_7 : gx_d mX2_allRoads 7 (.isub) 1 := gx_dk (by decide +kernel)
theorem dX2_allRoads_8 : gx_d mX2_allRoads 8 (.ireturn) 1 := gx_dk (by decide +kernel)
theorem dX2_add_0 : gx_d mX2_add 0 (.aload_n 0) 1 := gx_dk (by decide +kernel)
theorem dX2_add_1 : gx_d mX2_add 1 (.invokevirtual 23) 3 := gx_dk (by decide +kernel)
theorem dX2_add_4 : gx_d mX2_add 4 (.ifCond .eq 6) 3 := gx_dk (by decide +kernel)
theorem dX2_add_7 : gx_d mX2_add 7 (.bipush (-3)) 2 := gx_dk (by decide +kernel)
theorem dX2_add_9 : gx_d mX2_add 9 (.ireturn) 1 := gx_dk (by decide +kernel)
theorem dX2_add_10 : gx_d mX2_add 10 (.aload_n 0) 1 := gx_dk (by decide +kernel)
theorem dX2_add_11 : gx_d mX2_add 11 (.getfield 19) 3 := gx_dk (by decide +kernel)
theorem dX2_add_14 : gx_d mX2_add 14 (.istore 4) 2 := gx_dk (by decide +kernel)
theorem dX2_add_16 : gx_d mX2_add 16 (.aload_n 0) 1 := gx_dk (by decide +kernel)
theorem dX2_add_17 : gx_d mX2_add 17 (.dup) 1 := gx_dk (by decide +kernel)
theorem dX2_add_18 : gx_d mX2_add 18 (.getfield 19) 3 := gx_dk (by decide +kernel)
theorem dX2_add_21 : gx_d mX2_add 21 (.iconst 1) 1 := gx_dk (by decide +kernel)
theorem dX2_add_22 : gx_d mX2_add 22 (.iadd) 1 := gx_dk (by decide +kernel)
theorem dX2_add_23 : gx_d mX2_add 23 (.putfield 19) 3 := gx_dk (by decide +kernel)
theorem dX2_add_26 : gx_d mX2_add 26 (.aload_n 0) 1 := gx_dk (by decide +kernel)
theorem dX2_add_27 : gx_d mX2_add 27 (.iload 4) 2 := gx_dk (by decide +kernel)
theorem dX2_add_29 : gx_d mX2_add 29 (.iconst 0) 1 := gx_dk (by decide +kernel)
theorem dX2_add_30 : gx_d mX2_add 30 (.iload_n 1) 1 := gx_dk (by decide +kernel)
theorem dX2_add_31 : gx_d mX2_add 31 (.invokevirtual 27) 3 := gx_dk (by decide +kernel)
theorem dX2_add_34 : gx_d mX2_add 34 (.aload_n 0) 1 := gx_dk (by decide +kernel)
theorem dX2_add_35 : gx_d mX2_add 35 (.iload 4) 2 := gx_dk (by decide +kernel)
theorem dX2_add_37 : gx_d mX2_add 37 (.iconst 1) 1 := gx_dk (by decide +kernel)
theorem dX2_add_38 : gx_d mX2_add 38 (.iload_n 2) 1 := gx_dk (by decide +kernel)
theorem dX2_add_39 : gx_d mX2_add 39 (.invokevirtual 27) 3 := gx_dk (by decide +kernel)
theorem dX2_add_42 : gx_d mX2_add 42 (.aload_n 0) 1 := gx_dk (by decide +kernel)
theorem dX2_add_43 : gx_d mX2_add 43 (.iload 4) 2 := gx_dk (by decide +kernel)
theorem dX2_add_45 : gx_d mX2_add 45 (.iconst 2) 1 := gx_dk (by decide +kernel)
theorem dX2_add_46 : gx_d mX2_add 46 (.iload_n 3) 1 := gx_dk (by decide +kernel)
theorem dX2_add_47 : gx_d mX2_add 47 (.invokevirtual 27) 3 := gx_dk (by decide +kernel)
theorem dX2_add_50 : gx_d mX2_add 50 (.aload_n 0) 1 := gx_dk (by decide +kernel)
theorem dX2_add_51 : gx_d mX2_add 51 (.iload 4) 2 := gx_dk (by decide +kernel)
theorem dX2_add_53 : gx_d mX2_add 53 (.iconst 3) 1 := gx_dk (by decide +kernel)
theorem dX2_add_54 : gx_d mX2_add 54 (.iconst 0) 1 := gx_dk (by decide +kernel)
theorem dX2_add_55 : gx_d mX2_add 55 (.invokevirtual 27) 3 := gx_dk (by decide +kernel)
theorem dX2_add_58 : gx_d mX2_add 58 (.iload 4) 2 := gx_dk (by decide +kernel)
theorem dX2_add_60 : gx_d mX2_add 60 (.ireturn) 1 := gx_dk (by decide +kernel)
theorem dX2_placeOf_0 : gx_d mX2_placeOf 0 (.iload_n 2) 1 := gx_dk (by decide +kernel)
theorem dX2_placeOf_1 : gx_d mX2_placeOf 1 (.iconst 4) 1 := gx_dk (by decide +kernel)
theorem dX2_placeOf_2 : gx_d mX2_placeOf 2 (.if_icmp .lt 24) 3 := gx_dk (by decide +kernel)
theorem dX2_placeOf_5 : gx_d mX2_placeOf 5 (.iload_n 2) 1 := gx_dk (by decide +kernel)
theorem dX2_placeOf_6 : gx_d mX2_placeOf 6 (.bipush 7) 2 := gx_dk (by decide +kernel)
theorem dX2_placeOf_8 : gx_d mX2_placeOf 8 (.if_icmp .gt 16) 3 := gx_dk (by decide +kernel)
theorem dX2_placeOf_11 : gx_d mX2_placeOf 11 (.iload_n 1) 1 := gx_dk (by decide +kernel)
theorem dX2_placeOf_12 : gx_d mX2_placeOf 12 (.ifCond .ne 12) 3 := gx_dk (by decide +kernel)
theorem dX2_placeOf_15 : gx_d mX2_placeOf 15 (.bipush 24) 2 := gx_dk (by decide +kernel)
theorem dX2_placeOf_17 : gx_d mX2_placeOf 17 (.iload_n 2) 1 := gx_dk (by decide +kernel)
theorem dX2_placeOf_18 : gx_d mX2_placeOf 18 (.iadd) 1 := gx_dk (by decide +kernel)
theorem dX2_placeOf_19 : gx_d mX2_placeOf 19 (.iconst 4) 1 := gx_dk (by decide +kernel)
theorem dX2_placeOf_20 : gx_d mX2_placeOf 20 (.isub) 1 := gx_dk (by decide +kernel)
theorem dX2_placeOf_21 : gx_d mX2_placeOf 21 (.goto 4) 3 := gx_dk (by decide +kernel)
theorem dX2_placeOf_24 : gx_d mX2_placeOf 24 (.iconst (-1)) 1 := gx_dk (by decide +kernel)
theorem dX2_placeOf_25 : gx_d mX2_placeOf 25 (.ireturn) 1 := gx_dk (by decide +kernel)
theorem dX2_placeOf_26 : gx_d mX2_placeOf 26 (.iload_n 2) 1 := gx_dk (by decide +kernel)
theorem dX2_placeOf_27 : gx_d mX2_placeOf 27 (.ifCond .lt 24) 3 := gx_dk (by decide +kernel)
theorem dX2_placeOf_30 : gx_d mX2_placeOf 30 (.iload_n 1) 1 := gx_dk (by decide +kernel)
theorem dX2_placeOf_31 : gx_d mX2_placeOf 31 (.ifCond .lt 20) 3 := gx_dk (by decide +kernel)
theorem dX2_placeOf_34 : gx_d mX2_placeOf 34 (.iload_n 1) 1 := gx_dk (by decide +kernel)
theorem dX2_placeOf_35 : gx_d mX2_placeOf 35 (.aload_n 0) 1 := gx_dk (by decide +kernel)
theorem dX2_placeOf_36 : gx_d mX2_placeOf 36 (.getfield 19) 3 := gx_dk (by decide +kernel)
theorem dX2_placeOf_39 : gx_d mX2_placeOf 39 (.if_icmp .ge 12) 3 := gx_dk (by decide +kernel)
theorem dX2_placeOf_42 : gx_d mX2_placeOf 42 (.iload_n 2) 1 := gx_dk (by decide +kernel)
theorem dX2_placeOf_43 : gx_d mX2_placeOf 43 (.bipush 6) 2 := gx_dk (by decide +kernel)
theorem dX2_placeOf_45 : gx_d mX2_placeOf 45 (.imul) 1 := gx_dk (by decide +kernel)
theorem dX2_placeOf_46 : gx_d mX2_placeOf 46 (.iload_n 1) 1 := gx_dk (by decide +kernel)
theorem dX2_placeOf_47 : gx_d mX2_placeOf 47 (.iadd) 1 := gx_dk (by decide +kernel)
theorem dX2_placeOf_48 : gx_d mX2_placeOf 48 (.goto 4) 3 := gx_dk (by decide +kernel)
theorem dX2_placeOf_51 : gx_d mX2_placeOf 51 (.iconst (-1)) 1 := gx_dk (by decide +kernel)
theorem dX2_placeOf_52 : gx_d mX2_placeOf 52 (.ireturn) 1 := gx_dk (by decide +kernel)
theorem dX2_number_0 : gx_d mX2_number 0 (.aload_n 0) 1 := gx_dk (by decide +kernel)
theorem dX2_number_1 : gx_d mX2_number 1 (.iload_n 1) 1 := gx_dk (by decide +kernel)
theorem dX2_number_2 : gx_d mX2_number 2 (.iload_n 2) 1 := gx_dk (by decide +kernel)
theorem dX2_number_3 : gx_d mX2_number 3 (.invokevirtual 31) 3 := gx_dk (by decide +kernel)
theorem dX2_number_6 : gx_d mX2_number 6 (.istore_n 3) 1 := gx_dk (by decide +kernel)
theorem dX2_number_7 : gx_d mX2_number 7 (.iload_n 3) 1 := gx_dk (by decide +kernel)
theorem dX2_number_8 : gx_d mX2_number 8 (.ifCond .lt 18) 3 := gx_dk (by decide +kernel)
theorem dX2_number_11 : gx_d mX2_number 11 (.iload_n 3) 1 := gx_dk (by decide +kernel)
theorem dX2_number_12 : gx_d mX2_number 12 (.bipush 28) 2 := gx_dk (by decide +kernel)
theorem dX2_number_14 : gx_d mX2_number 14 (.if_icmp .ge 12) 3 := gx_dk (by decide +kernel)
theorem dX2_number_17 : gx_d mX2_number 17 (.aload_n 0) 1 := gx_dk (by decide +kernel)
theorem dX2_number_18 : gx_d mX2_number 18 (.getfield 11) 3 := gx_dk (by decide +kernel)
theorem dX2_number_21 : gx_d mX2_number 21 (.iload_n 3) 1 := gx_dk (by decide +kernel)
theorem dX2_number_22 : gx_d mX2_number 22 (.iaload) 1 := gx_dk (by decide +kernel)
theorem dX2_number_23 : gx_d mX2_number 23 (.goto 5) 3 := gx_dk (by decide +kernel)
theorem dX2_number_26 : gx_d mX2_number 26 (.ldc 35) 2 := gx_dk (by decide +kernel)
theorem dX2_number_28 : gx_d mX2_number 28 (.ireturn) 1 := gx_dk (by decide +kernel)
theorem dX2_become_0 : gx_d mX2_become 0 (.aload_n 0) 1 := gx_dk (by decide +kernel)
theorem dX2_become_1 : gx_d mX2_become 1 (.iload_n 1) 1 := gx_dk (by decide +kernel)
theorem dX2_become_2 : gx_d mX2_become 2 (.iload_n 2) 1 := gx_dk (by decide +kernel)
theorem dX2_become_3 : gx_d mX2_become 3 (.invokevirtual 31) 3 := gx_dk (by decide +kernel)
theorem dX2_become_6 : gx_d mX2_become 6 (.istore 4) 2 := gx_dk (by decide +kernel)
theorem dX2_become_8 : gx_d mX2_become 8 (.iload 4) 2 := gx_dk (by decide +kernel)
theorem dX2_become_10 : gx_d mX2_become 10 (.ifCond .lt 18) 3 := gx_dk (by decide +kernel)
theorem dX2_become_13 : gx_d mX2_become 13 (.iload 4) 2 := gx_dk (by decide +kernel)
theorem dX2_become_15 : gx_d mX2_become 15 (.bipush 28) 2 := gx_dk (by decide +kernel)
theorem dX2_become_17 : gx_d mX2_become 17 (.if_icmp .ge 11) 3 := gx_dk (by decide +kernel)
theorem dX2_become_20 : gx_d mX2_become 20 (.aload_n 0) 1 := gx_dk (by decide +kernel)
theorem dX2_become_21 : gx_d mX2_become 21 (.getfield 11) 3 := gx_dk (by decide +kernel)
theorem dX2_become_24 : gx_d mX2_become 24 (.iload 4) 2 := gx_dk (by decide +kernel)
theorem dX2_become_26 : gx_d mX2_become 26 (.iload_n 3) 1 := gx_dk (by decide +kernel)
theorem dX2_become_27 : gx_d mX2_become 27 (.iastore) 1 := gx_dk (by decide +kernel)
theorem dX2_become_28 : gx_d mX2_become 28 (.return_) 1 := gx_dk (by decide +kernel)
theorem dX2_copy_0 : gx_d mX2_copy 0 (.aload_n 1) 1 := gx_dk (by decide +kernel)
theorem dX2_copy_1 : gx_d mX2_copy 1 (.getfield 11) 3 := gx_dk (by decide +kernel)
theorem dX2_copy_4 : gx_d mX2_copy 4 (.iconst 0) 1 := gx_dk (by decide +kernel)
theorem dX2_copy_5 : gx_d mX2_copy 5 (.aload_n 0) 1 := gx_dk (by decide +kernel)
theorem dX2_copy_6 : gx_d mX2_copy 6 (.getfield 11) 3 := gx_dk (by decide +kernel)
theorem dX2_copy_9 : gx_d mX2_copy 9 (.iconst 0) 1 := gx_dk (by decide +kernel)
theorem dX2_copy_10 : gx_d mX2_copy 10 (.bipush 28) 2 := gx_dk (by decide +kernel)
theorem dX2_copy_12 : gx_d mX2_copy 12 (.invokestatic 36) 3 := gx_dk (by decide +kernel)
theorem dX2_copy_15 : gx_d mX2_copy 15 (.aload_n 0) 1 := gx_dk (by decide +kernel)
theorem dX2_copy_16 : gx_d mX2_copy 16 (.aload_n 1) 1 := gx_dk (by decide +kernel)
theorem dX2_copy_17 : gx_d mX2_copy 17 (.getfield 19) 3 := gx_dk (by decide +kernel)
theorem dX2_copy_20 : gx_d mX2_copy 20 (.putfield 19) 3 := gx_dk (by decide +kernel)
theorem dX2_copy_23 : gx_d mX2_copy 23 (.aload_n 0) 1 := gx_dk (by decide +kernel)
theorem dX2_copy_24 : gx_d mX2_copy 24 (.aload_n 1) 1 := gx_dk (by decide +kernel)
theorem dX2_copy_25 : gx_d mX2_copy 25 (.getfield 15) 3 := gx_dk (by decide +kernel)
theorem dX2_copy_28 : gx_d mX2_copy 28 (.putfield 15) 3 := gx_dk (by decide +kernel)
theorem dX2_copy_31 : gx_d mX2_copy 31 (.return_) 1 := gx_dk (by decide +kernel)
theorem dX2_giveWaits_0 : gx_d mX2_giveWaits 0 (.aload_n 0) 1 := gx_dk (by decide +kernel)
theorem dX2_giveWaits_1 : gx_d mX2_giveWaits 1 (.getfield 11) 3 := gx_dk (by decide +kernel)
theorem dX2_giveWaits_4 : gx_d mX2_giveWaits 4 (.bipush 18) 2 := gx_dk (by decide +kernel)
theorem dX2_giveWaits_6 : gx_d mX2_giveWaits 6 (.aload_n 1) 1 := gx_dk (by decide +kernel)
theorem dX2_giveWaits_7 : gx_d mX2_giveWaits 7 (.iconst 0) 1 := gx_dk (by decide +kernel)
theorem dX2_giveWaits_8 : gx_d mX2_giveWaits 8 (.aload_n 1) 1 := gx_dk (by decide +kernel)
theorem dX2_giveWaits_9 : gx_d mX2_giveWaits 9 (.arraylength) 1 := gx_dk (by decide +kernel)
theorem dX2_giveWaits_10 : gx_d mX2_giveWaits 10 (.bipush 6) 2 := gx_dk (by decide +kernel)
theorem dX2_giveWaits_12 : gx_d mX2_giveWaits 12 (.invokestatic 42) 3 := gx_dk (by decide +kernel)
theorem dX2_giveWaits_15 : gx_d mX2_giveWaits 15 (.invokestatic 36) 3 := gx_dk (by decide +kernel)
theorem dX2_giveWaits_18 : gx_d mX2_giveWaits 18 (.return_) 1 := gx_dk (by decide +kernel)
theorem dX2_takeWaits_0 : gx_d mX2_takeWaits 0 (.iload_n 2) 1 := gx_dk (by decide +kernel)
theorem dX2_takeWaits_1 : gx_d mX2_takeWaits 1 (.aload_n 1) 1 := gx_dk (by decide +kernel)
theorem dX2_takeWaits_2 : gx_d mX2_takeWaits 2 (.arraylength) 1 := gx_dk (by decide +kernel)
theorem dX2_takeWaits_3 : gx_d mX2_takeWaits 3 (.invokestatic 42) 3 := gx_dk (by decide +kernel)
theorem dX2_takeWaits_6 : gx_d mX2_takeWaits 6 (.bipush 6) 2 := gx_dk (by decide +kernel)
theorem dX2_takeWaits_8 : gx_d mX2_takeWaits 8 (.invokestatic 42) 3 := gx_dk (by decide +kernel)
theorem dX2_takeWaits_11 : gx_d mX2_takeWaits 11 (.istore_n 3) 1 := gx_dk (by decide +kernel)
theorem dX2_takeWaits_12 : gx_d mX2_takeWaits 12 (.aload_n 1) 1 := gx_dk (by decide +kernel)
theorem dX2_takeWaits_13 : gx_d mX2_takeWaits 13 (.iconst 0) 1 := gx_dk (by decide +kernel)
theorem dX2_takeWaits_14 : gx_d mX2_takeWaits 14 (.aload_n 0) 1 := gx_dk (by decide +kernel)
theorem dX2_takeWaits_15 : gx_d mX2_takeWaits 15 (.getfield 11) 3 := gx_dk (by decide +kernel)
theorem dX2_takeWaits_18 : gx_d mX2_takeWaits 18 (.bipush 18) 2 := gx_dk (by decide +kernel)
theorem dX2_takeWaits_20 : gx_d mX2_takeWaits 20 (.iload_n 3) 1 := gx_dk (by decide +kernel)
theorem dX2_takeWaits_21 : gx_d mX2_takeWaits 21 (.iconst 0) 1 := gx_dk (by decide +kernel)
theorem dX2_takeWaits_22 : gx_d mX2_takeWaits 22 (.invokestatic 47) 3 := gx_dk (by decide +kernel)
theorem dX2_takeWaits_25 : gx_d mX2_takeWaits 25 (.invokestatic 36) 3 := gx_dk (by decide +kernel)
theorem dX2_takeWaits_28 : gx_d mX2_takeWaits 28 (.return_) 1 := gx_dk (by decide +kernel)
theorem dX2_isRunner_0 : gx_d mX2_isRunner 0 (.iload_n 1) 1 := gx_dk (by decide +kernel)
theorem dX2_isRunner_1 : gx_d mX2_isRunner 1 (.bipush 10) 2 := gx_dk (by decide +kernel)
theorem dX2_isRunner_3 : gx_d mX2_isRunner 3 (.idiv) 1 := gx_dk (by decide +kernel)
theorem dX2_isRunner_4 : gx_d mX2_isRunner 4 (.aload_n 0) 1 := gx_dk (by decide +kernel)
theorem dX2_isRunner_5 : gx_d mX2_isRunner 5 (.iconst 0) 1 := gx_dk (by decide +kernel)
theorem dX2_isRunner_6 : gx_d mX2_isRunner 6 (.iconst 4) 1 := gx_dk (by decide +kernel)
theorem dX2_isRunner_7 : gx_d mX2_isRunner 7 (.invokevirtual 50) 3 := gx_dk (by decide +kernel)
theorem dX2_isRunner_10 : gx_d mX2_isRunner 10 (.if_icmp .lt 20) 3 := gx_dk (by decide +kernel)
theorem dX2_isRunner_13 : gx_d mX2_isRunner 13 (.aload_n 0) 1 := gx_dk (by decide +kernel)
theorem dX2_isRunner_14 : gx_d mX2_isRunner 14 (.aload_n 0) 1 := gx_dk (by decide +kernel)
theorem dX2_isRunner_15 : gx_d mX2_isRunner 15 (.iconst 0) 1 := gx_dk (by decide +kernel)
theorem dX2_isRunner_16 : gx_d mX2_isRunner 16 (.iconst 5) 1 := gx_dk (by decide +kernel)
theorem dX2_isRunner_17 : gx_d mX2_isRunner 17 (.invokevirtual 50) 3 := gx_dk (by decide +kernel)
theorem dX2_isRunner_20 : gx_d mX2_isRunner 20 (.invokevirtual 53) 3 := gx_dk (by decide +kernel)
theorem dX2_isRunner_23 : gx_d mX2_isRunner 23 (.ifCond .eq 7) 3 := gx_dk (by decide +kernel)
theorem dX2_isRunner_26 : gx_d mX2_isRunner 26 (.iconst 1) 1 := gx_dk (by decide +kernel)
theorem dX2_isRunner_27 : gx_d mX2_isRunner 27 (.goto 4) 3 := gx_dk (by decide +kernel)
theorem dX2_isRunner_30 : gx_d mX2_isRunner 30 (.iconst 0) 1 := gx_dk (by decide +kernel)
theorem dX2_isRunner_31 : gx_d mX2_isRunner 31 (.ireturn) 1 := gx_dk (by decide +kernel)
theorem dX2_wants_0 : gx_d mX2_wants 0 (.aload_n 0) 1 := gx_dk (by decide +kernel)
theorem dX2_wants_1 : gx_d mX2_wants 1 (.iload_n 1) 1 := gx_dk (by decide +kernel)
theorem dX2_wants_2 : gx_d mX2_wants 2 (.iconst 0) 1 := gx_dk (by decide +kernel)
theorem dX2_wants_3 : gx_d mX2_wants 3 (.invokevirtual 50) 3 := gx_dk (by decide +kernel)
theorem dX2_wants_6 : gx_d mX2_wants 6 (.istore_n 3) 1 := gx_dk (by decide +kernel)
theorem dX2_wants_7 : gx_d mX2_wants 7 (.aload_n 0) 1 := gx_dk (by decide +kernel)
theorem dX2_wants_8 : gx_d mX2_wants 8 (.iload_n 1) 1 := gx_dk (by decide +kernel)
theorem dX2_wants_9 : gx_d mX2_wants 9 (.iconst 3) 1 := gx_dk (by decide +kernel)
theorem dX2_wants_10 : gx_d mX2_wants 10 (.invokevirtual 50) 3 := gx_dk (by decide +kernel)
theorem dX2_wants_13 : gx_d mX2_wants 13 (.istore 4) 2 := gx_dk (by decide +kernel)
theorem dX2_wants_15 : gx_d mX2_wants 15 (.aload_n 0) 1 := gx_dk (by decide +kernel)
theorem dX2_wants_16 : gx_d mX2_wants 16 (.iload_n 1) 1 := gx_dk (by decide +kernel)
theorem dX2_wants_17 : gx_d mX2_wants 17 (.iconst 1) 1 := gx_dk (by decide +kernel)
theorem dX2_wants_18 : gx_d mX2_wants 18 (.invokevirtual 50) 3 := gx_dk (by decide +kernel)
theorem dX2_wants_21 : gx_d mX2_wants 21 (.istore 5) 2 := gx_dk (by decide +kernel)
theorem dX2_wants_23 : gx_d mX2_wants 23 (.iload_n 2) 1 := gx_dk (by decide +kernel)
theorem dX2_wants_24 : gx_d mX2_wants 24 (.bipush 10) 2 := gx_dk (by decide +kernel)
theorem dX2_wants_26 : gx_d mX2_wants 26 (.idiv) 1 := gx_dk (by decide +kernel)
theorem dX2_wants_27 : gx_d mX2_wants 27 (.istore 6) 2 := gx_dk (by decide +kernel)
theorem dX2_wants_29 : gx_d mX2_wants 29 (.aload_n 0) 1 := gx_dk (by decide +kernel)
theorem dX2_wants_30 : gx_d mX2_wants 30 (.getfield 15) 3 := gx_dk (by decide +kernel)
theorem dX2_wants_33 : gx_d mX2_wants 33 (.invokevirtual 57) 3 := gx_dk (by decide +kernel)
theorem dX2_wants_36 : gx_d mX2_wants 36 (.ifCond .ne 14) 3 := gx_dk (by decide +kernel)
theorem dX2_wants_39 : gx_d mX2_wants 39 (.iload_n 3) 1 := gx_dk (by decide +kernel)
theorem dX2_wants_40 : gx_d mX2_wants 40 (.iload 4) 2 := gx_dk (by decide +kernel)
theorem dX2_wants_42 : gx_d mX2_wants 42 (.iadd) 1 := gx_dk (by decide +kernel)
theorem dX2_wants_43 : gx_d mX2_wants 43 (.iload 5) 2 := gx_dk (by decide +kernel)
theorem dX2_wants_45 : gx_d mX2_wants 45 (.iadd) 1 := gx_dk (by decide +kernel)
theorem dX2_wants_46 : gx_d mX2_wants 46 (.iload 6) 2 := gx_dk (by decide +kernel)
theorem dX2_wants_48 : gx_d mX2_wants 48 (.isub) 1 := gx_dk (by decide +kernel)
theorem dX2_wants_49 : gx_d mX2_wants 49 (.ireturn) 1 := gx_dk (by decide +kernel)
theorem dX2_wants_50 : gx_d mX2_wants 50 (.aload_n 0) 1 := gx_dk (by decide +kernel)
theorem dX2_wants_51 : gx_d mX2_wants 51 (.getfield 15) 3 := gx_dk (by decide +kernel)
theorem dX2_wants_54 : gx_d mX2_wants 54 (.iload_n 3) 1 := gx_dk (by decide +kernel)
theorem dX2_wants_55 : gx_d mX2_wants 55 (.iload 4) 2 := gx_dk (by decide +kernel)
theorem dX2_wants_57 : gx_d mX2_wants 57 (.iload 5) 2 := gx_dk (by decide +kernel)
theorem dX2_wants_59 : gx_d mX2_wants 59 (.iload 6) 2 := gx_dk (by decide +kernel)
theorem dX2_wants_61 : gx_d mX2_wants 61 (.iload_n 2) 1 := gx_dk (by decide +kernel)
theorem dX2_wants_62 : gx_d mX2_wants 62 (.bipush 10) 2 := gx_dk (by decide +kernel)
theorem dX2_wants_64 : gx_d mX2_wants 64 (.irem) 1 := gx_dk (by decide +kernel)
theorem dX2_wants_65 : gx_d mX2_wants 65 (.iload_n 1) 1 := gx_dk (by decide +kernel)
theorem dX2_wants_66 : gx_d mX2_wants 66 (.invokevirtual 62) 3 := gx_dk (by decide +kernel)
theorem dX2_wants_69 : gx_d mX2_wants 69 (.istore 7) 2 := gx_dk (by decide +kernel)
theorem dX2_wants_71 : gx_d mX2_wants 71 (.sipush (-999)) 3 := gx_dk (by decide +kernel)
theorem dX2_wants_74 : gx_d mX2_wants 74 (.sipush 999) 3 := gx_dk (by decide +kernel)
theorem dX2_wants_77 : gx_d mX2_wants 77 (.iload 7) 2 := gx_dk (by decide +kernel)
theorem dX2_wants_79 : gx_d mX2_wants 79 (.invokestatic 42) 3 := gx_dk (by decide +kernel)
theorem dX2_wants_82 : gx_d mX2_wants 82 (.invokestatic 47) 3 := gx_dk (by decide +kernel)
theorem dX2_wants_85 : gx_d mX2_wants 85 (.ireturn) 1 := gx_dk (by decide +kernel)
theorem dX2_haver_0 : gx_d mX2_haver 0 (.aload_n 0) 1 := gx_dk (by decide +kernel)
theorem dX2_haver_1 : gx_d mX2_haver 1 (.iload_n 1) 1 := gx_dk (by decide +kernel)
theorem dX2_haver_2 : gx_d mX2_haver 2 (.invokevirtual 66) 3 := gx_dk (by decide +kernel)
theorem dX2_haver_5 : gx_d mX2_haver 5 (.ifCond .eq 12) 3 := gx_dk (by decide +kernel)
theorem dX2_haver_8 : gx_d mX2_haver 8 (.aload_n 0) 1 := gx_dk (by decide +kernel)
theorem dX2_haver_9 : gx_d mX2_haver 9 (.iconst 0) 1 := gx_dk (by decide +kernel)
theorem dX2_haver_10 : gx_d mX2_haver 10 (.iconst 5) 1 := gx_dk (by decide +kernel)
theorem dX2_haver_11 : gx_d mX2_haver 11 (.invokevirtual 50) 3 := gx_dk (by decide +kernel)
theorem dX2_haver_14 : gx_d mX2_haver 14 (.goto 9) 3 := gx_dk (by decide +kernel)
theorem dX2_haver_17 : gx_d mX2_haver 17 (.aload_n 0) 1 := gx_dk (by decide +kernel)
theorem dX2_haver_18 : gx_d mX2_haver 18 (.iload_n 1) 1 := gx_dk (by decide +kernel)
theorem dX2_haver_19 : gx_d mX2_haver 19 (.iconst 0) 1 := gx_dk (by decide +kernel)
theorem dX2_haver_20 : gx_d mX2_haver 20 (.invokevirtual 69) 3 := gx_dk (by decide +kernel)
theorem dX2_haver_23 : gx_d mX2_haver 23 (.ireturn) 1 := gx_dk (by decide +kernel)
theorem dX2_wanter_0 : gx_d mX2_wanter 0 (.bipush (-2)) 2 := gx_dk (by decide +kernel)
theorem dX2_wanter_2 : gx_d mX2_wanter 2 (.istore_n 3) 1 := gx_dk (by decide +kernel)
theorem dX2_wanter_3 : gx_d mX2_wanter 3 (.iconst 0) 1 := gx_dk (by decide +kernel)
theorem dX2_wanter_4 : gx_d mX2_wanter 4 (.istore 4) 2 := gx_dk (by decide +kernel)
theorem dX2_wanter_6 : gx_d mX2_wanter 6 (.iconst 0) 1 := gx_dk (by decide +kernel)
theorem dX2_wanter_7 : gx_d mX2_wanter 7 (.istore 5) 2 := gx_dk (by decide +kernel)
theorem dX2_wanter_9 : gx_d mX2_wanter 9 (.iload 5) 2 := gx_dk (by decide +kernel)
theorem dX2_wanter_11 : gx_d mX2_wanter 11 (.aload_n 0) 1 := gx_dk (by decide +kernel)
theorem dX2_wanter_12 : gx_d mX2_wanter 12 (.getfield 19) 3 := gx_dk (by decide +kernel)
theorem dX2_wanter_15 : gx_d mX2_wanter 15 (.if_icmp .ge 50) 3 := gx_dk (by decide +kernel)
theorem dX2_wanter_18 : gx_d mX2_wanter 18 (.iload_n 2) 1 := gx_dk (by decide +kernel)
theorem dX2_wanter_19 : gx_d mX2_wanter 19 (.iload 5) 2 := gx_dk (by decide +kernel)
theorem dX2_wanter_21 : gx_d mX2_wanter 21 (.ishr) 1 := gx_dk (by decide +kernel)
theorem dX2_wanter_22 : gx_d mX2_wanter 22 (.iconst 1) 1 := gx_dk (by decide +kernel)
theorem dX2_wanter_23 : gx_d mX2_wanter 23 (.iand) 1 := gx_dk (by decide +kernel)
theorem dX2_wanter_24 : gx_d mX2_wanter 24 (.ifCond .eq 6) 3 := gx_dk (by decide +kernel)
theorem dX2_wanter_27 : gx_d mX2_wanter 27 (.goto 32) 3 := gx_dk (by decide +kernel)
theorem dX2_wanter_30 : gx_d mX2_wanter 30 (.aload_n 0) 1 := gx_dk (by decide +kernel)
theorem dX2_wanter_31 : gx_d mX2_wanter 31 (.iload 5) 2 := gx_dk (by decide +kernel)
theorem dX2_wanter_33 : gx_d mX2_wanter 33 (.iload_n 1) 1 := gx_dk (by decide +kernel)
theorem dX2_wanter_34 : gx_d mX2_wanter 34 (.invokevirtual 72) 3 := gx_dk (by decide +kernel)
theorem dX2_wanter_37 : gx_d mX2_wanter 37 (.istore 6) 2 := gx_dk (by decide +kernel)
theorem dX2_wanter_39 : gx_d mX2_wanter 39 (.iload_n 3) 1 := gx_dk (by decide +kernel)
theorem dX2_wanter_40 : gx_d mX2_wanter 40 (.bipush (-2)) 2 := gx_dk (by decide +kernel)
theorem dX2_wanter_42 : gx_d mX2_wanter 42 (.if_icmp .eq 10) 3 := gx_dk (by decide +kernel)
theorem dX2_wanter_45 : gx_d mX2_wanter 45 (.iload 6) 2 := gx_dk (by decide +kernel)
theorem dX2_wanter_47 : gx_d mX2_wanter 47 (.iload 4) 2 := gx_dk (by decide +kernel)
theorem dX2_wanter_49 : gx_d mX2_wanter 49 (.if_icmp .le 10) 3 := gx_dk (by decide +kernel)
theorem dX2_wanter_52 : gx_d mX2_wanter 52 (.iload 5) 2 := gx_dk (by decide +kernel)
theorem dX2_wanter_54 : gx_d mX2_wanter 54 (.istore_n 3) 1 := gx_dk (by decide +kernel)
theorem dX2_wanter_55 : gx_d mX2_wanter 55 (.iload 6) 2 := gx_dk (by decide +kernel)
theorem dX2_wanter_57 : gx_d mX2_wanter 57 (.istore 4) 2 := gx_dk (by decide +kernel)
theorem dX2_wanter_59 : gx_d mX2_wanter 59 (.iinc 5 1) 3 := gx_dk (by decide +kernel)
theorem dX2_wanter_62 : gx_d mX2_wanter 62 (.goto (-53)) 3 := gx_dk (by decide +kernel)
theorem dX2_wanter_65 : gx_d mX2_wanter 65 (.iload_n 3) 1 := gx_dk (by decide +kernel)
theorem dX2_wanter_66 : gx_d mX2_wanter 66 (.ireturn) 1 := gx_dk (by decide +kernel)
theorem dX2_asked_0 : gx_d mX2_asked 0 (.aload_n 0) 1 := gx_dk (by decide +kernel)
theorem dX2_asked_1 : gx_d mX2_asked 1 (.iload_n 1) 1 := gx_dk (by decide +kernel)
theorem dX2_asked_2 : gx_d mX2_asked 2 (.invokevirtual 66) 3 := gx_dk (by decide +kernel)
theorem dX2_asked_5 : gx_d mX2_asked 5 (.ifCond .eq 19) 3 := gx_dk (by decide +kernel)
theorem dX2_asked_8 : gx_d mX2_asked 8 (.iload_n 2) 1 := gx_dk (by decide +kernel)
theorem dX2_asked_9 : gx_d mX2_asked 9 (.ifCond .ne 12) 3 := gx_dk (by decide +kernel)
theorem dX2_asked_12 : gx_d mX2_asked 12 (.aload_n 0) 1 := gx_dk (by decide +kernel)
theorem dX2_asked_13 : gx_d mX2_asked 13 (.iconst 0) 1 := gx_dk (by decide +kernel)
theorem dX2_asked_14 : gx_d mX2_asked 14 (.iconst 5) 1 := gx_dk (by decide +kernel)
theorem dX2_asked_15 : gx_d mX2_asked 15 (.invokevirtual 50) 3 := gx_dk (by decide +kernel)
theorem dX2_asked_18 : gx_d mX2_asked 18 (.goto 5) 3 := gx_dk (by decide +kernel)
theorem dX2_asked_21 : gx_d mX2_asked 21 (.bipush (-2)) 2 := gx_dk (by decide +kernel)
theorem dX2_asked_23 : gx_d mX2_asked 23 (.ireturn) 1 := gx_dk (by decide +kernel)
theorem dX2_asked_24 : gx_d mX2_asked 24 (.iconst 0) 1 := gx_dk (by decide +kernel)
theorem dX2_asked_25 : gx_d mX2_asked 25 (.istore_n 3) 1 := gx_dk (by decide +kernel)
theorem dX2_asked_26 : gx_d mX2_asked 26 (.iconst 0) 1 := gx_dk (by decide +kernel)
theorem dX2_asked_27 : gx_d mX2_asked 27 (.istore 4) 2 := gx_dk (by decide +kernel)
theorem dX2_asked_29 : gx_d mX2_asked 29 (.iload 4) 2 := gx_dk (by decide +kernel)
theorem dX2_asked_31 : gx_d mX2_asked 31 (.aload_n 0) 1 := gx_dk (by decide +kernel)
theorem dX2_asked_32 : gx_d mX2_asked 32 (.getfield 19) 3 := gx_dk (by decide +kernel)
theorem dX2_asked_35 : gx_d mX2_asked 35 (.if_icmp .ge 38) 3 := gx_dk (by decide +kernel)
theorem dX2_asked_38 : gx_d mX2_asked 38 (.aload_n 0) 1 := gx_dk (by decide +kernel)
theorem dX2_asked_39 : gx_d mX2_asked 39 (.iload_n 1) 1 := gx_dk (by decide +kernel)
theorem dX2_asked_40 : gx_d mX2_asked 40 (.iload_n 3) 1 := gx_dk (by decide +kernel)
theorem dX2_asked_41 : gx_d mX2_asked 41 (.invokevirtual 69) 3 := gx_dk (by decide +kernel)
theorem dX2_asked_44 : gx_d mX2_asked 44 (.istore 5) 2 := gx_dk (by decide +kernel)
theorem dX2_asked_46 : gx_d mX2_asked 46 (.iload 4) 2 := gx_dk (by decide +kernel)
theorem dX2_asked_48 : gx_d mX2_asked 48 (.iload_n 2) 1 := gx_dk (by decide +kernel)
theorem dX2_asked_49 : gx_d mX2_asked 49 (.if_icmp .eq 8) 3 := gx_dk (by decide +kernel)
theorem dX2_asked_52 : gx_d mX2_asked 52 (.iload 5) 2 := gx_dk (by decide +kernel)
theorem dX2_asked_54 : gx_d mX2_asked 54 (.ifCond .ge 6) 3 := gx_dk (by decide +kernel)
theorem dX2_asked_57 : gx_d mX2_asked 57 (.iload 5) 2 := gx_dk (by decide +kernel)
theorem dX2_asked_59 : gx_d mX2_asked 59 (.ireturn) 1 := gx_dk (by decide +kernel)
theorem dX2_asked_60 : gx_d mX2_asked 60 (.iload_n 3) 1 := gx_dk (by decide +kernel)
theorem dX2_asked_61 : gx_d mX2_asked 61 (.iconst 1) 1 := gx_dk (by decide +kernel)
theorem dX2_asked_62 : gx_d mX2_asked 62 (.iload 5) 2 := gx_dk (by decide +kernel)
theorem dX2_asked_64 : gx_d mX2_asked 64 (.ishl) 1 := gx_dk (by decide +kernel)
theorem dX2_asked_65 : gx_d mX2_asked 65 (.ior) 1 := gx_dk (by decide +kernel)
theorem dX2_asked_66 : gx_d mX2_asked 66 (.istore_n 3) 1 := gx_dk (by decide +kernel)
theorem dX2_asked_67 : gx_d mX2_asked 67 (.iinc 4 1) 3 := gx_dk (by decide +kernel)
theorem dX2_asked_70 : gx_d mX2_asked 70 (.goto (-41)) 3 := gx_dk (by decide +kernel)
theorem dX2_asked_73 : gx_d mX2_asked 73 (.bipush (-2)) 2 := gx_dk (by decide +kernel)
theorem dX2_asked_75 : gx_d mX2_asked 75 (.ireturn) 1 := gx_dk (by decide +kernel)
theorem dX2_hasAllOf_0 : gx_d mX2_hasAllOf 0 (.iconst 0) 1 := gx_dk (by decide +kernel)
theorem dX2_hasAllOf_1 : gx_d mX2_hasAllOf 1 (.istore_n 3) 1 := gx_dk (by decide +kernel)
theorem dX2_hasAllOf_2 : gx_d mX2_hasAllOf 2 (.iload_n 3) 1 := gx_dk (by decide +kernel)
theorem dX2_hasAllOf_3 : gx_d mX2_hasAllOf 3 (.bipush 10) 2 := gx_dk (by decide +kernel)
theorem dX2_hasAllOf_5 : gx_d mX2_hasAllOf 5 (.if_icmp .ge 25) 3 := gx_dk (by decide +kernel)
theorem dX2_hasAllOf_8 : gx_d mX2_hasAllOf 8 (.aload_n 0) 1 := gx_dk (by decide +kernel)
theorem dX2_hasAllOf_9 : gx_d mX2_hasAllOf 9 (.bipush 10) 2 := gx_dk (by decide +kernel)
theorem dX2_hasAllOf_11 : gx_d mX2_hasAllOf 11 (.iload_n 2) 1 := gx_dk (by decide +kernel)
theorem dX2_hasAllOf_12 : gx_d mX2_hasAllOf 12 (.imul) 1 := gx_dk (by decide +kernel)
theorem dX2_hasAllOf_13 : gx_d mX2_hasAllOf 13 (.iload_n 3) 1 := gx_dk (by decide +kernel)
theorem dX2_hasAllOf_14 : gx_d mX2_hasAllOf 14 (.iadd) 1 := gx_dk (by decide +kernel)
theorem dX2_hasAllOf_15 : gx_d mX2_hasAllOf 15 (.invokevirtual 75) 3 := gx_dk (by decide +kernel)
theorem dX2_hasAllOf_18 : gx_d mX2_hasAllOf 18 (.iload_n 1) 1 := gx_dk (by decide +kernel)
theorem dX2_hasAllOf_19 : gx_d mX2_hasAllOf 19 (.if_icmp .eq 5) 3 := gx_dk (by decide +kernel)
theorem dX2_hasAllOf_22 : gx_d mX2_hasAllOf 22 (.iconst 0) 1 := gx_dk (by decide +kernel)
theorem dX2_hasAllOf_23 : gx_d mX2_hasAllOf 23 (.ireturn) 1 := gx_dk (by decide +kernel)
theorem dX2_hasAllOf_24 : gx_d mX2_hasAllOf 24 (.iinc 3 1) 3 := gx_dk (by decide +kernel)
theorem dX2_hasAllOf_27 : gx_d mX2_hasAllOf 27 (.goto (-25)) 3 := gx_dk (by decide +kernel)
theorem dX2_hasAllOf_30 : gx_d mX2_hasAllOf 30 (.iconst 1) 1 := gx_dk (by decide +kernel)
theorem dX2_hasAllOf_31 : gx_d mX2_hasAllOf 31 (.ireturn) 1 := gx_dk (by decide +kernel)
theorem dX2_settle_0 : gx_d mX2_settle 0 (.iconst 0) 1 := gx_dk (by decide +kernel)
theorem dX2_settle_1 : gx_d mX2_settle 1 (.istore_n 2) 1 := gx_dk (by decide +kernel)
theorem dX2_settle_2 : gx_d mX2_settle 2 (.iload_n 2) 1 := gx_dk (by decide +kernel)
theorem dX2_settle_3 : gx_d mX2_settle 3 (.aload_n 0) 1 := gx_dk (by decide +kernel)
theorem dX2_settle_4 : gx_d mX2_settle 4 (.getfield 19) 3 := gx_dk (by decide +kernel)
theorem dX2_settle_7 : gx_d mX2_settle 7 (.if_icmp .ge 42) 3 := gx_dk (by decide +kernel)
theorem dX2_settle_10 : gx_d mX2_settle 10 (.iload_n 2) 1 := gx_dk (by decide +kernel)
theorem dX2_settle_11 : gx_d mX2_settle 11 (.iload_n 1) 1 := gx_dk (by decide +kernel)
theorem dX2_settle_12 : gx_d mX2_settle 12 (.if_icmp .ne 7) 3 := gx_dk (by decide +kernel)
theorem dX2_settle_15 : gx_d mX2_settle 15 (.iconst 0) 1 := gx_dk (by decide +kernel)
theorem dX2_settle_16 : gx_d mX2_settle 16 (.goto 11) 3 := gx_dk (by decide +kernel)
theorem dX2_settle_19 : gx_d mX2_settle 19 (.aload_n 0) 1 := gx_dk (by decide +kernel)
theorem dX2_settle_20 : gx_d mX2_settle 20 (.iload_n 2) 1 := gx_dk (by decide +kernel)
theorem dX2_settle_21 : gx_d mX2_settle 21 (.iconst 3) 1 := gx_dk (by decide +kernel)
theorem dX2_settle_22 : gx_d mX2_settle 22 (.invokevirtual 50) 3 := gx_dk (by decide +kernel)
theorem dX2_settle_25 : gx_d mX2_settle 25 (.iconst 1) 1 := gx_dk (by decide +kernel)
theorem dX2_settle_26 : gx_d mX2_settle 26 (.iadd) 1 := gx_dk (by decide +kernel)
theorem dX2_settle_27 : gx_d mX2_settle 27 (.istore_n 3) 1 := gx_dk (by decide +kernel)
theorem dX2_settle_28 : gx_d mX2_settle 28 (.aload_n 0) 1 := gx_dk (by decide +kernel)
theorem dX2_settle_29 : gx_d mX2_settle 29 (.iload_n 2) 1 := gx_dk (by decide +kernel)
theorem dX2_settle_30 : gx_d mX2_settle 30 (.iconst 3) 1 := gx_dk (by decide +kernel)
theorem dX2_settle_31 : gx_d mX2_settle 31 (.iload_n 3) 1 := gx_dk (by decide +kernel)
theorem dX2_settle_32 : gx_d mX2_settle 32 (.getstatic 79) 3 := gx_dk (by decide +kernel)
theorem dX2_settle_35 : gx_d mX2_settle 35 (.iconst 3) 1 := gx_dk (by decide +kernel)
theorem dX2_settle_36 : gx_d mX2_settle 36 (.iaload) 1 := gx_dk (by decide +kernel)
theorem dX2_settle_37 : gx_d mX2_settle 37 (.invokestatic 42) 3 := gx_dk (by decide +kernel)
theorem dX2_settle_40 : gx_d mX2_settle 40 (.invokevirtual 27) 3 := gx_dk (by decide +kernel)
theorem dX2_settle_43 : gx_d mX2_settle 43 (.iinc 2 1) 3 := gx_dk (by decide +kernel)
theorem dX2_settle_46 : gx_d mX2_settle 46 (.goto (-44)) 3 := gx_dk (by decide +kernel)
theorem dX2_settle_49 : gx_d mX2_settle 49 (.return_) 1 := gx_dk (by decide +kernel)
def isCr (w : gx_W) (r a : Nat) : Prop := w.1[r]? = some (2, 0) ∧ w_r w r 0 = some a ∧ w.1[a]? = some (20, 28)
def isCn (w : gx_W) (r a n : Nat) : Prop := isCr w r a ∧ w_i w r 1 = nI n ∧ n ≤ 6
theorem isCr.same {R : List Nat} {F : List (Nat × Nat)} {w w' : gx_W} {r a : Nat} (h : isCr w r a) (hs : same R F w w') : isCr w' r a := by
  unfold isCr at h ⊢
  rw [hs.1, hs.2.2.1]
  exact h
theorem isCn.same {R : List Nat} {F : List (Nat × Nat)} {w w' : gx_W} {r a n : Nat} (h : isCn w r a n) (hs : same R F w w') (hF : (r, 1) ∉ F) : isCn w' r a n := ⟨h.1.same hs, (hs.2.1 r 1 hF).trans h.2.1, h.2.2⟩
theorem pI_add4 (q : Nat) : (24 : Int32) + nI q - 4 = nI (20 + q) := by
  have e : (24 : Int32) - 4 = nI 20 := by decide
  rw [Int32.add_comm, Int32.sub_eq_add_neg, Int32.add_assoc, ← Int32.sub_eq_add_neg, e, Int32.add_comm, nI_add]
theorem pI_m6 (q m : Nat) : nI q * 6 + nI m = nI (q * 6 + m) := by
  have e : (6 : Int32) = nI 6 := by decide
  rw [e, pk_mul, nI_add]
/-- an int below a small number, by cases -/
theorem pI_cases {x : Int32} {n : Nat} (hn : n < 2 ^ 31) (h0 : ¬ x < 0) (h1 : x < nI n) : ∃ m, m < n ∧ x = nI m := by
  rw [pI_lt, nI_toInt hn] at h1
  exact pI_ex h0 (by omega)
theorem c_X2_isRoad {d : Nat} {w : gx_W} {r a n : Nat} {x : Int32} {k : Int32 → gx_W → Prop} (hd : 0 ≤ d) (h : isCn w r a n) (kt : ∀ m, x = nI m → m < n → k 1 w) (kf : (∀ m, m < n → x ≠ nI m) → k 0 w) : gx_C 0 0 d mX2_isRoad [.ref r, .int x] w (Qi k) := by
  refine gx_C_of' (L := [.ref r, .int x]) (by decide +kernel) rfl (Nat.le_of_ble_eq_true rfl) ?_
  refine g_iload_n dX2_isRoad_0 rfl ?_
  refine g_if_lt (tgt := 16) dX2_isRoad_1 (by decide) (fun zc1 => ?_) (fun zc1 => ?_)
  · refine g_iconst (v := 0) dX2_isRoad_16 rfl ?_
    refine g_zret dX2_isRoad_17 rfl (Or.inl rfl) ⟨_, rfl, ?_⟩
    refine kf (fun m hm e => ?_)
    have hb := h.2.2
    first
      | (rw [e] at zc1; exact absurd zc1 (nI_pos (by omega)))
      | (have c := zc9
         rw [h.2.1, e] at c
         exact absurd c (nI_ge hm (by omega)))
  · refine g_iload_n dX2_isRoad_4 rfl ?_
    refine g_aload_n dX2_isRoad_5 rfl ?_
    refine g_geti dX2_isRoad_6 fl_X2_19 h.1.1 ?_
    refine g_icmp_ge (tgt := 16) dX2_isRoad_9 (by decide) (fun zc9 => ?_) (fun zc9 => ?_)
    · refine g_iconst (v := 0) dX2_isRoad_16 rfl ?_
      refine g_zret dX2_isRoad_17 rfl (Or.inl rfl) ⟨_, rfl, ?_⟩
      refine kf (fun m hm e => ?_)
      have hb := h.2.2
      first
        | (rw [e] at zc1; exact absurd zc1 (nI_pos (by omega)))
        | (have c := zc9
           rw [h.2.1, e] at c
           exact absurd c (nI_ge hm (by omega)))
    · refine g_iconst (v := 1) dX2_isRoad_12 rfl ?_
      refine g_goto (tgt := 17) dX2_isRoad_13 (by decide) ?_
      refine g_zret dX2_isRoad_17 rfl (Or.inr rfl) ⟨_, rfl, ?_⟩
      have zc9' : x < nI n := by
        have c := zc9
        rw [h.2.1] at c
        exact Int32.not_le.mp c
      obtain ⟨m, h1, h2⟩ := pI_cases (by have := h.2.2; omega) (by simpa using zc1) zc9'
      exact kt m h2 h1
theorem c_X2_isFull {d : Nat} {w : gx_W} {r a n : Nat} {k : Int32 → gx_W → Prop} (hd : 0 ≤ d) (h : isCn w r a n) (kt : n = 6 → k 1 w) (kf : n < 6 → k 0 w) : gx_C 0 0 d mX2_isFull [.ref r] w (Qi k) := by
  refine gx_C_of' (L := [.ref r]) (by decide +kernel) rfl (Nat.le_of_ble_eq_true rfl) ?_
  refine g_aload_n dX2_isFull_0 rfl ?_
  refine g_geti dX2_isFull_1 fl_X2_19 h.1.1 ?_
  refine g_bipush (v := 6) dX2_isFull_4 rfl ?_
  refine g_icmp_lt (tgt := 13) dX2_isFull_6 (by decide) (fun zc6 => ?_) (fun zc6 => ?_)
  · refine g_iconst (v := 0) dX2_isFull_13 rfl ?_
    refine g_zret dX2_isFull_14 rfl (Or.inl rfl) ⟨_, rfl, ?_⟩
    have hb := h.2.2
    have c := zc6
    rw [h.2.1, pI_lt, nI_toInt (by omega)] at c
    have e : (6 : Int32).toInt = 6 := by decide
    exact kf (by omega)
  · refine g_iconst (v := 1) dX2_isFull_9 rfl ?_
    refine g_goto (tgt := 14) dX2_isFull_10 (by decide) ?_
    refine g_zret dX2_isFull_14 rfl (Or.inr rfl) ⟨_, rfl, ?_⟩
    have hb := h.2.2
    have c := zc6
    rw [h.2.1] at c
    refine kt ?_
    rcases Nat.lt_or_ge n 6 with q | q
    · exact absurd (nI_lt q (b := 6) (by decide)) c
    · omega
theorem c_X2_allRoads {d : Nat} {w : gx_W} {r a n : Nat} {k : Int32 → gx_W → Prop} (hd : 0 ≤ d) (h : isCn w r a n) (kk : k (nI (2 ^ n - 1)) w) : gx_C 0 0 d mX2_allRoads [.ref r] w (Qi k) := by
  refine gx_C_of' (L := [.ref r]) (by decide +kernel) rfl (Nat.le_of_ble_eq_true rfl) ?_
  refine g_iconst (v := 1) dX2_allRoads_0 rfl ?_
  refine g_aload_n dX2_allRoads_1 rfl ?_
  refine g_geti dX2_allRoads_2 fl_X2_19 h.1.1 ?_
  refine g_ishl dX2_allRoads_5 ?_
  refine g_iconst (v := 1) dX2_allRoads_6 rfl ?_
  refine g_isub dX2_allRoads_7 ?_
  refine g_iret dX2_allRoads_8 rfl ⟨_, rfl, ?_⟩
  have hb := h.2.2
  have e : (1 : Int32) <<< (w_i w r 1 &&& 31) - 1 = nI (2 ^ n - 1) := by
    rw [h.2.1]
    match n, hb with
    | 0, _ => decide
    | 1, _ => decide
    | 2, _ => decide
    | 3, _ => decide
    | 4, _ => decide
    | 5, _ => decide
    | 6, _ => decide
    | z + 7, hz => exact absurd hz (by omega)
  rw [e]
  exact kk
theorem c_X2_placeOf {d : Nat} {w : gx_W} {r a n : Nat} {x y : Int32} {k : Int32 → gx_W → Prop} (hd : 0 ≤ d) (h : isCn w r a n) (h1 : ∀ q m : Nat, y = nI q → x = nI m → q < 4 → m < n → k (nI (q * 6 + m)) w) (h2 : ∀ q : Nat, y = nI q → x = 0 → 4 ≤ q → q < 8 → k (nI (20 + q)) w) (h3 : (∀ q m : Nat, q < 4 → m < n → y = nI q → x = nI m → False) → (∀ q : Nat, 4 ≤ q → q < 8 → y = nI q → x = 0 → False) → k (-1) w) : gx_C 0 0 d mX2_placeOf [.ref r, .int x, .int y] w (Qi k) := by
  refine gx_C_of' (L := [.ref r, .int x, .int y]) (by decide +kernel) rfl (Nat.le_of_ble_eq_true rfl) ?_
  refine g_iload_n dX2_placeOf_0 rfl ?_
  refine g_iconst (v := 4) dX2_placeOf_1 rfl ?_
  refine g_icmp_lt (tgt := 26) dX2_placeOf_2 (by decide) (fun zc2 => ?_) (fun zc2 => ?_)
  · have hb := h.2.2
    have b4 : y.toInt < 4 := by
      have c := zc2
      rw [pI_lt] at c
      have e : (4 : Int32).toInt = 4 := by decide
      omega
    refine g_iload_n dX2_placeOf_26 rfl ?_
    refine g_if_lt (tgt := 51) dX2_placeOf_27 (by decide) (fun zc27 => ?_) (fun zc27 => ?_)
    · refine g_iconst (v := -1) dX2_placeOf_51 rfl ?_
      refine g_iret dX2_placeOf_52 rfl ⟨_, rfl, ?_⟩
      have e0 : (0 : Int32).toInt = 0 := by decide
      refine h3 (fun q m hq hm e1 e2 => ?_) (fun q hq1 hq2 e1 e2 => ?_)
      · first
          | (rw [e1, nI_toInt (by omega)] at b4; omega)
          | (rw [e1] at zc27; exact absurd zc27 (nI_pos (by omega)))
          | (rw [e2] at zc31; exact absurd zc31 (nI_pos (by omega)))
          | (have c := zc39
             rw [h.2.1, e2] at c
             exact absurd c (nI_ge hm (by omega)))
      · first
          | (rw [e1, nI_toInt (by omega)] at b4; omega)
          | (have c : 7 < y := zc8
             rw [e1] at c
             rw [pI_lt, nI_toInt (by omega)] at c
             have e : (7 : Int32).toInt = 7 := by decide
             omega)
          | exact zc12 e2
    · refine g_iload_n dX2_placeOf_30 rfl ?_
      refine g_if_lt (tgt := 51) dX2_placeOf_31 (by decide) (fun zc31 => ?_) (fun zc31 => ?_)
      · refine g_iconst (v := -1) dX2_placeOf_51 rfl ?_
        refine g_iret dX2_placeOf_52 rfl ⟨_, rfl, ?_⟩
        have e0 : (0 : Int32).toInt = 0 := by decide
        refine h3 (fun q m hq hm e1 e2 => ?_) (fun q hq1 hq2 e1 e2 => ?_)
        · first
            | (rw [e1, nI_toInt (by omega)] at b4; omega)
            | (rw [e1] at zc27; exact absurd zc27 (nI_pos (by omega)))
            | (rw [e2] at zc31; exact absurd zc31 (nI_pos (by omega)))
            | (have c := zc39
               rw [h.2.1, e2] at c
               exact absurd c (nI_ge hm (by omega)))
        · first
            | (rw [e1, nI_toInt (by omega)] at b4; omega)
            | (have c : 7 < y := zc8
               rw [e1] at c
               rw [pI_lt, nI_toInt (by omega)] at c
               have e : (7 : Int32).toInt = 7 := by decide
               omega)
            | exact zc12 e2
      · refine g_iload_n dX2_placeOf_34 rfl ?_
        refine g_aload_n dX2_placeOf_35 rfl ?_
        refine g_geti dX2_placeOf_36 fl_X2_19 h.1.1 ?_
        refine g_icmp_ge (tgt := 51) dX2_placeOf_39 (by decide) (fun zc39 => ?_) (fun zc39 => ?_)
        · refine g_iconst (v := -1) dX2_placeOf_51 rfl ?_
          refine g_iret dX2_placeOf_52 rfl ⟨_, rfl, ?_⟩
          have e0 : (0 : Int32).toInt = 0 := by decide
          refine h3 (fun q m hq hm e1 e2 => ?_) (fun q hq1 hq2 e1 e2 => ?_)
          · first
              | (rw [e1, nI_toInt (by omega)] at b4; omega)
              | (rw [e1] at zc27; exact absurd zc27 (nI_pos (by omega)))
              | (rw [e2] at zc31; exact absurd zc31 (nI_pos (by omega)))
              | (have c := zc39
                 rw [h.2.1, e2] at c
                 exact absurd c (nI_ge hm (by omega)))
          · first
              | (rw [e1, nI_toInt (by omega)] at b4; omega)
              | (have c : 7 < y := zc8
                 rw [e1] at c
                 rw [pI_lt, nI_toInt (by omega)] at c
                 have e : (7 : Int32).toInt = 7 := by decide
                 omega)
              | exact zc12 e2
        · refine g_iload_n dX2_placeOf_42 rfl ?_
          refine g_bipush (v := 6) dX2_placeOf_43 rfl ?_
          refine g_imul dX2_placeOf_45 ?_
          refine g_iload_n dX2_placeOf_46 rfl ?_
          refine g_iadd dX2_placeOf_47 ?_
          refine g_goto (tgt := 52) dX2_placeOf_48 (by decide) ?_
          refine g_iret dX2_placeOf_52 rfl ⟨_, rfl, ?_⟩
          have zc27' : ¬ y < 0 := by simpa using zc27
          have zc31' : ¬ x < 0 := by simpa using zc31
          have zc39' : x < nI n := by
            have c := zc39
            rw [h.2.1] at c
            exact Int32.not_le.mp c
          obtain ⟨m, m1, m2⟩ := pI_cases (by omega) zc31' zc39'
          obtain ⟨q, q1, q2⟩ := pI_ex (n := 4) zc27' (by omega)
          rw [q2, m2, pI_m6]
          exact h1 q m q2 m2 q1 m1
  · have hb := h.2.2
    have b4 : 4 ≤ y.toInt := by
      have c := zc2
      rw [pI_lt] at c
      have e : (4 : Int32).toInt = 4 := by decide
      omega
    refine g_iload_n dX2_placeOf_5 rfl ?_
    refine g_bipush (v := 7) dX2_placeOf_6 rfl ?_
    refine g_icmp_gt (tgt := 24) dX2_placeOf_8 (by decide) (fun zc8 => ?_) (fun zc8 => ?_)
    · refine g_iconst (v := -1) dX2_placeOf_24 rfl ?_
      refine g_iret dX2_placeOf_25 rfl ⟨_, rfl, ?_⟩
      have e0 : (0 : Int32).toInt = 0 := by decide
      refine h3 (fun q m hq hm e1 e2 => ?_) (fun q hq1 hq2 e1 e2 => ?_)
      · first
          | (rw [e1, nI_toInt (by omega)] at b4; omega)
          | (rw [e1] at zc27; exact absurd zc27 (nI_pos (by omega)))
          | (rw [e2] at zc31; exact absurd zc31 (nI_pos (by omega)))
          | (have c := zc39
             rw [h.2.1, e2] at c
             exact absurd c (nI_ge hm (by omega)))
      · first
          | (rw [e1, nI_toInt (by omega)] at b4; omega)
          | (have c : 7 < y := zc8
             rw [e1] at c
             rw [pI_lt, nI_toInt (by omega)] at c
             have e : (7 : Int32).toInt = 7 := by decide
             omega)
          | exact zc12 e2
    · refine g_iload_n dX2_placeOf_11 rfl ?_
      refine g_if_ne (tgt := 24) dX2_placeOf_12 (by decide) (fun zc12 => ?_) (fun zc12 => ?_)
      · refine g_iconst (v := -1) dX2_placeOf_24 rfl ?_
        refine g_iret dX2_placeOf_25 rfl ⟨_, rfl, ?_⟩
        have e0 : (0 : Int32).toInt = 0 := by decide
        refine h3 (fun q m hq hm e1 e2 => ?_) (fun q hq1 hq2 e1 e2 => ?_)
        · first
            | (rw [e1, nI_toInt (by omega)] at b4; omega)
            | (rw [e1] at zc27; exact absurd zc27 (nI_pos (by omega)))
            | (rw [e2] at zc31; exact absurd zc31 (nI_pos (by omega)))
            | (have c := zc39
               rw [h.2.1, e2] at c
               exact absurd c (nI_ge hm (by omega)))
        · first
            | (rw [e1, nI_toInt (by omega)] at b4; omega)
            | (have c : 7 < y := zc8
               rw [e1] at c
               rw [pI_lt, nI_toInt (by omega)] at c
               have e : (7 : Int32).toInt = 7 := by decide
               omega)
            | exact zc12 e2
      · refine g_bipush (v := 24) dX2_placeOf_15 rfl ?_
        refine g_iload_n dX2_placeOf_17 rfl ?_
        refine g_iadd dX2_placeOf_18 ?_
        refine g_iconst (v := 4) dX2_placeOf_19 rfl ?_
        refine g_isub dX2_placeOf_20 ?_
        refine g_goto (tgt := 25) dX2_placeOf_21 (by decide) ?_
        refine g_iret dX2_placeOf_25 rfl ⟨_, rfl, ?_⟩
        have b7 : y.toInt ≤ 7 := by
          have c : ¬ 7 < y := zc8
          rw [pI_lt] at c
          have e : (7 : Int32).toInt = 7 := by decide
          omega
        have ey := pI_nat (i := y) (by omega)
        have ex : x = 0 := by simpa using zc12
        have K := h2 y.toInt.toNat ey ex (by omega) (by omega)
        rw [ey, pI_add4]
        exact K
theorem c_X2_number {d : Nat} {w : gx_W} {r a n : Nat} {x y : Int32} {k : Int32 → gx_W → Prop} (hd : 1 ≤ d) (h : isCn w r a n) (h1 : ∀ q m : Nat, y = nI q → x = nI m → q < 4 → m < n → k (w_a w a (q * 6 + m)) w) (h2 : ∀ q : Nat, y = nI q → x = 0 → 4 ≤ q → q < 8 → k (w_a w a (20 + q)) w) (h3 : (∀ q m : Nat, q < 4 → m < n → y = nI q → x = nI m → False) → (∀ q : Nat, 4 ≤ q → q < 8 → y = nI q → x = 0 → False) → k (-2000000000) w) : gx_C 0 0 d mX2_number [.ref r, .int x, .int y] w (Qi k) := by
  refine gx_C_of' (L := [.ref r, .int x, .int y, .retAddr 0]) (by decide +kernel) rfl (Nat.le_of_ble_eq_true rfl) ?_
  refine g_aload_n dX2_number_0 rfl ?_
  refine g_iload_n dX2_number_1 rfl ?_
  refine g_iload_n dX2_number_2 rfl ?_
  refine g_cV2i dX2_number_3 ml_X2_31 mi_X2_placeOf mv_X2_placeOf h.1.1 ⟨_, rfl, rfl⟩ (Nat.le_of_ble_eq_true rfl) rfl (by omega) ?_
  refine c_X2_placeOf (by omega) h (fun q m e1 e2 hq hm => ?_) (fun q e1 e2 hq1 hq2 => ?_) (fun n1 n2 => ?_)
  · have hb := h.2.2
    refine g_istore_n dX2_number_6 (Nat.le_of_ble_eq_true rfl) rfl ?_
    refine g_iload_n dX2_number_7 rfl ?_
    refine g_if_lt (tgt := 26) dX2_number_8 (by decide) (fun zc8 => ?_) (fun zc8 => ?_)
    · refine g_ldc dX2_number_26 ct_X2_35 ?_
      refine g_iret dX2_number_28 rfl ⟨_, rfl, ?_⟩
      exact absurd zc8 (nI_pos (by omega))
    · refine g_iload_n dX2_number_11 rfl ?_
      refine g_bipush (v := 28) dX2_number_12 rfl ?_
      refine g_icmp_ge (tgt := 26) dX2_number_14 (by decide) (fun zc14 => ?_) (fun zc14 => ?_)
      · refine g_ldc dX2_number_26 ct_X2_35 ?_
        refine g_iret dX2_number_28 rfl ⟨_, rfl, ?_⟩
        exact absurd zc14 (nI_ge (b := 28) (by omega) (by decide))
      · refine g_aload_n dX2_number_17 rfl ?_
        refine g_getr dX2_number_18 fl_X2_11 h.1.1 h.1.2.1 ?_
        refine g_iload_n dX2_number_21 rfl ?_
        refine g_iald dX2_number_22 h.1.2.2 (vp_in_nI (by omega) (by omega)) ?_
        refine g_goto (tgt := 28) dX2_number_23 (by decide) ?_
        refine g_iret dX2_number_28 rfl ⟨_, rfl, ?_⟩
        rw [nI_n (by omega)]
        exact h1 q m e1 e2 hq hm
  · have hb := h.2.2
    refine g_istore_n dX2_number_6 (Nat.le_of_ble_eq_true rfl) rfl ?_
    refine g_iload_n dX2_number_7 rfl ?_
    refine g_if_lt (tgt := 26) dX2_number_8 (by decide) (fun zc8 => ?_) (fun zc8 => ?_)
    · refine g_ldc dX2_number_26 ct_X2_35 ?_
      refine g_iret dX2_number_28 rfl ⟨_, rfl, ?_⟩
      exact absurd zc8 (nI_pos (by omega))
    · refine g_iload_n dX2_number_11 rfl ?_
      refine g_bipush (v := 28) dX2_number_12 rfl ?_
      refine g_icmp_ge (tgt := 26) dX2_number_14 (by decide) (fun zc14 => ?_) (fun zc14 => ?_)
      · refine g_ldc dX2_number_26 ct_X2_35 ?_
        refine g_iret dX2_number_28 rfl ⟨_, rfl, ?_⟩
        exact absurd zc14 (nI_ge (b := 28) (by omega) (by decide))
      · refine g_aload_n dX2_number_17 rfl ?_
        refine g_getr dX2_number_18 fl_X2_11 h.1.1 h.1.2.1 ?_
        refine g_iload_n dX2_number_21 rfl ?_
        refine g_iald dX2_number_22 h.1.2.2 (vp_in_nI (by omega) (by omega)) ?_
        refine g_goto (tgt := 28) dX2_number_23 (by decide) ?_
        refine g_iret dX2_number_28 rfl ⟨_, rfl, ?_⟩
        rw [nI_n (by omega)]
        exact h2 q e1 e2 hq1 hq2
  · have hb := h.2.2
    refine g_istore_n dX2_number_6 (Nat.le_of_ble_eq_true rfl) rfl ?_
    refine g_iload_n dX2_number_7 rfl ?_
    refine g_if_lt (tgt := 26) dX2_number_8 (by decide) (fun _ => ?_) (fun q => absurd q (by decide))
    refine g_ldc dX2_number_26 ct_X2_35 ?_
    refine g_iret dX2_number_28 rfl ⟨_, rfl, ?_⟩
    exact h3 n1 n2
theorem c_number_r {d : Nat} {w : gx_W} {r a n q m : Nat} {x y : Int32} {k : Int32 → gx_W → Prop} (hd : 1 ≤ d) (h : isCn w r a n) (hq : q < 4) (hm : m < n) (ey : y = nI q) (ex : x = nI m) (kk : k (w_a w a (q * 6 + m)) w) : gx_C 0 0 d mX2_number [.ref r, .int x, .int y] w (Qi k) := by
  have hb := h.2.2
  refine c_X2_number hd h (fun q' m' e1 e2 _ _ => ?_) (fun q' e1 e2 h4 h8 => ?_) (fun n1 n2 => (n1 q m hq hm ey ex).elim)
  · rw [← pI_inj (a := q) (b := q') (by omega) (by omega) (ey.symm.trans e1), ← pI_inj (a := m) (b := m') (by omega) (by omega) (ex.symm.trans e2)]
    exact kk
  · have := pI_inj (a := q) (b := q') (by omega) (by omega) (ey.symm.trans e1)
    omega
theorem c_number_g {d : Nat} {w : gx_W} {r a n q : Nat} {y : Int32} {k : Int32 → gx_W → Prop} (hd : 1 ≤ d) (h : isCn w r a n) (h4 : 4 ≤ q) (h8 : q < 8) (ey : y = nI q) (kk : k (w_a w a (20 + q)) w) : gx_C 0 0 d mX2_number [.ref r, .int 0, .int y] w (Qi k) := by
  refine c_X2_number hd h (fun q' m' e1 e2 hq _ => ?_) (fun q' e1 e2 h4' h8' => ?_) (fun n1 n2 => (n2 q h4 h8 ey rfl).elim)
  · have := pI_inj (a := q) (b := q') (by omega) (by omega) (ey.symm.trans e1)
    omega
  · rw [← pI_inj (a := q) (b := q') (by omega) (by omega) (ey.symm.trans e1)]
    exact kk
theorem c_X2_become {d : Nat} {w : gx_W} {r a n : Nat} {x y v : Int32} {k : gx_W → Prop} (hd : 1 ≤ d) (h : isCn w r a n) (h1 : ∀ q m : Nat, y = nI q → x = nI m → q < 4 → m < n → k (s_a w a (va_up (w_a w a) (q * 6 + m) v))) (h2 : ∀ q : Nat, y = nI q → x = 0 → 4 ≤ q → q < 8 → k (s_a w a (va_up (w_a w a) (20 + q) v))) (h3 : (∀ q m : Nat, q < 4 → m < n → y = nI q → x = nI m → False) → (∀ q : Nat, 4 ≤ q → q < 8 → y = nI q → x = 0 → False) → k w) : gx_C 0 0 d mX2_become [.ref r, .int x, .int y, .int v] w (Qv k) := by
  refine gx_C_of' (L := [.ref r, .int x, .int y, .int v, .retAddr 0]) (by decide +kernel) rfl (Nat.le_of_ble_eq_true rfl) ?_
  refine g_aload_n dX2_become_0 rfl ?_
  refine g_iload_n dX2_become_1 rfl ?_
  refine g_iload_n dX2_become_2 rfl ?_
  refine g_cV2i dX2_become_3 ml_X2_31 mi_X2_placeOf mv_X2_placeOf h.1.1 ⟨_, rfl, rfl⟩ (Nat.le_of_ble_eq_true rfl) rfl (by omega) ?_
  refine c_X2_placeOf (by omega) h (fun q m e1 e2 hq hm => ?_) (fun q e1 e2 hq1 hq2 => ?_) (fun n1 n2 => ?_)
  · have hb := h.2.2
    refine g_istore dX2_become_6 (Nat.le_of_ble_eq_true rfl) rfl ?_
    refine g_iload dX2_become_8 rfl ?_
    refine g_if_lt (tgt := 28) dX2_become_10 (by decide) (fun zc10 => ?_) (fun zc10 => ?_)
    · refine g_vret dX2_become_28 rfl ⟨rfl, ?_⟩
      exact absurd zc10 (nI_pos (by omega))
    · refine g_iload dX2_become_13 rfl ?_
      refine g_bipush (v := 28) dX2_become_15 rfl ?_
      refine g_icmp_ge (tgt := 28) dX2_become_17 (by decide) (fun zc17 => ?_) (fun zc17 => ?_)
      · refine g_vret dX2_become_28 rfl ⟨rfl, ?_⟩
        exact absurd zc17 (nI_ge (b := 28) (by omega) (by decide))
      · refine g_aload_n dX2_become_20 rfl ?_
        refine g_getr dX2_become_21 fl_X2_11 h.1.1 h.1.2.1 ?_
        refine g_iload dX2_become_24 rfl ?_
        refine g_iload_n dX2_become_26 rfl ?_
        refine g_iast dX2_become_27 h.1.2.2 (vp_in_nI (by omega) (by omega)) ?_
        refine g_vret dX2_become_28 rfl ⟨rfl, ?_⟩
        rw [nI_n (by omega)]
        exact h1 q m e1 e2 hq hm
  · have hb := h.2.2
    refine g_istore dX2_become_6 (Nat.le_of_ble_eq_true rfl) rfl ?_
    refine g_iload dX2_become_8 rfl ?_
    refine g_if_lt (tgt := 28) dX2_become_10 (by decide) (fun zc10 => ?_) (fun zc10 => ?_)
    · refine g_vret dX2_become_28 rfl ⟨rfl, ?_⟩
      exact absurd zc10 (nI_pos (by omega))
    · refine g_iload dX2_become_13 rfl ?_
      refine g_bipush (v := 28) dX2_become_15 rfl ?_
      refine g_icmp_ge (tgt := 28) dX2_become_17 (by decide) (fun zc17 => ?_) (fun zc17 => ?_)
      · refine g_vret dX2_become_28 rfl ⟨rfl, ?_⟩
        exact absurd zc17 (nI_ge (b := 28) (by omega) (by decide))
      · refine g_aload_n dX2_become_20 rfl ?_
        refine g_getr dX2_become_21 fl_X2_11 h.1.1 h.1.2.1 ?_
        refine g_iload dX2_become_24 rfl ?_
        refine g_iload_n dX2_become_26 rfl ?_
        refine g_iast dX2_become_27 h.1.2.2 (vp_in_nI (by omega) (by omega)) ?_
        refine g_vret dX2_become_28 rfl ⟨rfl, ?_⟩
        rw [nI_n (by omega)]
        exact h2 q e1 e2 hq1 hq2
  · have hb := h.2.2
    refine g_istore dX2_become_6 (Nat.le_of_ble_eq_true rfl) rfl ?_
    refine g_iload dX2_become_8 rfl ?_
    refine g_if_lt (tgt := 28) dX2_become_10 (by decide) (fun _ => ?_) (fun q => absurd q (by decide))
    refine g_vret dX2_become_28 rfl ⟨rfl, ?_⟩
    exact h3 n1 n2
theorem c_become_r {d : Nat} {w : gx_W} {r a n q m : Nat} {x y v : Int32} {k : gx_W → Prop} (hd : 1 ≤ d) (h : isCn w r a n) (hq : q < 4) (hm : m < n) (ey : y = nI q) (ex : x = nI m) (kk : k (s_a w a (va_up (w_a w a) (q * 6 + m) v))) : gx_C 0 0 d mX2_become [.ref r, .int x, .int y, .int v] w (Qv k) := by
  have hb := h.2.2
  refine c_X2_become hd h (fun q' m' e1 e2 _ _ => ?_) (fun q' e1 e2 h4 h8 => ?_) (fun n1 n2 => (n1 q m hq hm ey ex).elim)
  · rw [← pI_inj (a := q) (b := q') (by omega) (by omega) (ey.symm.trans e1), ← pI_inj (a := m) (b := m') (by omega) (by omega) (ex.symm.trans e2)]
    exact kk
  · have := pI_inj (a := q) (b := q') (by omega) (by omega) (ey.symm.trans e1)
    omega
end
