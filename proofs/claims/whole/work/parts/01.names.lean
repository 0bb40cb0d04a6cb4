-- ===== PART A: goes FIRST, ahead of the names: the tables' words, and 'selects' of the private methods out of them =====
/-- a private method of a class that the tables say can be made, by its rows of tables_1 -/
def lw_okq (q : MethodName × Nat) : Prop := (q.1.cls ≠ "java/lang/invoke/MethodHandle" ∧ q.1.cls ≠ "java/lang/invoke/VarHandle") ∧ Cond.instantiable q.1.cls q.2 ∈ tables_1 ∧ Cond.privateMethod q.1 ∈ tables_1 ∧ Cond.instanceMethod q.1 ∈ tables_1
theorem lw_p0 : lw_okq (⟨"AteLeast", "isEater", "(I)Z"⟩, 13) := ⟨⟨by decide +kernel, by decide +kernel⟩, List.mem_of_getElem? (i := 18) (by decide +kernel), List.mem_of_getElem? (i := 334) (by decide +kernel), List.mem_of_getElem? (i := 335) (by decide +kernel)⟩
theorem lw_p1 : lw_okq (⟨"AteLeast", "reckonedOf", "(II)I"⟩, 13) := ⟨⟨by decide +kernel, by decide +kernel⟩, List.mem_of_getElem? (i := 18) (by decide +kernel), List.mem_of_getElem? (i := 339) (by decide +kernel), List.mem_of_getElem? (i := 340) (by decide +kernel)⟩
theorem lw_p2 : lw_okq (⟨"AteLeast", "holding", "()LAteLeast$House;"⟩, 13) := ⟨⟨by decide +kernel, by decide +kernel⟩, List.mem_of_getElem? (i := 18) (by decide +kernel), List.mem_of_getElem? (i := 343) (by decide +kernel), List.mem_of_getElem? (i := 344) (by decide +kernel)⟩
theorem lw_p3 : lw_okq (⟨"AteLeast$Table", "crumbMore", "(I)I"⟩, 13) := ⟨⟨by decide +kernel, by decide +kernel⟩, List.mem_of_getElem? (i := 26) (by decide +kernel), List.mem_of_getElem? (i := 365) (by decide +kernel), List.mem_of_getElem? (i := 366) (by decide +kernel)⟩
theorem lw_p4 : lw_okq (⟨"AteLeast$Supper", "middle", "()I"⟩, 17) := ⟨⟨by decide +kernel, by decide +kernel⟩, List.mem_of_getElem? (i := 144) (by decide +kernel), List.mem_of_getElem? (i := 378) (by decide +kernel), List.mem_of_getElem? (i := 379) (by decide +kernel)⟩
theorem lw_p5 : lw_okq (⟨"AteLeast$Supper", "placeOf", "(I)I"⟩, 17) := ⟨⟨by decide +kernel, by decide +kernel⟩, List.mem_of_getElem? (i := 144) (by decide +kernel), List.mem_of_getElem? (i := 382) (by decide +kernel), List.mem_of_getElem? (i := 383) (by decide +kernel)⟩
theorem lw_p6 : lw_okq (⟨"AteLeast$Supper", "outermost", "()I"⟩, 17) := ⟨⟨by decide +kernel, by decide +kernel⟩, List.mem_of_getElem? (i := 144) (by decide +kernel), List.mem_of_getElem? (i := 386) (by decide +kernel), List.mem_of_getElem? (i := 387) (by decide +kernel)⟩
theorem lw_p7 : lw_okq (⟨"AteLeast$Supper", "turnTo", "(I)V"⟩, 17) := ⟨⟨by decide +kernel, by decide +kernel⟩, List.mem_of_getElem? (i := 144) (by decide +kernel), List.mem_of_getElem? (i := 394) (by decide +kernel), List.mem_of_getElem? (i := 395) (by decide +kernel)⟩
theorem lw_p8 : lw_okq (⟨"AteLeast$House", "holds", "(I[I)Z"⟩, 12) := ⟨⟨by decide +kernel, by decide +kernel⟩, List.mem_of_getElem? (i := 94) (by decide +kernel), List.mem_of_getElem? (i := 402) (by decide +kernel), List.mem_of_getElem? (i := 403) (by decide +kernel)⟩
theorem lw_p9 : lw_okq (⟨"AteLeast$Reader", "readClause", "()Z"⟩, 5) := ⟨⟨by decide +kernel, by decide +kernel⟩, List.mem_of_getElem? (i := 208) (by decide +kernel), List.mem_of_getElem? (i := 442) (by decide +kernel), List.mem_of_getElem? (i := 443) (by decide +kernel)⟩
theorem lw_p10 : lw_okq (⟨"AteLeast$Reader", "readWord", "()I"⟩, 5) := ⟨⟨by decide +kernel, by decide +kernel⟩, List.mem_of_getElem? (i := 208) (by decide +kernel), List.mem_of_getElem? (i := 446) (by decide +kernel), List.mem_of_getElem? (i := 447) (by decide +kernel)⟩
theorem lw_p11 : lw_okq (⟨"AteLeast$Reader", "alike", "(Ljava/lang/String;)I"⟩, 5) := ⟨⟨by decide +kernel, by decide +kernel⟩, List.mem_of_getElem? (i := 208) (by decide +kernel), List.mem_of_getElem? (i := 458) (by decide +kernel), List.mem_of_getElem? (i := 459) (by decide +kernel)⟩
theorem lw_p12 : lw_okq (⟨"AteLeast$Reader", "takes", "(C)Z"⟩, 5) := ⟨⟨by decide +kernel, by decide +kernel⟩, List.mem_of_getElem? (i := 208) (by decide +kernel), List.mem_of_getElem? (i := 511) (by decide +kernel), List.mem_of_getElem? (i := 512) (by decide +kernel)⟩
theorem lw_p13 : lw_okq (⟨"AteLeast$Reader", "sees", "(C)Z"⟩, 5) := ⟨⟨by decide +kernel, by decide +kernel⟩, List.mem_of_getElem? (i := 208) (by decide +kernel), List.mem_of_getElem? (i := 515) (by decide +kernel), List.mem_of_getElem? (i := 516) (by decide +kernel)⟩
theorem lw_p14 : lw_okq (⟨"AteLeast$Reader", "readNumber", "()Z"⟩, 5) := ⟨⟨by decide +kernel, by decide +kernel⟩, List.mem_of_getElem? (i := 208) (by decide +kernel), List.mem_of_getElem? (i := 519) (by decide +kernel), List.mem_of_getElem? (i := 520) (by decide +kernel)⟩
theorem lw_p15 : lw_okq (⟨"AteLeast$Reader", "readEither", "(I)Z"⟩, 5) := ⟨⟨by decide +kernel, by decide +kernel⟩, List.mem_of_getElem? (i := 208) (by decide +kernel), List.mem_of_getElem? (i := 523) (by decide +kernel), List.mem_of_getElem? (i := 524) (by decide +kernel)⟩
def lw_privs_1 : List (MethodName × Nat) := [(⟨"AteLeast", "isEater", "(I)Z"⟩, 13), (⟨"AteLeast", "reckonedOf", "(II)I"⟩, 13), (⟨"AteLeast", "holding", "()LAteLeast$House;"⟩, 13), (⟨"AteLeast$Table", "crumbMore", "(I)I"⟩, 13), (⟨"AteLeast$Supper", "middle", "()I"⟩, 17), (⟨"AteLeast$Supper", "placeOf", "(I)I"⟩, 17), (⟨"AteLeast$Supper", "outermost", "()I"⟩, 17), (⟨"AteLeast$Supper", "turnTo", "(I)V"⟩, 17), (⟨"AteLeast$House", "holds", "(I[I)Z"⟩, 12), (⟨"AteLeast$Reader", "readClause", "()Z"⟩, 5), (⟨"AteLeast$Reader", "readWord", "()I"⟩, 5), (⟨"AteLeast$Reader", "alike", "(Ljava/lang/String;)I"⟩, 5), (⟨"AteLeast$Reader", "takes", "(C)Z"⟩, 5), (⟨"AteLeast$Reader", "sees", "(C)Z"⟩, 5), (⟨"AteLeast$Reader", "readNumber", "()Z"⟩, 5), (⟨"AteLeast$Reader", "readEither", "(I)Z"⟩, 5)]
theorem lw_r1 : ∀ q ∈ lw_privs_1, lw_okq q := List.forall_mem_cons.mpr ⟨lw_p0, List.forall_mem_cons.mpr ⟨lw_p1, List.forall_mem_cons.mpr ⟨lw_p2, List.forall_mem_cons.mpr ⟨lw_p3, List.forall_mem_cons.mpr ⟨lw_p4, List.forall_mem_cons.mpr ⟨lw_p5, List.forall_mem_cons.mpr ⟨lw_p6, List.forall_mem_cons.mpr ⟨lw_p7, List.forall_mem_cons.mpr ⟨lw_p8, List.forall_mem_cons.mpr ⟨lw_p9, List.forall_mem_cons.mpr ⟨lw_p10, List.forall_mem_cons.mpr ⟨lw_p11, List.forall_mem_cons.mpr ⟨lw_p12, List.forall_mem_cons.mpr ⟨lw_p13, List.forall_mem_cons.mpr ⟨lw_p14, List.forall_mem_cons.mpr ⟨lw_p15, fun _ h => absurd h List.not_mem_nil⟩⟩⟩⟩⟩⟩⟩⟩⟩⟩⟩⟩⟩⟩⟩⟩
theorem lw_p16 : lw_okq (⟨"AteLeast$Reader", "readBoth", "(I)Z"⟩, 5) := ⟨⟨by decide +kernel, by decide +kernel⟩, List.mem_of_getElem? (i := 208) (by decide +kernel), List.mem_of_getElem? (i := 527) (by decide +kernel), List.mem_of_getElem? (i := 528) (by decide +kernel)⟩
theorem lw_p17 : lw_okq (⟨"AteLeast$Reader", "readOne", "(I)Z"⟩, 5) := ⟨⟨by decide +kernel, by decide +kernel⟩, List.mem_of_getElem? (i := 208) (by decide +kernel), List.mem_of_getElem? (i := 531) (by decide +kernel), List.mem_of_getElem? (i := 532) (by decide +kernel)⟩
theorem lw_p18 : lw_okq (⟨"AteLeast$Reader", "readTest", "()Z"⟩, 5) := ⟨⟨by decide +kernel, by decide +kernel⟩, List.mem_of_getElem? (i := 208) (by decide +kernel), List.mem_of_getElem? (i := 535) (by decide +kernel), List.mem_of_getElem? (i := 536) (by decide +kernel)⟩
theorem lw_p19 : lw_okq (⟨"AteLeast$Supper", "keepPact", "()V"⟩, 17) := ⟨⟨by decide +kernel, by decide +kernel⟩, List.mem_of_getElem? (i := 144) (by decide +kernel), List.mem_of_getElem? (i := 624) (by decide +kernel), List.mem_of_getElem? (i := 625) (by decide +kernel)⟩
theorem lw_p20 : lw_okq (⟨"AteLeast", "timesBaker", "(II)I"⟩, 13) := ⟨⟨by decide +kernel, by decide +kernel⟩, List.mem_of_getElem? (i := 18) (by decide +kernel), List.mem_of_getElem? (i := 633) (by decide +kernel), List.mem_of_getElem? (i := 634) (by decide +kernel)⟩
theorem lw_p21 : lw_okq (⟨"AteLeast", "ahead", "(I)V"⟩, 13) := ⟨⟨by decide +kernel, by decide +kernel⟩, List.mem_of_getElem? (i := 18) (by decide +kernel), List.mem_of_getElem? (i := 644) (by decide +kernel), List.mem_of_getElem? (i := 645) (by decide +kernel)⟩
theorem lw_p22 : lw_okq (⟨"AteLeast", "rowsInAll", "()I"⟩, 13) := ⟨⟨by decide +kernel, by decide +kernel⟩, List.mem_of_getElem? (i := 18) (by decide +kernel), List.mem_of_getElem? (i := 660) (by decide +kernel), List.mem_of_getElem? (i := 661) (by decide +kernel)⟩
theorem lw_p23 : lw_okq (⟨"AteLeast", "becomesRow", "(I)V"⟩, 13) := ⟨⟨by decide +kernel, by decide +kernel⟩, List.mem_of_getElem? (i := 18) (by decide +kernel), List.mem_of_getElem? (i := 664) (by decide +kernel), List.mem_of_getElem? (i := 665) (by decide +kernel)⟩
theorem lw_p24 : lw_okq (⟨"AteLeast", "nobodyGains", "()Z"⟩, 13) := ⟨⟨by decide +kernel, by decide +kernel⟩, List.mem_of_getElem? (i := 18) (by decide +kernel), List.mem_of_getElem? (i := 668) (by decide +kernel), List.mem_of_getElem? (i := 669) (by decide +kernel)⟩
theorem lw_p25 : lw_okq (⟨"AteLeast", "gains", "(I)Z"⟩, 13) := ⟨⟨by decide +kernel, by decide +kernel⟩, List.mem_of_getElem? (i := 18) (by decide +kernel), List.mem_of_getElem? (i := 672) (by decide +kernel), List.mem_of_getElem? (i := 673) (by decide +kernel)⟩
theorem lw_p26 : lw_okq (⟨"AteLeast", "keepIf", "(Z)V"⟩, 13) := ⟨⟨by decide +kernel, by decide +kernel⟩, List.mem_of_getElem? (i := 18) (by decide +kernel), List.mem_of_getElem? (i := 678) (by decide +kernel), List.mem_of_getElem? (i := 679) (by decide +kernel)⟩
theorem lw_p27 : lw_okq (⟨"AteLeast", "lasts", "(II)Z"⟩, 13) := ⟨⟨by decide +kernel, by decide +kernel⟩, List.mem_of_getElem? (i := 18) (by decide +kernel), List.mem_of_getElem? (i := 707) (by decide +kernel), List.mem_of_getElem? (i := 708) (by decide +kernel)⟩
theorem lw_p28 : lw_okq (⟨"AteLeast$Acts", "own", "(III)I"⟩, 5) := ⟨⟨by decide +kernel, by decide +kernel⟩, List.mem_of_getElem? (i := 234) (by decide +kernel), List.mem_of_getElem? (i := 788) (by decide +kernel), List.mem_of_getElem? (i := 789) (by decide +kernel)⟩
theorem lw_p29 : lw_okq (⟨"AteLeast$Acts", "runs", "(III)I"⟩, 5) := ⟨⟨by decide +kernel, by decide +kernel⟩, List.mem_of_getElem? (i := 234) (by decide +kernel), List.mem_of_getElem? (i := 794) (by decide +kernel), List.mem_of_getElem? (i := 795) (by decide +kernel)⟩
theorem lw_p30 : lw_okq (⟨"AteLeast$Acts", "above", "(IIII)I"⟩, 5) := ⟨⟨by decide +kernel, by decide +kernel⟩, List.mem_of_getElem? (i := 234) (by decide +kernel), List.mem_of_getElem? (i := 798) (by decide +kernel), List.mem_of_getElem? (i := 799) (by decide +kernel)⟩
theorem lw_p31 : lw_okq (⟨"AteLeastModel", "in", "(III)Z"⟩, 66) := ⟨⟨by decide +kernel, by decide +kernel⟩, List.mem_of_getElem? (i := 853) (by decide +kernel), List.mem_of_getElem? (i := 1063) (by decide +kernel), List.mem_of_getElem? (i := 1064) (by decide +kernel)⟩
def lw_privs_2 : List (MethodName × Nat) := [(⟨"AteLeast$Reader", "readBoth", "(I)Z"⟩, 5), (⟨"AteLeast$Reader", "readOne", "(I)Z"⟩, 5), (⟨"AteLeast$Reader", "readTest", "()Z"⟩, 5), (⟨"AteLeast$Supper", "keepPact", "()V"⟩, 17), (⟨"AteLeast", "timesBaker", "(II)I"⟩, 13), (⟨"AteLeast", "ahead", "(I)V"⟩, 13), (⟨"AteLeast", "rowsInAll", "()I"⟩, 13), (⟨"AteLeast", "becomesRow", "(I)V"⟩, 13), (⟨"AteLeast", "nobodyGains", "()Z"⟩, 13), (⟨"AteLeast", "gains", "(I)Z"⟩, 13), (⟨"AteLeast", "keepIf", "(Z)V"⟩, 13), (⟨"AteLeast", "lasts", "(II)Z"⟩, 13), (⟨"AteLeast$Acts", "own", "(III)I"⟩, 5), (⟨"AteLeast$Acts", "runs", "(III)I"⟩, 5), (⟨"AteLeast$Acts", "above", "(IIII)I"⟩, 5), (⟨"AteLeastModel", "in", "(III)Z"⟩, 66)]
theorem lw_r2 : ∀ q ∈ lw_privs_2, lw_okq q := List.forall_mem_cons.mpr ⟨lw_p16, List.forall_mem_cons.mpr ⟨lw_p17, List.forall_mem_cons.mpr ⟨lw_p18, List.forall_mem_cons.mpr ⟨lw_p19, List.forall_mem_cons.mpr ⟨lw_p20, List.forall_mem_cons.mpr ⟨lw_p21, List.forall_mem_cons.mpr ⟨lw_p22, List.forall_mem_cons.mpr ⟨lw_p23, List.forall_mem_cons.mpr ⟨lw_p24, List.forall_mem_cons.mpr ⟨lw_p25, List.forall_mem_cons.mpr ⟨lw_p26, List.forall_mem_cons.mpr ⟨lw_p27, List.forall_mem_cons.mpr ⟨lw_p28, List.forall_mem_cons.mpr ⟨lw_p29, List.forall_mem_cons.mpr ⟨lw_p30, List.forall_mem_cons.mpr ⟨lw_p31, fun _ h => absurd h List.not_mem_nil⟩⟩⟩⟩⟩⟩⟩⟩⟩⟩⟩⟩⟩⟩⟩⟩
theorem lw_p32 : lw_okq (⟨"AteLeastModel", "lay", "(IIII)V"⟩, 66) := ⟨⟨by decide +kernel, by decide +kernel⟩, List.mem_of_getElem? (i := 853) (by decide +kernel), List.mem_of_getElem? (i := 1067) (by decide +kernel), List.mem_of_getElem? (i := 1068) (by decide +kernel)⟩
theorem lw_p33 : lw_okq (⟨"AteLeastModel", "isEater", "(I)Z"⟩, 66) := ⟨⟨by decide +kernel, by decide +kernel⟩, List.mem_of_getElem? (i := 853) (by decide +kernel), List.mem_of_getElem? (i := 1075) (by decide +kernel), List.mem_of_getElem? (i := 1076) (by decide +kernel)⟩
theorem lw_p34 : lw_okq (⟨"AteLeastModel", "goesText", "(I)Z"⟩, 66) := ⟨⟨by decide +kernel, by decide +kernel⟩, List.mem_of_getElem? (i := 853) (by decide +kernel), List.mem_of_getElem? (i := 1095) (by decide +kernel), List.mem_of_getElem? (i := 1096) (by decide +kernel)⟩
theorem lw_p35 : lw_okq (⟨"AteLeastModel", "takesClause", "(I)Z"⟩, 66) := ⟨⟨by decide +kernel, by decide +kernel⟩, List.mem_of_getElem? (i := 853) (by decide +kernel), List.mem_of_getElem? (i := 1099) (by decide +kernel), List.mem_of_getElem? (i := 1100) (by decide +kernel)⟩
theorem lw_p36 : lw_okq (⟨"AteLeastModel", "takesHead", "(I)Z"⟩, 66) := ⟨⟨by decide +kernel, by decide +kernel⟩, List.mem_of_getElem? (i := 853) (by decide +kernel), List.mem_of_getElem? (i := 1103) (by decide +kernel), List.mem_of_getElem? (i := 1104) (by decide +kernel)⟩
theorem lw_p37 : lw_okq (⟨"AteLeastModel", "second", "()I"⟩, 66) := ⟨⟨by decide +kernel, by decide +kernel⟩, List.mem_of_getElem? (i := 853) (by decide +kernel), List.mem_of_getElem? (i := 1107) (by decide +kernel), List.mem_of_getElem? (i := 1108) (by decide +kernel)⟩
theorem lw_p38 : lw_okq (⟨"AteLeastModel", "next", "()I"⟩, 66) := ⟨⟨by decide +kernel, by decide +kernel⟩, List.mem_of_getElem? (i := 853) (by decide +kernel), List.mem_of_getElem? (i := 1111) (by decide +kernel), List.mem_of_getElem? (i := 1112) (by decide +kernel)⟩
theorem lw_p39 : lw_okq (⟨"AteLeastModel", "takesWord", "(II)Z"⟩, 66) := ⟨⟨by decide +kernel, by decide +kernel⟩, List.mem_of_getElem? (i := 853) (by decide +kernel), List.mem_of_getElem? (i := 1115) (by decide +kernel), List.mem_of_getElem? (i := 1116) (by decide +kernel)⟩
theorem lw_p40 : lw_okq (⟨"AteLeastModel", "takes", "(I)Z"⟩, 66) := ⟨⟨by decide +kernel, by decide +kernel⟩, List.mem_of_getElem? (i := 853) (by decide +kernel), List.mem_of_getElem? (i := 1119) (by decide +kernel), List.mem_of_getElem? (i := 1120) (by decide +kernel)⟩
theorem lw_p41 : lw_okq (⟨"AteLeastModel", "takesNumber", "()Z"⟩, 66) := ⟨⟨by decide +kernel, by decide +kernel⟩, List.mem_of_getElem? (i := 853) (by decide +kernel), List.mem_of_getElem? (i := 1123) (by decide +kernel), List.mem_of_getElem? (i := 1124) (by decide +kernel)⟩
theorem lw_p42 : lw_okq (⟨"AteLeastModel", "isDigit", "()Z"⟩, 66) := ⟨⟨by decide +kernel, by decide +kernel⟩, List.mem_of_getElem? (i := 853) (by decide +kernel), List.mem_of_getElem? (i := 1127) (by decide +kernel), List.mem_of_getElem? (i := 1128) (by decide +kernel)⟩
theorem lw_p43 : lw_okq (⟨"AteLeastModel", "takesE", "(I)Z"⟩, 66) := ⟨⟨by decide +kernel, by decide +kernel⟩, List.mem_of_getElem? (i := 853) (by decide +kernel), List.mem_of_getElem? (i := 1131) (by decide +kernel), List.mem_of_getElem? (i := 1132) (by decide +kernel)⟩
theorem lw_p44 : lw_okq (⟨"AteLeastModel", "takesTest", "()Z"⟩, 66) := ⟨⟨by decide +kernel, by decide +kernel⟩, List.mem_of_getElem? (i := 853) (by decide +kernel), List.mem_of_getElem? (i := 1135) (by decide +kernel), List.mem_of_getElem? (i := 1136) (by decide +kernel)⟩
theorem lw_p45 : lw_okq (⟨"AteLeastModel", "place", "(I)I"⟩, 66) := ⟨⟨by decide +kernel, by decide +kernel⟩, List.mem_of_getElem? (i := 853) (by decide +kernel), List.mem_of_getElem? (i := 1139) (by decide +kernel), List.mem_of_getElem? (i := 1140) (by decide +kernel)⟩
theorem lw_p46 : lw_okq (⟨"AteLeastModel", "put", "(I)V"⟩, 66) := ⟨⟨by decide +kernel, by decide +kernel⟩, List.mem_of_getElem? (i := 853) (by decide +kernel), List.mem_of_getElem? (i := 1143) (by decide +kernel), List.mem_of_getElem? (i := 1144) (by decide +kernel)⟩
theorem lw_p47 : lw_okq (⟨"AteLeastModel", "whole", "()V"⟩, 66) := ⟨⟨by decide +kernel, by decide +kernel⟩, List.mem_of_getElem? (i := 853) (by decide +kernel), List.mem_of_getElem? (i := 1147) (by decide +kernel), List.mem_of_getElem? (i := 1148) (by decide +kernel)⟩
def lw_privs_3 : List (MethodName × Nat) := [(⟨"AteLeastModel", "lay", "(IIII)V"⟩, 66), (⟨"AteLeastModel", "isEater", "(I)Z"⟩, 66), (⟨"AteLeastModel", "goesText", "(I)Z"⟩, 66), (⟨"AteLeastModel", "takesClause", "(I)Z"⟩, 66), (⟨"AteLeastModel", "takesHead", "(I)Z"⟩, 66), (⟨"AteLeastModel", "second", "()I"⟩, 66), (⟨"AteLeastModel", "next", "()I"⟩, 66), (⟨"AteLeastModel", "takesWord", "(II)Z"⟩, 66), (⟨"AteLeastModel", "takes", "(I)Z"⟩, 66), (⟨"AteLeastModel", "takesNumber", "()Z"⟩, 66), (⟨"AteLeastModel", "isDigit", "()Z"⟩, 66), (⟨"AteLeastModel", "takesE", "(I)Z"⟩, 66), (⟨"AteLeastModel", "takesTest", "()Z"⟩, 66), (⟨"AteLeastModel", "place", "(I)I"⟩, 66), (⟨"AteLeastModel", "put", "(I)V"⟩, 66), (⟨"AteLeastModel", "whole", "()V"⟩, 66)]
theorem lw_r3 : ∀ q ∈ lw_privs_3, lw_okq q := List.forall_mem_cons.mpr ⟨lw_p32, List.forall_mem_cons.mpr ⟨lw_p33, List.forall_mem_cons.mpr ⟨lw_p34, List.forall_mem_cons.mpr ⟨lw_p35, List.forall_mem_cons.mpr ⟨lw_p36, List.forall_mem_cons.mpr ⟨lw_p37, List.forall_mem_cons.mpr ⟨lw_p38, List.forall_mem_cons.mpr ⟨lw_p39, List.forall_mem_cons.mpr ⟨lw_p40, List.forall_mem_cons.mpr ⟨lw_p41, List.forall_mem_cons.mpr ⟨lw_p42, List.forall_mem_cons.mpr ⟨lw_p43, List.forall_mem_cons.mpr ⟨lw_p44, List.forall_mem_cons.mpr ⟨lw_p45, List.forall_mem_cons.mpr ⟨lw_p46, List.forall_mem_cons.mpr ⟨lw_p47, fun _ h => absurd h List.not_mem_nil⟩⟩⟩⟩⟩⟩⟩⟩⟩⟩⟩⟩⟩⟩⟩⟩
theorem lw_p48 : lw_okq (⟨"AteLeastModel", "settle", "(I)V"⟩, 66) := ⟨⟨by decide +kernel, by decide +kernel⟩, List.mem_of_getElem? (i := 853) (by decide +kernel), List.mem_of_getElem? (i := 1151) (by decide +kernel), List.mem_of_getElem? (i := 1152) (by decide +kernel)⟩
theorem lw_p49 : lw_okq (⟨"AteLeastModel", "goSupper", "()V"⟩, 66) := ⟨⟨by decide +kernel, by decide +kernel⟩, List.mem_of_getElem? (i := 853) (by decide +kernel), List.mem_of_getElem? (i := 1159) (by decide +kernel), List.mem_of_getElem? (i := 1160) (by decide +kernel)⟩
theorem lw_p50 : lw_okq (⟨"AteLeastModel", "layWishes", "()V"⟩, 66) := ⟨⟨by decide +kernel, by decide +kernel⟩, List.mem_of_getElem? (i := 853) (by decide +kernel), List.mem_of_getElem? (i := 1163) (by decide +kernel), List.mem_of_getElem? (i := 1164) (by decide +kernel)⟩
theorem lw_p51 : lw_okq (⟨"AteLeastModel", "wishOf", "(I)I"⟩, 66) := ⟨⟨by decide +kernel, by decide +kernel⟩, List.mem_of_getElem? (i := 853) (by decide +kernel), List.mem_of_getElem? (i := 1167) (by decide +kernel), List.mem_of_getElem? (i := 1168) (by decide +kernel)⟩
theorem lw_p52 : lw_okq (⟨"AteLeastModel", "bestWish", "(I)I"⟩, 66) := ⟨⟨by decide +kernel, by decide +kernel⟩, List.mem_of_getElem? (i := 853) (by decide +kernel), List.mem_of_getElem? (i := 1171) (by decide +kernel), List.mem_of_getElem? (i := 1172) (by decide +kernel)⟩
theorem lw_p53 : lw_okq (⟨"AteLeastModel", "plainWish", "(I)I"⟩, 66) := ⟨⟨by decide +kernel, by decide +kernel⟩, List.mem_of_getElem? (i := 853) (by decide +kernel), List.mem_of_getElem? (i := 1175) (by decide +kernel), List.mem_of_getElem? (i := 1176) (by decide +kernel)⟩
theorem lw_p54 : lw_okq (⟨"AteLeastModel", "least", "(II)I"⟩, 66) := ⟨⟨by decide +kernel, by decide +kernel⟩, List.mem_of_getElem? (i := 853) (by decide +kernel), List.mem_of_getElem? (i := 1179) (by decide +kernel), List.mem_of_getElem? (i := 1180) (by decide +kernel)⟩
theorem lw_p55 : lw_okq (⟨"AteLeastModel", "crumb", "(I)I"⟩, 66) := ⟨⟨by decide +kernel, by decide +kernel⟩, List.mem_of_getElem? (i := 853) (by decide +kernel), List.mem_of_getElem? (i := 1183) (by decide +kernel), List.mem_of_getElem? (i := 1184) (by decide +kernel)⟩
theorem lw_p56 : lw_okq (⟨"AteLeastModel", "laySupper", "()V"⟩, 66) := ⟨⟨by decide +kernel, by decide +kernel⟩, List.mem_of_getElem? (i := 853) (by decide +kernel), List.mem_of_getElem? (i := 1187) (by decide +kernel), List.mem_of_getElem? (i := 1188) (by decide +kernel)⟩
theorem lw_p57 : lw_okq (⟨"AteLeastModel", "bakerNow", "()I"⟩, 66) := ⟨⟨by decide +kernel, by decide +kernel⟩, List.mem_of_getElem? (i := 853) (by decide +kernel), List.mem_of_getElem? (i := 1191) (by decide +kernel), List.mem_of_getElem? (i := 1192) (by decide +kernel)⟩
theorem lw_p58 : lw_okq (⟨"AteLeastModel", "scaleNow", "()I"⟩, 66) := ⟨⟨by decide +kernel, by decide +kernel⟩, List.mem_of_getElem? (i := 853) (by decide +kernel), List.mem_of_getElem? (i := 1195) (by decide +kernel), List.mem_of_getElem? (i := 1196) (by decide +kernel)⟩
theorem lw_p59 : lw_okq (⟨"AteLeastModel", "lastOf", "(II)I"⟩, 66) := ⟨⟨by decide +kernel, by decide +kernel⟩, List.mem_of_getElem? (i := 853) (by decide +kernel), List.mem_of_getElem? (i := 1199) (by decide +kernel), List.mem_of_getElem? (i := 1200) (by decide +kernel)⟩
theorem lw_p60 : lw_okq (⟨"AteLeastModel", "begin", "()I"⟩, 66) := ⟨⟨by decide +kernel, by decide +kernel⟩, List.mem_of_getElem? (i := 853) (by decide +kernel), List.mem_of_getElem? (i := 1203) (by decide +kernel), List.mem_of_getElem? (i := 1204) (by decide +kernel)⟩
theorem lw_p61 : lw_okq (⟨"AteLeastModel", "behind", "()I"⟩, 66) := ⟨⟨by decide +kernel, by decide +kernel⟩, List.mem_of_getElem? (i := 853) (by decide +kernel), List.mem_of_getElem? (i := 1207) (by decide +kernel), List.mem_of_getElem? (i := 1208) (by decide +kernel)⟩
theorem lw_p62 : lw_okq (⟨"AteLeastModel", "lawNow", "()I"⟩, 66) := ⟨⟨by decide +kernel, by decide +kernel⟩, List.mem_of_getElem? (i := 853) (by decide +kernel), List.mem_of_getElem? (i := 1211) (by decide +kernel), List.mem_of_getElem? (i := 1212) (by decide +kernel)⟩
theorem lw_p63 : lw_okq (⟨"AteLeastModel", "isAhead", "(III)Z"⟩, 66) := ⟨⟨by decide +kernel, by decide +kernel⟩, List.mem_of_getElem? (i := 853) (by decide +kernel), List.mem_of_getElem? (i := 1215) (by decide +kernel), List.mem_of_getElem? (i := 1216) (by decide +kernel)⟩
def lw_privs_4 : List (MethodName × Nat) := [(⟨"AteLeastModel", "settle", "(I)V"⟩, 66), (⟨"AteLeastModel", "goSupper", "()V"⟩, 66), (⟨"AteLeastModel", "layWishes", "()V"⟩, 66), (⟨"AteLeastModel", "wishOf", "(I)I"⟩, 66), (⟨"AteLeastModel", "bestWish", "(I)I"⟩, 66), (⟨"AteLeastModel", "plainWish", "(I)I"⟩, 66), (⟨"AteLeastModel", "least", "(II)I"⟩, 66), (⟨"AteLeastModel", "crumb", "(I)I"⟩, 66), (⟨"AteLeastModel", "laySupper", "()V"⟩, 66), (⟨"AteLeastModel", "bakerNow", "()I"⟩, 66), (⟨"AteLeastModel", "scaleNow", "()I"⟩, 66), (⟨"AteLeastModel", "lastOf", "(II)I"⟩, 66), (⟨"AteLeastModel", "begin", "()I"⟩, 66), (⟨"AteLeastModel", "behind", "()I"⟩, 66), (⟨"AteLeastModel", "lawNow", "()I"⟩, 66), (⟨"AteLeastModel", "isAhead", "(III)Z"⟩, 66)]
theorem lw_r4 : ∀ q ∈ lw_privs_4, lw_okq q := List.forall_mem_cons.mpr ⟨lw_p48, List.forall_mem_cons.mpr ⟨lw_p49, List.forall_mem_cons.mpr ⟨lw_p50, List.forall_mem_cons.mpr ⟨lw_p51, List.forall_mem_cons.mpr ⟨lw_p52, List.forall_mem_cons.mpr ⟨lw_p53, List.forall_mem_cons.mpr ⟨lw_p54, List.forall_mem_cons.mpr ⟨lw_p55, List.forall_mem_cons.mpr ⟨lw_p56, List.forall_mem_cons.mpr ⟨lw_p57, List.forall_mem_cons.mpr ⟨lw_p58, List.forall_mem_cons.mpr ⟨lw_p59, List.forall_mem_cons.mpr ⟨lw_p60, List.forall_mem_cons.mpr ⟨lw_p61, List.forall_mem_cons.mpr ⟨lw_p62, List.forall_mem_cons.mpr ⟨lw_p63, fun _ h => absurd h List.not_mem_nil⟩⟩⟩⟩⟩⟩⟩⟩⟩⟩⟩⟩⟩⟩⟩⟩
theorem lw_p64 : lw_okq (⟨"AteLeastModel", "costOf", "(II)I"⟩, 66) := ⟨⟨by decide +kernel, by decide +kernel⟩, List.mem_of_getElem? (i := 853) (by decide +kernel), List.mem_of_getElem? (i := 1219) (by decide +kernel), List.mem_of_getElem? (i := 1220) (by decide +kernel)⟩
theorem lw_p65 : lw_okq (⟨"AteLeastModel", "hasOf", "(I)Z"⟩, 66) := ⟨⟨by decide +kernel, by decide +kernel⟩, List.mem_of_getElem? (i := 853) (by decide +kernel), List.mem_of_getElem? (i := 1223) (by decide +kernel), List.mem_of_getElem? (i := 1224) (by decide +kernel)⟩
theorem lw_p66 : lw_okq (⟨"AteLeastModel", "sumOf", "(III)I"⟩, 66) := ⟨⟨by decide +kernel, by decide +kernel⟩, List.mem_of_getElem? (i := 853) (by decide +kernel), List.mem_of_getElem? (i := 1227) (by decide +kernel), List.mem_of_getElem? (i := 1228) (by decide +kernel)⟩
theorem lw_p67 : lw_okq (⟨"AteLeastModel", "holds", "(III)Z"⟩, 66) := ⟨⟨by decide +kernel, by decide +kernel⟩, List.mem_of_getElem? (i := 853) (by decide +kernel), List.mem_of_getElem? (i := 1231) (by decide +kernel), List.mem_of_getElem? (i := 1232) (by decide +kernel)⟩
theorem lw_p68 : lw_okq (⟨"AteLeastModel", "factOf", "(III)I"⟩, 66) := ⟨⟨by decide +kernel, by decide +kernel⟩, List.mem_of_getElem? (i := 853) (by decide +kernel), List.mem_of_getElem? (i := 1235) (by decide +kernel), List.mem_of_getElem? (i := 1236) (by decide +kernel)⟩
theorem lw_p69 : lw_okq (⟨"AteLeastModel", "worthOf", "(II)I"⟩, 66) := ⟨⟨by decide +kernel, by decide +kernel⟩, List.mem_of_getElem? (i := 853) (by decide +kernel), List.mem_of_getElem? (i := 1239) (by decide +kernel), List.mem_of_getElem? (i := 1240) (by decide +kernel)⟩
theorem lw_p70 : lw_okq (⟨"AteLeastModel", "keep", "()V"⟩, 66) := ⟨⟨by decide +kernel, by decide +kernel⟩, List.mem_of_getElem? (i := 853) (by decide +kernel), List.mem_of_getElem? (i := 1257) (by decide +kernel), List.mem_of_getElem? (i := 1258) (by decide +kernel)⟩
theorem lw_p71 : lw_okq (⟨"AteLeastModel", "goOn", "(I)V"⟩, 66) := ⟨⟨by decide +kernel, by decide +kernel⟩, List.mem_of_getElem? (i := 853) (by decide +kernel), List.mem_of_getElem? (i := 1261) (by decide +kernel), List.mem_of_getElem? (i := 1262) (by decide +kernel)⟩
theorem lw_p72 : lw_okq (⟨"AteLeastModel", "putBack", "()V"⟩, 66) := ⟨⟨by decide +kernel, by decide +kernel⟩, List.mem_of_getElem? (i := 853) (by decide +kernel), List.mem_of_getElem? (i := 1265) (by decide +kernel), List.mem_of_getElem? (i := 1266) (by decide +kernel)⟩
theorem lw_p73 : lw_okq (⟨"AteLeastModel", "isAsKept", "()Z"⟩, 66) := ⟨⟨by decide +kernel, by decide +kernel⟩, List.mem_of_getElem? (i := 853) (by decide +kernel), List.mem_of_getElem? (i := 1273) (by decide +kernel), List.mem_of_getElem? (i := 1274) (by decide +kernel)⟩
theorem lw_p74 : lw_okq (⟨"AteLeastModel", "rowsNow", "()I"⟩, 66) := ⟨⟨by decide +kernel, by decide +kernel⟩, List.mem_of_getElem? (i := 853) (by decide +kernel), List.mem_of_getElem? (i := 1281) (by decide +kernel), List.mem_of_getElem? (i := 1282) (by decide +kernel)⟩
theorem lw_p75 : lw_okq (⟨"AteLeastModel", "isStill", "(I)Z"⟩, 66) := ⟨⟨by decide +kernel, by decide +kernel⟩, List.mem_of_getElem? (i := 853) (by decide +kernel), List.mem_of_getElem? (i := 1285) (by decide +kernel), List.mem_of_getElem? (i := 1286) (by decide +kernel)⟩
theorem lw_p76 : lw_okq (⟨"AteLeastModel", "layRow", "(I)V"⟩, 66) := ⟨⟨by decide +kernel, by decide +kernel⟩, List.mem_of_getElem? (i := 853) (by decide +kernel), List.mem_of_getElem? (i := 1289) (by decide +kernel), List.mem_of_getElem? (i := 1290) (by decide +kernel)⟩
theorem lw_p77 : lw_okq (⟨"AteLeastModel", "digit", "(II)I"⟩, 66) := ⟨⟨by decide +kernel, by decide +kernel⟩, List.mem_of_getElem? (i := 853) (by decide +kernel), List.mem_of_getElem? (i := 1293) (by decide +kernel), List.mem_of_getElem? (i := 1294) (by decide +kernel)⟩
theorem lw_p78 : lw_okq (⟨"AteLeastModel", "allGlad", "()I"⟩, 66) := ⟨⟨by decide +kernel, by decide +kernel⟩, List.mem_of_getElem? (i := 853) (by decide +kernel), List.mem_of_getElem? (i := 1305) (by decide +kernel), List.mem_of_getElem? (i := 1306) (by decide +kernel)⟩
theorem lw_p79 : lw_okq (⟨"AteLeastModel", "gladBehind", "(II)I"⟩, 66) := ⟨⟨by decide +kernel, by decide +kernel⟩, List.mem_of_getElem? (i := 853) (by decide +kernel), List.mem_of_getElem? (i := 1313) (by decide +kernel), List.mem_of_getElem? (i := 1314) (by decide +kernel)⟩
def lw_privs_5 : List (MethodName × Nat) := [(⟨"AteLeastModel", "costOf", "(II)I"⟩, 66), (⟨"AteLeastModel", "hasOf", "(I)Z"⟩, 66), (⟨"AteLeastModel", "sumOf", "(III)I"⟩, 66), (⟨"AteLeastModel", "holds", "(III)Z"⟩, 66), (⟨"AteLeastModel", "factOf", "(III)I"⟩, 66), (⟨"AteLeastModel", "worthOf", "(II)I"⟩, 66), (⟨"AteLeastModel", "keep", "()V"⟩, 66), (⟨"AteLeastModel", "goOn", "(I)V"⟩, 66), (⟨"AteLeastModel", "putBack", "()V"⟩, 66), (⟨"AteLeastModel", "isAsKept", "()Z"⟩, 66), (⟨"AteLeastModel", "rowsNow", "()I"⟩, 66), (⟨"AteLeastModel", "isStill", "(I)Z"⟩, 66), (⟨"AteLeastModel", "layRow", "(I)V"⟩, 66), (⟨"AteLeastModel", "digit", "(II)I"⟩, 66), (⟨"AteLeastModel", "allGlad", "()I"⟩, 66), (⟨"AteLeastModel", "gladBehind", "(II)I"⟩, 66)]
theorem lw_r5 : ∀ q ∈ lw_privs_5, lw_okq q := List.forall_mem_cons.mpr ⟨lw_p64, List.forall_mem_cons.mpr ⟨lw_p65, List.forall_mem_cons.mpr ⟨lw_p66, List.forall_mem_cons.mpr ⟨lw_p67, List.forall_mem_cons.mpr ⟨lw_p68, List.forall_mem_cons.mpr ⟨lw_p69, List.forall_mem_cons.mpr ⟨lw_p70, List.forall_mem_cons.mpr ⟨lw_p71, List.forall_mem_cons.mpr ⟨lw_p72, List.forall_mem_cons.mpr ⟨lw_p73, List.forall_mem_cons.mpr ⟨lw_p74, List.forall_mem_cons.mpr ⟨lw_p75, List.forall_mem_cons.mpr ⟨lw_p76, List.forall_mem_cons.mpr ⟨lw_p77, List.forall_mem_cons.mpr ⟨lw_p78, List.forall_mem_cons.mpr ⟨lw_p79, fun _ h => absurd h List.not_mem_nil⟩⟩⟩⟩⟩⟩⟩⟩⟩⟩⟩⟩⟩⟩⟩⟩
theorem lw_p80 : lw_okq (⟨"AteLeastModel", "isEnough", "(II)Z"⟩, 66) := ⟨⟨by decide +kernel, by decide +kernel⟩, List.mem_of_getElem? (i := 853) (by decide +kernel), List.mem_of_getElem? (i := 1321) (by decide +kernel), List.mem_of_getElem? (i := 1322) (by decide +kernel)⟩
theorem lw_p81 : lw_okq (⟨"AteLeastModel", "lowest", "(JJI)J"⟩, 66) := ⟨⟨by decide +kernel, by decide +kernel⟩, List.mem_of_getElem? (i := 853) (by decide +kernel), List.mem_of_getElem? (i := 1338) (by decide +kernel), List.mem_of_getElem? (i := 1339) (by decide +kernel)⟩
theorem lw_p82 : lw_okq (⟨"AteLeastModel", "divisor", "(JJ)J"⟩, 66) := ⟨⟨by decide +kernel, by decide +kernel⟩, List.mem_of_getElem? (i := 853) (by decide +kernel), List.mem_of_getElem? (i := 1342) (by decide +kernel), List.mem_of_getElem? (i := 1343) (by decide +kernel)⟩
theorem lw_p83 : lw_okq (⟨"AteLeastModel", "isTape", "(I)Z"⟩, 66) := ⟨⟨by decide +kernel, by decide +kernel⟩, List.mem_of_getElem? (i := 853) (by decide +kernel), List.mem_of_getElem? (i := 1362) (by decide +kernel), List.mem_of_getElem? (i := 1363) (by decide +kernel)⟩
theorem lw_p84 : lw_okq (⟨"AteLeastModel", "eatsAct", "(II)I"⟩, 66) := ⟨⟨by decide +kernel, by decide +kernel⟩, List.mem_of_getElem? (i := 853) (by decide +kernel), List.mem_of_getElem? (i := 1378) (by decide +kernel), List.mem_of_getElem? (i := 1379) (by decide +kernel)⟩
theorem lw_p85 : lw_okq (⟨"AteLeastModel", "body", "(I)V"⟩, 66) := ⟨⟨by decide +kernel, by decide +kernel⟩, List.mem_of_getElem? (i := 853) (by decide +kernel), List.mem_of_getElem? (i := 1382) (by decide +kernel), List.mem_of_getElem? (i := 1383) (by decide +kernel)⟩
theorem lw_p86 : lw_okq (⟨"AteLeastModel", "eaterEats", "(II)I"⟩, 66) := ⟨⟨by decide +kernel, by decide +kernel⟩, List.mem_of_getElem? (i := 853) (by decide +kernel), List.mem_of_getElem? (i := 1386) (by decide +kernel), List.mem_of_getElem? (i := 1387) (by decide +kernel)⟩
theorem lw_p87 : lw_okq (⟨"AteLeastModel", "bakesAct", "(II)I"⟩, 66) := ⟨⟨by decide +kernel, by decide +kernel⟩, List.mem_of_getElem? (i := 853) (by decide +kernel), List.mem_of_getElem? (i := 1390) (by decide +kernel), List.mem_of_getElem? (i := 1391) (by decide +kernel)⟩
theorem lw_p88 : lw_okq (⟨"AteLeastModel", "hungryBakes", "(II)I"⟩, 66) := ⟨⟨by decide +kernel, by decide +kernel⟩, List.mem_of_getElem? (i := 853) (by decide +kernel), List.mem_of_getElem? (i := 1394) (by decide +kernel), List.mem_of_getElem? (i := 1395) (by decide +kernel)⟩
theorem lw_p89 : lw_okq (⟨"AteLeastModel", "eaterBakes", "(II)I"⟩, 66) := ⟨⟨by decide +kernel, by decide +kernel⟩, List.mem_of_getElem? (i := 853) (by decide +kernel), List.mem_of_getElem? (i := 1398) (by decide +kernel), List.mem_of_getElem? (i := 1399) (by decide +kernel)⟩
theorem lw_p90 : lw_okq (⟨"AteLeastModel", "tellsAct", "(II)I"⟩, 66) := ⟨⟨by decide +kernel, by decide +kernel⟩, List.mem_of_getElem? (i := 853) (by decide +kernel), List.mem_of_getElem? (i := 1402) (by decide +kernel), List.mem_of_getElem? (i := 1403) (by decide +kernel)⟩
theorem lw_p91 : lw_okq (⟨"AteLeastModel", "eaterTells", "(II)I"⟩, 66) := ⟨⟨by decide +kernel, by decide +kernel⟩, List.mem_of_getElem? (i := 853) (by decide +kernel), List.mem_of_getElem? (i := 1406) (by decide +kernel), List.mem_of_getElem? (i := 1407) (by decide +kernel)⟩
theorem lw_p92 : lw_okq (⟨"AteLeastModel", "narrow", "(IJ)J"⟩, 66) := ⟨⟨by decide +kernel, by decide +kernel⟩, List.mem_of_getElem? (i := 853) (by decide +kernel), List.mem_of_getElem? (i := 1430) (by decide +kernel), List.mem_of_getElem? (i := 1431) (by decide +kernel)⟩
def lw_privs_6 : List (MethodName × Nat) := [(⟨"AteLeastModel", "isEnough", "(II)Z"⟩, 66), (⟨"AteLeastModel", "lowest", "(JJI)J"⟩, 66), (⟨"AteLeastModel", "divisor", "(JJ)J"⟩, 66), (⟨"AteLeastModel", "isTape", "(I)Z"⟩, 66), (⟨"AteLeastModel", "eatsAct", "(II)I"⟩, 66), (⟨"AteLeastModel", "body", "(I)V"⟩, 66), (⟨"AteLeastModel", "eaterEats", "(II)I"⟩, 66), (⟨"AteLeastModel", "bakesAct", "(II)I"⟩, 66), (⟨"AteLeastModel", "hungryBakes", "(II)I"⟩, 66), (⟨"AteLeastModel", "eaterBakes", "(II)I"⟩, 66), (⟨"AteLeastModel", "tellsAct", "(II)I"⟩, 66), (⟨"AteLeastModel", "eaterTells", "(II)I"⟩, 66), (⟨"AteLeastModel", "narrow", "(IJ)J"⟩, 66)]
theorem lw_r6 : ∀ q ∈ lw_privs_6, lw_okq q := List.forall_mem_cons.mpr ⟨lw_p80, List.forall_mem_cons.mpr ⟨lw_p81, List.forall_mem_cons.mpr ⟨lw_p82, List.forall_mem_cons.mpr ⟨lw_p83, List.forall_mem_cons.mpr ⟨lw_p84, List.forall_mem_cons.mpr ⟨lw_p85, List.forall_mem_cons.mpr ⟨lw_p86, List.forall_mem_cons.mpr ⟨lw_p87, List.forall_mem_cons.mpr ⟨lw_p88, List.forall_mem_cons.mpr ⟨lw_p89, List.forall_mem_cons.mpr ⟨lw_p90, List.forall_mem_cons.mpr ⟨lw_p91, List.forall_mem_cons.mpr ⟨lw_p92, fun _ h => absurd h List.not_mem_nil⟩⟩⟩⟩⟩⟩⟩⟩⟩⟩⟩⟩⟩
def lw_privs : List (MethodName × Nat) := lw_privs_1 ++ (lw_privs_2 ++ (lw_privs_3 ++ (lw_privs_4 ++ (lw_privs_5 ++ (lw_privs_6)))))
def lw_tbl : List Cond := k2_sels lw_privs ++ tables_1
theorem lw_privs_ok : ∀ q ∈ lw_privs, lw_okq q := by
  show ∀ q ∈ lw_privs_1 ++ (lw_privs_2 ++ (lw_privs_3 ++ (lw_privs_4 ++ (lw_privs_5 ++ (lw_privs_6))))), lw_okq q
  exact List.forall_mem_append.mpr ⟨lw_r1, List.forall_mem_append.mpr ⟨lw_r2, List.forall_mem_append.mpr ⟨lw_r3, List.forall_mem_append.mpr ⟨lw_r4, List.forall_mem_append.mpr ⟨lw_r5, lw_r6⟩⟩⟩⟩⟩
def RX0 : String := "AteLeast$Acts"
def TX0 : u_T := fun k => match k with
  | 0 => ("AteLeast$Acts", "bodies", "[I", true)
  | 1 => ("AteLeast$Acts", "ran", "I", false)
  | 2 => ("AteLeast$Acts", "kind", "I", false)
  | 3 => ("AteLeast$Acts", "i", "I", false)
  | _ => ("AteLeast$Acts", "v", "I", false)
def tyX0 : Nat → FieldType := fun k => match k with
  | 0 => .array .int
  | 1 => .int
  | 2 => .int
  | 3 => .int
  | _ => .int
abbrev wsX00 : List Cond := u_ws RX0 TX0 5
theorem nmX0 : ∀ a, a < 5 → ∀ b, b < 5 → a ≠ b → (TX0 a).2.1 ≠ (TX0 b).2.1 := by decide +kernel
theorem tyX0_ok : ∀ k, k < 5 → parseFieldDescriptor (TX0 k).2.2.1 = some (tyX0 k) := by decide +kernel
abbrev cX0_init : ByteArray := prog_2_method_1_code
def yX0_init : MethodName := ⟨RX0, "<init>", "()V"⟩
abbrev cX0_does : ByteArray := prog_2_method_2_code
def yX0_does : MethodName := ⟨RX0, "does", "(IIIII)I"⟩
abbrev cX0_isUnder : ByteArray := prog_2_method_3_code
def yX0_isUnder : MethodName := ⟨RX0, "isUnder", "(II)Z"⟩
abbrev cX0_own : ByteArray := prog_2_method_4_code
def yX0_own : MethodName := ⟨RX0, "own", "(III)I"⟩
abbrev cX0_above : ByteArray := prog_2_method_5_code
def yX0_above : MethodName := ⟨RX0, "above", "(IIII)I"⟩
abbrev cX0_runs : ByteArray := prog_2_method_6_code
def yX0_runs : MethodName := ⟨RX0, "runs", "(III)I"⟩
def RX1 : String := "AteLeast$House"
def TX1 : u_T := fun k => match k with
  | 0 => ("AteLeast$House", "sort", "[I", true)
  | 1 => ("AteLeast$House", "n", "[I", true)
  | 2 => ("AteLeast$House", "end", "[I", true)
  | 3 => ("AteLeast$House", "signs", "[I", true)
  | 4 => ("AteLeast$House", "letter", "[I", true)
  | 5 => ("AteLeast$House", "least", "[I", true)
  | 6 => ("AteLeast$House", "most", "[I", true)
  | 7 => ("AteLeast$House", "clauses", "I", false)
  | 8 => ("AteLeast$House", "length", "I", false)
  | 9 => ("AteLeast$House", "loaf", "I", false)
  | 10 => ("AteLeast$House", "law", "I", false)
  | _ => ("AteLeast$House", "scale", "I", false)
def tyX1 : Nat → FieldType := fun k => match k with
  | 0 => .array .int
  | 1 => .array .int
  | 2 => .array .int
  | 3 => .array .int
  | 4 => .array .int
  | 5 => .array .int
  | 6 => .array .int
  | 7 => .int
  | 8 => .int
  | 9 => .int
  | 10 => .int
  | _ => .int
abbrev wsX10 : List Cond := u_ws RX1 TX1 12
theorem nmX1 : ∀ a, a < 12 → ∀ b, b < 12 → a ≠ b → (TX1 a).2.1 ≠ (TX1 b).2.1 := by decide +kernel
theorem tyX1_ok : ∀ k, k < 12 → parseFieldDescriptor (TX1 k).2.2.1 = some (tyX1 k) := by decide +kernel
abbrev cX1_init : ByteArray := prog_3_method_1_code
def yX1_init : MethodName := ⟨RX1, "<init>", "()V"⟩
abbrev cX1_clear : ByteArray := prog_3_method_2_code
def yX1_clear : MethodName := ⟨RX1, "clear", "()V"⟩
abbrev cX1_addSign : ByteArray := prog_3_method_3_code
def yX1_addSign : MethodName := ⟨RX1, "addSign", "(I)V"⟩
abbrev cX1_addTest : ByteArray := prog_3_method_4_code
def yX1_addTest : MethodName := ⟨RX1, "addTest", "(III)V"⟩
abbrev cX1_addClause : ByteArray := prog_3_method_5_code
def yX1_addClause : MethodName := ⟨RX1, "addClause", "(II)V"⟩
abbrev cX1_together : ByteArray := prog_3_method_6_code
def yX1_together : MethodName := ⟨RX1, "together", "(I[I)I"⟩
abbrev cX1_holds : ByteArray := prog_3_method_7_code
def yX1_holds : MethodName := ⟨RX1, "holds", "(I[I)Z"⟩
def RX2 : String := "AteLeast$Reader"
def TX2 : u_T := fun k => match k with
  | 0 => ("AteLeast$Reader", "text", "[C", true)
  | 1 => ("AteLeast$Reader", "length", "I", false)
  | 2 => ("AteLeast$Reader", "at", "I", false)
  | 3 => ("AteLeast$Reader", "value", "I", false)
  | _ => ("AteLeast$Reader", "house", "LAteLeast$House;", false)
def tyX2 : Nat → FieldType := fun k => match k with
  | 0 => .array .char
  | 1 => .int
  | 2 => .int
  | 3 => .int
  | _ => .object "AteLeast$House"
abbrev wsX20 : List Cond := u_ws RX2 TX2 5
theorem nmX2 : ∀ a, a < 5 → ∀ b, b < 5 → a ≠ b → (TX2 a).2.1 ≠ (TX2 b).2.1 := by decide +kernel
theorem tyX2_ok : ∀ k, k < 5 → parseFieldDescriptor (TX2 k).2.2.1 = some (tyX2 k) := by decide +kernel
abbrev cX2_init : ByteArray := prog_4_method_1_code
def yX2_init : MethodName := ⟨RX2, "<init>", "()V"⟩
abbrev cX2_append : ByteArray := prog_4_method_2_code
def yX2_append : MethodName := ⟨RX2, "append", "(C)I"⟩
abbrev cX2_faultOf : ByteArray := prog_4_method_3_code
def yX2_faultOf : MethodName := ⟨RX2, "faultOf", "(LAteLeast$House;)I"⟩
abbrev cX2_readClause : ByteArray := prog_4_method_4_code
def yX2_readClause : MethodName := ⟨RX2, "readClause", "()Z"⟩
abbrev cX2_readWord : ByteArray := prog_4_method_5_code
def yX2_readWord : MethodName := ⟨RX2, "readWord", "()I"⟩
abbrev cX2_wordOf : ByteArray := prog_4_method_6_code
def yX2_wordOf : MethodName := ⟨RX2, "wordOf", "(I)Ljava/lang/String;"⟩
abbrev cX2_alike : ByteArray := prog_4_method_7_code
def yX2_alike : MethodName := ⟨RX2, "alike", "(Ljava/lang/String;)I"⟩
abbrev cX2_readNumber : ByteArray := prog_4_method_8_code
def yX2_readNumber : MethodName := ⟨RX2, "readNumber", "()Z"⟩
abbrev cX2_readEither : ByteArray := prog_4_method_9_code
def yX2_readEither : MethodName := ⟨RX2, "readEither", "(I)Z"⟩
abbrev cX2_readBoth : ByteArray := prog_4_method_10_code
def yX2_readBoth : MethodName := ⟨RX2, "readBoth", "(I)Z"⟩
abbrev cX2_readOne : ByteArray := prog_4_method_11_code
def yX2_readOne : MethodName := ⟨RX2, "readOne", "(I)Z"⟩
abbrev cX2_readTest : ByteArray := prog_4_method_12_code
def yX2_readTest : MethodName := ⟨RX2, "readTest", "()Z"⟩
abbrev cX2_sees : ByteArray := prog_4_method_13_code
def yX2_sees : MethodName := ⟨RX2, "sees", "(C)Z"⟩
abbrev cX2_takes : ByteArray := prog_4_method_14_code
def yX2_takes : MethodName := ⟨RX2, "takes", "(C)Z"⟩
def RX3 : String := "AteLeast$Supper"
def TX3 : u_T := fun k => match k with
  | 0 => ("AteLeast$Supper", "wish", "[I", true)
  | 1 => ("AteLeast$Supper", "thought", "[I", true)
  | 2 => ("AteLeast$Supper", "ate", "[I", true)
  | 3 => ("AteLeast$Supper", "portion", "[I", true)
  | 4 => ("AteLeast$Supper", "letters", "[I", true)
  | 5 => ("AteLeast$Supper", "worth", "[I", true)
  | 6 => ("AteLeast$Supper", "known", "[I", true)
  | 7 => ("AteLeast$Supper", "cost", "[I", true)
  | 8 => ("AteLeast$Supper", "table", "LAteLeast$Table;", false)
  | 9 => ("AteLeast$Supper", "house", "LAteLeast$House;", false)
  | 10 => ("AteLeast$Supper", "law", "I", false)
  | 11 => ("AteLeast$Supper", "left", "I", false)
  | 12 => ("AteLeast$Supper", "baker", "I", false)
  | 13 => ("AteLeast$Supper", "lawInstead", "I", false)
  | 14 => ("AteLeast$Supper", "free", "Z", false)
  | 15 => ("AteLeast$Supper", "one", "I", false)
  | _ => ("AteLeast$Supper", "other", "I", false)
def tyX3 : Nat → FieldType := fun k => match k with
  | 0 => .array .int
  | 1 => .array .int
  | 2 => .array .int
  | 3 => .array .int
  | 4 => .array .int
  | 5 => .array .int
  | 6 => .array .int
  | 7 => .array .int
  | 8 => .object "AteLeast$Table"
  | 9 => .object "AteLeast$House"
  | 10 => .int
  | 11 => .int
  | 12 => .int
  | 13 => .int
  | 14 => .boolean
  | 15 => .int
  | _ => .int
abbrev wsX30 : List Cond := u_ws RX3 TX3 17
theorem nmX3 : ∀ a, a < 17 → ∀ b, b < 17 → a ≠ b → (TX3 a).2.1 ≠ (TX3 b).2.1 := by decide +kernel
theorem tyX3_ok : ∀ k, k < 17 → parseFieldDescriptor (TX3 k).2.2.1 = some (tyX3 k) := by decide +kernel
abbrev cX3_init : ByteArray := prog_5_method_1_code
def yX3_init : MethodName := ⟨RX3, "<init>", "()V"⟩
abbrev cX3_agree : ByteArray := prog_5_method_2_code
def yX3_agree : MethodName := ⟨RX3, "agree", "(II)V"⟩
abbrev cX3_begin : ByteArray := prog_5_method_3_code
def yX3_begin : MethodName := ⟨RX3, "begin", "(LAteLeast$Table;LAteLeast$House;)V"⟩
abbrev cX3_hold : ByteArray := prog_5_method_4_code
def yX3_hold : MethodName := ⟨RX3, "hold", "(LAteLeast$Table;LAteLeast$House;)V"⟩
abbrev cX3_keepPact : ByteArray := prog_5_method_5_code
def yX3_keepPact : MethodName := ⟨RX3, "keepPact", "()V"⟩
abbrev cX3_wishOf : ByteArray := prog_5_method_6_code
def yX3_wishOf : MethodName := ⟨RX3, "wishOf", "(I)I"⟩
abbrev cX3_serve : ByteArray := prog_5_method_7_code
def yX3_serve : MethodName := ⟨RX3, "serve", "([I)V"⟩
abbrev cX3_outermost : ByteArray := prog_5_method_8_code
def yX3_outermost : MethodName := ⟨RX3, "outermost", "()I"⟩
abbrev cX3_middle : ByteArray := prog_5_method_9_code
def yX3_middle : MethodName := ⟨RX3, "middle", "()I"⟩
abbrev cX3_placeOf : ByteArray := prog_5_method_10_code
def yX3_placeOf : MethodName := ⟨RX3, "placeOf", "(I)I"⟩
abbrev cX3_isLikeBaker : ByteArray := prog_5_method_11_code
def yX3_isLikeBaker : MethodName := ⟨RX3, "isLikeBaker", "(I)Z"⟩
abbrev cX3_likeBaker : ByteArray := prog_5_method_12_code
def yX3_likeBaker : MethodName := ⟨RX3, "likeBaker", "()I"⟩
abbrev cX3_someoneWentShort : ByteArray := prog_5_method_13_code
def yX3_someoneWentShort : MethodName := ⟨RX3, "someoneWentShort", "()Z"⟩
abbrev cX3_haveTogether : ByteArray := prog_5_method_14_code
def yX3_haveTogether : MethodName := ⟨RX3, "haveTogether", "()I"⟩
abbrev cX3_has : ByteArray := prog_5_method_15_code
def yX3_has : MethodName := ⟨RX3, "has", "(I)I"⟩
abbrev cX3_ask : ByteArray := prog_5_method_16_code
def yX3_ask : MethodName := ⟨RX3, "ask", "(III)I"⟩
abbrev cX3_turnTo : ByteArray := prog_5_method_17_code
def yX3_turnTo : MethodName := ⟨RX3, "turnTo", "(I)V"⟩
def RX4 : String := "AteLeast$Table"
def TX4 : u_T := fun k => match k with
  | 0 => ("AteLeast$Table", "kind", "[I", true)
  | 1 => ("AteLeast$Table", "v", "[I", true)
  | 2 => ("AteLeast$Table", "hunger", "[I", true)
  | 3 => ("AteLeast$Table", "eaten", "[I", true)
  | 4 => ("AteLeast$Table", "glad", "[I", true)
  | 5 => ("AteLeast$Table", "rows", "[I", true)
  | 6 => ("AteLeast$Table", "book", "[I", true)
  | 7 => ("AteLeast$Table", "eaters", "I", false)
  | 8 => ("AteLeast$Table", "bin", "I", false)
  | 9 => ("AteLeast$Table", "day", "I", false)
  | 10 => ("AteLeast$Table", "baker", "I", false)
  | 11 => ("AteLeast$Table", "pages", "I", false)
  | _ => ("AteLeast$Table", "held", "I", false)
def tyX4 : Nat → FieldType := fun k => match k with
  | 0 => .array .int
  | 1 => .array .int
  | 2 => .array .int
  | 3 => .array .int
  | 4 => .array .int
  | 5 => .array .int
  | 6 => .array .int
  | 7 => .int
  | 8 => .int
  | 9 => .int
  | 10 => .int
  | 11 => .int
  | _ => .int
abbrev wsX40 : List Cond := u_ws RX4 TX4 13
theorem nmX4 : ∀ a, a < 13 → ∀ b, b < 13 → a ≠ b → (TX4 a).2.1 ≠ (TX4 b).2.1 := by decide +kernel
theorem tyX4_ok : ∀ k, k < 13 → parseFieldDescriptor (TX4 k).2.2.1 = some (tyX4 k) := by decide +kernel
abbrev cX4_init : ByteArray := prog_6_method_1_code
def yX4_init : MethodName := ⟨RX4, "<init>", "()V"⟩
abbrev cX4_becomes : ByteArray := prog_6_method_2_code
def yX4_becomes : MethodName := ⟨RX4, "becomes", "(LAteLeast$Table;)V"⟩
abbrev cX4_seat : ByteArray := prog_6_method_3_code
def yX4_seat : MethodName := ⟨RX4, "seat", "(III)I"⟩
abbrev cX4_plainWish : ByteArray := prog_6_method_4_code
def yX4_plainWish : MethodName := ⟨RX4, "plainWish", "(I)I"⟩
abbrev cX4_crumbMore : ByteArray := prog_6_method_5_code
def yX4_crumbMore : MethodName := ⟨RX4, "crumbMore", "(I)I"⟩
abbrev cX4_gladTogether : ByteArray := prog_6_method_6_code
def yX4_gladTogether : MethodName := ⟨RX4, "gladTogether", "()I"⟩
abbrev cX4_looksLike : ByteArray := prog_6_method_7_code
def yX4_looksLike : MethodName := ⟨RX4, "looksLike", "(LAteLeast$Table;)Z"⟩
def RX5 : String := "AteLeast$Tape"
def TX5 : u_T := fun k => match k with
  | 0 => ("AteLeast$Tape", "items", "[J", true)
  | 1 => ("AteLeast$Tape", "sort", "I", false)
  | _ => ("AteLeast$Tape", "length", "I", false)
def tyX5 : Nat → FieldType := fun k => match k with
  | 0 => .array .long
  | 1 => .int
  | _ => .int
abbrev wsX50 : List Cond := u_ws RX5 TX5 3
theorem nmX5 : ∀ a, a < 3 → ∀ b, b < 3 → a ≠ b → (TX5 a).2.1 ≠ (TX5 b).2.1 := by decide +kernel
theorem tyX5_ok : ∀ k, k < 3 → parseFieldDescriptor (TX5 k).2.2.1 = some (tyX5 k) := by decide +kernel
abbrev cX5_init : ByteArray := prog_7_method_1_code
def yX5_init : MethodName := ⟨RX5, "<init>", "()V"⟩
abbrev cX5_becomesEmpty : ByteArray := prog_7_method_2_code
def yX5_becomesEmpty : MethodName := ⟨RX5, "becomesEmpty", "(II)V"⟩
abbrev cX5_has : ByteArray := prog_7_method_3_code
def yX5_has : MethodName := ⟨RX5, "has", "(I)Z"⟩
abbrev cX5_hasStretch : ByteArray := prog_7_method_4_code
def yX5_hasStretch : MethodName := ⟨RX5, "hasStretch", "(II)Z"⟩
abbrev cX5_put : ByteArray := prog_7_method_5_code
def yX5_put : MethodName := ⟨RX5, "put", "(IJ)V"⟩
def RX6 : String := "AteLeast"
def TX6 : u_T := fun k => match k with
  | 0 => ("AteLeast", "now", "LAteLeast$Table;", true)
  | 1 => ("AteLeast", "image", "LAteLeast$Table;", true)
  | 2 => ("AteLeast", "then", "LAteLeast$Table;", true)
  | 3 => ("AteLeast", "bare", "LAteLeast$House;", true)
  | 4 => ("AteLeast", "houses", "[LAteLeast$House;", true)
  | 5 => ("AteLeast", "evening", "LAteLeast$Supper;", true)
  | 6 => ("AteLeast", "reader", "LAteLeast$Reader;", true)
  | 7 => ("AteLeast", "acts", "LAteLeast$Acts;", true)
  | 8 => ("AteLeast", "tapes", "[LAteLeast$Tape;", true)
  | 9 => ("AteLeast", "trial", "[I", true)
  | 10 => ("AteLeast", "first", "[I", true)
  | 11 => ("AteLeast", "houseCount", "I", false)
  | _ => ("AteLeast", "imaged", "Z", false)
def tyX6 : Nat → FieldType := fun k => match k with
  | 0 => .object "AteLeast$Table"
  | 1 => .object "AteLeast$Table"
  | 2 => .object "AteLeast$Table"
  | 3 => .object "AteLeast$House"
  | 4 => .array (.object "AteLeast$House")
  | 5 => .object "AteLeast$Supper"
  | 6 => .object "AteLeast$Reader"
  | 7 => .object "AteLeast$Acts"
  | 8 => .array (.object "AteLeast$Tape")
  | 9 => .array .int
  | 10 => .array .int
  | 11 => .int
  | _ => .boolean
abbrev wsX60 : List Cond := u_ws RX6 TX6 13
theorem nmX6 : ∀ a, a < 13 → ∀ b, b < 13 → a ≠ b → (TX6 a).2.1 ≠ (TX6 b).2.1 := by decide +kernel
theorem tyX6_ok : ∀ k, k < 13 → parseFieldDescriptor (TX6 k).2.2.1 = some (tyX6 k) := by decide +kernel
abbrev cX6_init : ByteArray := prog_1_method_1_code
def yX6_init : MethodName := ⟨RX6, "<init>", "()V"⟩
abbrev cX6_eater : ByteArray := prog_1_method_2_code
def yX6_eater : MethodName := ⟨RX6, "eater", "(III)I"⟩
abbrev cX6_of : ByteArray := prog_1_method_3_code
def yX6_of : MethodName := ⟨RX6, "of", "(II)I"⟩
abbrev cX6_reckonedOf : ByteArray := prog_1_method_4_code
def yX6_reckonedOf : MethodName := ⟨RX6, "reckonedOf", "(II)I"⟩
abbrev cX6_hunger : ByteArray := prog_1_method_5_code
def yX6_hunger : MethodName := ⟨RX6, "hunger", "(II)I"⟩
abbrev cX6_row : ByteArray := prog_1_method_6_code
def yX6_row : MethodName := ⟨RX6, "row", "(III)I"⟩
abbrev cX6_bin : ByteArray := prog_1_method_7_code
def yX6_bin : MethodName := ⟨RX6, "bin", "(I)I"⟩
abbrev cX6_feed : ByteArray := prog_1_method_8_code
def yX6_feed : MethodName := ⟨RX6, "feed", "(I)I"⟩
abbrev cX6_house : ByteArray := prog_1_method_9_code
def yX6_house : MethodName := ⟨RX6, "house", "()I"⟩
abbrev cX6_told : ByteArray := prog_1_method_10_code
def yX6_told : MethodName := ⟨RX6, "told", "(I)I"⟩
abbrev cX6_supper : ByteArray := prog_1_method_11_code
def yX6_supper : MethodName := ⟨RX6, "supper", "()I"⟩
abbrev cX6_run : ByteArray := prog_1_method_12_code
def yX6_run : MethodName := ⟨RX6, "run", "(II)I"⟩
abbrev cX6_timesBaker : ByteArray := prog_1_method_13_code
def yX6_timesBaker : MethodName := ⟨RX6, "timesBaker", "(II)I"⟩
abbrev cX6_round : ByteArray := prog_1_method_14_code
def yX6_round : MethodName := ⟨RX6, "round", "()I"⟩
abbrev cX6_still : ByteArray := prog_1_method_15_code
def yX6_still : MethodName := ⟨RX6, "still", "(I)I"⟩
abbrev cX6_allBest : ByteArray := prog_1_method_16_code
def yX6_allBest : MethodName := ⟨RX6, "allBest", "(I)I"⟩
abbrev cX6_rowsInAll : ByteArray := prog_1_method_17_code
def yX6_rowsInAll : MethodName := ⟨RX6, "rowsInAll", "()I"⟩
abbrev cX6_becomesRow : ByteArray := prog_1_method_18_code
def yX6_becomesRow : MethodName := ⟨RX6, "becomesRow", "(I)V"⟩
abbrev cX6_keepIf : ByteArray := prog_1_method_19_code
def yX6_keepIf : MethodName := ⟨RX6, "keepIf", "(Z)V"⟩
abbrev cX6_nobodyGains : ByteArray := prog_1_method_20_code
def yX6_nobodyGains : MethodName := ⟨RX6, "nobodyGains", "()Z"⟩
abbrev cX6_gains : ByteArray := prog_1_method_21_code
def yX6_gains : MethodName := ⟨RX6, "gains", "(I)Z"⟩
abbrev cX6_laws : ByteArray := prog_1_method_22_code
def yX6_laws : MethodName := ⟨RX6, "laws", "(I)I"⟩
abbrev cX6_cook : ByteArray := prog_1_method_23_code
def yX6_cook : MethodName := ⟨RX6, "cook", "(II)I"⟩
abbrev cX6_thin : ByteArray := prog_1_method_24_code
def yX6_thin : MethodName := ⟨RX6, "thin", "(I)I"⟩
abbrev cX6_lasts : ByteArray := prog_1_method_25_code
def yX6_lasts : MethodName := ⟨RX6, "lasts", "(II)Z"⟩
abbrev cX6_pact : ByteArray := prog_1_method_26_code
def yX6_pact : MethodName := ⟨RX6, "pact", "(III)I"⟩
abbrev cX6_guest : ByteArray := prog_1_method_27_code
def yX6_guest : MethodName := ⟨RX6, "guest", "(I)I"⟩
abbrev cX6_odds : ByteArray := prog_1_method_28_code
def yX6_odds : MethodName := ⟨RX6, "odds", "(II)J"⟩
abbrev cX6_mean : ByteArray := prog_1_method_29_code
def yX6_mean : MethodName := ⟨RX6, "mean", "(II)J"⟩
abbrev cX6_fraction : ByteArray := prog_1_method_30_code
def yX6_fraction : MethodName := ⟨RX6, "fraction", "(JJI)J"⟩
abbrev cX6_book : ByteArray := prog_1_method_31_code
def yX6_book : MethodName := ⟨RX6, "book", "(I)I"⟩
abbrev cX6_looked : ByteArray := prog_1_method_32_code
def yX6_looked : MethodName := ⟨RX6, "looked", "()I"⟩
abbrev cX6_judge : ByteArray := prog_1_method_33_code
def yX6_judge : MethodName := ⟨RX6, "judge", "(II)I"⟩
abbrev cX6_image : ByteArray := prog_1_method_34_code
def yX6_image : MethodName := ⟨RX6, "image", "()I"⟩
abbrev cX6_undo : ByteArray := prog_1_method_35_code
def yX6_undo : MethodName := ⟨RX6, "undo", "()I"⟩
abbrev cX6_act : ByteArray := prog_1_method_36_code
def yX6_act : MethodName := ⟨RX6, "act", "(III)I"⟩
abbrev cX6_trace : ByteArray := prog_1_method_37_code
def yX6_trace : MethodName := ⟨RX6, "trace", "(I)I"⟩
abbrev cX6_taken : ByteArray := prog_1_method_38_code
def yX6_taken : MethodName := ⟨RX6, "taken", "(II)I"⟩
abbrev cX6_count : ByteArray := prog_1_method_39_code
def yX6_count : MethodName := ⟨RX6, "count", "(I)I"⟩
abbrev cX6_tape : ByteArray := prog_1_method_40_code
def yX6_tape : MethodName := ⟨RX6, "tape", "(III)I"⟩
abbrev cX6_item : ByteArray := prog_1_method_41_code
def yX6_item : MethodName := ⟨RX6, "item", "(IIJ)I"⟩
abbrev cX6_read : ByteArray := prog_1_method_42_code
def yX6_read : MethodName := ⟨RX6, "read", "(II)J"⟩
abbrev cX6_shift : ByteArray := prog_1_method_43_code
def yX6_shift : MethodName := ⟨RX6, "shift", "(IIIII)I"⟩
abbrev cX6_within : ByteArray := prog_1_method_44_code
def yX6_within : MethodName := ⟨RX6, "within", "(II)Z"⟩
abbrev cX6_isEater : ByteArray := prog_1_method_45_code
def yX6_isEater : MethodName := ⟨RX6, "isEater", "(I)Z"⟩
abbrev cX6_holding : ByteArray := prog_1_method_46_code
def yX6_holding : MethodName := ⟨RX6, "holding", "()LAteLeast$House;"⟩
abbrev cX6_ahead : ByteArray := prog_1_method_47_code
def yX6_ahead : MethodName := ⟨RX6, "ahead", "(I)V"⟩
def RX7 : String := "AteLeastModel"
def TX7 : u_T := fun k => match k with
  | 0 => ("AteLeastModel", "eaters", "I", false)
  | 1 => ("AteLeastModel", "slices", "I", false)
  | 2 => ("AteLeastModel", "day", "I", false)
  | 3 => ("AteLeastModel", "baker", "I", false)
  | 4 => ("AteLeastModel", "kind", "[I", true)
  | 5 => ("AteLeastModel", "v", "[I", true)
  | 6 => ("AteLeastModel", "wants", "[I", true)
  | 7 => ("AteLeastModel", "eaten", "[I", true)
  | 8 => ("AteLeastModel", "glad", "[I", true)
  | 9 => ("AteLeastModel", "told", "[I", true)
  | 10 => ("AteLeastModel", "houses", "I", false)
  | 11 => ("AteLeastModel", "the", "I", false)
  | 12 => ("AteLeastModel", "fed", "I", false)
  | 13 => ("AteLeastModel", "at", "I", false)
  | 14 => ("AteLeastModel", "digits", "I", false)
  | 15 => ("AteLeastModel", "text", "[I", true)
  | 16 => ("AteLeastModel", "clauses", "[I", true)
  | 17 => ("AteLeastModel", "word", "[I", true)
  | 18 => ("AteLeastModel", "number", "[I", true)
  | 19 => ("AteLeastModel", "from", "[I", true)
  | 20 => ("AteLeastModel", "to", "[I", true)
  | 21 => ("AteLeastModel", "sign", "[I", true)
  | 22 => ("AteLeastModel", "waits", "[I", true)
  | 23 => ("AteLeastModel", "signs", "I", false)
  | 24 => ("AteLeastModel", "waiting", "I", false)
  | 25 => ("AteLeastModel", "open", "I", false)
  | 26 => ("AteLeastModel", "letters", "[I", true)
  | 27 => ("AteLeastModel", "pile", "[Z", true)
  | 28 => ("AteLeastModel", "isFree", "Z", false)
  | 29 => ("AteLeastModel", "lawTold", "I", false)
  | 30 => ("AteLeastModel", "wish", "[I", true)
  | 31 => ("AteLeastModel", "eats", "[I", true)
  | 32 => ("AteLeastModel", "has", "[I", true)
  | 33 => ("AteLeastModel", "bakes", "I", false)
  | 34 => ("AteLeastModel", "wished", "[I", true)
  | 35 => ("AteLeastModel", "pactOne", "I", false)
  | 36 => ("AteLeastModel", "pactOther", "I", false)
  | 37 => ("AteLeastModel", "baked", "[I", true)
  | 38 => ("AteLeastModel", "keptEaten", "[I", true)
  | 39 => ("AteLeastModel", "keptGlad", "[I", true)
  | 40 => ("AteLeastModel", "keptSlices", "I", false)
  | 41 => ("AteLeastModel", "keptDay", "I", false)
  | 42 => ("AteLeastModel", "keptBaker", "I", false)
  | 43 => ("AteLeastModel", "rowHas", "[I", true)
  | 44 => ("AteLeastModel", "books", "I", false)
  | 45 => ("AteLeastModel", "book", "[I", true)
  | 46 => ("AteLeastModel", "hasImage", "Z", false)
  | 47 => ("AteLeastModel", "imageThe", "I", false)
  | 48 => ("AteLeastModel", "imageEaters", "I", false)
  | 49 => ("AteLeastModel", "imageSlices", "I", false)
  | 50 => ("AteLeastModel", "imageDay", "I", false)
  | 51 => ("AteLeastModel", "imageBaker", "I", false)
  | 52 => ("AteLeastModel", "imageBooks", "I", false)
  | 53 => ("AteLeastModel", "imageKind", "[I", true)
  | 54 => ("AteLeastModel", "imageV", "[I", true)
  | 55 => ("AteLeastModel", "imageWants", "[I", true)
  | 56 => ("AteLeastModel", "imageEaten", "[I", true)
  | 57 => ("AteLeastModel", "imageGlad", "[I", true)
  | 58 => ("AteLeastModel", "imageTold", "[I", true)
  | 59 => ("AteLeastModel", "imageBook", "[I", true)
  | 60 => ("AteLeastModel", "ran", "I", false)
  | 61 => ("AteLeastModel", "bodies", "[I", true)
  | 62 => ("AteLeastModel", "sort", "[I", true)
  | 63 => ("AteLeastModel", "length", "[I", true)
  | 64 => ("AteLeastModel", "item", "[J", true)
  | _ => ("AteLeastModel", "aside", "[J", true)
def tyX7 : Nat → FieldType := fun k => match k with
  | 0 => .int
  | 1 => .int
  | 2 => .int
  | 3 => .int
  | 4 => .array .int
  | 5 => .array .int
  | 6 => .array .int
  | 7 => .array .int
  | 8 => .array .int
  | 9 => .array .int
  | 10 => .int
  | 11 => .int
  | 12 => .int
  | 13 => .int
  | 14 => .int
  | 15 => .array .int
  | 16 => .array .int
  | 17 => .array .int
  | 18 => .array .int
  | 19 => .array .int
  | 20 => .array .int
  | 21 => .array .int
  | 22 => .array .int
  | 23 => .int
  | 24 => .int
  | 25 => .int
  | 26 => .array .int
  | 27 => .array .boolean
  | 28 => .boolean
  | 29 => .int
  | 30 => .array .int
  | 31 => .array .int
  | 32 => .array .int
  | 33 => .int
  | 34 => .array .int
  | 35 => .int
  | 36 => .int
  | 37 => .array .int
  | 38 => .array .int
  | 39 => .array .int
  | 40 => .int
  | 41 => .int
  | 42 => .int
  | 43 => .array .int
  | 44 => .int
  | 45 => .array .int
  | 46 => .boolean
  | 47 => .int
  | 48 => .int
  | 49 => .int
  | 50 => .int
  | 51 => .int
  | 52 => .int
  | 53 => .array .int
  | 54 => .array .int
  | 55 => .array .int
  | 56 => .array .int
  | 57 => .array .int
  | 58 => .array .int
  | 59 => .array .int
  | 60 => .int
  | 61 => .array .int
  | 62 => .array .int
  | 63 => .array .int
  | 64 => .array .long
  | _ => .array .long
abbrev wsX70 : List Cond := u_ws RX7 TX7 66
theorem nmX7 : ∀ a, a < 66 → ∀ b, b < 66 → a ≠ b → (TX7 a).2.1 ≠ (TX7 b).2.1 := by decide +kernel
theorem tyX7_ok : ∀ k, k < 66 → parseFieldDescriptor (TX7 k).2.2.1 = some (tyX7 k) := by decide +kernel
abbrev cX7_init : ByteArray := prog_9_method_1_code
def yX7_init : MethodName := ⟨RX7, "<init>", "()V"⟩
abbrev cX7_in : ByteArray := prog_9_method_2_code
def yX7_in : MethodName := ⟨RX7, "in", "(III)Z"⟩
abbrev cX7_isEater : ByteArray := prog_9_method_3_code
def yX7_isEater : MethodName := ⟨RX7, "isEater", "(I)Z"⟩
abbrev cX7_lay : ByteArray := prog_9_method_4_code
def yX7_lay : MethodName := ⟨RX7, "lay", "(IIII)V"⟩
abbrev cX7_eater : ByteArray := prog_9_method_5_code
def yX7_eater : MethodName := ⟨RX7, "eater", "(III)I"⟩
abbrev cX7_hunger : ByteArray := prog_9_method_6_code
def yX7_hunger : MethodName := ⟨RX7, "hunger", "(II)I"⟩
abbrev cX7_row : ByteArray := prog_9_method_7_code
def yX7_row : MethodName := ⟨RX7, "row", "(III)I"⟩
abbrev cX7_bin : ByteArray := prog_9_method_8_code
def yX7_bin : MethodName := ⟨RX7, "bin", "(I)I"⟩
abbrev cX7_feed : ByteArray := prog_9_method_9_code
def yX7_feed : MethodName := ⟨RX7, "feed", "(I)I"⟩
abbrev cX7_next : ByteArray := prog_9_method_10_code
def yX7_next : MethodName := ⟨RX7, "next", "()I"⟩
abbrev cX7_second : ByteArray := prog_9_method_11_code
def yX7_second : MethodName := ⟨RX7, "second", "()I"⟩
abbrev cX7_takes : ByteArray := prog_9_method_12_code
def yX7_takes : MethodName := ⟨RX7, "takes", "(I)Z"⟩
abbrev cX7_takesWord : ByteArray := prog_9_method_13_code
def yX7_takesWord : MethodName := ⟨RX7, "takesWord", "(II)Z"⟩
abbrev cX7_isDigit : ByteArray := prog_9_method_14_code
def yX7_isDigit : MethodName := ⟨RX7, "isDigit", "()Z"⟩
abbrev cX7_takesNumber : ByteArray := prog_9_method_15_code
def yX7_takesNumber : MethodName := ⟨RX7, "takesNumber", "()Z"⟩
abbrev cX7_put : ByteArray := prog_9_method_16_code
def yX7_put : MethodName := ⟨RX7, "put", "(I)V"⟩
abbrev cX7_whole : ByteArray := prog_9_method_17_code
def yX7_whole : MethodName := ⟨RX7, "whole", "()V"⟩
abbrev cX7_settle : ByteArray := prog_9_method_18_code
def yX7_settle : MethodName := ⟨RX7, "settle", "(I)V"⟩
abbrev cX7_place : ByteArray := prog_9_method_19_code
def yX7_place : MethodName := ⟨RX7, "place", "(I)I"⟩
abbrev cX7_takesTest : ByteArray := prog_9_method_20_code
def yX7_takesTest : MethodName := ⟨RX7, "takesTest", "()Z"⟩
abbrev cX7_takesE : ByteArray := prog_9_method_21_code
def yX7_takesE : MethodName := ⟨RX7, "takesE", "(I)Z"⟩
abbrev cX7_takesHead : ByteArray := prog_9_method_22_code
def yX7_takesHead : MethodName := ⟨RX7, "takesHead", "(I)Z"⟩
abbrev cX7_takesClause : ByteArray := prog_9_method_23_code
def yX7_takesClause : MethodName := ⟨RX7, "takesClause", "(I)Z"⟩
abbrev cX7_goesText : ByteArray := prog_9_method_24_code
def yX7_goesText : MethodName := ⟨RX7, "goesText", "(I)Z"⟩
abbrev cX7_house : ByteArray := prog_9_method_25_code
def yX7_house : MethodName := ⟨RX7, "house", "()I"⟩
abbrev cX7_begin : ByteArray := prog_9_method_26_code
def yX7_begin : MethodName := ⟨RX7, "begin", "()I"⟩
abbrev cX7_behind : ByteArray := prog_9_method_27_code
def yX7_behind : MethodName := ⟨RX7, "behind", "()I"⟩
abbrev cX7_lastOf : ByteArray := prog_9_method_28_code
def yX7_lastOf : MethodName := ⟨RX7, "lastOf", "(II)I"⟩
abbrev cX7_hasOf : ByteArray := prog_9_method_29_code
def yX7_hasOf : MethodName := ⟨RX7, "hasOf", "(I)Z"⟩
abbrev cX7_factOf : ByteArray := prog_9_method_30_code
def yX7_factOf : MethodName := ⟨RX7, "factOf", "(III)I"⟩
abbrev cX7_holds : ByteArray := prog_9_method_31_code
def yX7_holds : MethodName := ⟨RX7, "holds", "(III)Z"⟩
abbrev cX7_sumOf : ByteArray := prog_9_method_32_code
def yX7_sumOf : MethodName := ⟨RX7, "sumOf", "(III)I"⟩
abbrev cX7_worthOf : ByteArray := prog_9_method_33_code
def yX7_worthOf : MethodName := ⟨RX7, "worthOf", "(II)I"⟩
abbrev cX7_costOf : ByteArray := prog_9_method_34_code
def yX7_costOf : MethodName := ⟨RX7, "costOf", "(II)I"⟩
abbrev cX7_lawNow : ByteArray := prog_9_method_35_code
def yX7_lawNow : MethodName := ⟨RX7, "lawNow", "()I"⟩
abbrev cX7_scaleNow : ByteArray := prog_9_method_36_code
def yX7_scaleNow : MethodName := ⟨RX7, "scaleNow", "()I"⟩
abbrev cX7_isAhead : ByteArray := prog_9_method_37_code
def yX7_isAhead : MethodName := ⟨RX7, "isAhead", "(III)Z"⟩
abbrev cX7_bakerNow : ByteArray := prog_9_method_38_code
def yX7_bakerNow : MethodName := ⟨RX7, "bakerNow", "()I"⟩
abbrev cX7_laySupper : ByteArray := prog_9_method_39_code
def yX7_laySupper : MethodName := ⟨RX7, "laySupper", "()V"⟩
abbrev cX7_least : ByteArray := prog_9_method_40_code
def yX7_least : MethodName := ⟨RX7, "least", "(II)I"⟩
abbrev cX7_crumb : ByteArray := prog_9_method_41_code
def yX7_crumb : MethodName := ⟨RX7, "crumb", "(I)I"⟩
abbrev cX7_plainWish : ByteArray := prog_9_method_42_code
def yX7_plainWish : MethodName := ⟨RX7, "plainWish", "(I)I"⟩
abbrev cX7_bestWish : ByteArray := prog_9_method_43_code
def yX7_bestWish : MethodName := ⟨RX7, "bestWish", "(I)I"⟩
abbrev cX7_wishOf : ByteArray := prog_9_method_44_code
def yX7_wishOf : MethodName := ⟨RX7, "wishOf", "(I)I"⟩
abbrev cX7_layWishes : ByteArray := prog_9_method_45_code
def yX7_layWishes : MethodName := ⟨RX7, "layWishes", "()V"⟩
abbrev cX7_goSupper : ByteArray := prog_9_method_46_code
def yX7_goSupper : MethodName := ⟨RX7, "goSupper", "()V"⟩
abbrev cX7_supper : ByteArray := prog_9_method_47_code
def yX7_supper : MethodName := ⟨RX7, "supper", "()I"⟩
abbrev cX7_of : ByteArray := prog_9_method_48_code
def yX7_of : MethodName := ⟨RX7, "of", "(II)I"⟩
abbrev cX7_told : ByteArray := prog_9_method_49_code
def yX7_told : MethodName := ⟨RX7, "told", "(I)I"⟩
abbrev cX7_keep : ByteArray := prog_9_method_50_code
def yX7_keep : MethodName := ⟨RX7, "keep", "()V"⟩
abbrev cX7_putBack : ByteArray := prog_9_method_51_code
def yX7_putBack : MethodName := ⟨RX7, "putBack", "()V"⟩
abbrev cX7_goOn : ByteArray := prog_9_method_52_code
def yX7_goOn : MethodName := ⟨RX7, "goOn", "(I)V"⟩
abbrev cX7_run : ByteArray := prog_9_method_53_code
def yX7_run : MethodName := ⟨RX7, "run", "(II)I"⟩
abbrev cX7_isAsKept : ByteArray := prog_9_method_54_code
def yX7_isAsKept : MethodName := ⟨RX7, "isAsKept", "()Z"⟩
abbrev cX7_round : ByteArray := prog_9_method_55_code
def yX7_round : MethodName := ⟨RX7, "round", "()I"⟩
abbrev cX7_layRow : ByteArray := prog_9_method_56_code
def yX7_layRow : MethodName := ⟨RX7, "layRow", "(I)V"⟩
abbrev cX7_rowsNow : ByteArray := prog_9_method_57_code
def yX7_rowsNow : MethodName := ⟨RX7, "rowsNow", "()I"⟩
abbrev cX7_isStill : ByteArray := prog_9_method_58_code
def yX7_isStill : MethodName := ⟨RX7, "isStill", "(I)Z"⟩
abbrev cX7_digit : ByteArray := prog_9_method_59_code
def yX7_digit : MethodName := ⟨RX7, "digit", "(II)I"⟩
abbrev cX7_still : ByteArray := prog_9_method_60_code
def yX7_still : MethodName := ⟨RX7, "still", "(I)I"⟩
abbrev cX7_allBest : ByteArray := prog_9_method_61_code
def yX7_allBest : MethodName := ⟨RX7, "allBest", "(I)I"⟩
abbrev cX7_allGlad : ByteArray := prog_9_method_62_code
def yX7_allGlad : MethodName := ⟨RX7, "allGlad", "()I"⟩
abbrev cX7_laws : ByteArray := prog_9_method_63_code
def yX7_laws : MethodName := ⟨RX7, "laws", "(I)I"⟩
abbrev cX7_gladBehind : ByteArray := prog_9_method_64_code
def yX7_gladBehind : MethodName := ⟨RX7, "gladBehind", "(II)I"⟩
abbrev cX7_cook : ByteArray := prog_9_method_65_code
def yX7_cook : MethodName := ⟨RX7, "cook", "(II)I"⟩
abbrev cX7_isEnough : ByteArray := prog_9_method_66_code
def yX7_isEnough : MethodName := ⟨RX7, "isEnough", "(II)Z"⟩
abbrev cX7_thin : ByteArray := prog_9_method_67_code
def yX7_thin : MethodName := ⟨RX7, "thin", "(I)I"⟩
abbrev cX7_pact : ByteArray := prog_9_method_68_code
def yX7_pact : MethodName := ⟨RX7, "pact", "(III)I"⟩
abbrev cX7_guest : ByteArray := prog_9_method_69_code
def yX7_guest : MethodName := ⟨RX7, "guest", "(I)I"⟩
abbrev cX7_divisor : ByteArray := prog_9_method_70_code
def yX7_divisor : MethodName := ⟨RX7, "divisor", "(JJ)J"⟩
abbrev cX7_lowest : ByteArray := prog_9_method_71_code
def yX7_lowest : MethodName := ⟨RX7, "lowest", "(JJI)J"⟩
abbrev cX7_odds : ByteArray := prog_9_method_72_code
def yX7_odds : MethodName := ⟨RX7, "odds", "(II)J"⟩
abbrev cX7_mean : ByteArray := prog_9_method_73_code
def yX7_mean : MethodName := ⟨RX7, "mean", "(II)J"⟩
abbrev cX7_book : ByteArray := prog_9_method_74_code
def yX7_book : MethodName := ⟨RX7, "book", "(I)I"⟩
abbrev cX7_looked : ByteArray := prog_9_method_75_code
def yX7_looked : MethodName := ⟨RX7, "looked", "()I"⟩
abbrev cX7_judge : ByteArray := prog_9_method_76_code
def yX7_judge : MethodName := ⟨RX7, "judge", "(II)I"⟩
abbrev cX7_image : ByteArray := prog_9_method_77_code
def yX7_image : MethodName := ⟨RX7, "image", "()I"⟩
abbrev cX7_undo : ByteArray := prog_9_method_78_code
def yX7_undo : MethodName := ⟨RX7, "undo", "()I"⟩
abbrev cX7_body : ByteArray := prog_9_method_79_code
def yX7_body : MethodName := ⟨RX7, "body", "(I)V"⟩
abbrev cX7_eaterEats : ByteArray := prog_9_method_80_code
def yX7_eaterEats : MethodName := ⟨RX7, "eaterEats", "(II)I"⟩
abbrev cX7_eatsAct : ByteArray := prog_9_method_81_code
def yX7_eatsAct : MethodName := ⟨RX7, "eatsAct", "(II)I"⟩
abbrev cX7_eaterBakes : ByteArray := prog_9_method_82_code
def yX7_eaterBakes : MethodName := ⟨RX7, "eaterBakes", "(II)I"⟩
abbrev cX7_hungryBakes : ByteArray := prog_9_method_83_code
def yX7_hungryBakes : MethodName := ⟨RX7, "hungryBakes", "(II)I"⟩
abbrev cX7_bakesAct : ByteArray := prog_9_method_84_code
def yX7_bakesAct : MethodName := ⟨RX7, "bakesAct", "(II)I"⟩
abbrev cX7_eaterTells : ByteArray := prog_9_method_85_code
def yX7_eaterTells : MethodName := ⟨RX7, "eaterTells", "(II)I"⟩
abbrev cX7_tellsAct : ByteArray := prog_9_method_86_code
def yX7_tellsAct : MethodName := ⟨RX7, "tellsAct", "(II)I"⟩
abbrev cX7_act : ByteArray := prog_9_method_87_code
def yX7_act : MethodName := ⟨RX7, "act", "(III)I"⟩
abbrev cX7_trace : ByteArray := prog_9_method_88_code
def yX7_trace : MethodName := ⟨RX7, "trace", "(I)I"⟩
abbrev cX7_taken : ByteArray := prog_9_method_89_code
def yX7_taken : MethodName := ⟨RX7, "taken", "(II)I"⟩
abbrev cX7_count : ByteArray := prog_9_method_90_code
def yX7_count : MethodName := ⟨RX7, "count", "(I)I"⟩
abbrev cX7_isTape : ByteArray := prog_9_method_91_code
def yX7_isTape : MethodName := ⟨RX7, "isTape", "(I)Z"⟩
abbrev cX7_tape : ByteArray := prog_9_method_92_code
def yX7_tape : MethodName := ⟨RX7, "tape", "(III)I"⟩
abbrev cX7_narrow : ByteArray := prog_9_method_93_code
def yX7_narrow : MethodName := ⟨RX7, "narrow", "(IJ)J"⟩
abbrev cX7_item : ByteArray := prog_9_method_94_code
def yX7_item : MethodName := ⟨RX7, "item", "(IIJ)I"⟩
abbrev cX7_read : ByteArray := prog_9_method_95_code
def yX7_read : MethodName := ⟨RX7, "read", "(II)J"⟩
abbrev cX7_shift : ByteArray := prog_9_method_96_code
def yX7_shift : MethodName := ⟨RX7, "shift", "(IIIII)I"⟩
def RJx145de : String := "java/io/Serializable"
def TJx145de : u_T := fun k => match k with
  | _ => ("", "", "", false)
def tyJx145de : Nat → FieldType := fun k => match k with
  | _ => .int
abbrev wsJx145de0 : List Cond := u_ws RJx145de TJx145de 0
theorem nmJx145de : ∀ a, a < 0 → ∀ b, b < 0 → a ≠ b → (TJx145de a).2.1 ≠ (TJx145de b).2.1 := by decide +kernel
theorem tyJx145de_ok : ∀ k, k < 0 → parseFieldDescriptor (TJx145de k).2.2.1 = some (tyJx145de k) := by decide +kernel
def RJx9f9b0 : String := "java/lang/CharSequence"
def TJx9f9b0 : u_T := fun k => match k with
  | _ => ("", "", "", false)
def tyJx9f9b0 : Nat → FieldType := fun k => match k with
  | _ => .int
abbrev wsJx9f9b00 : List Cond := u_ws RJx9f9b0 TJx9f9b0 0
theorem nmJx9f9b0 : ∀ a, a < 0 → ∀ b, b < 0 → a ≠ b → (TJx9f9b0 a).2.1 ≠ (TJx9f9b0 b).2.1 := by decide +kernel
theorem tyJx9f9b0_ok : ∀ k, k < 0 → parseFieldDescriptor (TJx9f9b0 k).2.2.1 = some (tyJx9f9b0 k) := by decide +kernel
def RJ11 : String := "java/lang/Character"
def TJ11 : u_T := fun k => match k with
  | _ => ("", "", "", false)
def tyJ11 : Nat → FieldType := fun k => match k with
  | _ => .int
abbrev wsJ110 : List Cond := u_ws RJ11 TJ11 0
theorem nmJ11 : ∀ a, a < 0 → ∀ b, b < 0 → a ≠ b → (TJ11 a).2.1 ≠ (TJ11 b).2.1 := by decide +kernel
theorem tyJ11_ok : ∀ k, k < 0 → parseFieldDescriptor (TJ11 k).2.2.1 = some (tyJ11 k) := by decide +kernel
abbrev cJ11_isValidCodePoint_9a6ad : ByteArray := prog_10_method_11_code
def yJ11_isValidCodePoint_9a6ad : MethodName := ⟨RJ11, "isValidCodePoint", "(I)Z"⟩
abbrev cJ11_highSurrogate_5068e : ByteArray := prog_10_method_28_code
def yJ11_highSurrogate_5068e : MethodName := ⟨RJ11, "highSurrogate", "(I)C"⟩
abbrev cJ11_lowSurrogate_5068e : ByteArray := prog_10_method_29_code
def yJ11_lowSurrogate_5068e : MethodName := ⟨RJ11, "lowSurrogate", "(I)C"⟩
def RJxb160c : String := "java/lang/Comparable"
def TJxb160c : u_T := fun k => match k with
  | _ => ("", "", "", false)
def tyJxb160c : Nat → FieldType := fun k => match k with
  | _ => .int
abbrev wsJxb160c0 : List Cond := u_ws RJxb160c TJxb160c 0
theorem nmJxb160c : ∀ a, a < 0 → ∀ b, b < 0 → a ≠ b → (TJxb160c a).2.1 ≠ (TJxb160c b).2.1 := by decide +kernel
theorem tyJxb160c_ok : ∀ k, k < 0 → parseFieldDescriptor (TJxb160c k).2.2.1 = some (tyJxb160c k) := by decide +kernel
def RJ9 : String := "java/lang/Math"
def TJ9 : u_T := fun k => match k with
  | _ => ("", "", "", false)
def tyJ9 : Nat → FieldType := fun k => match k with
  | _ => .int
abbrev wsJ90 : List Cond := u_ws RJ9 TJ9 0
theorem nmJ9 : ∀ a, a < 0 → ∀ b, b < 0 → a ≠ b → (TJ9 a).2.1 ≠ (TJ9 b).2.1 := by decide +kernel
theorem tyJ9_ok : ∀ k, k < 0 → parseFieldDescriptor (TJ9 k).2.2.1 = some (tyJ9 k) := by decide +kernel
abbrev cJ9_abs_067f4 : ByteArray := prog_11_method_61_code
def yJ9_abs_067f4 : MethodName := ⟨RJ9, "abs", "(J)J"⟩
abbrev cJ9_max_7cf53 : ByteArray := prog_11_method_65_code
def yJ9_max_7cf53 : MethodName := ⟨RJ9, "max", "(II)I"⟩
abbrev cJ9_max_f86c9 : ByteArray := prog_11_method_66_code
def yJ9_max_f86c9 : MethodName := ⟨RJ9, "max", "(JJ)J"⟩
abbrev cJ9_min_7cf53 : ByteArray := prog_11_method_69_code
def yJ9_min_7cf53 : MethodName := ⟨RJ9, "min", "(II)I"⟩
def RJ0 : String := "java/lang/String"
def TJ0 : u_T := fun k => match k with
  | _ => ("", "", "", false)
def tyJ0 : Nat → FieldType := fun k => match k with
  | _ => .int
abbrev wsJ00 : List Cond := u_ws RJ0 TJ0 0
theorem nmJ0 : ∀ a, a < 0 → ∀ b, b < 0 → a ≠ b → (TJ0 a).2.1 ≠ (TJ0 b).2.1 := by decide +kernel
theorem tyJ0_ok : ∀ k, k < 0 → parseFieldDescriptor (TJ0 k).2.2.1 = some (tyJ0 k) := by decide +kernel
abbrev cJ0_length_8abf5 : ByteArray := prog_12_method_54_code
def yJ0_length_8abf5 : MethodName := ⟨RJ0, "length", "()I"⟩
abbrev cJ0_charAt_5068e : ByteArray := prog_12_method_56_code
def yJ0_charAt_5068e : MethodName := ⟨RJ0, "charAt", "(I)C"⟩
abbrev cJ0_indexOf_0f7a4 : ByteArray := prog_12_method_79_code
def yJ0_indexOf_0f7a4 : MethodName := ⟨RJ0, "indexOf", "(I)I"⟩
abbrev cJ0_indexOf_7cf53 : ByteArray := prog_12_method_80_code
def yJ0_indexOf_7cf53 : MethodName := ⟨RJ0, "indexOf", "(II)I"⟩
abbrev cJ0_coder_7d493 : ByteArray := prog_12_method_152_code
def yJ0_coder_7d493 : MethodName := ⟨RJ0, "coder", "()B"⟩
abbrev cJ0_isLatin1_aae02 : ByteArray := prog_12_method_154_code
def yJ0_isLatin1_aae02 : MethodName := ⟨RJ0, "isLatin1", "()Z"⟩
abbrev cJ0_checkIndex_df160 : ByteArray := prog_12_method_155_code
def yJ0_checkIndex_df160 : MethodName := ⟨RJ0, "checkIndex", "(II)V"⟩
abbrev cJ0_checkBoundsBeginEnd_23922 : ByteArray := prog_12_method_158_code
def yJ0_checkBoundsBeginEnd_23922 : MethodName := ⟨RJ0, "checkBoundsBeginEnd", "(III)V"⟩
def RJ1 : String := "java/lang/StringLatin1"
def TJ1 : u_T := fun k => match k with
  | _ => ("", "", "", false)
def tyJ1 : Nat → FieldType := fun k => match k with
  | _ => .int
abbrev wsJ10 : List Cond := u_ws RJ1 TJ1 0
theorem nmJ1 : ∀ a, a < 0 → ∀ b, b < 0 → a ≠ b → (TJ1 a).2.1 ≠ (TJ1 b).2.1 := by decide +kernel
theorem tyJ1_ok : ∀ k, k < 0 → parseFieldDescriptor (TJ1 k).2.2.1 = some (tyJ1 k) := by decide +kernel
abbrev cJ1_charAt_3b067 : ByteArray := prog_13_method_2_code
def yJ1_charAt_3b067 : MethodName := ⟨RJ1, "charAt", "([BI)C"⟩
abbrev cJ1_canEncode_9a6ad : ByteArray := prog_13_method_4_code
def yJ1_canEncode_9a6ad : MethodName := ⟨RJ1, "canEncode", "(I)Z"⟩
abbrev cJ1_indexOf_4cfef : ByteArray := prog_13_method_22_code
def yJ1_indexOf_4cfef : MethodName := ⟨RJ1, "indexOf", "([BIII)I"⟩
abbrev cJ1_indexOfChar_4cfef : ByteArray := prog_13_method_23_code
def yJ1_indexOfChar_4cfef : MethodName := ⟨RJ1, "indexOfChar", "([BIII)I"⟩
def RJ2 : String := "java/lang/StringUTF16"
def TJ2 : u_T := fun k => match k with
  | _ => ("", "", "", false)
def tyJ2 : Nat → FieldType := fun k => match k with
  | _ => .int
abbrev wsJ20 : List Cond := u_ws RJ2 TJ2 0
theorem nmJ2 : ∀ a, a < 0 → ∀ b, b < 0 → a ≠ b → (TJ2 a).2.1 ≠ (TJ2 b).2.1 := by decide +kernel
theorem tyJ2_ok : ∀ k, k < 0 → parseFieldDescriptor (TJ2 k).2.2.1 = some (tyJ2 k) := by decide +kernel
abbrev cJ2_getChar_3b067 : ByteArray := prog_14_method_5_code
def yJ2_getChar_3b067 : MethodName := ⟨RJ2, "getChar", "([BI)C"⟩
abbrev cJ2_length_9d52b : ByteArray := prog_14_method_6_code
def yJ2_length_9d52b : MethodName := ⟨RJ2, "length", "([B)I"⟩
abbrev cJ2_indexOf_4cfef : ByteArray := prog_14_method_40_code
def yJ2_indexOf_4cfef : MethodName := ⟨RJ2, "indexOf", "([BIII)I"⟩
abbrev cJ2_indexOfChar_4cfef : ByteArray := prog_14_method_47_code
def yJ2_indexOfChar_4cfef : MethodName := ⟨RJ2, "indexOfChar", "([BIII)I"⟩
abbrev cJ2_indexOfCharUnsafe_4cfef : ByteArray := prog_14_method_48_code
def yJ2_indexOfCharUnsafe_4cfef : MethodName := ⟨RJ2, "indexOfCharUnsafe", "([BIII)I"⟩
abbrev cJ2_indexOfSupplementary_4cfef : ByteArray := prog_14_method_49_code
def yJ2_indexOfSupplementary_4cfef : MethodName := ⟨RJ2, "indexOfSupplementary", "([BIII)I"⟩
abbrev cJ2_charAt_3b067 : ByteArray := prog_14_method_83_code
def yJ2_charAt_3b067 : MethodName := ⟨RJ2, "charAt", "([BI)C"⟩
abbrev cJ2_checkIndex_2214a : ByteArray := prog_14_method_91_code
def yJ2_checkIndex_2214a : MethodName := ⟨RJ2, "checkIndex", "(I[B)V"⟩
abbrev cJ2_checkBoundsBeginEnd_d044e : ByteArray := prog_14_method_93_code
def yJ2_checkBoundsBeginEnd_d044e : MethodName := ⟨RJ2, "checkBoundsBeginEnd", "(II[B)V"⟩
def RJ10 : String := "java/lang/System"
def TJ10 : u_T := fun k => match k with
  | _ => ("", "", "", false)
def tyJ10 : Nat → FieldType := fun k => match k with
  | _ => .int
abbrev wsJ100 : List Cond := u_ws RJ10 TJ10 0
theorem nmJ10 : ∀ a, a < 0 → ∀ b, b < 0 → a ≠ b → (TJ10 a).2.1 ≠ (TJ10 b).2.1 := by decide +kernel
theorem tyJ10_ok : ∀ k, k < 0 → parseFieldDescriptor (TJ10 k).2.2.1 = some (tyJ10 k) := by decide +kernel
def RJxfd54e : String := "java/lang/constant/Constable"
def TJxfd54e : u_T := fun k => match k with
  | _ => ("", "", "", false)
def tyJxfd54e : Nat → FieldType := fun k => match k with
  | _ => .int
abbrev wsJxfd54e0 : List Cond := u_ws RJxfd54e TJxfd54e 0
theorem nmJxfd54e : ∀ a, a < 0 → ∀ b, b < 0 → a ≠ b → (TJxfd54e a).2.1 ≠ (TJxfd54e b).2.1 := by decide +kernel
theorem tyJxfd54e_ok : ∀ k, k < 0 → parseFieldDescriptor (TJxfd54e k).2.2.1 = some (tyJxfd54e k) := by decide +kernel
def RJx3cf43 : String := "java/lang/constant/ConstantDesc"
def TJx3cf43 : u_T := fun k => match k with
  | _ => ("", "", "", false)
def tyJx3cf43 : Nat → FieldType := fun k => match k with
  | _ => .int
abbrev wsJx3cf430 : List Cond := u_ws RJx3cf43 TJx3cf43 0
theorem nmJx3cf43 : ∀ a, a < 0 → ∀ b, b < 0 → a ≠ b → (TJx3cf43 a).2.1 ≠ (TJx3cf43 b).2.1 := by decide +kernel
theorem tyJx3cf43_ok : ∀ k, k < 0 → parseFieldDescriptor (TJx3cf43 k).2.2.1 = some (tyJx3cf43 k) := by decide +kernel
def RJ7 : String := "java/util/Arrays"
def TJ7 : u_T := fun k => match k with
  | _ => ("", "", "", false)
def tyJ7 : Nat → FieldType := fun k => match k with
  | _ => .int
abbrev wsJ70 : List Cond := u_ws RJ7 TJ7 0
theorem nmJ7 : ∀ a, a < 0 → ∀ b, b < 0 → a ≠ b → (TJ7 a).2.1 ≠ (TJ7 b).2.1 := by decide +kernel
theorem tyJ7_ok : ∀ k, k < 0 → parseFieldDescriptor (TJ7 k).2.2.1 = some (tyJ7 k) := by decide +kernel
abbrev cJ7_fill_d0a16 : ByteArray := prog_16_method_101_code
def yJ7_fill_d0a16 : MethodName := ⟨RJ7, "fill", "([JJ)V"⟩
abbrev cJ7_fill_53178 : ByteArray := prog_16_method_103_code
def yJ7_fill_53178 : MethodName := ⟨RJ7, "fill", "([II)V"⟩
def RJ3 : String := "jdk/internal/util/Preconditions"
def TJ3 : u_T := fun k => match k with
  | _ => ("", "", "", false)
def tyJ3 : Nat → FieldType := fun k => match k with
  | _ => .int
abbrev wsJ30 : List Cond := u_ws RJ3 TJ3 0
theorem nmJ3 : ∀ a, a < 0 → ∀ b, b < 0 → a ≠ b → (TJ3 a).2.1 ≠ (TJ3 b).2.1 := by decide +kernel
theorem tyJ3_ok : ∀ k, k < 0 → parseFieldDescriptor (TJ3 k).2.2.1 = some (tyJ3 k) := by decide +kernel
abbrev cJ3_checkIndex_8e157 : ByteArray := prog_17_method_11_code
def yJ3_checkIndex_8e157 : MethodName := ⟨RJ3, "checkIndex", "(IILjava/util/function/BiFunction;)I"⟩
abbrev cJ3_checkFromToIndex_8c36e : ByteArray := prog_17_method_12_code
def yJ3_checkFromToIndex_8c36e : MethodName := ⟨RJ3, "checkFromToIndex", "(IIILjava/util/function/BiFunction;)I"⟩
def RL : String := "AteLeastLaw"
abbrev cL_law : ByteArray := code
abbrev vwCl : List vw_C := [(RX0, TX0, 5), (RX1, TX1, 12), (RX2, TX2, 5), (RX3, TX3, 17), (RX4, TX4, 13), (RX5, TX5, 3), (RX6, TX6, 13), (RX7, TX7, 66)]
