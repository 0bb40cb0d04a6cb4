section
-- ===== PART A: goes FIRST, ahead of the names: the tables' words, and 'selects' of the private methods out of them =====
/-- a private method of a class that the tables say can be made, by its rows of tables_1 -/
def lw_okq (q : MethodName × Nat) : Prop := (q.1.cls ≠ "java/lang/invoke/MethodHandle" ∧ q.1.cls ≠ "java/lang/invoke/VarHandle") ∧ Cond.instantiable q.1.cls q.2 ∈ tables_1 ∧ Cond.privateMethod q.1 ∈ tables_1 ∧ Cond.instanceMethod q.1 ∈ tables_1
theorem lw_p0 : lw_okq (⟨"AteLeast", "isEater", "(I)Z"⟩, 13) := ⟨⟨by decide +kernel, by decide +kernel⟩, List.mem_of_getElem? (i := 18) (by decide +kernel), List.mem_of_getElem? (i := 334) (by decide +kernel), List.mem_of_getElem? (i := 335) (by decide +kernel)⟩
theorem lw_p1 : lw_okq (⟨"AteLeast", "reckonedOf", "(II)I"⟩, 13) := ⟨⟨by decide +kernel, by decide +kernel⟩, List.mem_of_getElem? (i := 18) (by decide +kernel), List.mem_of_getElem? (i := 339) (by decide +kernel), List.mem_of_getElem? (i := 340) (by decide +kernel)⟩
theorem lw_p2 : lw_okq (⟨"AteLeast", "holding", "()LAteLeast$House;"⟩, 13) := ⟨⟨by decide +kernel, by decide +kernel⟩, List.mem_of_getElem? (i := 18) (by decide +kernel), List.mem_of_getElem? (i := 343) (by decide +kernel), List.mem_of_getElem? (i := 344) (by decide +kernel)⟩
theorem lw_p3 : lw_okq (⟨"AteLeast$Table", "crumbMore", "(I)I"⟩, 13) := ⟨⟨by decide +kernel, by decide +kernel⟩, List.mem_of_getElem? (i := 26) (by decide +kernel), List.mem_of_getElem? (i := 365) (by decide +kernel), List.mem_of_getElem? (i := 366) (by decide +kernel)⟩
theorem lw_p4 : lw_okq (⟨"AteLeast$Supper", "middle", "()I"⟩, 17) := ⟨⟨by decide +kernel, by decide +kernel⟩, List.mem_of_getElem? (i := 144) (by decide +kernel), List.mem_of_getElem? (i := 378) (by decide +kernel), List.mem_of_getElem? (i := 379) (by decide +kernel)⟩
theorem lw_p5 : lw_okq (⟨"AteLeast$Supper", "placeOf", "(I)I"⟩, 17) := ⟨⟨by decide +kernel, by decide +kernel⟩, List.mem_of_getElem? (i := 144) (by decide +kernel), List.mem_of_getElem? (i := 382) (by decide +kernel), List.mem_of_getElem? (i := 383) (by decide +kernel)⟩
theorem lw_p6 : lw_okq (⟨"AteLeast$Supper", "outermost", "()I"⟩, 17) := ⟨⟨by decide +kernel, by decide +kernel⟩, List.mem_of_getElem? (i := 144) (by decide +kernel), List.mem_of_getElem? (i := 386) (by decide +kernel), List.mem_of_getElem? (i := 387) (by decide +kernel)⟩
theorem lw_p7 : lw_okq (⟨"AteLeast$Supper", "turnTo", "(I)V"⟩, 17) := ⟨⟨by decide +kernel, by decide +kernel⟩, List.mem_of_getElem? (i := 144) (by decide +kernel), List.mem_of_getElem? (i := 394) (by decide +kernel), List.mem_of_getElem? (i := 395) (by decide +kernel)⟩
theorem lw_p8 : lw_okq (⟨"AteLeast$House", "holds", "(I[I)Z"⟩, 12) := ⟨⟨by decide +kernel, by decide +kernel⟩, List.mem_of_getElem? (i := 94) (by decide +kernel), List.mem_of_getElem? (i := 402) (by decide +kernel), List.mem_of_getElem? (i := 403) (by decide +kernel)⟩
theorem lw_p9 : lw_okq (⟨"AteLeast$Reader", "readClause", "()Z"⟩, 5) := ⟨⟨by decide +kernel, by decide +kernel⟩, List.mem_of_getElem? (i := 208) (by decide +kernel), List.mem_of_getElem? (i := 442) (by decide +kernel), List.mem_of_getElem? (i := 443) (by decide +kernel)⟩
theorem lw_p10 : lw_okq (⟨"AteLeast$Reader", "readWord", "()I"⟩, 5) := ⟨⟨by decide +kernel, by decide +kernel⟩, List.mem_of_getElem? (i := 208) (by decide +kernel), List.mem_of_getElem? (i := 446) (by decide +kernel), List.mem_of_getElem? (i := 447) (by decide +kernel)⟩
theorem lw_p11 : lw_okq (⟨"AteLeast$Reader", "alike", "(Ljava/lang/String;)I"⟩, 5) := ⟨⟨by decide +kernel, by decide +kernel⟩, List.mem_of_getElem? (i := 208) (by decide +kernel), List.mem_of_getElem? (i := 458) (by decide +kernel), List.mem_of_getElem? (i := 459) (by decide +kernel)⟩
theorem lw_p12 : lw_okq (⟨"AteLeast$Reader", "takes", "(C)Z"⟩, 5) := ⟨⟨by decide +kernel, by decide +kernel⟩, List.mem_of_getElem? (i := 208) (by decide +kernel), List.mem_of_getElem? (i := 511) (by decide +kernel), List.mem_of_getElem? (i := 512) (by decide +kernel)⟩
theorem lw_p13 : lw_okq (⟨"AteLeast$Reader", "sees", "(C)Z"⟩, 5) := ⟨⟨by decide +kernel, by decide +kernel⟩, List.mem_of_getElem? (i := 208) (by decide +kernel), List.mem_of_getElem? (i := 515) (by decide +kernel), List.mem_of_getElem? (i := 516) (by decide +kernel)⟩
theorem lw_p14 : lw_okq (⟨"AteLeast$Reader", "readNumber", "()Z"⟩, 5) := ⟨⟨by decide +kernel, by decide +kernel⟩, List.mem_of_getElem? (i := 208) (by decide +kernel), List.mem_of_getElem? (i := 519) (by decide +kernel), List.mem_of_getElem? (i := 520) (by decide +kernel)⟩
theorem lw_p15 : lw_okq (⟨"AteLeast$Reader", "readEither", "(I)Z"⟩, 5) := ⟨⟨by decide +kernel, by decide +kernel⟩, List.mem_of_getElem? (i := 208) (by decide +kernel), List.mem_of_getElem? (i := 523) (by decide +kernel), List.mem_of_getElem? (i := 524) (by decide +kernel)⟩
def lw_privs_1 : List (MethodName × Nat) := [(⟨"AteLeast", "isEater", "(I)Z"⟩, 13), (⟨"AteLeast", "reckonedOf", "(II)I"⟩, 13), (⟨"AteLeast", "holding", "()LAteLeast$House;"⟩, 13), (⟨"AteLeast$Table", "crumbMore", "(I)I"⟩, 13), (⟨"AteLeast$Supper", "middle", "()I"⟩, 17), (⟨"AteLeast$Supper", "placeOf", "(I)I"⟩, 17), (⟨"AteLeast$Supper", "outermost", "()I"⟩, 17), (⟨"AteLeast$Supper", "turnTo", "(I)V"⟩, 17), (⟨"AteLeast$House", "holds", "(I[I)Z"⟩, 12), (⟨"AteLeast$Reader", "readClause", "()Z"⟩, 5), (⟨"AteLeast$Reader", "readWord", "()I"⟩, 5), (⟨"AteLeast$Reader", "alike", "(Ljava/lang/String;)I"⟩, 5), (⟨"AteLeast$Reader", "takes", "(C)Z"⟩, 5), (⟨"AteLeast$Reader", "sees", "(C)Z"⟩, 5), (⟨"AteLeast$Reader", "readNumber", "()Z"⟩, 5), (⟨"AteLeast$Reader", "readEither", "(I)Z"⟩, 5)]
theorem lw_r1 : ∀ q ∈ lw_privs_1, lw_okq q := List.forall_mem_cons.mpr ⟨lw_p0, List.forall_mem_cons.mpr ⟨lw_p1, List.forall_mem_cons.mpr ⟨lw_p2, List.forall_mem_cons.mpr ⟨lw_p3, List.forall_mem_cons.mpr ⟨lw_p4, List.forall_mem_cons.mpr ⟨lw_p5, List.forall_mem_cons.mpr ⟨lw_p6, List.forall_mem_cons.mpr ⟨lw_p7, List.forall_mem_cons.mpr ⟨lw_p8, List.forall_mem_cons.mpr ⟨lw_p9, List.forall_mem_cons.mpr ⟨lw_p10, List.forall_mem_cons.mpr ⟨lw_p11, List.forall_mem_cons.mpr ⟨lw_p12, List.forall_mem_cons.mpr ⟨lw_p13, List.forall_mem_cons.mpr ⟨lw_p14, List.forall_mem_cons.mpr ⟨lw_p15, fun _ h => absurd h List.not_mem_nil⟩⟩⟩⟩⟩⟩⟩⟩⟩⟩⟩⟩⟩⟩⟩⟩
theorem lw_p16 : lw_okq (⟨"AteLeast$Reader", "readBoth", "(I)Z"⟩, 5) := ⟨⟨by decide +kernel, by decide +kernel⟩, List.mem_of_getElem? (i := 208) (by decide +kernel), List.mem_of_getElem? (i := 527) (by decide +kernel), List.mem_of_getElem? (i := 528) (by decide +kernel)⟩
theorem lw_p17 : lw_okq (⟨"AteLeast$Reader", "readOne", "(I)Z"⟩, 5) := ⟨⟨by decide +kernel, by decide +kernel⟩, List.mem_of_getElem? (i := 208) (by decide +kernel), List.mem_of_getElem? (i := 531) (by decide +kernel), List.mem_of_getElem? (i := 532) (by decide +kernel)⟩
theorem lw_p18 : lw_okq (⟨"AteLeast$Reader", "readTest", "()Z"⟩, 5) := ⟨⟨by decide +kernel, by decide +kernel⟩, List.mem_of_getElem? (i := 208) (by decide +kernel), List.mem_of_getElem? (i := 535) (by decide +kernel), List.mem_of_getElem? (i := 536) (by decide +kernel)⟩
theorem lw_p19 : lw_okq (⟨"AteLeast$Supper", "keepPact", "()V"⟩, 17) := ⟨⟨by decide +kernel, by decide +kernel⟩, List.mem_of_getElem? (i := 144) (by decide +kernel), List.mem_of_getElem? (i := 626) (by decide +kernel), List.mem_of_getElem? (i := 627) (by decide +kernel)⟩
theorem lw_p20 : lw_okq (⟨"AteLeast", "timesBaker", "(II)I"⟩, 13) := ⟨⟨by decide +kernel, by decide +kernel⟩, List.mem_of_getElem? (i := 18) (by decide +kernel), List.mem_of_getElem? (i := 635) (by decide +kernel), List.mem_of_getElem? (i := 636) (by decide +kernel)⟩
theorem lw_p21 : lw_okq (⟨"AteLeast", "ahead", "(I)V"⟩, 13) := ⟨⟨by decide +kernel, by decide +kernel⟩, List.mem_of_getElem? (i := 18) (by decide +kernel), List.mem_of_getElem? (i := 646) (by decide +kernel), List.mem_of_getElem? (i := 647) (by decide +kernel)⟩
theorem lw_p22 : lw_okq (⟨"AteLeast", "rowsInAll", "()I"⟩, 13) := ⟨⟨by decide +kernel, by decide +kernel⟩, List.mem_of_getElem? (i := 18) (by decide +kernel), List.mem_of_getElem? (i := 662) (by decide +kernel), List.mem_of_getElem? (i := 663) (by decide +kernel)⟩
theorem lw_p23 : lw_okq (⟨"AteLeast", "becomesRow", "(I)V"⟩, 13) := ⟨⟨by decide +kernel, by decide +kernel⟩, List.mem_of_getElem? (i := 18) (by decide +kernel), List.mem_of_getElem? (i := 666) (by decide +kernel), List.mem_of_getElem? (i := 667) (by decide +kernel)⟩
theorem lw_p24 : lw_okq (⟨"AteLeast", "nobodyGains", "()Z"⟩, 13) := ⟨⟨by decide +kernel, by decide +kernel⟩, List.mem_of_getElem? (i := 18) (by decide +kernel), List.mem_of_getElem? (i := 670) (by decide +kernel), List.mem_of_getElem? (i := 671) (by decide +kernel)⟩
theorem lw_p25 : lw_okq (⟨"AteLeast", "gains", "(I)Z"⟩, 13) := ⟨⟨by decide +kernel, by decide +kernel⟩, List.mem_of_getElem? (i := 18) (by decide +kernel), List.mem_of_getElem? (i := 674) (by decide +kernel), List.mem_of_getElem? (i := 675) (by decide +kernel)⟩
theorem lw_p26 : lw_okq (⟨"AteLeast", "keepIf", "(Z)V"⟩, 13) := ⟨⟨by decide +kernel, by decide +kernel⟩, List.mem_of_getElem? (i := 18) (by decide +kernel), List.mem_of_getElem? (i := 680) (by decide +kernel), List.mem_of_getElem? (i := 681) (by decide +kernel)⟩
theorem lw_p27 : lw_okq (⟨"AteLeast", "lasts", "(II)Z"⟩, 13) := ⟨⟨by decide +kernel, by decide +kernel⟩, List.mem_of_getElem? (i := 18) (by decide +kernel), List.mem_of_getElem? (i := 709) (by decide +kernel), List.mem_of_getElem? (i := 710) (by decide +kernel)⟩
theorem lw_p28 : lw_okq (⟨"AteLeast$Acts", "own", "(III)I"⟩, 5) := ⟨⟨by decide +kernel, by decide +kernel⟩, List.mem_of_getElem? (i := 234) (by decide +kernel), List.mem_of_getElem? (i := 790) (by decide +kernel), List.mem_of_getElem? (i := 791) (by decide +kernel)⟩
theorem lw_p29 : lw_okq (⟨"AteLeast$Acts", "runs", "(III)I"⟩, 5) := ⟨⟨by decide +kernel, by decide +kernel⟩, List.mem_of_getElem? (i := 234) (by decide +kernel), List.mem_of_getElem? (i := 796) (by decide +kernel), List.mem_of_getElem? (i := 797) (by decide +kernel)⟩
theorem lw_p30 : lw_okq (⟨"AteLeast$Acts", "above", "(IIII)I"⟩, 5) := ⟨⟨by decide +kernel, by decide +kernel⟩, List.mem_of_getElem? (i := 234) (by decide +kernel), List.mem_of_getElem? (i := 800) (by decide +kernel), List.mem_of_getElem? (i := 801) (by decide +kernel)⟩
theorem lw_p31 : lw_okq (⟨"AteLeastModel", "in", "(III)Z"⟩, 66) := ⟨⟨by decide +kernel, by decide +kernel⟩, List.mem_of_getElem? (i := 855) (by decide +kernel), List.mem_of_getElem? (i := 1065) (by decide +kernel), List.mem_of_getElem? (i := 1066) (by decide +kernel)⟩
def lw_privs_2 : List (MethodName × Nat) := [(⟨"AteLeast$Reader", "readBoth", "(I)Z"⟩, 5), (⟨"AteLeast$Reader", "readOne", "(I)Z"⟩, 5), (⟨"AteLeast$Reader", "readTest", "()Z"⟩, 5), (⟨"AteLeast$Supper", "keepPact", "()V"⟩, 17), (⟨"AteLeast", "timesBaker", "(II)I"⟩, 13), (⟨"AteLeast", "ahead", "(I)V"⟩, 13), (⟨"AteLeast", "rowsInAll", "()I"⟩, 13), (⟨"AteLeast", "becomesRow", "(I)V"⟩, 13), (⟨"AteLeast", "nobodyGains", "()Z"⟩, 13), (⟨"AteLeast", "gains", "(I)Z"⟩, 13), (⟨"AteLeast", "keepIf", "(Z)V"⟩, 13), (⟨"AteLeast", "lasts", "(II)Z"⟩, 13), (⟨"AteLeast$Acts", "own", "(III)I"⟩, 5), (⟨"AteLeast$Acts", "runs", "(III)I"⟩, 5), (⟨"AteLeast$Acts", "above", "(IIII)I"⟩, 5), (⟨"AteLeastModel", "in", "(III)Z"⟩, 66)]
theorem lw_r2 : ∀ q ∈ lw_privs_2, lw_okq q := List.forall_mem_cons.mpr ⟨lw_p16, List.forall_mem_cons.mpr ⟨lw_p17, List.forall_mem_cons.mpr ⟨lw_p18, List.forall_mem_cons.mpr ⟨lw_p19, List.forall_mem_cons.mpr ⟨lw_p20, List.forall_mem_cons.mpr ⟨lw_p21, List.forall_mem_cons.mpr ⟨lw_p22, List.forall_mem_cons.mpr ⟨lw_p23, List.forall_mem_cons.mpr ⟨lw_p24, List.forall_mem_cons.mpr ⟨lw_p25, List.forall_mem_cons.mpr ⟨lw_p26, List.forall_mem_cons.mpr ⟨lw_p27, List.forall_mem_cons.mpr ⟨lw_p28, List.forall_mem_cons.mpr ⟨lw_p29, List.forall_mem_cons.mpr ⟨lw_p30, List.forall_mem_cons.mpr ⟨lw_p31, fun _ h => absurd h List.not_mem_nil⟩⟩⟩⟩⟩⟩⟩⟩⟩⟩⟩⟩⟩⟩⟩⟩
theorem lw_p32 : lw_okq (⟨"AteLeastModel", "lay", "(IIII)V"⟩, 66) := ⟨⟨by decide +kernel, by decide +kernel⟩, List.mem_of_getElem? (i := 855) (by decide +kernel), List.mem_of_getElem? (i := 1069) (by decide +kernel), List.mem_of_getElem? (i := 1070) (by decide +kernel)⟩
theorem lw_p33 : lw_okq (⟨"AteLeastModel", "isEater", "(I)Z"⟩, 66) := ⟨⟨by decide +kernel, by decide +kernel⟩, List.mem_of_getElem? (i := 855) (by decide +kernel), List.mem_of_getElem? (i := 1077) (by decide +kernel), List.mem_of_getElem? (i := 1078) (by decide +kernel)⟩
theorem lw_p34 : lw_okq (⟨"AteLeastModel", "goesText", "(I)Z"⟩, 66) := ⟨⟨by decide +kernel, by decide +kernel⟩, List.mem_of_getElem? (i := 855) (by decide +kernel), List.mem_of_getElem? (i := 1097) (by decide +kernel), List.mem_of_getElem? (i := 1098) (by decide +kernel)⟩
theorem lw_p35 : lw_okq (⟨"AteLeastModel", "takesClause", "(I)Z"⟩, 66) := ⟨⟨by decide +kernel, by decide +kernel⟩, List.mem_of_getElem? (i := 855) (by decide +kernel), List.mem_of_getElem? (i := 1101) (by decide +kernel), List.mem_of_getElem? (i := 1102) (by decide +kernel)⟩
theorem lw_p36 : lw_okq (⟨"AteLeastModel", "takesHead", "(I)Z"⟩, 66) := ⟨⟨by decide +kernel, by decide +kernel⟩, List.mem_of_getElem? (i := 855) (by decide +kernel), List.mem_of_getElem? (i := 1105) (by decide +kernel), List.mem_of_getElem? (i := 1106) (by decide +kernel)⟩
theorem lw_p37 : lw_okq (⟨"AteLeastModel", "second", "()I"⟩, 66) := ⟨⟨by decide +kernel, by decide +kernel⟩, List.mem_of_getElem? (i := 855) (by decide +kernel), List.mem_of_getElem? (i := 1109) (by decide +kernel), List.mem_of_getElem? (i := 1110) (by decide +kernel)⟩
theorem lw_p38 : lw_okq (⟨"AteLeastModel", "next", "()I"⟩, 66) := ⟨⟨by decide +kernel, by decide +kernel⟩, List.mem_of_getElem? (i := 855) (by decide +kernel), List.mem_of_getElem? (i := 1113) (by decide +kernel), List.mem_of_getElem? (i := 1114) (by decide +kernel)⟩
theorem lw_p39 : lw_okq (⟨"AteLeastModel", "takesWord", "(II)Z"⟩, 66) := ⟨⟨by decide +kernel, by decide +kernel⟩, List.mem_of_getElem? (i := 855) (by decide +kernel), List.mem_of_getElem? (i := 1117) (by decide +kernel), List.mem_of_getElem? (i := 1118) (by decide +kernel)⟩
theorem lw_p40 : lw_okq (⟨"AteLeastModel", "takes", "(I)Z"⟩, 66) := ⟨⟨by decide +kernel, by decide +kernel⟩, List.mem_of_getElem? (i := 855) (by decide +kernel), List.mem_of_getElem? (i := 1121) (by decide +kernel), List.mem_of_getElem? (i := 1122) (by decide +kernel)⟩
theorem lw_p41 : lw_okq (⟨"AteLeastModel", "takesNumber", "()Z"⟩, 66) := ⟨⟨by decide +kernel, by decide +kernel⟩, List.mem_of_getElem? (i := 855) (by decide +kernel), List.mem_of_getElem? (i := 1125) (by decide +kernel), List.mem_of_getElem? (i := 1126) (by decide +kernel)⟩
theorem lw_p42 : lw_okq (⟨"AteLeastModel", "isDigit", "()Z"⟩, 66) := ⟨⟨by decide +kernel, by decide +kernel⟩, List.mem_of_getElem? (i := 855) (by decide +kernel), List.mem_of_getElem? (i := 1129) (by decide +kernel), List.mem_of_getElem? (i := 1130) (by decide +kernel)⟩
theorem lw_p43 : lw_okq (⟨"AteLeastModel", "takesE", "(I)Z"⟩, 66) := ⟨⟨by decide +kernel, by decide +kernel⟩, List.mem_of_getElem? (i := 855) (by decide +kernel), List.mem_of_getElem? (i := 1133) (by decide +kernel), List.mem_of_getElem? (i := 1134) (by decide +kernel)⟩
theorem lw_p44 : lw_okq (⟨"AteLeastModel", "takesTest", "()Z"⟩, 66) := ⟨⟨by decide +kernel, by decide +kernel⟩, List.mem_of_getElem? (i := 855) (by decide +kernel), List.mem_of_getElem? (i := 1137) (by decide +kernel), List.mem_of_getElem? (i := 1138) (by decide +kernel)⟩
theorem lw_p45 : lw_okq (⟨"AteLeastModel", "place", "(I)I"⟩, 66) := ⟨⟨by decide +kernel, by decide +kernel⟩, List.mem_of_getElem? (i := 855) (by decide +kernel), List.mem_of_getElem? (i := 1141) (by decide +kernel), List.mem_of_getElem? (i := 1142) (by decide +kernel)⟩
theorem lw_p46 : lw_okq (⟨"AteLeastModel", "put", "(I)V"⟩, 66) := ⟨⟨by decide +kernel, by decide +kernel⟩, List.mem_of_getElem? (i := 855) (by decide +kernel), List.mem_of_getElem? (i := 1145) (by decide +kernel), List.mem_of_getElem? (i := 1146) (by decide +kernel)⟩
theorem lw_p47 : lw_okq (⟨"AteLeastModel", "whole", "()V"⟩, 66) := ⟨⟨by decide +kernel, by decide +kernel⟩, List.mem_of_getElem? (i := 855) (by decide +kernel), List.mem_of_getElem? (i := 1149) (by decide +kernel), List.mem_of_getElem? (i := 1150) (by decide +kernel)⟩
def lw_privs_3 : List (MethodName × Nat) := [(⟨"AteLeastModel", "lay", "(IIII)V"⟩, 66), (⟨"AteLeastModel", "isEater", "(I)Z"⟩, 66), (⟨"AteLeastModel", "goesText", "(I)Z"⟩, 66), (⟨"AteLeastModel", "takesClause", "(I)Z"⟩, 66), (⟨"AteLeastModel", "takesHead", "(I)Z"⟩, 66), (⟨"AteLeastModel", "second", "()I"⟩, 66), (⟨"AteLeastModel", "next", "()I"⟩, 66), (⟨"AteLeastModel", "takesWord", "(II)Z"⟩, 66), (⟨"AteLeastModel", "takes", "(I)Z"⟩, 66), (⟨"AteLeastModel", "takesNumber", "()Z"⟩, 66), (⟨"AteLeastModel", "isDigit", "()Z"⟩, 66), (⟨"AteLeastModel", "takesE", "(I)Z"⟩, 66), (⟨"AteLeastModel", "takesTest", "()Z"⟩, 66), (⟨"AteLeastModel", "place", "(I)I"⟩, 66), (⟨"AteLeastModel", "put", "(I)V"⟩, 66), (⟨"AteLeastModel", "whole", "()V"⟩, 66)]
theorem lw_r3 : ∀ q ∈ lw_privs_3, lw_okq q := List.forall_mem_cons.mpr ⟨lw_p32, List.forall_mem_cons.mpr ⟨lw_p33, List.forall_mem_cons.mpr ⟨lw_p34, List.forall_mem_cons.mpr ⟨lw_p35, List.forall_mem_cons.mpr ⟨lw_p36, List.forall_mem_cons.mpr ⟨lw_p37, List.forall_mem_cons.mpr ⟨lw_p38, List.forall_mem_cons.mpr ⟨lw_p39, List.forall_mem_cons.mpr ⟨lw_p40, List.forall_mem_cons.mpr ⟨lw_p41, List.forall_mem_cons.mpr ⟨lw_p42, List.forall_mem_cons.mpr ⟨lw_p43, List.forall_mem_cons.mpr ⟨lw_p44, List.forall_mem_cons.mpr ⟨lw_p45, List.forall_mem_cons.mpr ⟨lw_p46, List.forall_mem_cons.mpr ⟨lw_p47, fun _ h => absurd h List.not_mem_nil⟩⟩⟩⟩⟩⟩⟩⟩⟩⟩⟩⟩⟩⟩⟩⟩
theorem lw_p48 : lw_okq (⟨"AteLeastModel", "settle", "(I)V"⟩, 66) := ⟨⟨by decide +kernel, by decide +kernel⟩, List.mem_of_getElem? (i := 855) (by decide +kernel), List.mem_of_getElem? (i := 1153) (by decide +kernel), List.mem_of_getElem? (i := 1154) (by decide +kernel)⟩
theorem lw_p49 : lw_okq (⟨"AteLeastModel", "goSupper", "()V"⟩, 66) := ⟨⟨by decide +kernel, by decide +kernel⟩, List.mem_of_getElem? (i := 855) (by decide +kernel), List.mem_of_getElem? (i := 1161) (by decide +kernel), List.mem_of_getElem? (i := 1162) (by decide +kernel)⟩
theorem lw_p50 : lw_okq (⟨"AteLeastModel", "layWishes", "()V"⟩, 66) := ⟨⟨by decide +kernel, by decide +kernel⟩, List.mem_of_getElem? (i := 855) (by decide +kernel), List.mem_of_getElem? (i := 1165) (by decide +kernel), List.mem_of_getElem? (i := 1166) (by decide +kernel)⟩
theorem lw_p51 : lw_okq (⟨"AteLeastModel", "wishOf", "(I)I"⟩, 66) := ⟨⟨by decide +kernel, by decide +kernel⟩, List.mem_of_getElem? (i := 855) (by decide +kernel), List.mem_of_getElem? (i := 1169) (by decide +kernel), List.mem_of_getElem? (i := 1170) (by decide +kernel)⟩
theorem lw_p52 : lw_okq (⟨"AteLeastModel", "bestWish", "(I)I"⟩, 66) := ⟨⟨by decide +kernel, by decide +kernel⟩, List.mem_of_getElem? (i := 855) (by decide +kernel), List.mem_of_getElem? (i := 1173) (by decide +kernel), List.mem_of_getElem? (i := 1174) (by decide +kernel)⟩
theorem lw_p53 : lw_okq (⟨"AteLeastModel", "plainWish", "(I)I"⟩, 66) := ⟨⟨by decide +kernel, by decide +kernel⟩, List.mem_of_getElem? (i := 855) (by decide +kernel), List.mem_of_getElem? (i := 1177) (by decide +kernel), List.mem_of_getElem? (i := 1178) (by decide +kernel)⟩
theorem lw_p54 : lw_okq (⟨"AteLeastModel", "least", "(II)I"⟩, 66) := ⟨⟨by decide +kernel, by decide +kernel⟩, List.mem_of_getElem? (i := 855) (by decide +kernel), List.mem_of_getElem? (i := 1181) (by decide +kernel), List.mem_of_getElem? (i := 1182) (by decide +kernel)⟩
theorem lw_p55 : lw_okq (⟨"AteLeastModel", "crumb", "(I)I"⟩, 66) := ⟨⟨by decide +kernel, by decide +kernel⟩, List.mem_of_getElem? (i := 855) (by decide +kernel), List.mem_of_getElem? (i := 1185) (by decide +kernel), List.mem_of_getElem? (i := 1186) (by decide +kernel)⟩
theorem lw_p56 : lw_okq (⟨"AteLeastModel", "laySupper", "()V"⟩, 66) := ⟨⟨by decide +kernel, by decide +kernel⟩, List.mem_of_getElem? (i := 855) (by decide +kernel), List.mem_of_getElem? (i := 1189) (by decide +kernel), List.mem_of_getElem? (i := 1190) (by decide +kernel)⟩
theorem lw_p57 : lw_okq (⟨"AteLeastModel", "bakerNow", "()I"⟩, 66) := ⟨⟨by decide +kernel, by decide +kernel⟩, List.mem_of_getElem? (i := 855) (by decide +kernel), List.mem_of_getElem? (i := 1193) (by decide +kernel), List.mem_of_getElem? (i := 1194) (by decide +kernel)⟩
theorem lw_p58 : lw_okq (⟨"AteLeastModel", "scaleNow", "()I"⟩, 66) := ⟨⟨by decide +kernel, by decide +kernel⟩, List.mem_of_getElem? (i := 855) (by decide +kernel), List.mem_of_getElem? (i := 1197) (by decide +kernel), List.mem_of_getElem? (i := 1198) (by decide +kernel)⟩
theorem lw_p59 : lw_okq (⟨"AteLeastModel", "lastOf", "(II)I"⟩, 66) := ⟨⟨by decide +kernel, by decide +kernel⟩, List.mem_of_getElem? (i := 855) (by decide +kernel), List.mem_of_getElem? (i := 1201) (by decide +kernel), List.mem_of_getElem? (i := 1202) (by decide +kernel)⟩
theorem lw_p60 : lw_okq (⟨"AteLeastModel", "begin", "()I"⟩, 66) := ⟨⟨by decide +kernel, by decide +kernel⟩, List.mem_of_getElem? (i := 855) (by decide +kernel), List.mem_of_getElem? (i := 1205) (by decide +kernel), List.mem_of_getElem? (i := 1206) (by decide +kernel)⟩
theorem lw_p61 : lw_okq (⟨"AteLeastModel", "behind", "()I"⟩, 66) := ⟨⟨by decide +kernel, by decide +kernel⟩, List.mem_of_getElem? (i := 855) (by decide +kernel), List.mem_of_getElem? (i := 1209) (by decide +kernel), List.mem_of_getElem? (i := 1210) (by decide +kernel)⟩
theorem lw_p62 : lw_okq (⟨"AteLeastModel", "lawNow", "()I"⟩, 66) := ⟨⟨by decide +kernel, by decide +kernel⟩, List.mem_of_getElem? (i := 855) (by decide +kernel), List.mem_of_getElem? (i := 1213) (by decide +kernel), List.mem_of_getElem? (i := 1214) (by decide +kernel)⟩
theorem lw_p63 : lw_okq (⟨"AteLeastModel", "isAhead", "(III)Z"⟩, 66) := ⟨⟨by decide +kernel, by decide +kernel⟩, List.mem_of_getElem? (i := 855) (by decide +kernel), List.mem_of_getElem? (i := 1217) (by decide +kernel), List.mem_of_getElem? (i := 1218) (by decide +kernel)⟩
def lw_privs_4 : List (MethodName × Nat) := [(⟨"AteLeastModel", "settle", "(I)V"⟩, 66), (⟨"AteLeastModel", "goSupper", "()V"⟩, 66), (⟨"AteLeastModel", "layWishes", "()V"⟩, 66), (⟨"AteLeastModel", "wishOf", "(I)I"⟩, 66), (⟨"AteLeastModel", "bestWish", "(I)I"⟩, 66), (⟨"AteLeastModel", "plainWish", "(I)I"⟩, 66), (⟨"AteLeastModel", "least", "(II)I"⟩, 66), (⟨"AteLeastModel", "crumb", "(I)I"⟩, 66), (⟨"AteLeastModel", "laySupper", "()V"⟩, 66), (⟨"AteLeastModel", "bakerNow", "()I"⟩, 66), (⟨"AteLeastModel", "scaleNow", "()I"⟩, 66), (⟨"AteLeastModel", "lastOf", "(II)I"⟩, 66), (⟨"AteLeastModel", "begin", "()I"⟩, 66), (⟨"AteLeastModel", "behind", "()I"⟩, 66), (⟨"AteLeastModel", "lawNow", "()I"⟩, 66), (⟨"AteLeastModel", "isAhead", "(III)Z"⟩, 66)]
theorem lw_r4 : ∀ q ∈ lw_privs_4, lw_okq q := List.forall_mem_cons.mpr ⟨lw_p48, List.forall_mem_cons.mpr ⟨lw_p49, List.forall_mem_cons.mpr ⟨lw_p50, List.forall_mem_cons.mpr ⟨lw_p51, List.forall_mem_cons.mpr ⟨lw_p52, List.forall_mem_cons.mpr ⟨lw_p53, List.forall_mem_cons.mpr ⟨lw_p54, List.forall_mem_cons.mpr ⟨lw_p55, List.forall_mem_cons.mpr ⟨lw_p56, List.forall_mem_cons.mpr ⟨lw_p57, List.forall_mem_cons.mpr ⟨lw_p58, List.forall_mem_cons.mpr ⟨lw_p59, List.forall_mem_cons.mpr ⟨lw_p60, List.forall_mem_cons.mpr ⟨lw_p61, List.forall_mem_cons.mpr ⟨lw_p62, List.forall_mem_cons.mpr ⟨lw_p63, fun _ h => absurd h List.not_mem_nil⟩⟩⟩⟩⟩⟩⟩⟩⟩⟩⟩⟩⟩⟩⟩⟩
theorem lw_p64 : lw_okq (⟨"AteLeastModel", "costOf", "(II)I"⟩, 66) := ⟨⟨by decide +kernel, by decide +kernel⟩, List.mem_of_getElem? (i := 855) (by decide +kernel), List.mem_of_getElem? (i := 1221) (by decide +kernel), List.mem_of_getElem? (i := 1222) (by decide +kernel)⟩
theorem lw_p65 : lw_okq (⟨"AteLeastModel", "hasOf", "(I)Z"⟩, 66) := ⟨⟨by decide +kernel, by decide +kernel⟩, List.mem_of_getElem? (i := 855) (by decide +kernel), List.mem_of_getElem? (i := 1225) (by decide +kernel), List.mem_of_getElem? (i := 1226) (by decide +kernel)⟩
theorem lw_p66 : lw_okq (⟨"AteLeastModel", "sumOf", "(III)I"⟩, 66) := ⟨⟨by decide +kernel, by decide +kernel⟩, List.mem_of_getElem? (i := 855) (by decide +kernel), List.mem_of_getElem? (i := 1229) (by decide +kernel), List.mem_of_getElem? (i := 1230) (by decide +kernel)⟩
theorem lw_p67 : lw_okq (⟨"AteLeastModel", "holds", "(III)Z"⟩, 66) := ⟨⟨by decide +kernel, by decide +kernel⟩, List.mem_of_getElem? (i := 855) (by decide +kernel), List.mem_of_getElem? (i := 1233) (by decide +kernel), List.mem_of_getElem? (i := 1234) (by decide +kernel)⟩
theorem lw_p68 : lw_okq (⟨"AteLeastModel", "factOf", "(III)I"⟩, 66) := ⟨⟨by decide +kernel, by decide +kernel⟩, List.mem_of_getElem? (i := 855) (by decide +kernel), List.mem_of_getElem? (i := 1237) (by decide +kernel), List.mem_of_getElem? (i := 1238) (by decide +kernel)⟩
theorem lw_p69 : lw_okq (⟨"AteLeastModel", "worthOf", "(II)I"⟩, 66) := ⟨⟨by decide +kernel, by decide +kernel⟩, List.mem_of_getElem? (i := 855) (by decide +kernel), List.mem_of_getElem? (i := 1241) (by decide +kernel), List.mem_of_getElem? (i := 1242) (by decide +kernel)⟩
theorem lw_p70 : lw_okq (⟨"AteLeastModel", "keep", "()V"⟩, 66) := ⟨⟨by decide +kernel, by decide +kernel⟩, List.mem_of_getElem? (i := 855) (by decide +kernel), List.mem_of_getElem? (i := 1259) (by decide +kernel), List.mem_of_getElem? (i := 1260) (by decide +kernel)⟩
theorem lw_p71 : lw_okq (⟨"AteLeastModel", "goOn", "(I)V"⟩, 66) := ⟨⟨by decide +kernel, by decide +kernel⟩, List.mem_of_getElem? (i := 855) (by decide +kernel), List.mem_of_getElem? (i := 1263) (by decide +kernel), List.mem_of_getElem? (i := 1264) (by decide +kernel)⟩
theorem lw_p72 : lw_okq (⟨"AteLeastModel", "putBack", "()V"⟩, 66) := ⟨⟨by decide +kernel, by decide +kernel⟩, List.mem_of_getElem? (i := 855) (by decide +kernel), List.mem_of_getElem? (i := 1267) (by decide +kernel), List.mem_of_getElem? (i := 1268) (by decide +kernel)⟩
theorem lw_p73 : lw_okq (⟨"AteLeastModel", "isAsKept", "()Z"⟩, 66) := ⟨⟨by decide +kernel, by decide +kernel⟩, List.mem_of_getElem? (i := 855) (by decide +kernel), List.mem_of_getElem? (i := 1275) (by decide +kernel), List.mem_of_getElem? (i := 1276) (by decide +kernel)⟩
theorem lw_p74 : lw_okq (⟨"AteLeastModel", "rowsNow", "()I"⟩, 66) := ⟨⟨by decide +kernel, by decide +kernel⟩, List.mem_of_getElem? (i := 855) (by decide +kernel), List.mem_of_getElem? (i := 1283) (by decide +kernel), List.mem_of_getElem? (i := 1284) (by decide +kernel)⟩
theorem lw_p75 : lw_okq (⟨"AteLeastModel", "isStill", "(I)Z"⟩, 66) := ⟨⟨by decide +kernel, by decide +kernel⟩, List.mem_of_getElem? (i := 855) (by decide +kernel), List.mem_of_getElem? (i := 1287) (by decide +kernel), List.mem_of_getElem? (i := 1288) (by decide +kernel)⟩
theorem lw_p76 : lw_okq (⟨"AteLeastModel", "layRow", "(I)V"⟩, 66) := ⟨⟨by decide +kernel, by decide +kernel⟩, List.mem_of_getElem? (i := 855) (by decide +kernel), List.mem_of_getElem? (i := 1291) (by decide +kernel), List.mem_of_getElem? (i := 1292) (by decide +kernel)⟩
theorem lw_p77 : lw_okq (⟨"AteLeastModel", "digit", "(II)I"⟩, 66) := ⟨⟨by decide +kernel, by decide +kernel⟩, List.mem_of_getElem? (i := 855) (by decide +kernel), List.mem_of_getElem? (i := 1295) (by decide +kernel), List.mem_of_getElem? (i := 1296) (by decide +kernel)⟩
theorem lw_p78 : lw_okq (⟨"AteLeastModel", "allGlad", "()I"⟩, 66) := ⟨⟨by decide +kernel, by decide +kernel⟩, List.mem_of_getElem? (i := 855) (by decide +kernel), List.mem_of_getElem? (i := 1307) (by decide +kernel), List.mem_of_getElem? (i := 1308) (by decide +kernel)⟩
theorem lw_p79 : lw_okq (⟨"AteLeastModel", "gladBehind", "(II)I"⟩, 66) := ⟨⟨by decide +kernel, by decide +kernel⟩, List.mem_of_getElem? (i := 855) (by decide +kernel), List.mem_of_getElem? (i := 1315) (by decide +kernel), List.mem_of_getElem? (i := 1316) (by decide +kernel)⟩
def lw_privs_5 : List (MethodName × Nat) := [(⟨"AteLeastModel", "costOf", "(II)I"⟩, 66), (⟨"AteLeastModel", "hasOf", "(I)Z"⟩, 66), (⟨"AteLeastModel", "sumOf", "(III)I"⟩, 66), (⟨"AteLeastModel", "holds", "(III)Z"⟩, 66), (⟨"AteLeastModel", "factOf", "(III)I"⟩, 66), (⟨"AteLeastModel", "worthOf", "(II)I"⟩, 66), (⟨"AteLeastModel", "keep", "()V"⟩, 66), (⟨"AteLeastModel", "goOn", "(I)V"⟩, 66), (⟨"AteLeastModel", "putBack", "()V"⟩, 66), (⟨"AteLeastModel", "isAsKept", "()Z"⟩, 66), (⟨"AteLeastModel", "rowsNow", "()I"⟩, 66), (⟨"AteLeastModel", "isStill", "(I)Z"⟩, 66), (⟨"AteLeastModel", "layRow", "(I)V"⟩, 66), (⟨"AteLeastModel", "digit", "(II)I"⟩, 66), (⟨"AteLeastModel", "allGlad", "()I"⟩, 66), (⟨"AteLeastModel", "gladBehind", "(II)I"⟩, 66)]
theorem lw_r5 : ∀ q ∈ lw_privs_5, lw_okq q := List.forall_mem_cons.mpr ⟨lw_p64, List.forall_mem_cons.mpr ⟨lw_p65, List.forall_mem_cons.mpr ⟨lw_p66, List.forall_mem_cons.mpr ⟨lw_p67, List.forall_mem_cons.mpr ⟨lw_p68, List.forall_mem_cons.mpr ⟨lw_p69, List.forall_mem_cons.mpr ⟨lw_p70, List.forall_mem_cons.mpr ⟨lw_p71, List.forall_mem_cons.mpr ⟨lw_p72, List.forall_mem_cons.mpr ⟨lw_p73, List.forall_mem_cons.mpr ⟨lw_p74, List.forall_mem_cons.mpr ⟨lw_p75, List.forall_mem_cons.mpr ⟨lw_p76, List.forall_mem_cons.mpr ⟨lw_p77, List.forall_mem_cons.mpr ⟨lw_p78, List.forall_mem_cons.mpr ⟨lw_p79, fun _ h => absurd h List.not_mem_nil⟩⟩⟩⟩⟩⟩⟩⟩⟩⟩⟩⟩⟩⟩⟩⟩
theorem lw_p80 : lw_okq (⟨"AteLeastModel", "isEnough", "(II)Z"⟩, 66) := ⟨⟨by decide +kernel, by decide +kernel⟩, List.mem_of_getElem? (i := 855) (by decide +kernel), List.mem_of_getElem? (i := 1323) (by decide +kernel), List.mem_of_getElem? (i := 1324) (by decide +kernel)⟩
theorem lw_p81 : lw_okq (⟨"AteLeastModel", "lowest", "(JJI)J"⟩, 66) := ⟨⟨by decide +kernel, by decide +kernel⟩, List.mem_of_getElem? (i := 855) (by decide +kernel), List.mem_of_getElem? (i := 1340) (by decide +kernel), List.mem_of_getElem? (i := 1341) (by decide +kernel)⟩
theorem lw_p82 : lw_okq (⟨"AteLeastModel", "divisor", "(JJ)J"⟩, 66) := ⟨⟨by decide +kernel, by decide +kernel⟩, List.mem_of_getElem? (i := 855) (by decide +kernel), List.mem_of_getElem? (i := 1344) (by decide +kernel), List.mem_of_getElem? (i := 1345) (by decide +kernel)⟩
theorem lw_p83 : lw_okq (⟨"AteLeastModel", "isTape", "(I)Z"⟩, 66) := ⟨⟨by decide +kernel, by decide +kernel⟩, List.mem_of_getElem? (i := 855) (by decide +kernel), List.mem_of_getElem? (i := 1364) (by decide +kernel), List.mem_of_getElem? (i := 1365) (by decide +kernel)⟩
theorem lw_p84 : lw_okq (⟨"AteLeastModel", "eatsAct", "(II)I"⟩, 66) := ⟨⟨by decide +kernel, by decide +kernel⟩, List.mem_of_getElem? (i := 855) (by decide +kernel), List.mem_of_getElem? (i := 1380) (by decide +kernel), List.mem_of_getElem? (i := 1381) (by decide +kernel)⟩
theorem lw_p85 : lw_okq (⟨"AteLeastModel", "body", "(I)V"⟩, 66) := ⟨⟨by decide +kernel, by decide +kernel⟩, List.mem_of_getElem? (i := 855) (by decide +kernel), List.mem_of_getElem? (i := 1384) (by decide +kernel), List.mem_of_getElem? (i := 1385) (by decide +kernel)⟩
theorem lw_p86 : lw_okq (⟨"AteLeastModel", "eaterEats", "(II)I"⟩, 66) := ⟨⟨by decide +kernel, by decide +kernel⟩, List.mem_of_getElem? (i := 855) (by decide +kernel), List.mem_of_getElem? (i := 1388) (by decide +kernel), List.mem_of_getElem? (i := 1389) (by decide +kernel)⟩
theorem lw_p87 : lw_okq (⟨"AteLeastModel", "bakesAct", "(II)I"⟩, 66) := ⟨⟨by decide +kernel, by decide +kernel⟩, List.mem_of_getElem? (i := 855) (by decide +kernel), List.mem_of_getElem? (i := 1392) (by decide +kernel), List.mem_of_getElem? (i := 1393) (by decide +kernel)⟩
theorem lw_p88 : lw_okq (⟨"AteLeastModel", "hungryBakes", "(II)I"⟩, 66) := ⟨⟨by decide +kernel, by decide +kernel⟩, List.mem_of_getElem? (i := 855) (by decide +kernel), List.mem_of_getElem? (i := 1396) (by decide +kernel), List.mem_of_getElem? (i := 1397) (by decide +kernel)⟩
theorem lw_p89 : lw_okq (⟨"AteLeastModel", "eaterBakes", "(II)I"⟩, 66) := ⟨⟨by decide +kernel, by decide +kernel⟩, List.mem_of_getElem? (i := 855) (by decide +kernel), List.mem_of_getElem? (i := 1400) (by decide +kernel), List.mem_of_getElem? (i := 1401) (by decide +kernel)⟩
theorem lw_p90 : lw_okq (⟨"AteLeastModel", "tellsAct", "(II)I"⟩, 66) := ⟨⟨by decide +kernel, by decide +kernel⟩, List.mem_of_getElem? (i := 855) (by decide +kernel), List.mem_of_getElem? (i := 1404) (by decide +kernel), List.mem_of_getElem? (i := 1405) (by decide +kernel)⟩
theorem lw_p91 : lw_okq (⟨"AteLeastModel", "eaterTells", "(II)I"⟩, 66) := ⟨⟨by decide +kernel, by decide +kernel⟩, List.mem_of_getElem? (i := 855) (by decide +kernel), List.mem_of_getElem? (i := 1408) (by decide +kernel), List.mem_of_getElem? (i := 1409) (by decide +kernel)⟩
theorem lw_p92 : lw_okq (⟨"AteLeastModel", "narrow", "(IJ)J"⟩, 66) := ⟨⟨by decide +kernel, by decide +kernel⟩, List.mem_of_getElem? (i := 855) (by decide +kernel), List.mem_of_getElem? (i := 1432) (by decide +kernel), List.mem_of_getElem? (i := 1433) (by decide +kernel)⟩
def lw_privs_6 : List (MethodName × Nat) := [(⟨"AteLeastModel", "isEnough", "(II)Z"⟩, 66), (⟨"AteLeastModel", "lowest", "(JJI)J"⟩, 66), (⟨"AteLeastModel", "divisor", "(JJ)J"⟩, 66), (⟨"AteLeastModel", "isTape", "(I)Z"⟩, 66), (⟨"AteLeastModel", "eatsAct", "(II)I"⟩, 66), (⟨"AteLeastModel", "body", "(I)V"⟩, 66), (⟨"AteLeastModel", "eaterEats", "(II)I"⟩, 66), (⟨"AteLeastModel", "bakesAct", "(II)I"⟩, 66), (⟨"AteLeastModel", "hungryBakes", "(II)I"⟩, 66), (⟨"AteLeastModel", "eaterBakes", "(II)I"⟩, 66), (⟨"AteLeastModel", "tellsAct", "(II)I"⟩, 66), (⟨"AteLeastModel", "eaterTells", "(II)I"⟩, 66), (⟨"AteLeastModel", "narrow", "(IJ)J"⟩, 66)]
theorem lw_r6 : ∀ q ∈ lw_privs_6, lw_okq q := List.forall_mem_cons.mpr ⟨lw_p80, List.forall_mem_cons.mpr ⟨lw_p81, List.forall_mem_cons.mpr ⟨lw_p82, List.forall_mem_cons.mpr ⟨lw_p83, List.forall_mem_cons.mpr ⟨lw_p84, List.forall_mem_cons.mpr ⟨lw_p85, List.forall_mem_cons.mpr ⟨lw_p86, List.forall_mem_cons.mpr ⟨lw_p87, List.forall_mem_cons.mpr ⟨lw_p88, List.forall_mem_cons.mpr ⟨lw_p89, List.forall_mem_cons.mpr ⟨lw_p90, List.forall_mem_cons.mpr ⟨lw_p91, List.forall_mem_cons.mpr ⟨lw_p92, fun _ h => absurd h List.not_mem_nil⟩⟩⟩⟩⟩⟩⟩⟩⟩⟩⟩⟩⟩
def lw_privs : List (MethodName × Nat) := lw_privs_1 ++ (lw_privs_2 ++ (lw_privs_3 ++ (lw_privs_4 ++ (lw_privs_5 ++ (lw_privs_6)))))
def lw_tbl : List Cond := k2_sels lw_privs ++ tables_1
theorem lw_privs_ok : ∀ q ∈ lw_privs, lw_okq q := by
  show ∀ q ∈ lw_privs_1 ++ (lw_privs_2 ++ (lw_privs_3 ++ (lw_privs_4 ++ (lw_privs_5 ++ (lw_privs_6))))), lw_okq q
  exact List.forall_mem_append.mpr ⟨lw_r1, List.forall_mem_append.mpr ⟨lw_r2, List.forall_mem_append.mpr ⟨lw_r3, List.forall_mem_append.mpr ⟨lw_r4, List.forall_mem_append.mpr ⟨lw_r5, lw_r6⟩⟩⟩⟩⟩
def RX0 : String := "AteLeast$Acts"
def TX0 : u_T := fun k => match k with
  | 0 => ("AteLeast$Acts", "bodies", "[I", true)
  | 1 => ("AteLeast$Acts", "ran", "I", false)
  | 2 => ("AteLeast$Acts", "kind", "I", false)
  | 3 => ("AteLeast$Acts", "i", "I", false)
  | _ => ("AteLeast$Acts", "v", "I", false)
def tyX0 : Nat → FieldType := fun k => match k with
  | 0 => .array .int
  | 1 => .int
  | 2 => .int
  | 3 => .int
  | _ => .int
abbrev wsX00 : List Cond := u_ws RX0 TX0 5
theorem nmX0 : ∀ a, a < 5 → ∀ b, b < 5 → a ≠ b → (TX0 a).2.1 ≠ (TX0 b).2.1 := by decide +kernel
theorem tyX0_ok : ∀ k, k < 5 → parseFieldDescriptor (TX0 k).2.2.1 = some (tyX0 k) := by decide +kernel
abbrev cX0_init : ByteArray := prog_2_method_1_code
def yX0_init : MethodName := ⟨RX0, "<init>", "()V"⟩
abbrev cX0_does : ByteArray := prog_2_method_2_code
def yX0_does : MethodName := ⟨RX0, "does", "(IIIII)I"⟩
abbrev cX0_isUnder : ByteArray := prog_2_method_3_code
def yX0_isUnder : MethodName := ⟨RX0, "isUnder", "(II)Z"⟩
abbrev cX0_own : ByteArray := prog_2_method_4_code
def yX0_own : MethodName := ⟨RX0, "own", "(III)I"⟩
abbrev cX0_above : ByteArray := prog_2_method_5_code
def yX0_above : MethodName := ⟨RX0, "above", "(IIII)I"⟩
abbrev cX0_runs : ByteArray := prog_2_method_6_code
def yX0_runs : MethodName := ⟨RX0, "runs", "(III)I"⟩
def RX1 : String := "AteLeast$House"
def TX1 : u_T := fun k => match k with
  | 0 => ("AteLeast$House", "sort", "[I", true)
  | 1 => ("AteLeast$House", "n", "[I", true)
  | 2 => ("AteLeast$House", "end", "[I", true)
  | 3 => ("AteLeast$House", "signs", "[I", true)
  | 4 => ("AteLeast$House", "letter", "[I", true)
  | 5 => ("AteLeast$House", "least", "[I", true)
  | 6 => ("AteLeast$House", "most", "[I", true)
  | 7 => ("AteLeast$House", "clauses", "I", false)
  | 8 => ("AteLeast$House", "length", "I", false)
  | 9 => ("AteLeast$House", "loaf", "I", false)
  | 10 => ("AteLeast$House", "law", "I", false)
  | _ => ("AteLeast$House", "scale", "I", false)
def tyX1 : Nat → FieldType := fun k => match k with
  | 0 => .array .int
  | 1 => .array .int
  | 2 => .array .int
  | 3 => .array .int
  | 4 => .array .int
  | 5 => .array .int
  | 6 => .array .int
  | 7 => .int
  | 8 => .int
  | 9 => .int
  | 10 => .int
  | _ => .int
abbrev wsX10 : List Cond := u_ws RX1 TX1 12
theorem nmX1 : ∀ a, a < 12 → ∀ b, b < 12 → a ≠ b → (TX1 a).2.1 ≠ (TX1 b).2.1 := by decide +kernel
theorem tyX1_ok : ∀ k, k < 12 → parseFieldDescriptor (TX1 k).2.2.1 = some (tyX1 k) := by decide +kernel
abbrev cX1_init : ByteArray := prog_3_method_1_code
def yX1_init : MethodName := ⟨RX1, "<init>", "()V"⟩
abbrev cX1_clear : ByteArray := prog_3_method_2_code
def yX1_clear : MethodName := ⟨RX1, "clear", "()V"⟩
abbrev cX1_addSign : ByteArray := prog_3_method_3_code
def yX1_addSign : MethodName := ⟨RX1, "addSign", "(I)V"⟩
abbrev cX1_addTest : ByteArray := prog_3_method_4_code
def yX1_addTest : MethodName := ⟨RX1, "addTest", "(III)V"⟩
abbrev cX1_addClause : ByteArray := prog_3_method_5_code
def yX1_addClause : MethodName := ⟨RX1, "addClause", "(II)V"⟩
abbrev cX1_together : ByteArray := prog_3_method_6_code
def yX1_together : MethodName := ⟨RX1, "together", "(I[I)I"⟩
abbrev cX1_holds : ByteArray := prog_3_method_7_code
def yX1_holds : MethodName := ⟨RX1, "holds", "(I[I)Z"⟩
def RX2 : String := "AteLeast$Reader"
def TX2 : u_T := fun k => match k with
  | 0 => ("AteLeast$Reader", "text", "[C", true)
  | 1 => ("AteLeast$Reader", "length", "I", false)
  | 2 => ("AteLeast$Reader", "at", "I", false)
  | 3 => ("AteLeast$Reader", "value", "I", false)
  | _ => ("AteLeast$Reader", "house", "LAteLeast$House;", false)
def tyX2 : Nat → FieldType := fun k => match k with
  | 0 => .array .char
  | 1 => .int
  | 2 => .int
  | 3 => .int
  | _ => .object "AteLeast$House"
abbrev wsX20 : List Cond := u_ws RX2 TX2 5
theorem nmX2 : ∀ a, a < 5 → ∀ b, b < 5 → a ≠ b → (TX2 a).2.1 ≠ (TX2 b).2.1 := by decide +kernel
theorem tyX2_ok : ∀ k, k < 5 → parseFieldDescriptor (TX2 k).2.2.1 = some (tyX2 k) := by decide +kernel
abbrev cX2_init : ByteArray := prog_4_method_1_code
def yX2_init : MethodName := ⟨RX2, "<init>", "()V"⟩
abbrev cX2_append : ByteArray := prog_4_method_2_code
def yX2_append : MethodName := ⟨RX2, "append", "(C)I"⟩
abbrev cX2_faultOf : ByteArray := prog_4_method_3_code
def yX2_faultOf : MethodName := ⟨RX2, "faultOf", "(LAteLeast$House;)I"⟩
abbrev cX2_readClause : ByteArray := prog_4_method_4_code
def yX2_readClause : MethodName := ⟨RX2, "readClause", "()Z"⟩
abbrev cX2_readWord : ByteArray := prog_4_method_5_code
def yX2_readWord : MethodName := ⟨RX2, "readWord", "()I"⟩
abbrev cX2_wordOf : ByteArray := prog_4_method_6_code
def yX2_wordOf : MethodName := ⟨RX2, "wordOf", "(I)Ljava/lang/String;"⟩
abbrev cX2_alike : ByteArray := prog_4_method_7_code
def yX2_alike : MethodName := ⟨RX2, "alike", "(Ljava/lang/String;)I"⟩
abbrev cX2_readNumber : ByteArray := prog_4_method_8_code
def yX2_readNumber : MethodName := ⟨RX2, "readNumber", "()Z"⟩
abbrev cX2_readEither : ByteArray := prog_4_method_9_code
def yX2_readEither : MethodName := ⟨RX2, "readEither", "(I)Z"⟩
abbrev cX2_readBoth : ByteArray := prog_4_method_10_code
def yX2_readBoth : MethodName := ⟨RX2, "readBoth", "(I)Z"⟩
abbrev cX2_readOne : ByteArray := prog_4_method_11_code
def yX2_readOne : MethodName := ⟨RX2, "readOne", "(I)Z"⟩
abbrev cX2_readTest : ByteArray := prog_4_method_12_code
def yX2_readTest : MethodName := ⟨RX2, "readTest", "()Z"⟩
abbrev cX2_sees : ByteArray := prog_4_method_13_code
def yX2_sees : MethodName := ⟨RX2, "sees", "(C)Z"⟩
abbrev cX2_takes : ByteArray := prog_4_method_14_code
def yX2_takes : MethodName := ⟨RX2, "takes", "(C)Z"⟩
def RX3 : String := "AteLeast$Supper"
def TX3 : u_T := fun k => match k with
  | 0 => ("AteLeast$Supper", "wish", "[I", true)
  | 1 => ("AteLeast$Supper", "thought", "[I", true)
  | 2 => ("AteLeast$Supper", "ate", "[I", true)
  | 3 => ("AteLeast$Supper", "portion", "[I", true)
  | 4 => ("AteLeast$Supper", "letters", "[I", true)
  | 5 => ("AteLeast$Supper", "worth", "[I", true)
  | 6 => ("AteLeast$Supper", "known", "[I", true)
  | 7 => ("AteLeast$Supper", "cost", "[I", true)
  | 8 => ("AteLeast$Supper", "table", "LAteLeast$Table;", false)
  | 9 => ("AteLeast$Supper", "house", "LAteLeast$House;", false)
  | 10 => ("AteLeast$Supper", "law", "I", false)
  | 11 => ("AteLeast$Supper", "left", "I", false)
  | 12 => ("AteLeast$Supper", "baker", "I", false)
  | 13 => ("AteLeast$Supper", "lawInstead", "I", false)
  | 14 => ("AteLeast$Supper", "free", "Z", false)
  | 15 => ("AteLeast$Supper", "one", "I", false)
  | _ => ("AteLeast$Supper", "other", "I", false)
def tyX3 : Nat → FieldType := fun k => match k with
  | 0 => .array .int
  | 1 => .array .int
  | 2 => .array .int
  | 3 => .array .int
  | 4 => .array .int
  | 5 => .array .int
  | 6 => .array .int
  | 7 => .array .int
  | 8 => .object "AteLeast$Table"
  | 9 => .object "AteLeast$House"
  | 10 => .int
  | 11 => .int
  | 12 => .int
  | 13 => .int
  | 14 => .boolean
  | 15 => .int
  | _ => .int
abbrev wsX30 : List Cond := u_ws RX3 TX3 17
theorem nmX3 : ∀ a, a < 17 → ∀ b, b < 17 → a ≠ b → (TX3 a).2.1 ≠ (TX3 b).2.1 := by decide +kernel
theorem tyX3_ok : ∀ k, k < 17 → parseFieldDescriptor (TX3 k).2.2.1 = some (tyX3 k) := by decide +kernel
abbrev cX3_init : ByteArray := prog_5_method_1_code
def yX3_init : MethodName := ⟨RX3, "<init>", "()V"⟩
abbrev cX3_agree : ByteArray := prog_5_method_2_code
def yX3_agree : MethodName := ⟨RX3, "agree", "(II)V"⟩
abbrev cX3_begin : ByteArray := prog_5_method_3_code
def yX3_begin : MethodName := ⟨RX3, "begin", "(LAteLeast$Table;LAteLeast$House;)V"⟩
abbrev cX3_hold : ByteArray := prog_5_method_4_code
def yX3_hold : MethodName := ⟨RX3, "hold", "(LAteLeast$Table;LAteLeast$House;)V"⟩
abbrev cX3_keepPact : ByteArray := prog_5_method_5_code
def yX3_keepPact : MethodName := ⟨RX3, "keepPact", "()V"⟩
abbrev cX3_wishOf : ByteArray := prog_5_method_6_code
def yX3_wishOf : MethodName := ⟨RX3, "wishOf", "(I)I"⟩
abbrev cX3_serve : ByteArray := prog_5_method_7_code
def yX3_serve : MethodName := ⟨RX3, "serve", "([I)V"⟩
abbrev cX3_outermost : ByteArray := prog_5_method_8_code
def yX3_outermost : MethodName := ⟨RX3, "outermost", "()I"⟩
abbrev cX3_middle : ByteArray := prog_5_method_9_code
def yX3_middle : MethodName := ⟨RX3, "middle", "()I"⟩
abbrev cX3_placeOf : ByteArray := prog_5_method_10_code
def yX3_placeOf : MethodName := ⟨RX3, "placeOf", "(I)I"⟩
abbrev cX3_isLikeBaker : ByteArray := prog_5_method_11_code
def yX3_isLikeBaker : MethodName := ⟨RX3, "isLikeBaker", "(I)Z"⟩
abbrev cX3_likeBaker : ByteArray := prog_5_method_12_code
def yX3_likeBaker : MethodName := ⟨RX3, "likeBaker", "()I"⟩
abbrev cX3_someoneWentShort : ByteArray := prog_5_method_13_code
def yX3_someoneWentShort : MethodName := ⟨RX3, "someoneWentShort", "()Z"⟩
abbrev cX3_haveTogether : ByteArray := prog_5_method_14_code
def yX3_haveTogether : MethodName := ⟨RX3, "haveTogether", "()I"⟩
abbrev cX3_has : ByteArray := prog_5_method_15_code
def yX3_has : MethodName := ⟨RX3, "has", "(I)I"⟩
abbrev cX3_ask : ByteArray := prog_5_method_16_code
def yX3_ask : MethodName := ⟨RX3, "ask", "(III)I"⟩
abbrev cX3_turnTo : ByteArray := prog_5_method_17_code
def yX3_turnTo : MethodName := ⟨RX3, "turnTo", "(I)V"⟩
def RX4 : String := "AteLeast$Table"
def TX4 : u_T := fun k => match k with
  | 0 => ("AteLeast$Table", "kind", "[I", true)
  | 1 => ("AteLeast$Table", "v", "[I", true)
  | 2 => ("AteLeast$Table", "hunger", "[I", true)
  | 3 => ("AteLeast$Table", "eaten", "[I", true)
  | 4 => ("AteLeast$Table", "glad", "[I", true)
  | 5 => ("AteLeast$Table", "rows", "[I", true)
  | 6 => ("AteLeast$Table", "book", "[I", true)
  | 7 => ("AteLeast$Table", "eaters", "I", false)
  | 8 => ("AteLeast$Table", "bin", "I", false)
  | 9 => ("AteLeast$Table", "day", "I", false)
  | 10 => ("AteLeast$Table", "baker", "I", false)
  | 11 => ("AteLeast$Table", "pages", "I", false)
  | _ => ("AteLeast$Table", "held", "I", false)
def tyX4 : Nat → FieldType := fun k => match k with
  | 0 => .array .int
  | 1 => .array .int
  | 2 => .array .int
  | 3 => .array .int
  | 4 => .array .int
  | 5 => .array .int
  | 6 => .array .int
  | 7 => .int
  | 8 => .int
  | 9 => .int
  | 10 => .int
  | 11 => .int
  | _ => .int
abbrev wsX40 : List Cond := u_ws RX4 TX4 13
theorem nmX4 : ∀ a, a < 13 → ∀ b, b < 13 → a ≠ b → (TX4 a).2.1 ≠ (TX4 b).2.1 := by decide +kernel
theorem tyX4_ok : ∀ k, k < 13 → parseFieldDescriptor (TX4 k).2.2.1 = some (tyX4 k) := by decide +kernel
abbrev cX4_init : ByteArray := prog_6_method_1_code
def yX4_init : MethodName := ⟨RX4, "<init>", "()V"⟩
abbrev cX4_becomes : ByteArray := prog_6_method_2_code
def yX4_becomes : MethodName := ⟨RX4, "becomes", "(LAteLeast$Table;)V"⟩
abbrev cX4_seat : ByteArray := prog_6_method_3_code
def yX4_seat : MethodName := ⟨RX4, "seat", "(III)I"⟩
abbrev cX4_plainWish : ByteArray := prog_6_method_4_code
def yX4_plainWish : MethodName := ⟨RX4, "plainWish", "(I)I"⟩
abbrev cX4_crumbMore : ByteArray := prog_6_method_5_code
def yX4_crumbMore : MethodName := ⟨RX4, "crumbMore", "(I)I"⟩
abbrev cX4_gladTogether : ByteArray := prog_6_method_6_code
def yX4_gladTogether : MethodName := ⟨RX4, "gladTogether", "()I"⟩
abbrev cX4_looksLike : ByteArray := prog_6_method_7_code
def yX4_looksLike : MethodName := ⟨RX4, "looksLike", "(LAteLeast$Table;)Z"⟩
def RX5 : String := "AteLeast$Tape"
def TX5 : u_T := fun k => match k with
  | 0 => ("AteLeast$Tape", "items", "[J", true)
  | 1 => ("AteLeast$Tape", "sort", "I", false)
  | _ => ("AteLeast$Tape", "length", "I", false)
def tyX5 : Nat → FieldType := fun k => match k with
  | 0 => .array .long
  | 1 => .int
  | _ => .int
abbrev wsX50 : List Cond := u_ws RX5 TX5 3
theorem nmX5 : ∀ a, a < 3 → ∀ b, b < 3 → a ≠ b → (TX5 a).2.1 ≠ (TX5 b).2.1 := by decide +kernel
theorem tyX5_ok : ∀ k, k < 3 → parseFieldDescriptor (TX5 k).2.2.1 = some (tyX5 k) := by decide +kernel
abbrev cX5_init : ByteArray := prog_7_method_1_code
def yX5_init : MethodName := ⟨RX5, "<init>", "()V"⟩
abbrev cX5_becomesEmpty : ByteArray := prog_7_method_2_code
def yX5_becomesEmpty : MethodName := ⟨RX5, "becomesEmpty", "(II)V"⟩
abbrev cX5_has : ByteArray := prog_7_method_3_code
def yX5_has : MethodName := ⟨RX5, "has", "(I)Z"⟩
abbrev cX5_hasStretch : ByteArray := prog_7_method_4_code
def yX5_hasStretch : MethodName := ⟨RX5, "hasStretch", "(II)Z"⟩
abbrev cX5_put : ByteArray := prog_7_method_5_code
def yX5_put : MethodName := ⟨RX5, "put", "(IJ)V"⟩
def RX6 : String := "AteLeast"
def TX6 : u_T := fun k => match k with
  | 0 => ("AteLeast", "now", "LAteLeast$Table;", true)
  | 1 => ("AteLeast", "image", "LAteLeast$Table;", true)
  | 2 => ("AteLeast", "then", "LAteLeast$Table;", true)
  | 3 => ("AteLeast", "bare", "LAteLeast$House;", true)
  | 4 => ("AteLeast", "houses", "[LAteLeast$House;", true)
  | 5 => ("AteLeast", "evening", "LAteLeast$Supper;", true)
  | 6 => ("AteLeast", "reader", "LAteLeast$Reader;", true)
  | 7 => ("AteLeast", "acts", "LAteLeast$Acts;", true)
  | 8 => ("AteLeast", "tapes", "[LAteLeast$Tape;", true)
  | 9 => ("AteLeast", "trial", "[I", true)
  | 10 => ("AteLeast", "first", "[I", true)
  | 11 => ("AteLeast", "houseCount", "I", false)
  | _ => ("AteLeast", "imaged", "Z", false)
def tyX6 : Nat → FieldType := fun k => match k with
  | 0 => .object "AteLeast$Table"
  | 1 => .object "AteLeast$Table"
  | 2 => .object "AteLeast$Table"
  | 3 => .object "AteLeast$House"
  | 4 => .array (.object "AteLeast$House")
  | 5 => .object "AteLeast$Supper"
  | 6 => .object "AteLeast$Reader"
  | 7 => .object "AteLeast$Acts"
  | 8 => .array (.object "AteLeast$Tape")
  | 9 => .array .int
  | 10 => .array .int
  | 11 => .int
  | _ => .boolean
abbrev wsX60 : List Cond := u_ws RX6 TX6 13
theorem nmX6 : ∀ a, a < 13 → ∀ b, b < 13 → a ≠ b → (TX6 a).2.1 ≠ (TX6 b).2.1 := by decide +kernel
theorem tyX6_ok : ∀ k, k < 13 → parseFieldDescriptor (TX6 k).2.2.1 = some (tyX6 k) := by decide +kernel
abbrev cX6_init : ByteArray := prog_1_method_1_code
def yX6_init : MethodName := ⟨RX6, "<init>", "()V"⟩
abbrev cX6_eater : ByteArray := prog_1_method_2_code
def yX6_eater : MethodName := ⟨RX6, "eater", "(III)I"⟩
abbrev cX6_of : ByteArray := prog_1_method_3_code
def yX6_of : MethodName := ⟨RX6, "of", "(II)I"⟩
abbrev cX6_reckonedOf : ByteArray := prog_1_method_4_code
def yX6_reckonedOf : MethodName := ⟨RX6, "reckonedOf", "(II)I"⟩
abbrev cX6_hunger : ByteArray := prog_1_method_5_code
def yX6_hunger : MethodName := ⟨RX6, "hunger", "(II)I"⟩
abbrev cX6_row : ByteArray := prog_1_method_6_code
def yX6_row : MethodName := ⟨RX6, "row", "(III)I"⟩
abbrev cX6_bin : ByteArray := prog_1_method_7_code
def yX6_bin : MethodName := ⟨RX6, "bin", "(I)I"⟩
abbrev cX6_feed : ByteArray := prog_1_method_8_code
def yX6_feed : MethodName := ⟨RX6, "feed", "(I)I"⟩
abbrev cX6_house : ByteArray := prog_1_method_9_code
def yX6_house : MethodName := ⟨RX6, "house", "()I"⟩
abbrev cX6_told : ByteArray := prog_1_method_10_code
def yX6_told : MethodName := ⟨RX6, "told", "(I)I"⟩
abbrev cX6_supper : ByteArray := prog_1_method_11_code
def yX6_supper : MethodName := ⟨RX6, "supper", "()I"⟩
abbrev cX6_run : ByteArray := prog_1_method_12_code
def yX6_run : MethodName := ⟨RX6, "run", "(II)I"⟩
abbrev cX6_timesBaker : ByteArray := prog_1_method_13_code
def yX6_timesBaker : MethodName := ⟨RX6, "timesBaker", "(II)I"⟩
abbrev cX6_round : ByteArray := prog_1_method_14_code
def yX6_round : MethodName := ⟨RX6, "round", "()I"⟩
abbrev cX6_still : ByteArray := prog_1_method_15_code
def yX6_still : MethodName := ⟨RX6, "still", "(I)I"⟩
abbrev cX6_allBest : ByteArray := prog_1_method_16_code
def yX6_allBest : MethodName := ⟨RX6, "allBest", "(I)I"⟩
abbrev cX6_rowsInAll : ByteArray := prog_1_method_17_code
def yX6_rowsInAll : MethodName := ⟨RX6, "rowsInAll", "()I"⟩
abbrev cX6_becomesRow : ByteArray := prog_1_method_18_code
def yX6_becomesRow : MethodName := ⟨RX6, "becomesRow", "(I)V"⟩
abbrev cX6_keepIf : ByteArray := prog_1_method_19_code
def yX6_keepIf : MethodName := ⟨RX6, "keepIf", "(Z)V"⟩
abbrev cX6_nobodyGains : ByteArray := prog_1_method_20_code
def yX6_nobodyGains : MethodName := ⟨RX6, "nobodyGains", "()Z"⟩
abbrev cX6_gains : ByteArray := prog_1_method_21_code
def yX6_gains : MethodName := ⟨RX6, "gains", "(I)Z"⟩
abbrev cX6_laws : ByteArray := prog_1_method_22_code
def yX6_laws : MethodName := ⟨RX6, "laws", "(I)I"⟩
abbrev cX6_cook : ByteArray := prog_1_method_23_code
def yX6_cook : MethodName := ⟨RX6, "cook", "(II)I"⟩
abbrev cX6_thin : ByteArray := prog_1_method_24_code
def yX6_thin : MethodName := ⟨RX6, "thin", "(I)I"⟩
abbrev cX6_lasts : ByteArray := prog_1_method_25_code
def yX6_lasts : MethodName := ⟨RX6, "lasts", "(II)Z"⟩
abbrev cX6_pact : ByteArray := prog_1_method_26_code
def yX6_pact : MethodName := ⟨RX6, "pact", "(III)I"⟩
abbrev cX6_guest : ByteArray := prog_1_method_27_code
def yX6_guest : MethodName := ⟨RX6, "guest", "(I)I"⟩
abbrev cX6_odds : ByteArray := prog_1_method_28_code
def yX6_odds : MethodName := ⟨RX6, "odds", "(II)J"⟩
abbrev cX6_mean : ByteArray := prog_1_method_29_code
def yX6_mean : MethodName := ⟨RX6, "mean", "(II)J"⟩
abbrev cX6_fraction : ByteArray := prog_1_method_30_code
def yX6_fraction : MethodName := ⟨RX6, "fraction", "(JJI)J"⟩
abbrev cX6_book : ByteArray := prog_1_method_31_code
def yX6_book : MethodName := ⟨RX6, "book", "(I)I"⟩
abbrev cX6_looked : ByteArray := prog_1_method_32_code
def yX6_looked : MethodName := ⟨RX6, "looked", "()I"⟩
abbrev cX6_judge : ByteArray := prog_1_method_33_code
def yX6_judge : MethodName := ⟨RX6, "judge", "(II)I"⟩
abbrev cX6_image : ByteArray := prog_1_method_34_code
def yX6_image : MethodName := ⟨RX6, "image", "()I"⟩
abbrev cX6_undo : ByteArray := prog_1_method_35_code
def yX6_undo : MethodName := ⟨RX6, "undo", "()I"⟩
abbrev cX6_act : ByteArray := prog_1_method_36_code
def yX6_act : MethodName := ⟨RX6, "act", "(III)I"⟩
abbrev cX6_trace : ByteArray := prog_1_method_37_code
def yX6_trace : MethodName := ⟨RX6, "trace", "(I)I"⟩
abbrev cX6_taken : ByteArray := prog_1_method_38_code
def yX6_taken : MethodName := ⟨RX6, "taken", "(II)I"⟩
abbrev cX6_count : ByteArray := prog_1_method_39_code
def yX6_count : MethodName := ⟨RX6, "count", "(I)I"⟩
abbrev cX6_tape : ByteArray := prog_1_method_40_code
def yX6_tape : MethodName := ⟨RX6, "tape", "(III)I"⟩
abbrev cX6_item : ByteArray := prog_1_method_41_code
def yX6_item : MethodName := ⟨RX6, "item", "(IIJ)I"⟩
abbrev cX6_read : ByteArray := prog_1_method_42_code
def yX6_read : MethodName := ⟨RX6, "read", "(II)J"⟩
abbrev cX6_shift : ByteArray := prog_1_method_43_code
def yX6_shift : MethodName := ⟨RX6, "shift", "(IIIII)I"⟩
abbrev cX6_within : ByteArray := prog_1_method_44_code
def yX6_within : MethodName := ⟨RX6, "within", "(II)Z"⟩
abbrev cX6_isEater : ByteArray := prog_1_method_45_code
def yX6_isEater : MethodName := ⟨RX6, "isEater", "(I)Z"⟩
abbrev cX6_holding : ByteArray := prog_1_method_46_code
def yX6_holding : MethodName := ⟨RX6, "holding", "()LAteLeast$House;"⟩
abbrev cX6_ahead : ByteArray := prog_1_method_47_code
def yX6_ahead : MethodName := ⟨RX6, "ahead", "(I)V"⟩
def RX7 : String := "AteLeastModel"
def TX7 : u_T := fun k => match k with
  | 0 => ("AteLeastModel", "eaters", "I", false)
  | 1 => ("AteLeastModel", "slices", "I", false)
  | 2 => ("AteLeastModel", "day", "I", false)
  | 3 => ("AteLeastModel", "baker", "I", false)
  | 4 => ("AteLeastModel", "kind", "[I", true)
  | 5 => ("AteLeastModel", "v", "[I", true)
  | 6 => ("AteLeastModel", "wants", "[I", true)
  | 7 => ("AteLeastModel", "eaten", "[I", true)
  | 8 => ("AteLeastModel", "glad", "[I", true)
  | 9 => ("AteLeastModel", "told", "[I", true)
  | 10 => ("AteLeastModel", "houses", "I", false)
  | 11 => ("AteLeastModel", "the", "I", false)
  | 12 => ("AteLeastModel", "fed", "I", false)
  | 13 => ("AteLeastModel", "at", "I", false)
  | 14 => ("AteLeastModel", "digits", "I", false)
  | 15 => ("AteLeastModel", "text", "[I", true)
  | 16 => ("AteLeastModel", "clauses", "[I", true)
  | 17 => ("AteLeastModel", "word", "[I", true)
  | 18 => ("AteLeastModel", "number", "[I", true)
  | 19 => ("AteLeastModel", "from", "[I", true)
  | 20 => ("AteLeastModel", "to", "[I", true)
  | 21 => ("AteLeastModel", "sign", "[I", true)
  | 22 => ("AteLeastModel", "waits", "[I", true)
  | 23 => ("AteLeastModel", "signs", "I", false)
  | 24 => ("AteLeastModel", "waiting", "I", false)
  | 25 => ("AteLeastModel", "open", "I", false)
  | 26 => ("AteLeastModel", "letters", "[I", true)
  | 27 => ("AteLeastModel", "pile", "[Z", true)
  | 28 => ("AteLeastModel", "isFree", "Z", false)
  | 29 => ("AteLeastModel", "lawTold", "I", false)
  | 30 => ("AteLeastModel", "wish", "[I", true)
  | 31 => ("AteLeastModel", "eats", "[I", true)
  | 32 => ("AteLeastModel", "has", "[I", true)
  | 33 => ("AteLeastModel", "bakes", "I", false)
  | 34 => ("AteLeastModel", "wished", "[I", true)
  | 35 => ("AteLeastModel", "pactOne", "I", false)
  | 36 => ("AteLeastModel", "pactOther", "I", false)
  | 37 => ("AteLeastModel", "baked", "[I", true)
  | 38 => ("AteLeastModel", "keptEaten", "[I", true)
  | 39 => ("AteLeastModel", "keptGlad", "[I", true)
  | 40 => ("AteLeastModel", "keptSlices", "I", false)
  | 41 => ("AteLeastModel", "keptDay", "I", false)
  | 42 => ("AteLeastModel", "keptBaker", "I", false)
  | 43 => ("AteLeastModel", "rowHas", "[I", true)
  | 44 => ("AteLeastModel", "books", "I", false)
  | 45 => ("AteLeastModel", "book", "[I", true)
  | 46 => ("AteLeastModel", "hasImage", "Z", false)
  | 47 => ("AteLeastModel", "imageThe", "I", false)
  | 48 => ("AteLeastModel", "imageEaters", "I", false)
  | 49 => ("AteLeastModel", "imageSlices", "I", false)
  | 50 => ("AteLeastModel", "imageDay", "I", false)
  | 51 => ("AteLeastModel", "imageBaker", "I", false)
  | 52 => ("AteLeastModel", "imageBooks", "I", false)
  | 53 => ("AteLeastModel", "imageKind", "[I", true)
  | 54 => ("AteLeastModel", "imageV", "[I", true)
  | 55 => ("AteLeastModel", "imageWants", "[I", true)
  | 56 => ("AteLeastModel", "imageEaten", "[I", true)
  | 57 => ("AteLeastModel", "imageGlad", "[I", true)
  | 58 => ("AteLeastModel", "imageTold", "[I", true)
  | 59 => ("AteLeastModel", "imageBook", "[I", true)
  | 60 => ("AteLeastModel", "ran", "I", false)
  | 61 => ("AteLeastModel", "bodies", "[I", true)
  | 62 => ("AteLeastModel", "sort", "[I", true)
  | 63 => ("AteLeastModel", "length", "[I", true)
  | 64 => ("AteLeastModel", "item", "[J", true)
  | _ => ("AteLeastModel", "aside", "[J", true)
def tyX7 : Nat → FieldType := fun k => match k with
  | 0 => .int
  | 1 => .int
  | 2 => .int
  | 3 => .int
  | 4 => .array .int
  | 5 => .array .int
  | 6 => .array .int
  | 7 => .array .int
  | 8 => .array .int
  | 9 => .array .int
  | 10 => .int
  | 11 => .int
  | 12 => .int
  | 13 => .int
  | 14 => .int
  | 15 => .array .int
  | 16 => .array .int
  | 17 => .array .int
  | 18 => .array .int
  | 19 => .array .int
  | 20 => .array .int
  | 21 => .array .int
  | 22 => .array .int
  | 23 => .int
  | 24 => .int
  | 25 => .int
  | 26 => .array .int
  | 27 => .array .boolean
  | 28 => .boolean
  | 29 => .int
  | 30 => .array .int
  | 31 => .array .int
  | 32 => .array .int
  | 33 => .int
  | 34 => .array .int
  | 35 => .int
  | 36 => .int
  | 37 => .array .int
  | 38 => .array .int
  | 39 => .array .int
  | 40 => .int
  | 41 => .int
  | 42 => .int
  | 43 => .array .int
  | 44 => .int
  | 45 => .array .int
  | 46 => .boolean
  | 47 => .int
  | 48 => .int
  | 49 => .int
  | 50 => .int
  | 51 => .int
  | 52 => .int
  | 53 => .array .int
  | 54 => .array .int
  | 55 => .array .int
  | 56 => .array .int
  | 57 => .array .int
  | 58 => .array .int
  | 59 => .array .int
  | 60 => .int
  | 61 => .array .int
  | 62 => .array .int
  | 63 => .array .int
  | 64 => .array .long
  | _ => .array .long
abbrev wsX70 : List Cond := u_ws RX7 TX7 66
theorem nmX7 : ∀ a, a < 66 → ∀ b, b < 66 → a ≠ b → (TX7 a).2.1 ≠ (TX7 b).2.1 := by decide +kernel
theorem tyX7_ok : ∀ k, k < 66 → parseFieldDescriptor (TX7 k).2.2.1 = some (tyX7 k) := by decide +kernel
abbrev cX7_init : ByteArray := prog_9_method_1_code
def yX7_init : MethodName := ⟨RX7, "<init>", "()V"⟩
abbrev cX7_in : ByteArray := prog_9_method_2_code
def yX7_in : MethodName := ⟨RX7, "in", "(III)Z"⟩
abbrev cX7_isEater : ByteArray := prog_9_method_3_code
def yX7_isEater : MethodName := ⟨RX7, "isEater", "(I)Z"⟩
abbrev cX7_lay : ByteArray := prog_9_method_4_code
def yX7_lay : MethodName := ⟨RX7, "lay", "(IIII)V"⟩
abbrev cX7_eater : ByteArray := prog_9_method_5_code
def yX7_eater : MethodName := ⟨RX7, "eater", "(III)I"⟩
abbrev cX7_hunger : ByteArray := prog_9_method_6_code
def yX7_hunger : MethodName := ⟨RX7, "hunger", "(II)I"⟩
abbrev cX7_row : ByteArray := prog_9_method_7_code
def yX7_row : MethodName := ⟨RX7, "row", "(III)I"⟩
abbrev cX7_bin : ByteArray := prog_9_method_8_code
def yX7_bin : MethodName := ⟨RX7, "bin", "(I)I"⟩
abbrev cX7_feed : ByteArray := prog_9_method_9_code
def yX7_feed : MethodName := ⟨RX7, "feed", "(I)I"⟩
abbrev cX7_next : ByteArray := prog_9_method_10_code
def yX7_next : MethodName := ⟨RX7, "next", "()I"⟩
abbrev cX7_second : ByteArray := prog_9_method_11_code
def yX7_second : MethodName := ⟨RX7, "second", "()I"⟩
abbrev cX7_takes : ByteArray := prog_9_method_12_code
def yX7_takes : MethodName := ⟨RX7, "takes", "(I)Z"⟩
abbrev cX7_takesWord : ByteArray := prog_9_method_13_code
def yX7_takesWord : MethodName := ⟨RX7, "takesWord", "(II)Z"⟩
abbrev cX7_isDigit : ByteArray := prog_9_method_14_code
def yX7_isDigit : MethodName := ⟨RX7, "isDigit", "()Z"⟩
abbrev cX7_takesNumber : ByteArray := prog_9_method_15_code
def yX7_takesNumber : MethodName := ⟨RX7, "takesNumber", "()Z"⟩
abbrev cX7_put : ByteArray := prog_9_method_16_code
def yX7_put : MethodName := ⟨RX7, "put", "(I)V"⟩
abbrev cX7_whole : ByteArray := prog_9_method_17_code
def yX7_whole : MethodName := ⟨RX7, "whole", "()V"⟩
abbrev cX7_settle : ByteArray := prog_9_method_18_code
def yX7_settle : MethodName := ⟨RX7, "settle", "(I)V"⟩
abbrev cX7_place : ByteArray := prog_9_method_19_code
def yX7_place : MethodName := ⟨RX7, "place", "(I)I"⟩
abbrev cX7_takesTest : ByteArray := prog_9_method_20_code
def yX7_takesTest : MethodName := ⟨RX7, "takesTest", "()Z"⟩
abbrev cX7_takesE : ByteArray := prog_9_method_21_code
def yX7_takesE : MethodName := ⟨RX7, "takesE", "(I)Z"⟩
abbrev cX7_takesHead : ByteArray := prog_9_method_22_code
def yX7_takesHead : MethodName := ⟨RX7, "takesHead", "(I)Z"⟩
abbrev cX7_takesClause : ByteArray := prog_9_method_23_code
def yX7_takesClause : MethodName := ⟨RX7, "takesClause", "(I)Z"⟩
abbrev cX7_goesText : ByteArray := prog_9_method_24_code
def yX7_goesText : MethodName := ⟨RX7, "goesText", "(I)Z"⟩
abbrev cX7_house : ByteArray := prog_9_method_25_code
def yX7_house : MethodName := ⟨RX7, "house", "()I"⟩
abbrev cX7_begin : ByteArray := prog_9_method_26_code
def yX7_begin : MethodName := ⟨RX7, "begin", "()I"⟩
abbrev cX7_behind : ByteArray := prog_9_method_27_code
def yX7_behind : MethodName := ⟨RX7, "behind", "()I"⟩
abbrev cX7_lastOf : ByteArray := prog_9_method_28_code
def yX7_lastOf : MethodName := ⟨RX7, "lastOf", "(II)I"⟩
abbrev cX7_hasOf : ByteArray := prog_9_method_29_code
def yX7_hasOf : MethodName := ⟨RX7, "hasOf", "(I)Z"⟩
abbrev cX7_factOf : ByteArray := prog_9_method_30_code
def yX7_factOf : MethodName := ⟨RX7, "factOf", "(III)I"⟩
abbrev cX7_holds : ByteArray := prog_9_method_31_code
def yX7_holds : MethodName := ⟨RX7, "holds", "(III)Z"⟩
abbrev cX7_sumOf : ByteArray := prog_9_method_32_code
def yX7_sumOf : MethodName := ⟨RX7, "sumOf", "(III)I"⟩
abbrev cX7_worthOf : ByteArray := prog_9_method_33_code
def yX7_worthOf : MethodName := ⟨RX7, "worthOf", "(II)I"⟩
abbrev cX7_costOf : ByteArray := prog_9_method_34_code
def yX7_costOf : MethodName := ⟨RX7, "costOf", "(II)I"⟩
abbrev cX7_lawNow : ByteArray := prog_9_method_35_code
def yX7_lawNow : MethodName := ⟨RX7, "lawNow", "()I"⟩
abbrev cX7_scaleNow : ByteArray := prog_9_method_36_code
def yX7_scaleNow : MethodName := ⟨RX7, "scaleNow", "()I"⟩
abbrev cX7_isAhead : ByteArray := prog_9_method_37_code
def yX7_isAhead : MethodName := ⟨RX7, "isAhead", "(III)Z"⟩
abbrev cX7_bakerNow : ByteArray := prog_9_method_38_code
def yX7_bakerNow : MethodName := ⟨RX7, "bakerNow", "()I"⟩
abbrev cX7_laySupper : ByteArray := prog_9_method_39_code
def yX7_laySupper : MethodName := ⟨RX7, "laySupper", "()V"⟩
abbrev cX7_least : ByteArray := prog_9_method_40_code
def yX7_least : MethodName := ⟨RX7, "least", "(II)I"⟩
abbrev cX7_crumb : ByteArray := prog_9_method_41_code
def yX7_crumb : MethodName := ⟨RX7, "crumb", "(I)I"⟩
abbrev cX7_plainWish : ByteArray := prog_9_method_42_code
def yX7_plainWish : MethodName := ⟨RX7, "plainWish", "(I)I"⟩
abbrev cX7_bestWish : ByteArray := prog_9_method_43_code
def yX7_bestWish : MethodName := ⟨RX7, "bestWish", "(I)I"⟩
abbrev cX7_wishOf : ByteArray := prog_9_method_44_code
def yX7_wishOf : MethodName := ⟨RX7, "wishOf", "(I)I"⟩
abbrev cX7_layWishes : ByteArray := prog_9_method_45_code
def yX7_layWishes : MethodName := ⟨RX7, "layWishes", "()V"⟩
abbrev cX7_goSupper : ByteArray := prog_9_method_46_code
def yX7_goSupper : MethodName := ⟨RX7, "goSupper", "()V"⟩
abbrev cX7_supper : ByteArray := prog_9_method_47_code
def yX7_supper : MethodName := ⟨RX7, "supper", "()I"⟩
abbrev cX7_of : ByteArray := prog_9_method_48_code
def yX7_of : MethodName := ⟨RX7, "of", "(II)I"⟩
abbrev cX7_told : ByteArray := prog_9_method_49_code
def yX7_told : MethodName := ⟨RX7, "told", "(I)I"⟩
abbrev cX7_keep : ByteArray := prog_9_method_50_code
def yX7_keep : MethodName := ⟨RX7, "keep", "()V"⟩
abbrev cX7_putBack : ByteArray := prog_9_method_51_code
def yX7_putBack : MethodName := ⟨RX7, "putBack", "()V"⟩
abbrev cX7_goOn : ByteArray := prog_9_method_52_code
def yX7_goOn : MethodName := ⟨RX7, "goOn", "(I)V"⟩
abbrev cX7_run : ByteArray := prog_9_method_53_code
def yX7_run : MethodName := ⟨RX7, "run", "(II)I"⟩
abbrev cX7_isAsKept : ByteArray := prog_9_method_54_code
def yX7_isAsKept : MethodName := ⟨RX7, "isAsKept", "()Z"⟩
abbrev cX7_round : ByteArray := prog_9_method_55_code
def yX7_round : MethodName := ⟨RX7, "round", "()I"⟩
abbrev cX7_layRow : ByteArray := prog_9_method_56_code
def yX7_layRow : MethodName := ⟨RX7, "layRow", "(I)V"⟩
abbrev cX7_rowsNow : ByteArray := prog_9_method_57_code
def yX7_rowsNow : MethodName := ⟨RX7, "rowsNow", "()I"⟩
abbrev cX7_isStill : ByteArray := prog_9_method_58_code
def yX7_isStill : MethodName := ⟨RX7, "isStill", "(I)Z"⟩
abbrev cX7_digit : ByteArray := prog_9_method_59_code
def yX7_digit : MethodName := ⟨RX7, "digit", "(II)I"⟩
abbrev cX7_still : ByteArray := prog_9_method_60_code
def yX7_still : MethodName := ⟨RX7, "still", "(I)I"⟩
abbrev cX7_allBest : ByteArray := prog_9_method_61_code
def yX7_allBest : MethodName := ⟨RX7, "allBest", "(I)I"⟩
abbrev cX7_allGlad : ByteArray := prog_9_method_62_code
def yX7_allGlad : MethodName := ⟨RX7, "allGlad", "()I"⟩
abbrev cX7_laws : ByteArray := prog_9_method_63_code
def yX7_laws : MethodName := ⟨RX7, "laws", "(I)I"⟩
abbrev cX7_gladBehind : ByteArray := prog_9_method_64_code
def yX7_gladBehind : MethodName := ⟨RX7, "gladBehind", "(II)I"⟩
abbrev cX7_cook : ByteArray := prog_9_method_65_code
def yX7_cook : MethodName := ⟨RX7, "cook", "(II)I"⟩
abbrev cX7_isEnough : ByteArray := prog_9_method_66_code
def yX7_isEnough : MethodName := ⟨RX7, "isEnough", "(II)Z"⟩
abbrev cX7_thin : ByteArray := prog_9_method_67_code
def yX7_thin : MethodName := ⟨RX7, "thin", "(I)I"⟩
abbrev cX7_pact : ByteArray := prog_9_method_68_code
def yX7_pact : MethodName := ⟨RX7, "pact", "(III)I"⟩
abbrev cX7_guest : ByteArray := prog_9_method_69_code
def yX7_guest : MethodName := ⟨RX7, "guest", "(I)I"⟩
abbrev cX7_divisor : ByteArray := prog_9_method_70_code
def yX7_divisor : MethodName := ⟨RX7, "divisor", "(JJ)J"⟩
abbrev cX7_lowest : ByteArray := prog_9_method_71_code
def yX7_lowest : MethodName := ⟨RX7, "lowest", "(JJI)J"⟩
abbrev cX7_odds : ByteArray := prog_9_method_72_code
def yX7_odds : MethodName := ⟨RX7, "odds", "(II)J"⟩
abbrev cX7_mean : ByteArray := prog_9_method_73_code
def yX7_mean : MethodName := ⟨RX7, "mean", "(II)J"⟩
abbrev cX7_book : ByteArray := prog_9_method_74_code
def yX7_book : MethodName := ⟨RX7, "book", "(I)I"⟩
abbrev cX7_looked : ByteArray := prog_9_method_75_code
def yX7_looked : MethodName := ⟨RX7, "looked", "()I"⟩
abbrev cX7_judge : ByteArray := prog_9_method_76_code
def yX7_judge : MethodName := ⟨RX7, "judge", "(II)I"⟩
abbrev cX7_image : ByteArray := prog_9_method_77_code
def yX7_image : MethodName := ⟨RX7, "image", "()I"⟩
abbrev cX7_undo : ByteArray := prog_9_method_78_code
def yX7_undo : MethodName := ⟨RX7, "undo", "()I"⟩
abbrev cX7_body : ByteArray := prog_9_method_79_code
def yX7_body : MethodName := ⟨RX7, "body", "(I)V"⟩
abbrev cX7_eaterEats : ByteArray := prog_9_method_80_code
def yX7_eaterEats : MethodName := ⟨RX7, "eaterEats", "(II)I"⟩
abbrev cX7_eatsAct : ByteArray := prog_9_method_81_code
def yX7_eatsAct : MethodName := ⟨RX7, "eatsAct", "(II)I"⟩
abbrev cX7_eaterBakes : ByteArray := prog_9_method_82_code
def yX7_eaterBakes : MethodName := ⟨RX7, "eaterBakes", "(II)I"⟩
abbrev cX7_hungryBakes : ByteArray := prog_9_method_83_code
def yX7_hungryBakes : MethodName := ⟨RX7, "hungryBakes", "(II)I"⟩
abbrev cX7_bakesAct : ByteArray := prog_9_method_84_code
def yX7_bakesAct : MethodName := ⟨RX7, "bakesAct", "(II)I"⟩
abbrev cX7_eaterTells : ByteArray := prog_9_method_85_code
def yX7_eaterTells : MethodName := ⟨RX7, "eaterTells", "(II)I"⟩
abbrev cX7_tellsAct : ByteArray := prog_9_method_86_code
def yX7_tellsAct : MethodName := ⟨RX7, "tellsAct", "(II)I"⟩
abbrev cX7_act : ByteArray := prog_9_method_87_code
def yX7_act : MethodName := ⟨RX7, "act", "(III)I"⟩
abbrev cX7_trace : ByteArray := prog_9_method_88_code
def yX7_trace : MethodName := ⟨RX7, "trace", "(I)I"⟩
abbrev cX7_taken : ByteArray := prog_9_method_89_code
def yX7_taken : MethodName := ⟨RX7, "taken", "(II)I"⟩
abbrev cX7_count : ByteArray := prog_9_method_90_code
def yX7_count : MethodName := ⟨RX7, "count", "(I)I"⟩
abbrev cX7_isTape : ByteArray := prog_9_method_91_code
def yX7_isTape : MethodName := ⟨RX7, "isTape", "(I)Z"⟩
abbrev cX7_tape : ByteArray := prog_9_method_92_code
def yX7_tape : MethodName := ⟨RX7, "tape", "(III)I"⟩
abbrev cX7_narrow : ByteArray := prog_9_method_93_code
def yX7_narrow : MethodName := ⟨RX7, "narrow", "(IJ)J"⟩
abbrev cX7_item : ByteArray := prog_9_method_94_code
def yX7_item : MethodName := ⟨RX7, "item", "(IIJ)I"⟩
abbrev cX7_read : ByteArray := prog_9_method_95_code
def yX7_read : MethodName := ⟨RX7, "read", "(II)J"⟩
abbrev cX7_shift : ByteArray := prog_9_method_96_code
def yX7_shift : MethodName := ⟨RX7, "shift", "(IIIII)I"⟩
def RJx145de : String := "java/io/Serializable"
def TJx145de : u_T := fun k => match k with
  | _ => ("", "", "", false)
def tyJx145de : Nat → FieldType := fun k => match k with
  | _ => .int
abbrev wsJx145de0 : List Cond := u_ws RJx145de TJx145de 0
theorem nmJx145de : ∀ a, a < 0 → ∀ b, b < 0 → a ≠ b → (TJx145de a).2.1 ≠ (TJx145de b).2.1 := by decide +kernel
theorem tyJx145de_ok : ∀ k, k < 0 → parseFieldDescriptor (TJx145de k).2.2.1 = some (tyJx145de k) := by decide +kernel
def RJx9f9b0 : String := "java/lang/CharSequence"
def TJx9f9b0 : u_T := fun k => match k with
  | _ => ("", "", "", false)
def tyJx9f9b0 : Nat → FieldType := fun k => match k with
  | _ => .int
abbrev wsJx9f9b00 : List Cond := u_ws RJx9f9b0 TJx9f9b0 0
theorem nmJx9f9b0 : ∀ a, a < 0 → ∀ b, b < 0 → a ≠ b → (TJx9f9b0 a).2.1 ≠ (TJx9f9b0 b).2.1 := by decide +kernel
theorem tyJx9f9b0_ok : ∀ k, k < 0 → parseFieldDescriptor (TJx9f9b0 k).2.2.1 = some (tyJx9f9b0 k) := by decide +kernel
def RJ11 : String := "java/lang/Character"
def TJ11 : u_T := fun k => match k with
  | _ => ("", "", "", false)
def tyJ11 : Nat → FieldType := fun k => match k with
  | _ => .int
abbrev wsJ110 : List Cond := u_ws RJ11 TJ11 0
theorem nmJ11 : ∀ a, a < 0 → ∀ b, b < 0 → a ≠ b → (TJ11 a).2.1 ≠ (TJ11 b).2.1 := by decide +kernel
theorem tyJ11_ok : ∀ k, k < 0 → parseFieldDescriptor (TJ11 k).2.2.1 = some (tyJ11 k) := by decide +kernel
abbrev cJ11_isValidCodePoint_9a6ad : ByteArray := prog_10_method_11_code
def yJ11_isValidCodePoint_9a6ad : MethodName := ⟨RJ11, "isValidCodePoint", "(I)Z"⟩
abbrev cJ11_highSurrogate_5068e : ByteArray := prog_10_method_28_code
def yJ11_highSurrogate_5068e : MethodName := ⟨RJ11, "highSurrogate", "(I)C"⟩
abbrev cJ11_lowSurrogate_5068e : ByteArray := prog_10_method_29_code
def yJ11_lowSurrogate_5068e : MethodName := ⟨RJ11, "lowSurrogate", "(I)C"⟩
def RJxb160c : String := "java/lang/Comparable"
def TJxb160c : u_T := fun k => match k with
  | _ => ("", "", "", false)
def tyJxb160c : Nat → FieldType := fun k => match k with
  | _ => .int
abbrev wsJxb160c0 : List Cond := u_ws RJxb160c TJxb160c 0
theorem nmJxb160c : ∀ a, a < 0 → ∀ b, b < 0 → a ≠ b → (TJxb160c a).2.1 ≠ (TJxb160c b).2.1 := by decide +kernel
theorem tyJxb160c_ok : ∀ k, k < 0 → parseFieldDescriptor (TJxb160c k).2.2.1 = some (tyJxb160c k) := by decide +kernel
def RJ9 : String := "java/lang/Math"
def TJ9 : u_T := fun k => match k with
  | _ => ("", "", "", false)
def tyJ9 : Nat → FieldType := fun k => match k with
  | _ => .int
abbrev wsJ90 : List Cond := u_ws RJ9 TJ9 0
theorem nmJ9 : ∀ a, a < 0 → ∀ b, b < 0 → a ≠ b → (TJ9 a).2.1 ≠ (TJ9 b).2.1 := by decide +kernel
theorem tyJ9_ok : ∀ k, k < 0 → parseFieldDescriptor (TJ9 k).2.2.1 = some (tyJ9 k) := by decide +kernel
abbrev cJ9_abs_067f4 : ByteArray := prog_11_method_61_code
def yJ9_abs_067f4 : MethodName := ⟨RJ9, "abs", "(J)J"⟩
abbrev cJ9_max_7cf53 : ByteArray := prog_11_method_65_code
def yJ9_max_7cf53 : MethodName := ⟨RJ9, "max", "(II)I"⟩
abbrev cJ9_max_f86c9 : ByteArray := prog_11_method_66_code
def yJ9_max_f86c9 : MethodName := ⟨RJ9, "max", "(JJ)J"⟩
abbrev cJ9_min_7cf53 : ByteArray := prog_11_method_69_code
def yJ9_min_7cf53 : MethodName := ⟨RJ9, "min", "(II)I"⟩
def RJ0 : String := "java/lang/String"
def TJ0 : u_T := fun k => match k with
  | _ => ("", "", "", false)
def tyJ0 : Nat → FieldType := fun k => match k with
  | _ => .int
abbrev wsJ00 : List Cond := u_ws RJ0 TJ0 0
theorem nmJ0 : ∀ a, a < 0 → ∀ b, b < 0 → a ≠ b → (TJ0 a).2.1 ≠ (TJ0 b).2.1 := by decide +kernel
theorem tyJ0_ok : ∀ k, k < 0 → parseFieldDescriptor (TJ0 k).2.2.1 = some (tyJ0 k) := by decide +kernel
abbrev cJ0_length_8abf5 : ByteArray := prog_12_method_54_code
def yJ0_length_8abf5 : MethodName := ⟨RJ0, "length", "()I"⟩
abbrev cJ0_charAt_5068e : ByteArray := prog_12_method_56_code
def yJ0_charAt_5068e : MethodName := ⟨RJ0, "charAt", "(I)C"⟩
abbrev cJ0_indexOf_0f7a4 : ByteArray := prog_12_method_79_code
def yJ0_indexOf_0f7a4 : MethodName := ⟨RJ0, "indexOf", "(I)I"⟩
abbrev cJ0_indexOf_7cf53 : ByteArray := prog_12_method_80_code
def yJ0_indexOf_7cf53 : MethodName := ⟨RJ0, "indexOf", "(II)I"⟩
abbrev cJ0_coder_7d493 : ByteArray := prog_12_method_152_code
def yJ0_coder_7d493 : MethodName := ⟨RJ0, "coder", "()B"⟩
abbrev cJ0_isLatin1_aae02 : ByteArray := prog_12_method_154_code
def yJ0_isLatin1_aae02 : MethodName := ⟨RJ0, "isLatin1", "()Z"⟩
abbrev cJ0_checkIndex_df160 : ByteArray := prog_12_method_155_code
def yJ0_checkIndex_df160 : MethodName := ⟨RJ0, "checkIndex", "(II)V"⟩
abbrev cJ0_checkBoundsBeginEnd_23922 : ByteArray := prog_12_method_158_code
def yJ0_checkBoundsBeginEnd_23922 : MethodName := ⟨RJ0, "checkBoundsBeginEnd", "(III)V"⟩
def RJ1 : String := "java/lang/StringLatin1"
def TJ1 : u_T := fun k => match k with
  | _ => ("", "", "", false)
def tyJ1 : Nat → FieldType := fun k => match k with
  | _ => .int
abbrev wsJ10 : List Cond := u_ws RJ1 TJ1 0
theorem nmJ1 : ∀ a, a < 0 → ∀ b, b < 0 → a ≠ b → (TJ1 a).2.1 ≠ (TJ1 b).2.1 := by decide +kernel
theorem tyJ1_ok : ∀ k, k < 0 → parseFieldDescriptor (TJ1 k).2.2.1 = some (tyJ1 k) := by decide +kernel
abbrev cJ1_charAt_3b067 : ByteArray := prog_13_method_2_code
def yJ1_charAt_3b067 : MethodName := ⟨RJ1, "charAt", "([BI)C"⟩
abbrev cJ1_canEncode_9a6ad : ByteArray := prog_13_method_4_code
def yJ1_canEncode_9a6ad : MethodName := ⟨RJ1, "canEncode", "(I)Z"⟩
abbrev cJ1_indexOf_4cfef : ByteArray := prog_13_method_22_code
def yJ1_indexOf_4cfef : MethodName := ⟨RJ1, "indexOf", "([BIII)I"⟩
abbrev cJ1_indexOfChar_4cfef : ByteArray := prog_13_method_23_code
def yJ1_indexOfChar_4cfef : MethodName := ⟨RJ1, "indexOfChar", "([BIII)I"⟩
def RJ2 : String := "java/lang/StringUTF16"
def TJ2 : u_T := fun k => match k with
  | _ => ("", "", "", false)
def tyJ2 : Nat → FieldType := fun k => match k with
  | _ => .int
abbrev wsJ20 : List Cond := u_ws RJ2 TJ2 0
theorem nmJ2 : ∀ a, a < 0 → ∀ b, b < 0 → a ≠ b → (TJ2 a).2.1 ≠ (TJ2 b).2.1 := by decide +kernel
theorem tyJ2_ok : ∀ k, k < 0 → parseFieldDescriptor (TJ2 k).2.2.1 = some (tyJ2 k) := by decide +kernel
abbrev cJ2_getChar_3b067 : ByteArray := prog_14_method_5_code
def yJ2_getChar_3b067 : MethodName := ⟨RJ2, "getChar", "([BI)C"⟩
abbrev cJ2_length_9d52b : ByteArray := prog_14_method_6_code
def yJ2_length_9d52b : MethodName := ⟨RJ2, "length", "([B)I"⟩
abbrev cJ2_indexOf_4cfef : ByteArray := prog_14_method_40_code
def yJ2_indexOf_4cfef : MethodName := ⟨RJ2, "indexOf", "([BIII)I"⟩
abbrev cJ2_indexOfChar_4cfef : ByteArray := prog_14_method_47_code
def yJ2_indexOfChar_4cfef : MethodName := ⟨RJ2, "indexOfChar", "([BIII)I"⟩
abbrev cJ2_indexOfCharUnsafe_4cfef : ByteArray := prog_14_method_48_code
def yJ2_indexOfCharUnsafe_4cfef : MethodName := ⟨RJ2, "indexOfCharUnsafe", "([BIII)I"⟩
abbrev cJ2_indexOfSupplementary_4cfef : ByteArray := prog_14_method_49_code
def yJ2_indexOfSupplementary_4cfef : MethodName := ⟨RJ2, "indexOfSupplementary", "([BIII)I"⟩
abbrev cJ2_charAt_3b067 : ByteArray := prog_14_method_83_code
def yJ2_charAt_3b067 : MethodName := ⟨RJ2, "charAt", "([BI)C"⟩
abbrev cJ2_checkIndex_2214a : ByteArray := prog_14_method_91_code
def yJ2_checkIndex_2214a : MethodName := ⟨RJ2, "checkIndex", "(I[B)V"⟩
abbrev cJ2_checkBoundsBeginEnd_d044e : ByteArray := prog_14_method_93_code
def yJ2_checkBoundsBeginEnd_d044e : MethodName := ⟨RJ2, "checkBoundsBeginEnd", "(II[B)V"⟩
def RJ10 : String := "java/lang/System"
def TJ10 : u_T := fun k => match k with
  | _ => ("", "", "", false)
def tyJ10 : Nat → FieldType := fun k => match k with
  | _ => .int
abbrev wsJ100 : List Cond := u_ws RJ10 TJ10 0
theorem nmJ10 : ∀ a, a < 0 → ∀ b, b < 0 → a ≠ b → (TJ10 a).2.1 ≠ (TJ10 b).2.1 := by decide +kernel
theorem tyJ10_ok : ∀ k, k < 0 → parseFieldDescriptor (TJ10 k).2.2.1 = some (tyJ10 k) := by decide +kernel
def RJxfd54e : String := "java/lang/constant/Constable"
def TJxfd54e : u_T := fun k => match k with
  | _ => ("", "", "", false)
def tyJxfd54e : Nat → FieldType := fun k => match k with
  | _ => .int
abbrev wsJxfd54e0 : List Cond := u_ws RJxfd54e TJxfd54e 0
theorem nmJxfd54e : ∀ a, a < 0 → ∀ b, b < 0 → a ≠ b → (TJxfd54e a).2.1 ≠ (TJxfd54e b).2.1 := by decide +kernel
theorem tyJxfd54e_ok : ∀ k, k < 0 → parseFieldDescriptor (TJxfd54e k).2.2.1 = some (tyJxfd54e k) := by decide +kernel
def RJx3cf43 : String := "java/lang/constant/ConstantDesc"
def TJx3cf43 : u_T := fun k => match k with
  | _ => ("", "", "", false)
def tyJx3cf43 : Nat → FieldType := fun k => match k with
  | _ => .int
abbrev wsJx3cf430 : List Cond := u_ws RJx3cf43 TJx3cf43 0
theorem nmJx3cf43 : ∀ a, a < 0 → ∀ b, b < 0 → a ≠ b → (TJx3cf43 a).2.1 ≠ (TJx3cf43 b).2.1 := by decide +kernel
theorem tyJx3cf43_ok : ∀ k, k < 0 → parseFieldDescriptor (TJx3cf43 k).2.2.1 = some (tyJx3cf43 k) := by decide +kernel
def RJ7 : String := "java/util/Arrays"
def TJ7 : u_T := fun k => match k with
  | _ => ("", "", "", false)
def tyJ7 : Nat → FieldType := fun k => match k with
  | _ => .int
abbrev wsJ70 : List Cond := u_ws RJ7 TJ7 0
theorem nmJ7 : ∀ a, a < 0 → ∀ b, b < 0 → a ≠ b → (TJ7 a).2.1 ≠ (TJ7 b).2.1 := by decide +kernel
theorem tyJ7_ok : ∀ k, k < 0 → parseFieldDescriptor (TJ7 k).2.2.1 = some (tyJ7 k) := by decide +kernel
abbrev cJ7_fill_d0a16 : ByteArray := prog_16_method_101_code
def yJ7_fill_d0a16 : MethodName := ⟨RJ7, "fill", "([JJ)V"⟩
abbrev cJ7_fill_53178 : ByteArray := prog_16_method_103_code
def yJ7_fill_53178 : MethodName := ⟨RJ7, "fill", "([II)V"⟩
def RJ3 : String := "jdk/internal/util/Preconditions"
def TJ3 : u_T := fun k => match k with
  | _ => ("", "", "", false)
def tyJ3 : Nat → FieldType := fun k => match k with
  | _ => .int
abbrev wsJ30 : List Cond := u_ws RJ3 TJ3 0
theorem nmJ3 : ∀ a, a < 0 → ∀ b, b < 0 → a ≠ b → (TJ3 a).2.1 ≠ (TJ3 b).2.1 := by decide +kernel
theorem tyJ3_ok : ∀ k, k < 0 → parseFieldDescriptor (TJ3 k).2.2.1 = some (tyJ3 k) := by decide +kernel
abbrev cJ3_checkIndex_8e157 : ByteArray := prog_17_method_11_code
def yJ3_checkIndex_8e157 : MethodName := ⟨RJ3, "checkIndex", "(IILjava/util/function/BiFunction;)I"⟩
abbrev cJ3_checkFromToIndex_8c36e : ByteArray := prog_17_method_12_code
def yJ3_checkFromToIndex_8c36e : MethodName := ⟨RJ3, "checkFromToIndex", "(IIILjava/util/function/BiFunction;)I"⟩
def RL : String := "AteLeastLaw"
abbrev cL_law : ByteArray := code
abbrev vwCl : List vw_C := [(RX0, TX0, 5), (RX1, TX1, 12), (RX2, TX2, 5), (RX3, TX3, 17), (RX4, TX4, 13), (RX5, TX5, 3), (RX6, TX6, 13), (RX7, TX7, 66)]
end
section
theorem dX0_init_0 : decode cX0_init 0 = .ok (.aload_n 0, 1) := by decide +kernel
theorem dX0_init_1 : decode cX0_init 1 = .ok (.invokespecial 3, 3) := by decide +kernel
theorem dX0_init_4 : decode cX0_init 4 = .ok (.aload_n 0, 1) := by decide +kernel
theorem dX0_init_5 : decode cX0_init 5 = .ok (.bipush 20, 2) := by decide +kernel
theorem dX0_init_7 : decode cX0_init 7 = .ok (.newarray .int, 2) := by decide +kernel
theorem dX0_init_9 : decode cX0_init 9 = .ok (.putfield 9, 3) := by decide +kernel
theorem dX0_init_12 : decode cX0_init 12 = .ok (.aload_n 0, 1) := by decide +kernel
theorem dX0_init_13 : decode cX0_init 13 = .ok (.iconst 0, 1) := by decide +kernel
theorem dX0_init_14 : decode cX0_init 14 = .ok (.putfield 15, 3) := by decide +kernel
theorem dX0_init_17 : decode cX0_init 17 = .ok (.aload_n 0, 1) := by decide +kernel
theorem dX0_init_18 : decode cX0_init 18 = .ok (.iconst 0, 1) := by decide +kernel
theorem dX0_init_19 : decode cX0_init 19 = .ok (.putfield 19, 3) := by decide +kernel
theorem dX0_init_22 : decode cX0_init 22 = .ok (.aload_n 0, 1) := by decide +kernel
theorem dX0_init_23 : decode cX0_init 23 = .ok (.iconst 0, 1) := by decide +kernel
theorem dX0_init_24 : decode cX0_init 24 = .ok (.putfield 22, 3) := by decide +kernel
theorem dX0_init_27 : decode cX0_init 27 = .ok (.aload_n 0, 1) := by decide +kernel
theorem dX0_init_28 : decode cX0_init 28 = .ok (.iconst 0, 1) := by decide +kernel
theorem dX0_init_29 : decode cX0_init 29 = .ok (.putfield 25, 3) := by decide +kernel
theorem dX0_init_32 : decode cX0_init 32 = .ok (.return_, 1) := by decide +kernel
theorem dX0_does_0 : decode cX0_does 0 = .ok (.aload_n 0, 1) := by decide +kernel
theorem dX0_does_1 : decode cX0_does 1 = .ok (.iload_n 3, 1) := by decide +kernel
theorem dX0_does_2 : decode cX0_does 2 = .ok (.putfield 19, 3) := by decide +kernel
theorem dX0_does_5 : decode cX0_does 5 = .ok (.aload_n 0, 1) := by decide +kernel
theorem dX0_does_6 : decode cX0_does 6 = .ok (.iload 4, 2) := by decide +kernel
theorem dX0_does_8 : decode cX0_does 8 = .ok (.putfield 22, 3) := by decide +kernel
theorem dX0_does_11 : decode cX0_does 11 = .ok (.aload_n 0, 1) := by decide +kernel
theorem dX0_does_12 : decode cX0_does 12 = .ok (.iload 5, 2) := by decide +kernel
theorem dX0_does_14 : decode cX0_does 14 = .ok (.putfield 25, 3) := by decide +kernel
theorem dX0_does_17 : decode cX0_does 17 = .ok (.aload_n 0, 1) := by decide +kernel
theorem dX0_does_18 : decode cX0_does 18 = .ok (.iload_n 1, 1) := by decide +kernel
theorem dX0_does_19 : decode cX0_does 19 = .ok (.iload_n 2, 1) := by decide +kernel
theorem dX0_does_20 : decode cX0_does 20 = .ok (.iconst 0, 1) := by decide +kernel
theorem dX0_does_21 : decode cX0_does 21 = .ok (.invokevirtual 28, 3) := by decide +kernel
theorem dX0_does_24 : decode cX0_does 24 = .ok (.ireturn, 1) := by decide +kernel
theorem dX0_isUnder_0 : decode cX0_isUnder 0 = .ok (.iload_n 1, 1) := by decide +kernel
theorem dX0_isUnder_1 : decode cX0_isUnder 1 = .ok (.istore_n 3, 1) := by decide +kernel
theorem dX0_isUnder_2 : decode cX0_isUnder 2 = .ok (.iconst 0, 1) := by decide +kernel
theorem dX0_isUnder_3 : decode cX0_isUnder 3 = .ok (.istore 4, 2) := by decide +kernel
theorem dX0_isUnder_5 : decode cX0_isUnder 5 = .ok (.iload 4, 2) := by decide +kernel
theorem dX0_isUnder_7 : decode cX0_isUnder 7 = .ok (.getstatic 32, 3) := by decide +kernel
theorem dX0_isUnder_10 : decode cX0_isUnder 10 = .ok (.arraylength, 1) := by decide +kernel
theorem dX0_isUnder_11 : decode cX0_isUnder 11 = .ok (.if_icmp .ge 24, 3) := by decide +kernel
theorem dX0_isUnder_14 : decode cX0_isUnder 14 = .ok (.iload_n 3, 1) := by decide +kernel
theorem dX0_isUnder_15 : decode cX0_isUnder 15 = .ok (.ifCond .lt 20, 3) := by decide +kernel
theorem dX0_isUnder_18 : decode cX0_isUnder 18 = .ok (.iload_n 3, 1) := by decide +kernel
theorem dX0_isUnder_19 : decode cX0_isUnder 19 = .ok (.iload_n 2, 1) := by decide +kernel
theorem dX0_isUnder_20 : decode cX0_isUnder 20 = .ok (.if_icmp .eq 15, 3) := by decide +kernel
theorem dX0_isUnder_23 : decode cX0_isUnder 23 = .ok (.getstatic 32, 3) := by decide +kernel
theorem dX0_isUnder_26 : decode cX0_isUnder 26 = .ok (.iload_n 3, 1) := by decide +kernel
theorem dX0_isUnder_27 : decode cX0_isUnder 27 = .ok (.iaload, 1) := by decide +kernel
theorem dX0_isUnder_28 : decode cX0_isUnder 28 = .ok (.istore_n 3, 1) := by decide +kernel
theorem dX0_isUnder_29 : decode cX0_isUnder 29 = .ok (.iinc 4 1, 3) := by decide +kernel
theorem dX0_isUnder_32 : decode cX0_isUnder 32 = .ok (.goto (-27), 3) := by decide +kernel
theorem dX0_isUnder_35 : decode cX0_isUnder 35 = .ok (.iload_n 3, 1) := by decide +kernel
theorem dX0_isUnder_36 : decode cX0_isUnder 36 = .ok (.iload_n 2, 1) := by decide +kernel
theorem dX0_isUnder_37 : decode cX0_isUnder 37 = .ok (.if_icmp .ne 7, 3) := by decide +kernel
theorem dX0_isUnder_40 : decode cX0_isUnder 40 = .ok (.iconst 1, 1) := by decide +kernel
theorem dX0_isUnder_41 : decode cX0_isUnder 41 = .ok (.goto 4, 3) := by decide +kernel
theorem dX0_isUnder_44 : decode cX0_isUnder 44 = .ok (.iconst 0, 1) := by decide +kernel
theorem dX0_isUnder_45 : decode cX0_isUnder 45 = .ok (.ireturn, 1) := by decide +kernel
theorem dX0_own_0 : decode cX0_own 0 = .ok (.aload_n 0, 1) := by decide +kernel
theorem dX0_own_1 : decode cX0_own 1 = .ok (.getstatic 35, 3) := by decide +kernel
theorem dX0_own_4 : decode cX0_own 4 = .ok (.aload_n 0, 1) := by decide +kernel
theorem dX0_own_5 : decode cX0_own 5 = .ok (.getfield 19, 3) := by decide +kernel
theorem dX0_own_8 : decode cX0_own 8 = .ok (.iconst 3, 1) := by decide +kernel
theorem dX0_own_9 : decode cX0_own 9 = .ok (.imul, 1) := by decide +kernel
theorem dX0_own_10 : decode cX0_own 10 = .ok (.iload_n 1, 1) := by decide +kernel
theorem dX0_own_11 : decode cX0_own 11 = .ok (.iadd, 1) := by decide +kernel
theorem dX0_own_12 : decode cX0_own 12 = .ok (.iaload, 1) := by decide +kernel
theorem dX0_own_13 : decode cX0_own 13 = .ok (.iload_n 2, 1) := by decide +kernel
theorem dX0_own_14 : decode cX0_own 14 = .ok (.iload_n 3, 1) := by decide +kernel
theorem dX0_own_15 : decode cX0_own 15 = .ok (.iconst 1, 1) := by decide +kernel
theorem dX0_own_16 : decode cX0_own 16 = .ok (.iadd, 1) := by decide +kernel
theorem dX0_own_17 : decode cX0_own 17 = .ok (.invokevirtual 38, 3) := by decide +kernel
theorem dX0_own_20 : decode cX0_own 20 = .ok (.ireturn, 1) := by decide +kernel
theorem dX0_above_0 : decode cX0_above 0 = .ok (.iconst 0, 1) := by decide +kernel
theorem dX0_above_1 : decode cX0_above 1 = .ok (.getstatic 32, 3) := by decide +kernel
theorem dX0_above_4 : decode cX0_above 4 = .ok (.iload_n 1, 1) := by decide +kernel
theorem dX0_above_5 : decode cX0_above 5 = .ok (.bipush 10, 2) := by decide +kernel
theorem dX0_above_7 : decode cX0_above 7 = .ok (.idiv, 1) := by decide +kernel
theorem dX0_above_8 : decode cX0_above 8 = .ok (.iconst 1, 1) := by decide +kernel
theorem dX0_above_9 : decode cX0_above 9 = .ok (.isub, 1) := by decide +kernel
theorem dX0_above_10 : decode cX0_above 10 = .ok (.iaload, 1) := by decide +kernel
theorem dX0_above_11 : decode cX0_above 11 = .ok (.invokestatic 41, 3) := by decide +kernel
theorem dX0_above_14 : decode cX0_above 14 = .ok (.istore 5, 2) := by decide +kernel
theorem dX0_above_16 : decode cX0_above 16 = .ok (.aload_n 0, 1) := by decide +kernel
theorem dX0_above_17 : decode cX0_above 17 = .ok (.getstatic 35, 3) := by decide +kernel
theorem dX0_above_20 : decode cX0_above 20 = .ok (.iload 5, 2) := by decide +kernel
theorem dX0_above_22 : decode cX0_above 22 = .ok (.iconst 3, 1) := by decide +kernel
theorem dX0_above_23 : decode cX0_above 23 = .ok (.imul, 1) := by decide +kernel
theorem dX0_above_24 : decode cX0_above 24 = .ok (.iload_n 2, 1) := by decide +kernel
theorem dX0_above_25 : decode cX0_above 25 = .ok (.iadd, 1) := by decide +kernel
theorem dX0_above_26 : decode cX0_above 26 = .ok (.iaload, 1) := by decide +kernel
theorem dX0_above_27 : decode cX0_above 27 = .ok (.iload_n 3, 1) := by decide +kernel
theorem dX0_above_28 : decode cX0_above 28 = .ok (.iload 4, 2) := by decide +kernel
theorem dX0_above_30 : decode cX0_above 30 = .ok (.iconst 1, 1) := by decide +kernel
theorem dX0_above_31 : decode cX0_above 31 = .ok (.iadd, 1) := by decide +kernel
theorem dX0_above_32 : decode cX0_above 32 = .ok (.invokevirtual 38, 3) := by decide +kernel
theorem dX0_above_35 : decode cX0_above 35 = .ok (.ireturn, 1) := by decide +kernel
theorem dX0_runs_0 : decode cX0_runs 0 = .ok (.iload_n 3, 1) := by decide +kernel
theorem dX0_runs_1 : decode cX0_runs 1 = .ok (.bipush 20, 2) := by decide +kernel
theorem dX0_runs_3 : decode cX0_runs 3 = .ok (.if_icmp .le 5, 3) := by decide +kernel
theorem dX0_runs_6 : decode cX0_runs 6 = .ok (.iconst 0, 1) := by decide +kernel
theorem dX0_runs_7 : decode cX0_runs 7 = .ok (.ireturn, 1) := by decide +kernel
theorem dX0_runs_8 : decode cX0_runs 8 = .ok (.aload_n 0, 1) := by decide +kernel
theorem dX0_runs_9 : decode cX0_runs 9 = .ok (.getfield 15, 3) := by decide +kernel
theorem dX0_runs_12 : decode cX0_runs 12 = .ok (.bipush 20, 2) := by decide +kernel
theorem dX0_runs_14 : decode cX0_runs 14 = .ok (.if_icmp .ge 13, 3) := by decide +kernel
theorem dX0_runs_17 : decode cX0_runs 17 = .ok (.aload_n 0, 1) := by decide +kernel
theorem dX0_runs_18 : decode cX0_runs 18 = .ok (.getfield 9, 3) := by decide +kernel
theorem dX0_runs_21 : decode cX0_runs 21 = .ok (.aload_n 0, 1) := by decide +kernel
theorem dX0_runs_22 : decode cX0_runs 22 = .ok (.getfield 15, 3) := by decide +kernel
theorem dX0_runs_25 : decode cX0_runs 25 = .ok (.iload_n 1, 1) := by decide +kernel
theorem dX0_runs_26 : decode cX0_runs 26 = .ok (.iastore, 1) := by decide +kernel
theorem dX0_runs_27 : decode cX0_runs 27 = .ok (.aload_n 0, 1) := by decide +kernel
theorem dX0_runs_28 : decode cX0_runs 28 = .ok (.dup, 1) := by decide +kernel
theorem dX0_runs_29 : decode cX0_runs 29 = .ok (.getfield 15, 3) := by decide +kernel
theorem dX0_runs_32 : decode cX0_runs 32 = .ok (.iconst 1, 1) := by decide +kernel
theorem dX0_runs_33 : decode cX0_runs 33 = .ok (.iadd, 1) := by decide +kernel
theorem dX0_runs_34 : decode cX0_runs 34 = .ok (.putfield 15, 3) := by decide +kernel
theorem dX0_runs_37 : decode cX0_runs 37 = .ok (.iload_n 1, 1) := by decide +kernel
theorem dX0_runs_38 : decode cX0_runs 38 = .ok (.lookupswitch 213 #[(10, 90), (11, 97), (12, 110), (20, 120), (30, 132), (40, 143), (50, 160), (51, 170), (60, 181), (70, 195)], 90) := by decide +kernel
theorem dX0_runs_128 : decode cX0_runs 128 = .ok (.iload_n 2, 1) := by decide +kernel
theorem dX0_runs_129 : decode cX0_runs 129 = .ok (.aload_n 0, 1) := by decide +kernel
theorem dX0_runs_130 : decode cX0_runs 130 = .ok (.getfield 22, 3) := by decide +kernel
theorem dX0_runs_133 : decode cX0_runs 133 = .ok (.iadd, 1) := by decide +kernel
theorem dX0_runs_134 : decode cX0_runs 134 = .ok (.ireturn, 1) := by decide +kernel
theorem dX0_runs_135 : decode cX0_runs 135 = .ok (.aload_n 0, 1) := by decide +kernel
theorem dX0_runs_136 : decode cX0_runs 136 = .ok (.iconst 0, 1) := by decide +kernel
theorem dX0_runs_137 : decode cX0_runs 137 = .ok (.iload_n 2, 1) := by decide +kernel
theorem dX0_runs_138 : decode cX0_runs 138 = .ok (.iload_n 3, 1) := by decide +kernel
theorem dX0_runs_139 : decode cX0_runs 139 = .ok (.invokevirtual 28, 3) := by decide +kernel
theorem dX0_runs_142 : decode cX0_runs 142 = .ok (.aload_n 0, 1) := by decide +kernel
theorem dX0_runs_143 : decode cX0_runs 143 = .ok (.getfield 25, 3) := by decide +kernel
theorem dX0_runs_146 : decode cX0_runs 146 = .ok (.isub, 1) := by decide +kernel
theorem dX0_runs_147 : decode cX0_runs 147 = .ok (.ireturn, 1) := by decide +kernel
theorem dX0_runs_148 : decode cX0_runs 148 = .ok (.aload_n 0, 1) := by decide +kernel
theorem dX0_runs_149 : decode cX0_runs 149 = .ok (.iconst 1, 1) := by decide +kernel
theorem dX0_runs_150 : decode cX0_runs 150 = .ok (.iload_n 2, 1) := by decide +kernel
theorem dX0_runs_151 : decode cX0_runs 151 = .ok (.iload_n 3, 1) := by decide +kernel
theorem dX0_runs_152 : decode cX0_runs 152 = .ok (.invokevirtual 28, 3) := by decide +kernel
theorem dX0_runs_155 : decode cX0_runs 155 = .ok (.iconst 2, 1) := by decide +kernel
theorem dX0_runs_156 : decode cX0_runs 156 = .ok (.imul, 1) := by decide +kernel
theorem dX0_runs_157 : decode cX0_runs 157 = .ok (.ireturn, 1) := by decide +kernel
theorem dX0_runs_158 : decode cX0_runs 158 = .ok (.aload_n 0, 1) := by decide +kernel
theorem dX0_runs_159 : decode cX0_runs 159 = .ok (.iload_n 1, 1) := by decide +kernel
theorem dX0_runs_160 : decode cX0_runs 160 = .ok (.iconst 1, 1) := by decide +kernel
theorem dX0_runs_161 : decode cX0_runs 161 = .ok (.iload_n 2, 1) := by decide +kernel
theorem dX0_runs_162 : decode cX0_runs 162 = .ok (.iload_n 3, 1) := by decide +kernel
theorem dX0_runs_163 : decode cX0_runs 163 = .ok (.invokevirtual 47, 3) := by decide +kernel
theorem dX0_runs_166 : decode cX0_runs 166 = .ok (.bipush 6, 2) := by decide +kernel
theorem dX0_runs_168 : decode cX0_runs 168 = .ok (.ixor, 1) := by decide +kernel
theorem dX0_runs_169 : decode cX0_runs 169 = .ok (.ireturn, 1) := by decide +kernel
theorem dX0_runs_170 : decode cX0_runs 170 = .ok (.aload_n 0, 1) := by decide +kernel
theorem dX0_runs_171 : decode cX0_runs 171 = .ok (.iload_n 1, 1) := by decide +kernel
theorem dX0_runs_172 : decode cX0_runs 172 = .ok (.iconst 0, 1) := by decide +kernel
theorem dX0_runs_173 : decode cX0_runs 173 = .ok (.iload_n 2, 1) := by decide +kernel
theorem dX0_runs_174 : decode cX0_runs 174 = .ok (.iconst 3, 1) := by decide +kernel
theorem dX0_runs_175 : decode cX0_runs 175 = .ok (.imul, 1) := by decide +kernel
theorem dX0_runs_176 : decode cX0_runs 176 = .ok (.iload_n 3, 1) := by decide +kernel
theorem dX0_runs_177 : decode cX0_runs 177 = .ok (.invokevirtual 47, 3) := by decide +kernel
theorem dX0_runs_180 : decode cX0_runs 180 = .ok (.ireturn, 1) := by decide +kernel
theorem dX0_runs_181 : decode cX0_runs 181 = .ok (.aload_n 0, 1) := by decide +kernel
theorem dX0_runs_182 : decode cX0_runs 182 = .ok (.iload_n 1, 1) := by decide +kernel
theorem dX0_runs_183 : decode cX0_runs 183 = .ok (.iconst 2, 1) := by decide +kernel
theorem dX0_runs_184 : decode cX0_runs 184 = .ok (.iload_n 2, 1) := by decide +kernel
theorem dX0_runs_185 : decode cX0_runs 185 = .ok (.iload_n 3, 1) := by decide +kernel
theorem dX0_runs_186 : decode cX0_runs 186 = .ok (.invokevirtual 47, 3) := by decide +kernel
theorem dX0_runs_189 : decode cX0_runs 189 = .ok (.aload_n 0, 1) := by decide +kernel
theorem dX0_runs_190 : decode cX0_runs 190 = .ok (.iconst 1, 1) := by decide +kernel
theorem dX0_runs_191 : decode cX0_runs 191 = .ok (.iconst 1, 1) := by decide +kernel
theorem dX0_runs_192 : decode cX0_runs 192 = .ok (.iload_n 3, 1) := by decide +kernel
theorem dX0_runs_193 : decode cX0_runs 193 = .ok (.invokevirtual 28, 3) := by decide +kernel
theorem dX0_runs_196 : decode cX0_runs 196 = .ok (.iadd, 1) := by decide +kernel
theorem dX0_runs_197 : decode cX0_runs 197 = .ok (.ireturn, 1) := by decide +kernel
theorem dX0_runs_198 : decode cX0_runs 198 = .ok (.aload_n 0, 1) := by decide +kernel
theorem dX0_runs_199 : decode cX0_runs 199 = .ok (.iload_n 1, 1) := by decide +kernel
theorem dX0_runs_200 : decode cX0_runs 200 = .ok (.iconst 0, 1) := by decide +kernel
theorem dX0_runs_201 : decode cX0_runs 201 = .ok (.iload_n 2, 1) := by decide +kernel
theorem dX0_runs_202 : decode cX0_runs 202 = .ok (.iload_n 3, 1) := by decide +kernel
theorem dX0_runs_203 : decode cX0_runs 203 = .ok (.invokevirtual 47, 3) := by decide +kernel
theorem dX0_runs_206 : decode cX0_runs 206 = .ok (.ineg, 1) := by decide +kernel
theorem dX0_runs_207 : decode cX0_runs 207 = .ok (.ireturn, 1) := by decide +kernel
theorem dX0_runs_208 : decode cX0_runs 208 = .ok (.aload_n 0, 1) := by decide +kernel
theorem dX0_runs_209 : decode cX0_runs 209 = .ok (.iload_n 1, 1) := by decide +kernel
theorem dX0_runs_210 : decode cX0_runs 210 = .ok (.iconst 1, 1) := by decide +kernel
theorem dX0_runs_211 : decode cX0_runs 211 = .ok (.iload_n 2, 1) := by decide +kernel
theorem dX0_runs_212 : decode cX0_runs 212 = .ok (.iconst 1, 1) := by decide +kernel
theorem dX0_runs_213 : decode cX0_runs 213 = .ok (.iadd, 1) := by decide +kernel
theorem dX0_runs_214 : decode cX0_runs 214 = .ok (.iload_n 3, 1) := by decide +kernel
theorem dX0_runs_215 : decode cX0_runs 215 = .ok (.invokevirtual 47, 3) := by decide +kernel
theorem dX0_runs_218 : decode cX0_runs 218 = .ok (.ireturn, 1) := by decide +kernel
theorem dX0_runs_219 : decode cX0_runs 219 = .ok (.aload_n 0, 1) := by decide +kernel
theorem dX0_runs_220 : decode cX0_runs 220 = .ok (.iload_n 1, 1) := by decide +kernel
theorem dX0_runs_221 : decode cX0_runs 221 = .ok (.iconst 2, 1) := by decide +kernel
theorem dX0_runs_222 : decode cX0_runs 222 = .ok (.iload_n 2, 1) := by decide +kernel
theorem dX0_runs_223 : decode cX0_runs 223 = .ok (.aload_n 0, 1) := by decide +kernel
theorem dX0_runs_224 : decode cX0_runs 224 = .ok (.getfield 22, 3) := by decide +kernel
theorem dX0_runs_227 : decode cX0_runs 227 = .ok (.isub, 1) := by decide +kernel
theorem dX0_runs_228 : decode cX0_runs 228 = .ok (.iload_n 3, 1) := by decide +kernel
theorem dX0_runs_229 : decode cX0_runs 229 = .ok (.invokevirtual 47, 3) := by decide +kernel
theorem dX0_runs_232 : decode cX0_runs 232 = .ok (.ireturn, 1) := by decide +kernel
theorem dX0_runs_233 : decode cX0_runs 233 = .ok (.aload_n 0, 1) := by decide +kernel
theorem dX0_runs_234 : decode cX0_runs 234 = .ok (.iload_n 1, 1) := by decide +kernel
theorem dX0_runs_235 : decode cX0_runs 235 = .ok (.iconst 1, 1) := by decide +kernel
theorem dX0_runs_236 : decode cX0_runs 236 = .ok (.iload_n 2, 1) := by decide +kernel
theorem dX0_runs_237 : decode cX0_runs 237 = .ok (.iload_n 3, 1) := by decide +kernel
theorem dX0_runs_238 : decode cX0_runs 238 = .ok (.invokevirtual 47, 3) := by decide +kernel
theorem dX0_runs_241 : decode cX0_runs 241 = .ok (.aload_n 0, 1) := by decide +kernel
theorem dX0_runs_242 : decode cX0_runs 242 = .ok (.iload_n 1, 1) := by decide +kernel
theorem dX0_runs_243 : decode cX0_runs 243 = .ok (.iconst 0, 1) := by decide +kernel
theorem dX0_runs_244 : decode cX0_runs 244 = .ok (.iconst 2, 1) := by decide +kernel
theorem dX0_runs_245 : decode cX0_runs 245 = .ok (.iload_n 3, 1) := by decide +kernel
theorem dX0_runs_246 : decode cX0_runs 246 = .ok (.invokevirtual 47, 3) := by decide +kernel
theorem dX0_runs_249 : decode cX0_runs 249 = .ok (.iadd, 1) := by decide +kernel
theorem dX0_runs_250 : decode cX0_runs 250 = .ok (.ireturn, 1) := by decide +kernel
theorem dX0_runs_251 : decode cX0_runs 251 = .ok (.aload_n 0, 1) := by decide +kernel
theorem dX0_runs_252 : decode cX0_runs 252 = .ok (.iload_n 1, 1) := by decide +kernel
theorem dX0_runs_253 : decode cX0_runs 253 = .ok (.iconst 0, 1) := by decide +kernel
theorem dX0_runs_254 : decode cX0_runs 254 = .ok (.iload_n 2, 1) := by decide +kernel
theorem dX0_runs_255 : decode cX0_runs 255 = .ok (.iload_n 3, 1) := by decide +kernel
theorem dX0_runs_256 : decode cX0_runs 256 = .ok (.invokevirtual 47, 3) := by decide +kernel
theorem dX0_runs_259 : decode cX0_runs 259 = .ok (.aload_n 0, 1) := by decide +kernel
theorem dX0_runs_260 : decode cX0_runs 260 = .ok (.getfield 25, 3) := by decide +kernel
theorem dX0_runs_263 : decode cX0_runs 263 = .ok (.ixor, 1) := by decide +kernel
theorem dX0_runs_264 : decode cX0_runs 264 = .ok (.ireturn, 1) := by decide +kernel
theorem dX1_init_0 : decode cX1_init 0 = .ok (.aload_n 0, 1) := by decide +kernel
theorem dX1_init_1 : decode cX1_init 1 = .ok (.invokespecial 3, 3) := by decide +kernel
theorem dX1_init_4 : decode cX1_init 4 = .ok (.aload_n 0, 1) := by decide +kernel
theorem dX1_init_5 : decode cX1_init 5 = .ok (.bipush 10, 2) := by decide +kernel
theorem dX1_init_7 : decode cX1_init 7 = .ok (.newarray .int, 2) := by decide +kernel
theorem dX1_init_9 : decode cX1_init 9 = .ok (.putfield 9, 3) := by decide +kernel
theorem dX1_init_12 : decode cX1_init 12 = .ok (.aload_n 0, 1) := by decide +kernel
theorem dX1_init_13 : decode cX1_init 13 = .ok (.bipush 10, 2) := by decide +kernel
theorem dX1_init_15 : decode cX1_init 15 = .ok (.newarray .int, 2) := by decide +kernel
theorem dX1_init_17 : decode cX1_init 17 = .ok (.putfield 15, 3) := by decide +kernel
theorem dX1_init_20 : decode cX1_init 20 = .ok (.aload_n 0, 1) := by decide +kernel
theorem dX1_init_21 : decode cX1_init 21 = .ok (.bipush 10, 2) := by decide +kernel
theorem dX1_init_23 : decode cX1_init 23 = .ok (.newarray .int, 2) := by decide +kernel
theorem dX1_init_25 : decode cX1_init 25 = .ok (.putfield 18, 3) := by decide +kernel
theorem dX1_init_28 : decode cX1_init 28 = .ok (.aload_n 0, 1) := by decide +kernel
theorem dX1_init_29 : decode cX1_init 29 = .ok (.bipush 100, 2) := by decide +kernel
theorem dX1_init_31 : decode cX1_init 31 = .ok (.newarray .int, 2) := by decide +kernel
theorem dX1_init_33 : decode cX1_init 33 = .ok (.putfield 21, 3) := by decide +kernel
theorem dX1_init_36 : decode cX1_init 36 = .ok (.aload_n 0, 1) := by decide +kernel
theorem dX1_init_37 : decode cX1_init 37 = .ok (.bipush 100, 2) := by decide +kernel
theorem dX1_init_39 : decode cX1_init 39 = .ok (.newarray .int, 2) := by decide +kernel
theorem dX1_init_41 : decode cX1_init 41 = .ok (.putfield 24, 3) := by decide +kernel
theorem dX1_init_44 : decode cX1_init 44 = .ok (.aload_n 0, 1) := by decide +kernel
theorem dX1_init_45 : decode cX1_init 45 = .ok (.bipush 100, 2) := by decide +kernel
theorem dX1_init_47 : decode cX1_init 47 = .ok (.newarray .int, 2) := by decide +kernel
theorem dX1_init_49 : decode cX1_init 49 = .ok (.putfield 27, 3) := by decide +kernel
theorem dX1_init_52 : decode cX1_init 52 = .ok (.aload_n 0, 1) := by decide +kernel
theorem dX1_init_53 : decode cX1_init 53 = .ok (.bipush 100, 2) := by decide +kernel
theorem dX1_init_55 : decode cX1_init 55 = .ok (.newarray .int, 2) := by decide +kernel
theorem dX1_init_57 : decode cX1_init 57 = .ok (.putfield 30, 3) := by decide +kernel
theorem dX1_init_60 : decode cX1_init 60 = .ok (.aload_n 0, 1) := by decide +kernel
theorem dX1_init_61 : decode cX1_init 61 = .ok (.iconst 0, 1) := by decide +kernel
theorem dX1_init_62 : decode cX1_init 62 = .ok (.putfield 33, 3) := by decide +kernel
theorem dX1_init_65 : decode cX1_init 65 = .ok (.aload_n 0, 1) := by decide +kernel
theorem dX1_init_66 : decode cX1_init 66 = .ok (.iconst 0, 1) := by decide +kernel
theorem dX1_init_67 : decode cX1_init 67 = .ok (.putfield 37, 3) := by decide +kernel
theorem dX1_init_70 : decode cX1_init 70 = .ok (.aload_n 0, 1) := by decide +kernel
theorem dX1_init_71 : decode cX1_init 71 = .ok (.bipush 8, 2) := by decide +kernel
theorem dX1_init_73 : decode cX1_init 73 = .ok (.putfield 40, 3) := by decide +kernel
theorem dX1_init_76 : decode cX1_init 76 = .ok (.aload_n 0, 1) := by decide +kernel
theorem dX1_init_77 : decode cX1_init 77 = .ok (.iconst 0, 1) := by decide +kernel
theorem dX1_init_78 : decode cX1_init 78 = .ok (.putfield 43, 3) := by decide +kernel
theorem dX1_init_81 : decode cX1_init 81 = .ok (.aload_n 0, 1) := by decide +kernel
theorem dX1_init_82 : decode cX1_init 82 = .ok (.iconst 1, 1) := by decide +kernel
theorem dX1_init_83 : decode cX1_init 83 = .ok (.putfield 46, 3) := by decide +kernel
theorem dX1_init_86 : decode cX1_init 86 = .ok (.return_, 1) := by decide +kernel
theorem dX1_clear_0 : decode cX1_clear 0 = .ok (.aload_n 0, 1) := by decide +kernel
theorem dX1_clear_1 : decode cX1_clear 1 = .ok (.iconst 0, 1) := by decide +kernel
theorem dX1_clear_2 : decode cX1_clear 2 = .ok (.putfield 33, 3) := by decide +kernel
theorem dX1_clear_5 : decode cX1_clear 5 = .ok (.aload_n 0, 1) := by decide +kernel
theorem dX1_clear_6 : decode cX1_clear 6 = .ok (.iconst 0, 1) := by decide +kernel
theorem dX1_clear_7 : decode cX1_clear 7 = .ok (.putfield 37, 3) := by decide +kernel
theorem dX1_clear_10 : decode cX1_clear 10 = .ok (.aload_n 0, 1) := by decide +kernel
theorem dX1_clear_11 : decode cX1_clear 11 = .ok (.bipush 8, 2) := by decide +kernel
theorem dX1_clear_13 : decode cX1_clear 13 = .ok (.putfield 40, 3) := by decide +kernel
theorem dX1_clear_16 : decode cX1_clear 16 = .ok (.aload_n 0, 1) := by decide +kernel
theorem dX1_clear_17 : decode cX1_clear 17 = .ok (.iconst 0, 1) := by decide +kernel
theorem dX1_clear_18 : decode cX1_clear 18 = .ok (.putfield 43, 3) := by decide +kernel
theorem dX1_clear_21 : decode cX1_clear 21 = .ok (.aload_n 0, 1) := by decide +kernel
theorem dX1_clear_22 : decode cX1_clear 22 = .ok (.iconst 1, 1) := by decide +kernel
theorem dX1_clear_23 : decode cX1_clear 23 = .ok (.putfield 46, 3) := by decide +kernel
theorem dX1_clear_26 : decode cX1_clear 26 = .ok (.return_, 1) := by decide +kernel
theorem dX1_addSign_0 : decode cX1_addSign 0 = .ok (.aload_n 0, 1) := by decide +kernel
theorem dX1_addSign_1 : decode cX1_addSign 1 = .ok (.getfield 37, 3) := by decide +kernel
theorem dX1_addSign_4 : decode cX1_addSign 4 = .ok (.bipush 100, 2) := by decide +kernel
theorem dX1_addSign_6 : decode cX1_addSign 6 = .ok (.if_icmp .ge 23, 3) := by decide +kernel
theorem dX1_addSign_9 : decode cX1_addSign 9 = .ok (.aload_n 0, 1) := by decide +kernel
theorem dX1_addSign_10 : decode cX1_addSign 10 = .ok (.getfield 21, 3) := by decide +kernel
theorem dX1_addSign_13 : decode cX1_addSign 13 = .ok (.aload_n 0, 1) := by decide +kernel
theorem dX1_addSign_14 : decode cX1_addSign 14 = .ok (.getfield 37, 3) := by decide +kernel
theorem dX1_addSign_17 : decode cX1_addSign 17 = .ok (.iload_n 1, 1) := by decide +kernel
theorem dX1_addSign_18 : decode cX1_addSign 18 = .ok (.iastore, 1) := by decide +kernel
theorem dX1_addSign_19 : decode cX1_addSign 19 = .ok (.aload_n 0, 1) := by decide +kernel
theorem dX1_addSign_20 : decode cX1_addSign 20 = .ok (.dup, 1) := by decide +kernel
theorem dX1_addSign_21 : decode cX1_addSign 21 = .ok (.getfield 37, 3) := by decide +kernel
theorem dX1_addSign_24 : decode cX1_addSign 24 = .ok (.iconst 1, 1) := by decide +kernel
theorem dX1_addSign_25 : decode cX1_addSign 25 = .ok (.iadd, 1) := by decide +kernel
theorem dX1_addSign_26 : decode cX1_addSign 26 = .ok (.putfield 37, 3) := by decide +kernel
theorem dX1_addSign_29 : decode cX1_addSign 29 = .ok (.return_, 1) := by decide +kernel
theorem dX1_addTest_0 : decode cX1_addTest 0 = .ok (.aload_n 0, 1) := by decide +kernel
theorem dX1_addTest_1 : decode cX1_addTest 1 = .ok (.getfield 37, 3) := by decide +kernel
theorem dX1_addTest_4 : decode cX1_addTest 4 = .ok (.bipush 100, 2) := by decide +kernel
theorem dX1_addTest_6 : decode cX1_addTest 6 = .ok (.if_icmp .lt 4, 3) := by decide +kernel
theorem dX1_addTest_9 : decode cX1_addTest 9 = .ok (.return_, 1) := by decide +kernel
theorem dX1_addTest_10 : decode cX1_addTest 10 = .ok (.aload_n 0, 1) := by decide +kernel
theorem dX1_addTest_11 : decode cX1_addTest 11 = .ok (.getfield 24, 3) := by decide +kernel
theorem dX1_addTest_14 : decode cX1_addTest 14 = .ok (.aload_n 0, 1) := by decide +kernel
theorem dX1_addTest_15 : decode cX1_addTest 15 = .ok (.getfield 37, 3) := by decide +kernel
theorem dX1_addTest_18 : decode cX1_addTest 18 = .ok (.iload_n 1, 1) := by decide +kernel
theorem dX1_addTest_19 : decode cX1_addTest 19 = .ok (.iastore, 1) := by decide +kernel
theorem dX1_addTest_20 : decode cX1_addTest 20 = .ok (.aload_n 0, 1) := by decide +kernel
theorem dX1_addTest_21 : decode cX1_addTest 21 = .ok (.getfield 27, 3) := by decide +kernel
theorem dX1_addTest_24 : decode cX1_addTest 24 = .ok (.aload_n 0, 1) := by decide +kernel
theorem dX1_addTest_25 : decode cX1_addTest 25 = .ok (.getfield 37, 3) := by decide +kernel
theorem dX1_addTest_28 : decode cX1_addTest 28 = .ok (.iload_n 2, 1) := by decide +kernel
theorem dX1_addTest_29 : decode cX1_addTest 29 = .ok (.ifCond .ne 7, 3) := by decide +kernel
theorem dX1_addTest_32 : decode cX1_addTest 32 = .ok (.iconst 0, 1) := by decide +kernel
theorem dX1_addTest_33 : decode cX1_addTest 33 = .ok (.goto 15, 3) := by decide +kernel
theorem dX1_addTest_36 : decode cX1_addTest 36 = .ok (.iload_n 2, 1) := by decide +kernel
theorem dX1_addTest_37 : decode cX1_addTest 37 = .ok (.iconst 1, 1) := by decide +kernel
theorem dX1_addTest_38 : decode cX1_addTest 38 = .ok (.if_icmp .ne 7, 3) := by decide +kernel
theorem dX1_addTest_41 : decode cX1_addTest 41 = .ok (.iload_n 3, 1) := by decide +kernel
theorem dX1_addTest_42 : decode cX1_addTest 42 = .ok (.goto 6, 3) := by decide +kernel
theorem dX1_addTest_45 : decode cX1_addTest 45 = .ok (.iload_n 3, 1) := by decide +kernel
theorem dX1_addTest_46 : decode cX1_addTest 46 = .ok (.iconst 1, 1) := by decide +kernel
theorem dX1_addTest_47 : decode cX1_addTest 47 = .ok (.iadd, 1) := by decide +kernel
theorem dX1_addTest_48 : decode cX1_addTest 48 = .ok (.iastore, 1) := by decide +kernel
theorem dX1_addTest_49 : decode cX1_addTest 49 = .ok (.aload_n 0, 1) := by decide +kernel
theorem dX1_addTest_50 : decode cX1_addTest 50 = .ok (.getfield 30, 3) := by decide +kernel
theorem dX1_addTest_53 : decode cX1_addTest 53 = .ok (.aload_n 0, 1) := by decide +kernel
theorem dX1_addTest_54 : decode cX1_addTest 54 = .ok (.getfield 37, 3) := by decide +kernel
theorem dX1_addTest_57 : decode cX1_addTest 57 = .ok (.iload_n 2, 1) := by decide +kernel
theorem dX1_addTest_58 : decode cX1_addTest 58 = .ok (.ifCond .ne 9, 3) := by decide +kernel
theorem dX1_addTest_61 : decode cX1_addTest 61 = .ok (.iload_n 3, 1) := by decide +kernel
theorem dX1_addTest_62 : decode cX1_addTest 62 = .ok (.iconst 1, 1) := by decide +kernel
theorem dX1_addTest_63 : decode cX1_addTest 63 = .ok (.isub, 1) := by decide +kernel
theorem dX1_addTest_64 : decode cX1_addTest 64 = .ok (.goto 14, 3) := by decide +kernel
theorem dX1_addTest_67 : decode cX1_addTest 67 = .ok (.iload_n 2, 1) := by decide +kernel
theorem dX1_addTest_68 : decode cX1_addTest 68 = .ok (.iconst 1, 1) := by decide +kernel
theorem dX1_addTest_69 : decode cX1_addTest 69 = .ok (.if_icmp .ne 7, 3) := by decide +kernel
theorem dX1_addTest_72 : decode cX1_addTest 72 = .ok (.iload_n 3, 1) := by decide +kernel
theorem dX1_addTest_73 : decode cX1_addTest 73 = .ok (.goto 5, 3) := by decide +kernel
theorem dX1_addTest_76 : decode cX1_addTest 76 = .ok (.ldc 51, 2) := by decide +kernel
theorem dX1_addTest_78 : decode cX1_addTest 78 = .ok (.iastore, 1) := by decide +kernel
theorem dX1_addTest_79 : decode cX1_addTest 79 = .ok (.aload_n 0, 1) := by decide +kernel
theorem dX1_addTest_80 : decode cX1_addTest 80 = .ok (.iconst 0, 1) := by decide +kernel
theorem dX1_addTest_81 : decode cX1_addTest 81 = .ok (.invokevirtual 52, 3) := by decide +kernel
theorem dX1_addTest_84 : decode cX1_addTest 84 = .ok (.return_, 1) := by decide +kernel
theorem dX1_addClause_0 : decode cX1_addClause 0 = .ok (.aload_n 0, 1) := by decide +kernel
theorem dX1_addClause_1 : decode cX1_addClause 1 = .ok (.getfield 33, 3) := by decide +kernel
theorem dX1_addClause_4 : decode cX1_addClause 4 = .ok (.bipush 10, 2) := by decide +kernel
theorem dX1_addClause_6 : decode cX1_addClause 6 = .ok (.if_icmp .lt 4, 3) := by decide +kernel
theorem dX1_addClause_9 : decode cX1_addClause 9 = .ok (.return_, 1) := by decide +kernel
theorem dX1_addClause_10 : decode cX1_addClause 10 = .ok (.aload_n 0, 1) := by decide +kernel
theorem dX1_addClause_11 : decode cX1_addClause 11 = .ok (.getfield 9, 3) := by decide +kernel
theorem dX1_addClause_14 : decode cX1_addClause 14 = .ok (.aload_n 0, 1) := by decide +kernel
theorem dX1_addClause_15 : decode cX1_addClause 15 = .ok (.getfield 33, 3) := by decide +kernel
theorem dX1_addClause_18 : decode cX1_addClause 18 = .ok (.iload_n 1, 1) := by decide +kernel
theorem dX1_addClause_19 : decode cX1_addClause 19 = .ok (.iastore, 1) := by decide +kernel
theorem dX1_addClause_20 : decode cX1_addClause 20 = .ok (.aload_n 0, 1) := by decide +kernel
theorem dX1_addClause_21 : decode cX1_addClause 21 = .ok (.getfield 15, 3) := by decide +kernel
theorem dX1_addClause_24 : decode cX1_addClause 24 = .ok (.aload_n 0, 1) := by decide +kernel
theorem dX1_addClause_25 : decode cX1_addClause 25 = .ok (.getfield 33, 3) := by decide +kernel
theorem dX1_addClause_28 : decode cX1_addClause 28 = .ok (.iload_n 2, 1) := by decide +kernel
theorem dX1_addClause_29 : decode cX1_addClause 29 = .ok (.iastore, 1) := by decide +kernel
theorem dX1_addClause_30 : decode cX1_addClause 30 = .ok (.aload_n 0, 1) := by decide +kernel
theorem dX1_addClause_31 : decode cX1_addClause 31 = .ok (.getfield 18, 3) := by decide +kernel
theorem dX1_addClause_34 : decode cX1_addClause 34 = .ok (.aload_n 0, 1) := by decide +kernel
theorem dX1_addClause_35 : decode cX1_addClause 35 = .ok (.getfield 33, 3) := by decide +kernel
theorem dX1_addClause_38 : decode cX1_addClause 38 = .ok (.aload_n 0, 1) := by decide +kernel
theorem dX1_addClause_39 : decode cX1_addClause 39 = .ok (.getfield 37, 3) := by decide +kernel
theorem dX1_addClause_42 : decode cX1_addClause 42 = .ok (.iastore, 1) := by decide +kernel
theorem dX1_addClause_43 : decode cX1_addClause 43 = .ok (.aload_n 0, 1) := by decide +kernel
theorem dX1_addClause_44 : decode cX1_addClause 44 = .ok (.dup, 1) := by decide +kernel
theorem dX1_addClause_45 : decode cX1_addClause 45 = .ok (.getfield 33, 3) := by decide +kernel
theorem dX1_addClause_48 : decode cX1_addClause 48 = .ok (.iconst 1, 1) := by decide +kernel
theorem dX1_addClause_49 : decode cX1_addClause 49 = .ok (.iadd, 1) := by decide +kernel
theorem dX1_addClause_50 : decode cX1_addClause 50 = .ok (.putfield 33, 3) := by decide +kernel
theorem dX1_addClause_53 : decode cX1_addClause 53 = .ok (.iload_n 1, 1) := by decide +kernel
theorem dX1_addClause_54 : decode cX1_addClause 54 = .ok (.tableswitch 56 2 4 #[26, 34, 44], 26) := by decide +kernel
theorem dX1_addClause_80 : decode cX1_addClause 80 = .ok (.aload_n 0, 1) := by decide +kernel
theorem dX1_addClause_81 : decode cX1_addClause 81 = .ok (.iload_n 2, 1) := by decide +kernel
theorem dX1_addClause_82 : decode cX1_addClause 82 = .ok (.putfield 40, 3) := by decide +kernel
theorem dX1_addClause_85 : decode cX1_addClause 85 = .ok (.goto 25, 3) := by decide +kernel
theorem dX1_addClause_88 : decode cX1_addClause 88 = .ok (.aload_n 0, 1) := by decide +kernel
theorem dX1_addClause_89 : decode cX1_addClause 89 = .ok (.iload_n 2, 1) := by decide +kernel
theorem dX1_addClause_90 : decode cX1_addClause 90 = .ok (.iconst 3, 1) := by decide +kernel
theorem dX1_addClause_91 : decode cX1_addClause 91 = .ok (.irem, 1) := by decide +kernel
theorem dX1_addClause_92 : decode cX1_addClause 92 = .ok (.putfield 43, 3) := by decide +kernel
theorem dX1_addClause_95 : decode cX1_addClause 95 = .ok (.goto 15, 3) := by decide +kernel
theorem dX1_addClause_98 : decode cX1_addClause 98 = .ok (.aload_n 0, 1) := by decide +kernel
theorem dX1_addClause_99 : decode cX1_addClause 99 = .ok (.iconst 1, 1) := by decide +kernel
theorem dX1_addClause_100 : decode cX1_addClause 100 = .ok (.iload_n 2, 1) := by decide +kernel
theorem dX1_addClause_101 : decode cX1_addClause 101 = .ok (.invokestatic 56, 3) := by decide +kernel
theorem dX1_addClause_104 : decode cX1_addClause 104 = .ok (.putfield 46, 3) := by decide +kernel
theorem dX1_addClause_107 : decode cX1_addClause 107 = .ok (.goto 3, 3) := by decide +kernel
theorem dX1_addClause_110 : decode cX1_addClause 110 = .ok (.return_, 1) := by decide +kernel
theorem dX1_together_0 : decode cX1_together 0 = .ok (.iconst 0, 1) := by decide +kernel
theorem dX1_together_1 : decode cX1_together 1 = .ok (.istore_n 3, 1) := by decide +kernel
theorem dX1_together_2 : decode cX1_together 2 = .ok (.iconst 0, 1) := by decide +kernel
theorem dX1_together_3 : decode cX1_together 3 = .ok (.istore 4, 2) := by decide +kernel
theorem dX1_together_5 : decode cX1_together 5 = .ok (.iconst 0, 1) := by decide +kernel
theorem dX1_together_6 : decode cX1_together 6 = .ok (.istore 5, 2) := by decide +kernel
theorem dX1_together_8 : decode cX1_together 8 = .ok (.iload 5, 2) := by decide +kernel
theorem dX1_together_10 : decode cX1_together 10 = .ok (.aload_n 0, 1) := by decide +kernel
theorem dX1_together_11 : decode cX1_together 11 = .ok (.getfield 33, 3) := by decide +kernel
theorem dX1_together_14 : decode cX1_together 14 = .ok (.if_icmp .ge 48, 3) := by decide +kernel
theorem dX1_together_17 : decode cX1_together 17 = .ok (.aload_n 0, 1) := by decide +kernel
theorem dX1_together_18 : decode cX1_together 18 = .ok (.getfield 9, 3) := by decide +kernel
theorem dX1_together_21 : decode cX1_together 21 = .ok (.iload 5, 2) := by decide +kernel
theorem dX1_together_23 : decode cX1_together 23 = .ok (.iaload, 1) := by decide +kernel
theorem dX1_together_24 : decode cX1_together 24 = .ok (.iload_n 1, 1) := by decide +kernel
theorem dX1_together_25 : decode cX1_together 25 = .ok (.if_icmp .ne 31, 3) := by decide +kernel
theorem dX1_together_28 : decode cX1_together 28 = .ok (.iconst 1, 1) := by decide +kernel
theorem dX1_together_29 : decode cX1_together 29 = .ok (.istore_n 3, 1) := by decide +kernel
theorem dX1_together_30 : decode cX1_together 30 = .ok (.iload 4, 2) := by decide +kernel
theorem dX1_together_32 : decode cX1_together 32 = .ok (.aload_n 0, 1) := by decide +kernel
theorem dX1_together_33 : decode cX1_together 33 = .ok (.iload 5, 2) := by decide +kernel
theorem dX1_together_35 : decode cX1_together 35 = .ok (.aload_n 2, 1) := by decide +kernel
theorem dX1_together_36 : decode cX1_together 36 = .ok (.invokevirtual 62, 3) := by decide +kernel
theorem dX1_together_39 : decode cX1_together 39 = .ok (.ifCond .eq 13, 3) := by decide +kernel
theorem dX1_together_42 : decode cX1_together 42 = .ok (.aload_n 0, 1) := by decide +kernel
theorem dX1_together_43 : decode cX1_together 43 = .ok (.getfield 15, 3) := by decide +kernel
theorem dX1_together_46 : decode cX1_together 46 = .ok (.iload 5, 2) := by decide +kernel
theorem dX1_together_48 : decode cX1_together 48 = .ok (.iaload, 1) := by decide +kernel
theorem dX1_together_49 : decode cX1_together 49 = .ok (.goto 4, 3) := by decide +kernel
theorem dX1_together_52 : decode cX1_together 52 = .ok (.iconst 0, 1) := by decide +kernel
theorem dX1_together_53 : decode cX1_together 53 = .ok (.iadd, 1) := by decide +kernel
theorem dX1_together_54 : decode cX1_together 54 = .ok (.istore 4, 2) := by decide +kernel
theorem dX1_together_56 : decode cX1_together 56 = .ok (.iinc 5 1, 3) := by decide +kernel
theorem dX1_together_59 : decode cX1_together 59 = .ok (.goto (-51), 3) := by decide +kernel
theorem dX1_together_62 : decode cX1_together 62 = .ok (.iload_n 3, 1) := by decide +kernel
theorem dX1_together_63 : decode cX1_together 63 = .ok (.ifCond .eq 6, 3) := by decide +kernel
theorem dX1_together_66 : decode cX1_together 66 = .ok (.iload 4, 2) := by decide +kernel
theorem dX1_together_68 : decode cX1_together 68 = .ok (.ireturn, 1) := by decide +kernel
theorem dX1_together_69 : decode cX1_together 69 = .ok (.iload_n 1, 1) := by decide +kernel
theorem dX1_together_70 : decode cX1_together 70 = .ok (.ifCond .ne 7, 3) := by decide +kernel
theorem dX1_together_73 : decode cX1_together 73 = .ok (.iconst 1, 1) := by decide +kernel
theorem dX1_together_74 : decode cX1_together 74 = .ok (.goto 4, 3) := by decide +kernel
theorem dX1_together_77 : decode cX1_together 77 = .ok (.iconst 5, 1) := by decide +kernel
theorem dX1_together_78 : decode cX1_together 78 = .ok (.ireturn, 1) := by decide +kernel
theorem dX1_holds_0 : decode cX1_holds 0 = .ok (.iconst 0, 1) := by decide +kernel
theorem dX1_holds_1 : decode cX1_holds 1 = .ok (.istore_n 3, 1) := by decide +kernel
theorem dX1_holds_2 : decode cX1_holds 2 = .ok (.iload_n 1, 1) := by decide +kernel
theorem dX1_holds_3 : decode cX1_holds 3 = .ok (.ifCond .le 14, 3) := by decide +kernel
theorem dX1_holds_6 : decode cX1_holds 6 = .ok (.aload_n 0, 1) := by decide +kernel
theorem dX1_holds_7 : decode cX1_holds 7 = .ok (.getfield 18, 3) := by decide +kernel
theorem dX1_holds_10 : decode cX1_holds 10 = .ok (.iload_n 1, 1) := by decide +kernel
theorem dX1_holds_11 : decode cX1_holds 11 = .ok (.iconst 1, 1) := by decide +kernel
theorem dX1_holds_12 : decode cX1_holds 12 = .ok (.isub, 1) := by decide +kernel
theorem dX1_holds_13 : decode cX1_holds 13 = .ok (.iaload, 1) := by decide +kernel
theorem dX1_holds_14 : decode cX1_holds 14 = .ok (.goto 4, 3) := by decide +kernel
theorem dX1_holds_17 : decode cX1_holds 17 = .ok (.iconst 0, 1) := by decide +kernel
theorem dX1_holds_18 : decode cX1_holds 18 = .ok (.istore 4, 2) := by decide +kernel
theorem dX1_holds_20 : decode cX1_holds 20 = .ok (.iload 4, 2) := by decide +kernel
theorem dX1_holds_22 : decode cX1_holds 22 = .ok (.aload_n 0, 1) := by decide +kernel
theorem dX1_holds_23 : decode cX1_holds 23 = .ok (.getfield 18, 3) := by decide +kernel
theorem dX1_holds_26 : decode cX1_holds 26 = .ok (.iload_n 1, 1) := by decide +kernel
theorem dX1_holds_27 : decode cX1_holds 27 = .ok (.iaload, 1) := by decide +kernel
theorem dX1_holds_28 : decode cX1_holds 28 = .ok (.if_icmp .ge 117, 3) := by decide +kernel
theorem dX1_holds_31 : decode cX1_holds 31 = .ok (.aload_n 0, 1) := by decide +kernel
theorem dX1_holds_32 : decode cX1_holds 32 = .ok (.getfield 21, 3) := by decide +kernel
theorem dX1_holds_35 : decode cX1_holds 35 = .ok (.iload 4, 2) := by decide +kernel
theorem dX1_holds_37 : decode cX1_holds 37 = .ok (.iaload, 1) := by decide +kernel
theorem dX1_holds_38 : decode cX1_holds 38 = .ok (.tableswitch 56 1 3 #[26, 33, 45], 26) := by decide +kernel
theorem dX1_holds_64 : decode cX1_holds 64 = .ok (.iload_n 3, 1) := by decide +kernel
theorem dX1_holds_65 : decode cX1_holds 65 = .ok (.iconst 1, 1) := by decide +kernel
theorem dX1_holds_66 : decode cX1_holds 66 = .ok (.ixor, 1) := by decide +kernel
theorem dX1_holds_67 : decode cX1_holds 67 = .ok (.istore_n 3, 1) := by decide +kernel
theorem dX1_holds_68 : decode cX1_holds 68 = .ok (.goto 71, 3) := by decide +kernel
theorem dX1_holds_71 : decode cX1_holds 71 = .ok (.iload_n 3, 1) := by decide +kernel
theorem dX1_holds_72 : decode cX1_holds 72 = .ok (.iconst 1, 1) := by decide +kernel
theorem dX1_holds_73 : decode cX1_holds 73 = .ok (.ishr, 1) := by decide +kernel
theorem dX1_holds_74 : decode cX1_holds 74 = .ok (.iload_n 3, 1) := by decide +kernel
theorem dX1_holds_75 : decode cX1_holds 75 = .ok (.bipush (-2), 2) := by decide +kernel
theorem dX1_holds_77 : decode cX1_holds 77 = .ok (.ior, 1) := by decide +kernel
theorem dX1_holds_78 : decode cX1_holds 78 = .ok (.iand, 1) := by decide +kernel
theorem dX1_holds_79 : decode cX1_holds 79 = .ok (.istore_n 3, 1) := by decide +kernel
theorem dX1_holds_80 : decode cX1_holds 80 = .ok (.goto 59, 3) := by decide +kernel
theorem dX1_holds_83 : decode cX1_holds 83 = .ok (.iload_n 3, 1) := by decide +kernel
theorem dX1_holds_84 : decode cX1_holds 84 = .ok (.iconst 1, 1) := by decide +kernel
theorem dX1_holds_85 : decode cX1_holds 85 = .ok (.ishr, 1) := by decide +kernel
theorem dX1_holds_86 : decode cX1_holds 86 = .ok (.iload_n 3, 1) := by decide +kernel
theorem dX1_holds_87 : decode cX1_holds 87 = .ok (.iconst 1, 1) := by decide +kernel
theorem dX1_holds_88 : decode cX1_holds 88 = .ok (.iand, 1) := by decide +kernel
theorem dX1_holds_89 : decode cX1_holds 89 = .ok (.ior, 1) := by decide +kernel
theorem dX1_holds_90 : decode cX1_holds 90 = .ok (.istore_n 3, 1) := by decide +kernel
theorem dX1_holds_91 : decode cX1_holds 91 = .ok (.goto 48, 3) := by decide +kernel
theorem dX1_holds_94 : decode cX1_holds 94 = .ok (.aload_n 2, 1) := by decide +kernel
theorem dX1_holds_95 : decode cX1_holds 95 = .ok (.aload_n 0, 1) := by decide +kernel
theorem dX1_holds_96 : decode cX1_holds 96 = .ok (.getfield 24, 3) := by decide +kernel
theorem dX1_holds_99 : decode cX1_holds 99 = .ok (.iload 4, 2) := by decide +kernel
theorem dX1_holds_101 : decode cX1_holds 101 = .ok (.iaload, 1) := by decide +kernel
theorem dX1_holds_102 : decode cX1_holds 102 = .ok (.iaload, 1) := by decide +kernel
theorem dX1_holds_103 : decode cX1_holds 103 = .ok (.istore 5, 2) := by decide +kernel
theorem dX1_holds_105 : decode cX1_holds 105 = .ok (.iload_n 3, 1) := by decide +kernel
theorem dX1_holds_106 : decode cX1_holds 106 = .ok (.iconst 1, 1) := by decide +kernel
theorem dX1_holds_107 : decode cX1_holds 107 = .ok (.ishl, 1) := by decide +kernel
theorem dX1_holds_108 : decode cX1_holds 108 = .ok (.iload 5, 2) := by decide +kernel
theorem dX1_holds_110 : decode cX1_holds 110 = .ok (.aload_n 0, 1) := by decide +kernel
theorem dX1_holds_111 : decode cX1_holds 111 = .ok (.getfield 27, 3) := by decide +kernel
theorem dX1_holds_114 : decode cX1_holds 114 = .ok (.iload 4, 2) := by decide +kernel
theorem dX1_holds_116 : decode cX1_holds 116 = .ok (.iaload, 1) := by decide +kernel
theorem dX1_holds_117 : decode cX1_holds 117 = .ok (.if_icmp .lt 19, 3) := by decide +kernel
theorem dX1_holds_120 : decode cX1_holds 120 = .ok (.iload 5, 2) := by decide +kernel
theorem dX1_holds_122 : decode cX1_holds 122 = .ok (.aload_n 0, 1) := by decide +kernel
theorem dX1_holds_123 : decode cX1_holds 123 = .ok (.getfield 30, 3) := by decide +kernel
theorem dX1_holds_126 : decode cX1_holds 126 = .ok (.iload 4, 2) := by decide +kernel
theorem dX1_holds_128 : decode cX1_holds 128 = .ok (.iaload, 1) := by decide +kernel
theorem dX1_holds_129 : decode cX1_holds 129 = .ok (.if_icmp .gt 7, 3) := by decide +kernel
theorem dX1_holds_132 : decode cX1_holds 132 = .ok (.iconst 1, 1) := by decide +kernel
theorem dX1_holds_133 : decode cX1_holds 133 = .ok (.goto 4, 3) := by decide +kernel
theorem dX1_holds_136 : decode cX1_holds 136 = .ok (.iconst 0, 1) := by decide +kernel
theorem dX1_holds_137 : decode cX1_holds 137 = .ok (.ior, 1) := by decide +kernel
theorem dX1_holds_138 : decode cX1_holds 138 = .ok (.istore_n 3, 1) := by decide +kernel
theorem dX1_holds_139 : decode cX1_holds 139 = .ok (.iinc 4 1, 3) := by decide +kernel
theorem dX1_holds_142 : decode cX1_holds 142 = .ok (.goto (-122), 3) := by decide +kernel
theorem dX1_holds_145 : decode cX1_holds 145 = .ok (.iload_n 3, 1) := by decide +kernel
theorem dX1_holds_146 : decode cX1_holds 146 = .ok (.iconst 1, 1) := by decide +kernel
theorem dX1_holds_147 : decode cX1_holds 147 = .ok (.iand, 1) := by decide +kernel
theorem dX1_holds_148 : decode cX1_holds 148 = .ok (.iconst 1, 1) := by decide +kernel
theorem dX1_holds_149 : decode cX1_holds 149 = .ok (.if_icmp .ne 7, 3) := by decide +kernel
theorem dX1_holds_152 : decode cX1_holds 152 = .ok (.iconst 1, 1) := by decide +kernel
theorem dX1_holds_153 : decode cX1_holds 153 = .ok (.goto 4, 3) := by decide +kernel
theorem dX1_holds_156 : decode cX1_holds 156 = .ok (.iconst 0, 1) := by decide +kernel
theorem dX1_holds_157 : decode cX1_holds 157 = .ok (.ireturn, 1) := by decide +kernel
theorem dX2_init_0 : decode cX2_init 0 = .ok (.aload_n 0, 1) := by decide +kernel
theorem dX2_init_1 : decode cX2_init 1 = .ok (.invokespecial 3, 3) := by decide +kernel
theorem dX2_init_4 : decode cX2_init 4 = .ok (.aload_n 0, 1) := by decide +kernel
theorem dX2_init_5 : decode cX2_init 5 = .ok (.bipush 100, 2) := by decide +kernel
theorem dX2_init_7 : decode cX2_init 7 = .ok (.newarray .char, 2) := by decide +kernel
theorem dX2_init_9 : decode cX2_init 9 = .ok (.putfield 9, 3) := by decide +kernel
theorem dX2_init_12 : decode cX2_init 12 = .ok (.aload_n 0, 1) := by decide +kernel
theorem dX2_init_13 : decode cX2_init 13 = .ok (.iconst 0, 1) := by decide +kernel
theorem dX2_init_14 : decode cX2_init 14 = .ok (.putfield 15, 3) := by decide +kernel
theorem dX2_init_17 : decode cX2_init 17 = .ok (.aload_n 0, 1) := by decide +kernel
theorem dX2_init_18 : decode cX2_init 18 = .ok (.iconst 0, 1) := by decide +kernel
theorem dX2_init_19 : decode cX2_init 19 = .ok (.putfield 19, 3) := by decide +kernel
theorem dX2_init_22 : decode cX2_init 22 = .ok (.aload_n 0, 1) := by decide +kernel
theorem dX2_init_23 : decode cX2_init 23 = .ok (.iconst 0, 1) := by decide +kernel
theorem dX2_init_24 : decode cX2_init 24 = .ok (.putfield 22, 3) := by decide +kernel
theorem dX2_init_27 : decode cX2_init 27 = .ok (.aload_n 0, 1) := by decide +kernel
theorem dX2_init_28 : decode cX2_init 28 = .ok (.new 25, 3) := by decide +kernel
theorem dX2_init_31 : decode cX2_init 31 = .ok (.dup, 1) := by decide +kernel
theorem dX2_init_32 : decode cX2_init 32 = .ok (.invokespecial 27, 3) := by decide +kernel
theorem dX2_init_35 : decode cX2_init 35 = .ok (.putfield 28, 3) := by decide +kernel
theorem dX2_init_38 : decode cX2_init 38 = .ok (.return_, 1) := by decide +kernel
theorem dX2_append_0 : decode cX2_append 0 = .ok (.aload_n 0, 1) := by decide +kernel
theorem dX2_append_1 : decode cX2_append 1 = .ok (.getfield 15, 3) := by decide +kernel
theorem dX2_append_4 : decode cX2_append 4 = .ok (.bipush 100, 2) := by decide +kernel
theorem dX2_append_6 : decode cX2_append 6 = .ok (.if_icmp .ge 23, 3) := by decide +kernel
theorem dX2_append_9 : decode cX2_append 9 = .ok (.aload_n 0, 1) := by decide +kernel
theorem dX2_append_10 : decode cX2_append 10 = .ok (.getfield 9, 3) := by decide +kernel
theorem dX2_append_13 : decode cX2_append 13 = .ok (.aload_n 0, 1) := by decide +kernel
theorem dX2_append_14 : decode cX2_append 14 = .ok (.getfield 15, 3) := by decide +kernel
theorem dX2_append_17 : decode cX2_append 17 = .ok (.iload_n 1, 1) := by decide +kernel
theorem dX2_append_18 : decode cX2_append 18 = .ok (.castore, 1) := by decide +kernel
theorem dX2_append_19 : decode cX2_append 19 = .ok (.aload_n 0, 1) := by decide +kernel
theorem dX2_append_20 : decode cX2_append 20 = .ok (.dup, 1) := by decide +kernel
theorem dX2_append_21 : decode cX2_append 21 = .ok (.getfield 15, 3) := by decide +kernel
theorem dX2_append_24 : decode cX2_append 24 = .ok (.iconst 1, 1) := by decide +kernel
theorem dX2_append_25 : decode cX2_append 25 = .ok (.iadd, 1) := by decide +kernel
theorem dX2_append_26 : decode cX2_append 26 = .ok (.putfield 15, 3) := by decide +kernel
theorem dX2_append_29 : decode cX2_append 29 = .ok (.aload_n 0, 1) := by decide +kernel
theorem dX2_append_30 : decode cX2_append 30 = .ok (.getfield 15, 3) := by decide +kernel
theorem dX2_append_33 : decode cX2_append 33 = .ok (.ireturn, 1) := by decide +kernel
theorem dX2_faultOf_0 : decode cX2_faultOf 0 = .ok (.aload_n 0, 1) := by decide +kernel
theorem dX2_faultOf_1 : decode cX2_faultOf 1 = .ok (.iconst 0, 1) := by decide +kernel
theorem dX2_faultOf_2 : decode cX2_faultOf 2 = .ok (.putfield 19, 3) := by decide +kernel
theorem dX2_faultOf_5 : decode cX2_faultOf 5 = .ok (.aload_n 0, 1) := by decide +kernel
theorem dX2_faultOf_6 : decode cX2_faultOf 6 = .ok (.aload_n 1, 1) := by decide +kernel
theorem dX2_faultOf_7 : decode cX2_faultOf 7 = .ok (.putfield 28, 3) := by decide +kernel
theorem dX2_faultOf_10 : decode cX2_faultOf 10 = .ok (.aload_n 1, 1) := by decide +kernel
theorem dX2_faultOf_11 : decode cX2_faultOf 11 = .ok (.invokevirtual 32, 3) := by decide +kernel
theorem dX2_faultOf_14 : decode cX2_faultOf 14 = .ok (.aload_n 0, 1) := by decide +kernel
theorem dX2_faultOf_15 : decode cX2_faultOf 15 = .ok (.invokevirtual 35, 3) := by decide +kernel
theorem dX2_faultOf_18 : decode cX2_faultOf 18 = .ok (.istore_n 2, 1) := by decide +kernel
theorem dX2_faultOf_19 : decode cX2_faultOf 19 = .ok (.iconst 1, 1) := by decide +kernel
theorem dX2_faultOf_20 : decode cX2_faultOf 20 = .ok (.istore_n 3, 1) := by decide +kernel
theorem dX2_faultOf_21 : decode cX2_faultOf 21 = .ok (.iload_n 3, 1) := by decide +kernel
theorem dX2_faultOf_22 : decode cX2_faultOf 22 = .ok (.bipush 10, 2) := by decide +kernel
theorem dX2_faultOf_24 : decode cX2_faultOf 24 = .ok (.if_icmp .ge 37, 3) := by decide +kernel
theorem dX2_faultOf_27 : decode cX2_faultOf 27 = .ok (.iload_n 2, 1) := by decide +kernel
theorem dX2_faultOf_28 : decode cX2_faultOf 28 = .ok (.ifCond .eq 33, 3) := by decide +kernel
theorem dX2_faultOf_31 : decode cX2_faultOf 31 = .ok (.aload_n 0, 1) := by decide +kernel
theorem dX2_faultOf_32 : decode cX2_faultOf 32 = .ok (.bipush 59, 2) := by decide +kernel
theorem dX2_faultOf_34 : decode cX2_faultOf 34 = .ok (.invokevirtual 39, 3) := by decide +kernel
theorem dX2_faultOf_37 : decode cX2_faultOf 37 = .ok (.ifCond .eq 24, 3) := by decide +kernel
theorem dX2_faultOf_40 : decode cX2_faultOf 40 = .ok (.aload_n 0, 1) := by decide +kernel
theorem dX2_faultOf_41 : decode cX2_faultOf 41 = .ok (.dup, 1) := by decide +kernel
theorem dX2_faultOf_42 : decode cX2_faultOf 42 = .ok (.getfield 19, 3) := by decide +kernel
theorem dX2_faultOf_45 : decode cX2_faultOf 45 = .ok (.iconst 1, 1) := by decide +kernel
theorem dX2_faultOf_46 : decode cX2_faultOf 46 = .ok (.iadd, 1) := by decide +kernel
theorem dX2_faultOf_47 : decode cX2_faultOf 47 = .ok (.putfield 19, 3) := by decide +kernel
theorem dX2_faultOf_50 : decode cX2_faultOf 50 = .ok (.aload_n 0, 1) := by decide +kernel
theorem dX2_faultOf_51 : decode cX2_faultOf 51 = .ok (.invokevirtual 35, 3) := by decide +kernel
theorem dX2_faultOf_54 : decode cX2_faultOf 54 = .ok (.istore_n 2, 1) := by decide +kernel
theorem dX2_faultOf_55 : decode cX2_faultOf 55 = .ok (.iinc 3 1, 3) := by decide +kernel
theorem dX2_faultOf_58 : decode cX2_faultOf 58 = .ok (.goto (-37), 3) := by decide +kernel
theorem dX2_faultOf_61 : decode cX2_faultOf 61 = .ok (.iload_n 2, 1) := by decide +kernel
theorem dX2_faultOf_62 : decode cX2_faultOf 62 = .ok (.ifCond .eq 18, 3) := by decide +kernel
theorem dX2_faultOf_65 : decode cX2_faultOf 65 = .ok (.aload_n 0, 1) := by decide +kernel
theorem dX2_faultOf_66 : decode cX2_faultOf 66 = .ok (.getfield 19, 3) := by decide +kernel
theorem dX2_faultOf_69 : decode cX2_faultOf 69 = .ok (.aload_n 0, 1) := by decide +kernel
theorem dX2_faultOf_70 : decode cX2_faultOf 70 = .ok (.getfield 15, 3) := by decide +kernel
theorem dX2_faultOf_73 : decode cX2_faultOf 73 = .ok (.if_icmp .ne 7, 3) := by decide +kernel
theorem dX2_faultOf_76 : decode cX2_faultOf 76 = .ok (.iconst (-1), 1) := by decide +kernel
theorem dX2_faultOf_77 : decode cX2_faultOf 77 = .ok (.goto 7, 3) := by decide +kernel
theorem dX2_faultOf_80 : decode cX2_faultOf 80 = .ok (.aload_n 0, 1) := by decide +kernel
theorem dX2_faultOf_81 : decode cX2_faultOf 81 = .ok (.getfield 19, 3) := by decide +kernel
theorem dX2_faultOf_84 : decode cX2_faultOf 84 = .ok (.ireturn, 1) := by decide +kernel
theorem dX2_readClause_0 : decode cX2_readClause 0 = .ok (.aload_n 0, 1) := by decide +kernel
theorem dX2_readClause_1 : decode cX2_readClause 1 = .ok (.invokevirtual 43, 3) := by decide +kernel
theorem dX2_readClause_4 : decode cX2_readClause 4 = .ok (.istore_n 1, 1) := by decide +kernel
theorem dX2_readClause_5 : decode cX2_readClause 5 = .ok (.iload_n 1, 1) := by decide +kernel
theorem dX2_readClause_6 : decode cX2_readClause 6 = .ok (.iconst (-1), 1) := by decide +kernel
theorem dX2_readClause_7 : decode cX2_readClause 7 = .ok (.if_icmp .eq 19, 3) := by decide +kernel
theorem dX2_readClause_10 : decode cX2_readClause 10 = .ok (.aload_n 0, 1) := by decide +kernel
theorem dX2_readClause_11 : decode cX2_readClause 11 = .ok (.bipush 32, 2) := by decide +kernel
theorem dX2_readClause_13 : decode cX2_readClause 13 = .ok (.invokevirtual 47, 3) := by decide +kernel
theorem dX2_readClause_16 : decode cX2_readClause 16 = .ok (.ifCond .eq 10, 3) := by decide +kernel
theorem dX2_readClause_19 : decode cX2_readClause 19 = .ok (.aload_n 0, 1) := by decide +kernel
theorem dX2_readClause_20 : decode cX2_readClause 20 = .ok (.invokevirtual 50, 3) := by decide +kernel
theorem dX2_readClause_23 : decode cX2_readClause 23 = .ok (.ifCond .ne 5, 3) := by decide +kernel
theorem dX2_readClause_26 : decode cX2_readClause 26 = .ok (.iconst 0, 1) := by decide +kernel
theorem dX2_readClause_27 : decode cX2_readClause 27 = .ok (.ireturn, 1) := by decide +kernel
theorem dX2_readClause_28 : decode cX2_readClause 28 = .ok (.aload_n 0, 1) := by decide +kernel
theorem dX2_readClause_29 : decode cX2_readClause 29 = .ok (.getfield 22, 3) := by decide +kernel
theorem dX2_readClause_32 : decode cX2_readClause 32 = .ok (.istore_n 2, 1) := by decide +kernel
theorem dX2_readClause_33 : decode cX2_readClause 33 = .ok (.iload_n 1, 1) := by decide +kernel
theorem dX2_readClause_34 : decode cX2_readClause 34 = .ok (.ifCond .eq 8, 3) := by decide +kernel
theorem dX2_readClause_37 : decode cX2_readClause 37 = .ok (.iload_n 1, 1) := by decide +kernel
theorem dX2_readClause_38 : decode cX2_readClause 38 = .ok (.iconst 1, 1) := by decide +kernel
theorem dX2_readClause_39 : decode cX2_readClause 39 = .ok (.if_icmp .ne 7, 3) := by decide +kernel
theorem dX2_readClause_42 : decode cX2_readClause 42 = .ok (.iconst 1, 1) := by decide +kernel
theorem dX2_readClause_43 : decode cX2_readClause 43 = .ok (.goto 4, 3) := by decide +kernel
theorem dX2_readClause_46 : decode cX2_readClause 46 = .ok (.iconst 0, 1) := by decide +kernel
theorem dX2_readClause_47 : decode cX2_readClause 47 = .ok (.istore_n 3, 1) := by decide +kernel
theorem dX2_readClause_48 : decode cX2_readClause 48 = .ok (.iload_n 3, 1) := by decide +kernel
theorem dX2_readClause_49 : decode cX2_readClause 49 = .ok (.ifCond .eq 22, 3) := by decide +kernel
theorem dX2_readClause_52 : decode cX2_readClause 52 = .ok (.aload_n 0, 1) := by decide +kernel
theorem dX2_readClause_53 : decode cX2_readClause 53 = .ok (.bipush 32, 2) := by decide +kernel
theorem dX2_readClause_55 : decode cX2_readClause 55 = .ok (.invokevirtual 47, 3) := by decide +kernel
theorem dX2_readClause_58 : decode cX2_readClause 58 = .ok (.ifCond .eq 11, 3) := by decide +kernel
theorem dX2_readClause_61 : decode cX2_readClause 61 = .ok (.aload_n 0, 1) := by decide +kernel
theorem dX2_readClause_62 : decode cX2_readClause 62 = .ok (.iconst 0, 1) := by decide +kernel
theorem dX2_readClause_63 : decode cX2_readClause 63 = .ok (.invokevirtual 53, 3) := by decide +kernel
theorem dX2_readClause_66 : decode cX2_readClause 66 = .ok (.ifCond .ne 5, 3) := by decide +kernel
theorem dX2_readClause_69 : decode cX2_readClause 69 = .ok (.iconst 0, 1) := by decide +kernel
theorem dX2_readClause_70 : decode cX2_readClause 70 = .ok (.ireturn, 1) := by decide +kernel
theorem dX2_readClause_71 : decode cX2_readClause 71 = .ok (.aload_n 0, 1) := by decide +kernel
theorem dX2_readClause_72 : decode cX2_readClause 72 = .ok (.getfield 28, 3) := by decide +kernel
theorem dX2_readClause_75 : decode cX2_readClause 75 = .ok (.iload_n 1, 1) := by decide +kernel
theorem dX2_readClause_76 : decode cX2_readClause 76 = .ok (.iload_n 2, 1) := by decide +kernel
theorem dX2_readClause_77 : decode cX2_readClause 77 = .ok (.invokevirtual 57, 3) := by decide +kernel
theorem dX2_readClause_80 : decode cX2_readClause 80 = .ok (.iconst 1, 1) := by decide +kernel
theorem dX2_readClause_81 : decode cX2_readClause 81 = .ok (.ireturn, 1) := by decide +kernel
theorem dX2_readWord_0 : decode cX2_readWord 0 = .ok (.iconst 0, 1) := by decide +kernel
theorem dX2_readWord_1 : decode cX2_readWord 1 = .ok (.istore_n 1, 1) := by decide +kernel
theorem dX2_readWord_2 : decode cX2_readWord 2 = .ok (.iconst 0, 1) := by decide +kernel
theorem dX2_readWord_3 : decode cX2_readWord 3 = .ok (.istore_n 2, 1) := by decide +kernel
theorem dX2_readWord_4 : decode cX2_readWord 4 = .ok (.iload_n 2, 1) := by decide +kernel
theorem dX2_readWord_5 : decode cX2_readWord 5 = .ok (.iconst 5, 1) := by decide +kernel
theorem dX2_readWord_6 : decode cX2_readWord 6 = .ok (.if_icmp .ge 50, 3) := by decide +kernel
theorem dX2_readWord_9 : decode cX2_readWord 9 = .ok (.iload_n 2, 1) := by decide +kernel
theorem dX2_readWord_10 : decode cX2_readWord 10 = .ok (.invokestatic 61, 3) := by decide +kernel
theorem dX2_readWord_13 : decode cX2_readWord 13 = .ok (.astore_n 3, 1) := by decide +kernel
theorem dX2_readWord_14 : decode cX2_readWord 14 = .ok (.aload_n 0, 1) := by decide +kernel
theorem dX2_readWord_15 : decode cX2_readWord 15 = .ok (.aload_n 3, 1) := by decide +kernel
theorem dX2_readWord_16 : decode cX2_readWord 16 = .ok (.invokevirtual 65, 3) := by decide +kernel
theorem dX2_readWord_19 : decode cX2_readWord 19 = .ok (.istore 4, 2) := by decide +kernel
theorem dX2_readWord_21 : decode cX2_readWord 21 = .ok (.iload 4, 2) := by decide +kernel
theorem dX2_readWord_23 : decode cX2_readWord 23 = .ok (.aload_n 3, 1) := by decide +kernel
theorem dX2_readWord_24 : decode cX2_readWord 24 = .ok (.invokevirtual 69, 3) := by decide +kernel
theorem dX2_readWord_27 : decode cX2_readWord 27 = .ok (.if_icmp .ne 16, 3) := by decide +kernel
theorem dX2_readWord_30 : decode cX2_readWord 30 = .ok (.aload_n 0, 1) := by decide +kernel
theorem dX2_readWord_31 : decode cX2_readWord 31 = .ok (.dup, 1) := by decide +kernel
theorem dX2_readWord_32 : decode cX2_readWord 32 = .ok (.getfield 19, 3) := by decide +kernel
theorem dX2_readWord_35 : decode cX2_readWord 35 = .ok (.iload 4, 2) := by decide +kernel
theorem dX2_readWord_37 : decode cX2_readWord 37 = .ok (.iadd, 1) := by decide +kernel
theorem dX2_readWord_38 : decode cX2_readWord 38 = .ok (.putfield 19, 3) := by decide +kernel
theorem dX2_readWord_41 : decode cX2_readWord 41 = .ok (.iload_n 2, 1) := by decide +kernel
theorem dX2_readWord_42 : decode cX2_readWord 42 = .ok (.ireturn, 1) := by decide +kernel
theorem dX2_readWord_43 : decode cX2_readWord 43 = .ok (.iload_n 1, 1) := by decide +kernel
theorem dX2_readWord_44 : decode cX2_readWord 44 = .ok (.iload 4, 2) := by decide +kernel
theorem dX2_readWord_46 : decode cX2_readWord 46 = .ok (.invokestatic 73, 3) := by decide +kernel
theorem dX2_readWord_49 : decode cX2_readWord 49 = .ok (.istore_n 1, 1) := by decide +kernel
theorem dX2_readWord_50 : decode cX2_readWord 50 = .ok (.iinc 2 1, 3) := by decide +kernel
theorem dX2_readWord_53 : decode cX2_readWord 53 = .ok (.goto (-49), 3) := by decide +kernel
theorem dX2_readWord_56 : decode cX2_readWord 56 = .ok (.aload_n 0, 1) := by decide +kernel
theorem dX2_readWord_57 : decode cX2_readWord 57 = .ok (.dup, 1) := by decide +kernel
theorem dX2_readWord_58 : decode cX2_readWord 58 = .ok (.getfield 19, 3) := by decide +kernel
theorem dX2_readWord_61 : decode cX2_readWord 61 = .ok (.iload_n 1, 1) := by decide +kernel
theorem dX2_readWord_62 : decode cX2_readWord 62 = .ok (.iadd, 1) := by decide +kernel
theorem dX2_readWord_63 : decode cX2_readWord 63 = .ok (.putfield 19, 3) := by decide +kernel
theorem dX2_readWord_66 : decode cX2_readWord 66 = .ok (.iconst (-1), 1) := by decide +kernel
theorem dX2_readWord_67 : decode cX2_readWord 67 = .ok (.ireturn, 1) := by decide +kernel
theorem dX2_wordOf_0 : decode cX2_wordOf 0 = .ok (.iload_n 0, 1) := by decide +kernel
theorem dX2_wordOf_1 : decode cX2_wordOf 1 = .ok (.tableswitch 43 0 3 #[31, 34, 37, 40], 31) := by decide +kernel
theorem dX2_wordOf_32 : decode cX2_wordOf 32 = .ok (.ldc 79, 2) := by decide +kernel
theorem dX2_wordOf_34 : decode cX2_wordOf 34 = .ok (.areturn, 1) := by decide +kernel
theorem dX2_wordOf_35 : decode cX2_wordOf 35 = .ok (.ldc 81, 2) := by decide +kernel
theorem dX2_wordOf_37 : decode cX2_wordOf 37 = .ok (.areturn, 1) := by decide +kernel
theorem dX2_wordOf_38 : decode cX2_wordOf 38 = .ok (.ldc 83, 2) := by decide +kernel
theorem dX2_wordOf_40 : decode cX2_wordOf 40 = .ok (.areturn, 1) := by decide +kernel
theorem dX2_wordOf_41 : decode cX2_wordOf 41 = .ok (.ldc 85, 2) := by decide +kernel
theorem dX2_wordOf_43 : decode cX2_wordOf 43 = .ok (.areturn, 1) := by decide +kernel
theorem dX2_wordOf_44 : decode cX2_wordOf 44 = .ok (.ldc 87, 2) := by decide +kernel
theorem dX2_wordOf_46 : decode cX2_wordOf 46 = .ok (.areturn, 1) := by decide +kernel
theorem dX2_alike_0 : decode cX2_alike 0 = .ok (.iconst 0, 1) := by decide +kernel
theorem dX2_alike_1 : decode cX2_alike 1 = .ok (.istore_n 2, 1) := by decide +kernel
theorem dX2_alike_2 : decode cX2_alike 2 = .ok (.iconst 0, 1) := by decide +kernel
theorem dX2_alike_3 : decode cX2_alike 3 = .ok (.istore_n 3, 1) := by decide +kernel
theorem dX2_alike_4 : decode cX2_alike 4 = .ok (.iload_n 3, 1) := by decide +kernel
theorem dX2_alike_5 : decode cX2_alike 5 = .ok (.aload_n 1, 1) := by decide +kernel
theorem dX2_alike_6 : decode cX2_alike 6 = .ok (.invokevirtual 69, 3) := by decide +kernel
theorem dX2_alike_9 : decode cX2_alike 9 = .ok (.if_icmp .ge 47, 3) := by decide +kernel
theorem dX2_alike_12 : decode cX2_alike 12 = .ok (.aload_n 0, 1) := by decide +kernel
theorem dX2_alike_13 : decode cX2_alike 13 = .ok (.getfield 19, 3) := by decide +kernel
theorem dX2_alike_16 : decode cX2_alike 16 = .ok (.iload_n 3, 1) := by decide +kernel
theorem dX2_alike_17 : decode cX2_alike 17 = .ok (.iadd, 1) := by decide +kernel
theorem dX2_alike_18 : decode cX2_alike 18 = .ok (.aload_n 0, 1) := by decide +kernel
theorem dX2_alike_19 : decode cX2_alike 19 = .ok (.getfield 15, 3) := by decide +kernel
theorem dX2_alike_22 : decode cX2_alike 22 = .ok (.if_icmp .ge 34, 3) := by decide +kernel
theorem dX2_alike_25 : decode cX2_alike 25 = .ok (.aload_n 0, 1) := by decide +kernel
theorem dX2_alike_26 : decode cX2_alike 26 = .ok (.getfield 9, 3) := by decide +kernel
theorem dX2_alike_29 : decode cX2_alike 29 = .ok (.aload_n 0, 1) := by decide +kernel
theorem dX2_alike_30 : decode cX2_alike 30 = .ok (.getfield 19, 3) := by decide +kernel
theorem dX2_alike_33 : decode cX2_alike 33 = .ok (.iload_n 3, 1) := by decide +kernel
theorem dX2_alike_34 : decode cX2_alike 34 = .ok (.iadd, 1) := by decide +kernel
theorem dX2_alike_35 : decode cX2_alike 35 = .ok (.caload, 1) := by decide +kernel
theorem dX2_alike_36 : decode cX2_alike 36 = .ok (.aload_n 1, 1) := by decide +kernel
theorem dX2_alike_37 : decode cX2_alike 37 = .ok (.iload_n 3, 1) := by decide +kernel
theorem dX2_alike_38 : decode cX2_alike 38 = .ok (.invokevirtual 89, 3) := by decide +kernel
theorem dX2_alike_41 : decode cX2_alike 41 = .ok (.if_icmp .eq 6, 3) := by decide +kernel
theorem dX2_alike_44 : decode cX2_alike 44 = .ok (.goto 12, 3) := by decide +kernel
theorem dX2_alike_47 : decode cX2_alike 47 = .ok (.iinc 2 1, 3) := by decide +kernel
theorem dX2_alike_50 : decode cX2_alike 50 = .ok (.iinc 3 1, 3) := by decide +kernel
theorem dX2_alike_53 : decode cX2_alike 53 = .ok (.goto (-49), 3) := by decide +kernel
theorem dX2_alike_56 : decode cX2_alike 56 = .ok (.iload_n 2, 1) := by decide +kernel
theorem dX2_alike_57 : decode cX2_alike 57 = .ok (.ireturn, 1) := by decide +kernel
theorem dX2_readNumber_0 : decode cX2_readNumber 0 = .ok (.iconst 0, 1) := by decide +kernel
theorem dX2_readNumber_1 : decode cX2_readNumber 1 = .ok (.istore_n 1, 1) := by decide +kernel
theorem dX2_readNumber_2 : decode cX2_readNumber 2 = .ok (.aload_n 0, 1) := by decide +kernel
theorem dX2_readNumber_3 : decode cX2_readNumber 3 = .ok (.iconst 0, 1) := by decide +kernel
theorem dX2_readNumber_4 : decode cX2_readNumber 4 = .ok (.putfield 22, 3) := by decide +kernel
theorem dX2_readNumber_7 : decode cX2_readNumber 7 = .ok (.iload_n 1, 1) := by decide +kernel
theorem dX2_readNumber_8 : decode cX2_readNumber 8 = .ok (.iconst 2, 1) := by decide +kernel
theorem dX2_readNumber_9 : decode cX2_readNumber 9 = .ok (.if_icmp .ge 82, 3) := by decide +kernel
theorem dX2_readNumber_12 : decode cX2_readNumber 12 = .ok (.aload_n 0, 1) := by decide +kernel
theorem dX2_readNumber_13 : decode cX2_readNumber 13 = .ok (.getfield 19, 3) := by decide +kernel
theorem dX2_readNumber_16 : decode cX2_readNumber 16 = .ok (.aload_n 0, 1) := by decide +kernel
theorem dX2_readNumber_17 : decode cX2_readNumber 17 = .ok (.getfield 15, 3) := by decide +kernel
theorem dX2_readNumber_20 : decode cX2_readNumber 20 = .ok (.if_icmp .ge 71, 3) := by decide +kernel
theorem dX2_readNumber_23 : decode cX2_readNumber 23 = .ok (.aload_n 0, 1) := by decide +kernel
theorem dX2_readNumber_24 : decode cX2_readNumber 24 = .ok (.getfield 9, 3) := by decide +kernel
theorem dX2_readNumber_27 : decode cX2_readNumber 27 = .ok (.aload_n 0, 1) := by decide +kernel
theorem dX2_readNumber_28 : decode cX2_readNumber 28 = .ok (.getfield 19, 3) := by decide +kernel
theorem dX2_readNumber_31 : decode cX2_readNumber 31 = .ok (.caload, 1) := by decide +kernel
theorem dX2_readNumber_32 : decode cX2_readNumber 32 = .ok (.bipush 48, 2) := by decide +kernel
theorem dX2_readNumber_34 : decode cX2_readNumber 34 = .ok (.if_icmp .lt 57, 3) := by decide +kernel
theorem dX2_readNumber_37 : decode cX2_readNumber 37 = .ok (.aload_n 0, 1) := by decide +kernel
theorem dX2_readNumber_38 : decode cX2_readNumber 38 = .ok (.getfield 9, 3) := by decide +kernel
theorem dX2_readNumber_41 : decode cX2_readNumber 41 = .ok (.aload_n 0, 1) := by decide +kernel
theorem dX2_readNumber_42 : decode cX2_readNumber 42 = .ok (.getfield 19, 3) := by decide +kernel
theorem dX2_readNumber_45 : decode cX2_readNumber 45 = .ok (.caload, 1) := by decide +kernel
theorem dX2_readNumber_46 : decode cX2_readNumber 46 = .ok (.bipush 57, 2) := by decide +kernel
theorem dX2_readNumber_48 : decode cX2_readNumber 48 = .ok (.if_icmp .gt 43, 3) := by decide +kernel
theorem dX2_readNumber_51 : decode cX2_readNumber 51 = .ok (.aload_n 0, 1) := by decide +kernel
theorem dX2_readNumber_52 : decode cX2_readNumber 52 = .ok (.aload_n 0, 1) := by decide +kernel
theorem dX2_readNumber_53 : decode cX2_readNumber 53 = .ok (.getfield 22, 3) := by decide +kernel
theorem dX2_readNumber_56 : decode cX2_readNumber 56 = .ok (.bipush 10, 2) := by decide +kernel
theorem dX2_readNumber_58 : decode cX2_readNumber 58 = .ok (.imul, 1) := by decide +kernel
theorem dX2_readNumber_59 : decode cX2_readNumber 59 = .ok (.aload_n 0, 1) := by decide +kernel
theorem dX2_readNumber_60 : decode cX2_readNumber 60 = .ok (.getfield 9, 3) := by decide +kernel
theorem dX2_readNumber_63 : decode cX2_readNumber 63 = .ok (.aload_n 0, 1) := by decide +kernel
theorem dX2_readNumber_64 : decode cX2_readNumber 64 = .ok (.getfield 19, 3) := by decide +kernel
theorem dX2_readNumber_67 : decode cX2_readNumber 67 = .ok (.caload, 1) := by decide +kernel
theorem dX2_readNumber_68 : decode cX2_readNumber 68 = .ok (.iadd, 1) := by decide +kernel
theorem dX2_readNumber_69 : decode cX2_readNumber 69 = .ok (.bipush 48, 2) := by decide +kernel
theorem dX2_readNumber_71 : decode cX2_readNumber 71 = .ok (.isub, 1) := by decide +kernel
theorem dX2_readNumber_72 : decode cX2_readNumber 72 = .ok (.putfield 22, 3) := by decide +kernel
theorem dX2_readNumber_75 : decode cX2_readNumber 75 = .ok (.aload_n 0, 1) := by decide +kernel
theorem dX2_readNumber_76 : decode cX2_readNumber 76 = .ok (.dup, 1) := by decide +kernel
theorem dX2_readNumber_77 : decode cX2_readNumber 77 = .ok (.getfield 19, 3) := by decide +kernel
theorem dX2_readNumber_80 : decode cX2_readNumber 80 = .ok (.iconst 1, 1) := by decide +kernel
theorem dX2_readNumber_81 : decode cX2_readNumber 81 = .ok (.iadd, 1) := by decide +kernel
theorem dX2_readNumber_82 : decode cX2_readNumber 82 = .ok (.putfield 19, 3) := by decide +kernel
theorem dX2_readNumber_85 : decode cX2_readNumber 85 = .ok (.iinc 1 1, 3) := by decide +kernel
theorem dX2_readNumber_88 : decode cX2_readNumber 88 = .ok (.goto (-81), 3) := by decide +kernel
theorem dX2_readNumber_91 : decode cX2_readNumber 91 = .ok (.iload_n 1, 1) := by decide +kernel
theorem dX2_readNumber_92 : decode cX2_readNumber 92 = .ok (.ifCond .le 7, 3) := by decide +kernel
theorem dX2_readNumber_95 : decode cX2_readNumber 95 = .ok (.iconst 1, 1) := by decide +kernel
theorem dX2_readNumber_96 : decode cX2_readNumber 96 = .ok (.goto 4, 3) := by decide +kernel
theorem dX2_readNumber_99 : decode cX2_readNumber 99 = .ok (.iconst 0, 1) := by decide +kernel
theorem dX2_readNumber_100 : decode cX2_readNumber 100 = .ok (.ireturn, 1) := by decide +kernel
theorem dX2_readEither_0 : decode cX2_readEither 0 = .ok (.aload_n 0, 1) := by decide +kernel
theorem dX2_readEither_1 : decode cX2_readEither 1 = .ok (.iload_n 1, 1) := by decide +kernel
theorem dX2_readEither_2 : decode cX2_readEither 2 = .ok (.invokevirtual 93, 3) := by decide +kernel
theorem dX2_readEither_5 : decode cX2_readEither 5 = .ok (.istore_n 2, 1) := by decide +kernel
theorem dX2_readEither_6 : decode cX2_readEither 6 = .ok (.iconst 0, 1) := by decide +kernel
theorem dX2_readEither_7 : decode cX2_readEither 7 = .ok (.istore_n 3, 1) := by decide +kernel
theorem dX2_readEither_8 : decode cX2_readEither 8 = .ok (.iload_n 3, 1) := by decide +kernel
theorem dX2_readEither_9 : decode cX2_readEither 9 = .ok (.bipush 100, 2) := by decide +kernel
theorem dX2_readEither_11 : decode cX2_readEither 11 = .ok (.if_icmp .ge 46, 3) := by decide +kernel
theorem dX2_readEither_14 : decode cX2_readEither 14 = .ok (.iload_n 2, 1) := by decide +kernel
theorem dX2_readEither_15 : decode cX2_readEither 15 = .ok (.ifCond .eq 42, 3) := by decide +kernel
theorem dX2_readEither_18 : decode cX2_readEither 18 = .ok (.aload_n 0, 1) := by decide +kernel
theorem dX2_readEither_19 : decode cX2_readEither 19 = .ok (.bipush 124, 2) := by decide +kernel
theorem dX2_readEither_21 : decode cX2_readEither 21 = .ok (.invokevirtual 39, 3) := by decide +kernel
theorem dX2_readEither_24 : decode cX2_readEither 24 = .ok (.ifCond .eq 33, 3) := by decide +kernel
theorem dX2_readEither_27 : decode cX2_readEither 27 = .ok (.aload_n 0, 1) := by decide +kernel
theorem dX2_readEither_28 : decode cX2_readEither 28 = .ok (.dup, 1) := by decide +kernel
theorem dX2_readEither_29 : decode cX2_readEither 29 = .ok (.getfield 19, 3) := by decide +kernel
theorem dX2_readEither_32 : decode cX2_readEither 32 = .ok (.iconst 1, 1) := by decide +kernel
theorem dX2_readEither_33 : decode cX2_readEither 33 = .ok (.iadd, 1) := by decide +kernel
theorem dX2_readEither_34 : decode cX2_readEither 34 = .ok (.putfield 19, 3) := by decide +kernel
theorem dX2_readEither_37 : decode cX2_readEither 37 = .ok (.aload_n 0, 1) := by decide +kernel
theorem dX2_readEither_38 : decode cX2_readEither 38 = .ok (.iload_n 1, 1) := by decide +kernel
theorem dX2_readEither_39 : decode cX2_readEither 39 = .ok (.invokevirtual 93, 3) := by decide +kernel
theorem dX2_readEither_42 : decode cX2_readEither 42 = .ok (.istore_n 2, 1) := by decide +kernel
theorem dX2_readEither_43 : decode cX2_readEither 43 = .ok (.aload_n 0, 1) := by decide +kernel
theorem dX2_readEither_44 : decode cX2_readEither 44 = .ok (.getfield 28, 3) := by decide +kernel
theorem dX2_readEither_47 : decode cX2_readEither 47 = .ok (.iconst 3, 1) := by decide +kernel
theorem dX2_readEither_48 : decode cX2_readEither 48 = .ok (.invokevirtual 96, 3) := by decide +kernel
theorem dX2_readEither_51 : decode cX2_readEither 51 = .ok (.iinc 3 1, 3) := by decide +kernel
theorem dX2_readEither_54 : decode cX2_readEither 54 = .ok (.goto (-46), 3) := by decide +kernel
theorem dX2_readEither_57 : decode cX2_readEither 57 = .ok (.iload_n 2, 1) := by decide +kernel
theorem dX2_readEither_58 : decode cX2_readEither 58 = .ok (.ireturn, 1) := by decide +kernel
theorem dX2_readBoth_0 : decode cX2_readBoth 0 = .ok (.aload_n 0, 1) := by decide +kernel
theorem dX2_readBoth_1 : decode cX2_readBoth 1 = .ok (.iload_n 1, 1) := by decide +kernel
theorem dX2_readBoth_2 : decode cX2_readBoth 2 = .ok (.invokevirtual 100, 3) := by decide +kernel
theorem dX2_readBoth_5 : decode cX2_readBoth 5 = .ok (.istore_n 2, 1) := by decide +kernel
theorem dX2_readBoth_6 : decode cX2_readBoth 6 = .ok (.iconst 0, 1) := by decide +kernel
theorem dX2_readBoth_7 : decode cX2_readBoth 7 = .ok (.istore_n 3, 1) := by decide +kernel
theorem dX2_readBoth_8 : decode cX2_readBoth 8 = .ok (.iload_n 3, 1) := by decide +kernel
theorem dX2_readBoth_9 : decode cX2_readBoth 9 = .ok (.bipush 100, 2) := by decide +kernel
theorem dX2_readBoth_11 : decode cX2_readBoth 11 = .ok (.if_icmp .ge 46, 3) := by decide +kernel
theorem dX2_readBoth_14 : decode cX2_readBoth 14 = .ok (.iload_n 2, 1) := by decide +kernel
theorem dX2_readBoth_15 : decode cX2_readBoth 15 = .ok (.ifCond .eq 42, 3) := by decide +kernel
theorem dX2_readBoth_18 : decode cX2_readBoth 18 = .ok (.aload_n 0, 1) := by decide +kernel
theorem dX2_readBoth_19 : decode cX2_readBoth 19 = .ok (.bipush 38, 2) := by decide +kernel
theorem dX2_readBoth_21 : decode cX2_readBoth 21 = .ok (.invokevirtual 39, 3) := by decide +kernel
theorem dX2_readBoth_24 : decode cX2_readBoth 24 = .ok (.ifCond .eq 33, 3) := by decide +kernel
theorem dX2_readBoth_27 : decode cX2_readBoth 27 = .ok (.aload_n 0, 1) := by decide +kernel
theorem dX2_readBoth_28 : decode cX2_readBoth 28 = .ok (.dup, 1) := by decide +kernel
theorem dX2_readBoth_29 : decode cX2_readBoth 29 = .ok (.getfield 19, 3) := by decide +kernel
theorem dX2_readBoth_32 : decode cX2_readBoth 32 = .ok (.iconst 1, 1) := by decide +kernel
theorem dX2_readBoth_33 : decode cX2_readBoth 33 = .ok (.iadd, 1) := by decide +kernel
theorem dX2_readBoth_34 : decode cX2_readBoth 34 = .ok (.putfield 19, 3) := by decide +kernel
theorem dX2_readBoth_37 : decode cX2_readBoth 37 = .ok (.aload_n 0, 1) := by decide +kernel
theorem dX2_readBoth_38 : decode cX2_readBoth 38 = .ok (.iload_n 1, 1) := by decide +kernel
theorem dX2_readBoth_39 : decode cX2_readBoth 39 = .ok (.invokevirtual 100, 3) := by decide +kernel
theorem dX2_readBoth_42 : decode cX2_readBoth 42 = .ok (.istore_n 2, 1) := by decide +kernel
theorem dX2_readBoth_43 : decode cX2_readBoth 43 = .ok (.aload_n 0, 1) := by decide +kernel
theorem dX2_readBoth_44 : decode cX2_readBoth 44 = .ok (.getfield 28, 3) := by decide +kernel
theorem dX2_readBoth_47 : decode cX2_readBoth 47 = .ok (.iconst 2, 1) := by decide +kernel
theorem dX2_readBoth_48 : decode cX2_readBoth 48 = .ok (.invokevirtual 96, 3) := by decide +kernel
theorem dX2_readBoth_51 : decode cX2_readBoth 51 = .ok (.iinc 3 1, 3) := by decide +kernel
theorem dX2_readBoth_54 : decode cX2_readBoth 54 = .ok (.goto (-46), 3) := by decide +kernel
theorem dX2_readBoth_57 : decode cX2_readBoth 57 = .ok (.iload_n 2, 1) := by decide +kernel
theorem dX2_readBoth_58 : decode cX2_readBoth 58 = .ok (.ireturn, 1) := by decide +kernel
theorem dX2_readOne_0 : decode cX2_readOne 0 = .ok (.aload_n 0, 1) := by decide +kernel
theorem dX2_readOne_1 : decode cX2_readOne 1 = .ok (.bipush 33, 2) := by decide +kernel
theorem dX2_readOne_3 : decode cX2_readOne 3 = .ok (.invokevirtual 39, 3) := by decide +kernel
theorem dX2_readOne_6 : decode cX2_readOne 6 = .ok (.istore_n 2, 1) := by decide +kernel
theorem dX2_readOne_7 : decode cX2_readOne 7 = .ok (.iload_n 2, 1) := by decide +kernel
theorem dX2_readOne_8 : decode cX2_readOne 8 = .ok (.ifCond .ne 17, 3) := by decide +kernel
theorem dX2_readOne_11 : decode cX2_readOne 11 = .ok (.aload_n 0, 1) := by decide +kernel
theorem dX2_readOne_12 : decode cX2_readOne 12 = .ok (.bipush 40, 2) := by decide +kernel
theorem dX2_readOne_14 : decode cX2_readOne 14 = .ok (.invokevirtual 39, 3) := by decide +kernel
theorem dX2_readOne_17 : decode cX2_readOne 17 = .ok (.ifCond .ne 8, 3) := by decide +kernel
theorem dX2_readOne_20 : decode cX2_readOne 20 = .ok (.aload_n 0, 1) := by decide +kernel
theorem dX2_readOne_21 : decode cX2_readOne 21 = .ok (.invokevirtual 103, 3) := by decide +kernel
theorem dX2_readOne_24 : decode cX2_readOne 24 = .ok (.ireturn, 1) := by decide +kernel
theorem dX2_readOne_25 : decode cX2_readOne 25 = .ok (.iload_n 1, 1) := by decide +kernel
theorem dX2_readOne_26 : decode cX2_readOne 26 = .ok (.iconst 4, 1) := by decide +kernel
theorem dX2_readOne_27 : decode cX2_readOne 27 = .ok (.if_icmp .lt 5, 3) := by decide +kernel
theorem dX2_readOne_30 : decode cX2_readOne 30 = .ok (.iconst 0, 1) := by decide +kernel
theorem dX2_readOne_31 : decode cX2_readOne 31 = .ok (.ireturn, 1) := by decide +kernel
theorem dX2_readOne_32 : decode cX2_readOne 32 = .ok (.aload_n 0, 1) := by decide +kernel
theorem dX2_readOne_33 : decode cX2_readOne 33 = .ok (.dup, 1) := by decide +kernel
theorem dX2_readOne_34 : decode cX2_readOne 34 = .ok (.getfield 19, 3) := by decide +kernel
theorem dX2_readOne_37 : decode cX2_readOne 37 = .ok (.iconst 1, 1) := by decide +kernel
theorem dX2_readOne_38 : decode cX2_readOne 38 = .ok (.iadd, 1) := by decide +kernel
theorem dX2_readOne_39 : decode cX2_readOne 39 = .ok (.putfield 19, 3) := by decide +kernel
theorem dX2_readOne_42 : decode cX2_readOne 42 = .ok (.iload_n 2, 1) := by decide +kernel
theorem dX2_readOne_43 : decode cX2_readOne 43 = .ok (.ifCond .ne 28, 3) := by decide +kernel
theorem dX2_readOne_46 : decode cX2_readOne 46 = .ok (.aload_n 0, 1) := by decide +kernel
theorem dX2_readOne_47 : decode cX2_readOne 47 = .ok (.iload_n 1, 1) := by decide +kernel
theorem dX2_readOne_48 : decode cX2_readOne 48 = .ok (.iconst 1, 1) := by decide +kernel
theorem dX2_readOne_49 : decode cX2_readOne 49 = .ok (.iadd, 1) := by decide +kernel
theorem dX2_readOne_50 : decode cX2_readOne 50 = .ok (.invokevirtual 53, 3) := by decide +kernel
theorem dX2_readOne_53 : decode cX2_readOne 53 = .ok (.ifCond .eq 16, 3) := by decide +kernel
theorem dX2_readOne_56 : decode cX2_readOne 56 = .ok (.aload_n 0, 1) := by decide +kernel
theorem dX2_readOne_57 : decode cX2_readOne 57 = .ok (.bipush 41, 2) := by decide +kernel
theorem dX2_readOne_59 : decode cX2_readOne 59 = .ok (.invokevirtual 47, 3) := by decide +kernel
theorem dX2_readOne_62 : decode cX2_readOne 62 = .ok (.ifCond .eq 7, 3) := by decide +kernel
theorem dX2_readOne_65 : decode cX2_readOne 65 = .ok (.iconst 1, 1) := by decide +kernel
theorem dX2_readOne_66 : decode cX2_readOne 66 = .ok (.goto 4, 3) := by decide +kernel
theorem dX2_readOne_69 : decode cX2_readOne 69 = .ok (.iconst 0, 1) := by decide +kernel
theorem dX2_readOne_70 : decode cX2_readOne 70 = .ok (.ireturn, 1) := by decide +kernel
theorem dX2_readOne_71 : decode cX2_readOne 71 = .ok (.aload_n 0, 1) := by decide +kernel
theorem dX2_readOne_72 : decode cX2_readOne 72 = .ok (.iload_n 1, 1) := by decide +kernel
theorem dX2_readOne_73 : decode cX2_readOne 73 = .ok (.iconst 1, 1) := by decide +kernel
theorem dX2_readOne_74 : decode cX2_readOne 74 = .ok (.iadd, 1) := by decide +kernel
theorem dX2_readOne_75 : decode cX2_readOne 75 = .ok (.invokevirtual 100, 3) := by decide +kernel
theorem dX2_readOne_78 : decode cX2_readOne 78 = .ok (.istore_n 3, 1) := by decide +kernel
theorem dX2_readOne_79 : decode cX2_readOne 79 = .ok (.aload_n 0, 1) := by decide +kernel
theorem dX2_readOne_80 : decode cX2_readOne 80 = .ok (.getfield 28, 3) := by decide +kernel
theorem dX2_readOne_83 : decode cX2_readOne 83 = .ok (.iconst 1, 1) := by decide +kernel
theorem dX2_readOne_84 : decode cX2_readOne 84 = .ok (.invokevirtual 96, 3) := by decide +kernel
theorem dX2_readOne_87 : decode cX2_readOne 87 = .ok (.iload_n 3, 1) := by decide +kernel
theorem dX2_readOne_88 : decode cX2_readOne 88 = .ok (.ireturn, 1) := by decide +kernel
theorem dX2_readTest_0 : decode cX2_readTest 0 = .ok (.aload_n 0, 1) := by decide +kernel
theorem dX2_readTest_1 : decode cX2_readTest 1 = .ok (.getfield 19, 3) := by decide +kernel
theorem dX2_readTest_4 : decode cX2_readTest 4 = .ok (.aload_n 0, 1) := by decide +kernel
theorem dX2_readTest_5 : decode cX2_readTest 5 = .ok (.getfield 15, 3) := by decide +kernel
theorem dX2_readTest_8 : decode cX2_readTest 8 = .ok (.if_icmp .ge 20, 3) := by decide +kernel
theorem dX2_readTest_11 : decode cX2_readTest 11 = .ok (.ldc 106, 2) := by decide +kernel
theorem dX2_readTest_13 : decode cX2_readTest 13 = .ok (.aload_n 0, 1) := by decide +kernel
theorem dX2_readTest_14 : decode cX2_readTest 14 = .ok (.getfield 9, 3) := by decide +kernel
theorem dX2_readTest_17 : decode cX2_readTest 17 = .ok (.aload_n 0, 1) := by decide +kernel
theorem dX2_readTest_18 : decode cX2_readTest 18 = .ok (.getfield 19, 3) := by decide +kernel
theorem dX2_readTest_21 : decode cX2_readTest 21 = .ok (.caload, 1) := by decide +kernel
theorem dX2_readTest_22 : decode cX2_readTest 22 = .ok (.invokevirtual 108, 3) := by decide +kernel
theorem dX2_readTest_25 : decode cX2_readTest 25 = .ok (.goto 4, 3) := by decide +kernel
theorem dX2_readTest_28 : decode cX2_readTest 28 = .ok (.iconst (-1), 1) := by decide +kernel
theorem dX2_readTest_29 : decode cX2_readTest 29 = .ok (.istore_n 1, 1) := by decide +kernel
theorem dX2_readTest_30 : decode cX2_readTest 30 = .ok (.iload_n 1, 1) := by decide +kernel
theorem dX2_readTest_31 : decode cX2_readTest 31 = .ok (.ifCond .ge 5, 3) := by decide +kernel
theorem dX2_readTest_34 : decode cX2_readTest 34 = .ok (.iconst 0, 1) := by decide +kernel
theorem dX2_readTest_35 : decode cX2_readTest 35 = .ok (.ireturn, 1) := by decide +kernel
theorem dX2_readTest_36 : decode cX2_readTest 36 = .ok (.aload_n 0, 1) := by decide +kernel
theorem dX2_readTest_37 : decode cX2_readTest 37 = .ok (.dup, 1) := by decide +kernel
theorem dX2_readTest_38 : decode cX2_readTest 38 = .ok (.getfield 19, 3) := by decide +kernel
theorem dX2_readTest_41 : decode cX2_readTest 41 = .ok (.iconst 1, 1) := by decide +kernel
theorem dX2_readTest_42 : decode cX2_readTest 42 = .ok (.iadd, 1) := by decide +kernel
theorem dX2_readTest_43 : decode cX2_readTest 43 = .ok (.putfield 19, 3) := by decide +kernel
theorem dX2_readTest_46 : decode cX2_readTest 46 = .ok (.aload_n 0, 1) := by decide +kernel
theorem dX2_readTest_47 : decode cX2_readTest 47 = .ok (.getfield 19, 3) := by decide +kernel
theorem dX2_readTest_50 : decode cX2_readTest 50 = .ok (.aload_n 0, 1) := by decide +kernel
theorem dX2_readTest_51 : decode cX2_readTest 51 = .ok (.getfield 15, 3) := by decide +kernel
theorem dX2_readTest_54 : decode cX2_readTest 54 = .ok (.if_icmp .ge 20, 3) := by decide +kernel
theorem dX2_readTest_57 : decode cX2_readTest 57 = .ok (.ldc 112, 2) := by decide +kernel
theorem dX2_readTest_59 : decode cX2_readTest 59 = .ok (.aload_n 0, 1) := by decide +kernel
theorem dX2_readTest_60 : decode cX2_readTest 60 = .ok (.getfield 9, 3) := by decide +kernel
theorem dX2_readTest_63 : decode cX2_readTest 63 = .ok (.aload_n 0, 1) := by decide +kernel
theorem dX2_readTest_64 : decode cX2_readTest 64 = .ok (.getfield 19, 3) := by decide +kernel
theorem dX2_readTest_67 : decode cX2_readTest 67 = .ok (.caload, 1) := by decide +kernel
theorem dX2_readTest_68 : decode cX2_readTest 68 = .ok (.invokevirtual 108, 3) := by decide +kernel
theorem dX2_readTest_71 : decode cX2_readTest 71 = .ok (.goto 4, 3) := by decide +kernel
theorem dX2_readTest_74 : decode cX2_readTest 74 = .ok (.iconst (-1), 1) := by decide +kernel
theorem dX2_readTest_75 : decode cX2_readTest 75 = .ok (.istore_n 2, 1) := by decide +kernel
theorem dX2_readTest_76 : decode cX2_readTest 76 = .ok (.iload_n 2, 1) := by decide +kernel
theorem dX2_readTest_77 : decode cX2_readTest 77 = .ok (.ifCond .ge 5, 3) := by decide +kernel
theorem dX2_readTest_80 : decode cX2_readTest 80 = .ok (.iconst 0, 1) := by decide +kernel
theorem dX2_readTest_81 : decode cX2_readTest 81 = .ok (.ireturn, 1) := by decide +kernel
theorem dX2_readTest_82 : decode cX2_readTest 82 = .ok (.aload_n 0, 1) := by decide +kernel
theorem dX2_readTest_83 : decode cX2_readTest 83 = .ok (.dup, 1) := by decide +kernel
theorem dX2_readTest_84 : decode cX2_readTest 84 = .ok (.getfield 19, 3) := by decide +kernel
theorem dX2_readTest_87 : decode cX2_readTest 87 = .ok (.iconst 1, 1) := by decide +kernel
theorem dX2_readTest_88 : decode cX2_readTest 88 = .ok (.iadd, 1) := by decide +kernel
theorem dX2_readTest_89 : decode cX2_readTest 89 = .ok (.putfield 19, 3) := by decide +kernel
theorem dX2_readTest_92 : decode cX2_readTest 92 = .ok (.aload_n 0, 1) := by decide +kernel
theorem dX2_readTest_93 : decode cX2_readTest 93 = .ok (.invokevirtual 50, 3) := by decide +kernel
theorem dX2_readTest_96 : decode cX2_readTest 96 = .ok (.ifCond .ne 5, 3) := by decide +kernel
theorem dX2_readTest_99 : decode cX2_readTest 99 = .ok (.iconst 0, 1) := by decide +kernel
theorem dX2_readTest_100 : decode cX2_readTest 100 = .ok (.ireturn, 1) := by decide +kernel
theorem dX2_readTest_101 : decode cX2_readTest 101 = .ok (.aload_n 0, 1) := by decide +kernel
theorem dX2_readTest_102 : decode cX2_readTest 102 = .ok (.getfield 28, 3) := by decide +kernel
theorem dX2_readTest_105 : decode cX2_readTest 105 = .ok (.iload_n 1, 1) := by decide +kernel
theorem dX2_readTest_106 : decode cX2_readTest 106 = .ok (.iload_n 2, 1) := by decide +kernel
theorem dX2_readTest_107 : decode cX2_readTest 107 = .ok (.aload_n 0, 1) := by decide +kernel
theorem dX2_readTest_108 : decode cX2_readTest 108 = .ok (.getfield 22, 3) := by decide +kernel
theorem dX2_readTest_111 : decode cX2_readTest 111 = .ok (.invokevirtual 114, 3) := by decide +kernel
theorem dX2_readTest_114 : decode cX2_readTest 114 = .ok (.iconst 1, 1) := by decide +kernel
theorem dX2_readTest_115 : decode cX2_readTest 115 = .ok (.ireturn, 1) := by decide +kernel
theorem dX2_sees_0 : decode cX2_sees 0 = .ok (.aload_n 0, 1) := by decide +kernel
theorem dX2_sees_1 : decode cX2_sees 1 = .ok (.getfield 19, 3) := by decide +kernel
theorem dX2_sees_4 : decode cX2_sees 4 = .ok (.aload_n 0, 1) := by decide +kernel
theorem dX2_sees_5 : decode cX2_sees 5 = .ok (.getfield 15, 3) := by decide +kernel
theorem dX2_sees_8 : decode cX2_sees 8 = .ok (.if_icmp .ge 20, 3) := by decide +kernel
theorem dX2_sees_11 : decode cX2_sees 11 = .ok (.aload_n 0, 1) := by decide +kernel
theorem dX2_sees_12 : decode cX2_sees 12 = .ok (.getfield 9, 3) := by decide +kernel
theorem dX2_sees_15 : decode cX2_sees 15 = .ok (.aload_n 0, 1) := by decide +kernel
theorem dX2_sees_16 : decode cX2_sees 16 = .ok (.getfield 19, 3) := by decide +kernel
theorem dX2_sees_19 : decode cX2_sees 19 = .ok (.caload, 1) := by decide +kernel
theorem dX2_sees_20 : decode cX2_sees 20 = .ok (.iload_n 1, 1) := by decide +kernel
theorem dX2_sees_21 : decode cX2_sees 21 = .ok (.if_icmp .ne 7, 3) := by decide +kernel
theorem dX2_sees_24 : decode cX2_sees 24 = .ok (.iconst 1, 1) := by decide +kernel
theorem dX2_sees_25 : decode cX2_sees 25 = .ok (.goto 4, 3) := by decide +kernel
theorem dX2_sees_28 : decode cX2_sees 28 = .ok (.iconst 0, 1) := by decide +kernel
theorem dX2_sees_29 : decode cX2_sees 29 = .ok (.ireturn, 1) := by decide +kernel
theorem dX2_takes_0 : decode cX2_takes 0 = .ok (.aload_n 0, 1) := by decide +kernel
theorem dX2_takes_1 : decode cX2_takes 1 = .ok (.iload_n 1, 1) := by decide +kernel
theorem dX2_takes_2 : decode cX2_takes 2 = .ok (.invokevirtual 39, 3) := by decide +kernel
theorem dX2_takes_5 : decode cX2_takes 5 = .ok (.ifCond .ne 5, 3) := by decide +kernel
theorem dX2_takes_8 : decode cX2_takes 8 = .ok (.iconst 0, 1) := by decide +kernel
theorem dX2_takes_9 : decode cX2_takes 9 = .ok (.ireturn, 1) := by decide +kernel
theorem dX2_takes_10 : decode cX2_takes 10 = .ok (.aload_n 0, 1) := by decide +kernel
theorem dX2_takes_11 : decode cX2_takes 11 = .ok (.dup, 1) := by decide +kernel
theorem dX2_takes_12 : decode cX2_takes 12 = .ok (.getfield 19, 3) := by decide +kernel
theorem dX2_takes_15 : decode cX2_takes 15 = .ok (.iconst 1, 1) := by decide +kernel
theorem dX2_takes_16 : decode cX2_takes 16 = .ok (.iadd, 1) := by decide +kernel
theorem dX2_takes_17 : decode cX2_takes 17 = .ok (.putfield 19, 3) := by decide +kernel
theorem dX2_takes_20 : decode cX2_takes 20 = .ok (.iconst 1, 1) := by decide +kernel
theorem dX2_takes_21 : decode cX2_takes 21 = .ok (.ireturn, 1) := by decide +kernel
theorem dX3_init_0 : decode cX3_init 0 = .ok (.aload_n 0, 1) := by decide +kernel
theorem dX3_init_1 : decode cX3_init 1 = .ok (.invokespecial 3, 3) := by decide +kernel
theorem dX3_init_4 : decode cX3_init 4 = .ok (.aload_n 0, 1) := by decide +kernel
theorem dX3_init_5 : decode cX3_init 5 = .ok (.iconst 5, 1) := by decide +kernel
theorem dX3_init_6 : decode cX3_init 6 = .ok (.newarray .int, 2) := by decide +kernel
theorem dX3_init_8 : decode cX3_init 8 = .ok (.putfield 9, 3) := by decide +kernel
theorem dX3_init_11 : decode cX3_init 11 = .ok (.aload_n 0, 1) := by decide +kernel
theorem dX3_init_12 : decode cX3_init 12 = .ok (.iconst 5, 1) := by decide +kernel
theorem dX3_init_13 : decode cX3_init 13 = .ok (.newarray .int, 2) := by decide +kernel
theorem dX3_init_15 : decode cX3_init 15 = .ok (.putfield 15, 3) := by decide +kernel
theorem dX3_init_18 : decode cX3_init 18 = .ok (.aload_n 0, 1) := by decide +kernel
theorem dX3_init_19 : decode cX3_init 19 = .ok (.iconst 5, 1) := by decide +kernel
theorem dX3_init_20 : decode cX3_init 20 = .ok (.newarray .int, 2) := by decide +kernel
theorem dX3_init_22 : decode cX3_init 22 = .ok (.putfield 18, 3) := by decide +kernel
theorem dX3_init_25 : decode cX3_init 25 = .ok (.aload_n 0, 1) := by decide +kernel
theorem dX3_init_26 : decode cX3_init 26 = .ok (.iconst 5, 1) := by decide +kernel
theorem dX3_init_27 : decode cX3_init 27 = .ok (.newarray .int, 2) := by decide +kernel
theorem dX3_init_29 : decode cX3_init 29 = .ok (.putfield 21, 3) := by decide +kernel
theorem dX3_init_32 : decode cX3_init 32 = .ok (.aload_n 0, 1) := by decide +kernel
theorem dX3_init_33 : decode cX3_init 33 = .ok (.bipush 6, 2) := by decide +kernel
theorem dX3_init_35 : decode cX3_init 35 = .ok (.newarray .int, 2) := by decide +kernel
theorem dX3_init_37 : decode cX3_init 37 = .ok (.putfield 24, 3) := by decide +kernel
theorem dX3_init_40 : decode cX3_init 40 = .ok (.aload_n 0, 1) := by decide +kernel
theorem dX3_init_41 : decode cX3_init 41 = .ok (.bipush 50, 2) := by decide +kernel
theorem dX3_init_43 : decode cX3_init 43 = .ok (.newarray .int, 2) := by decide +kernel
theorem dX3_init_45 : decode cX3_init 45 = .ok (.putfield 27, 3) := by decide +kernel
theorem dX3_init_48 : decode cX3_init 48 = .ok (.aload_n 0, 1) := by decide +kernel
theorem dX3_init_49 : decode cX3_init 49 = .ok (.iconst 5, 1) := by decide +kernel
theorem dX3_init_50 : decode cX3_init 50 = .ok (.newarray .int, 2) := by decide +kernel
theorem dX3_init_52 : decode cX3_init 52 = .ok (.putfield 30, 3) := by decide +kernel
theorem dX3_init_55 : decode cX3_init 55 = .ok (.aload_n 0, 1) := by decide +kernel
theorem dX3_init_56 : decode cX3_init 56 = .ok (.bipush 50, 2) := by decide +kernel
theorem dX3_init_58 : decode cX3_init 58 = .ok (.newarray .int, 2) := by decide +kernel
theorem dX3_init_60 : decode cX3_init 60 = .ok (.putfield 33, 3) := by decide +kernel
theorem dX3_init_63 : decode cX3_init 63 = .ok (.aload_n 0, 1) := by decide +kernel
theorem dX3_init_64 : decode cX3_init 64 = .ok (.new 36, 3) := by decide +kernel
theorem dX3_init_67 : decode cX3_init 67 = .ok (.dup, 1) := by decide +kernel
theorem dX3_init_68 : decode cX3_init 68 = .ok (.invokespecial 38, 3) := by decide +kernel
theorem dX3_init_71 : decode cX3_init 71 = .ok (.putfield 39, 3) := by decide +kernel
theorem dX3_init_74 : decode cX3_init 74 = .ok (.aload_n 0, 1) := by decide +kernel
theorem dX3_init_75 : decode cX3_init 75 = .ok (.new 43, 3) := by decide +kernel
theorem dX3_init_78 : decode cX3_init 78 = .ok (.dup, 1) := by decide +kernel
theorem dX3_init_79 : decode cX3_init 79 = .ok (.invokespecial 45, 3) := by decide +kernel
theorem dX3_init_82 : decode cX3_init 82 = .ok (.putfield 46, 3) := by decide +kernel
theorem dX3_init_85 : decode cX3_init 85 = .ok (.aload_n 0, 1) := by decide +kernel
theorem dX3_init_86 : decode cX3_init 86 = .ok (.iconst 0, 1) := by decide +kernel
theorem dX3_init_87 : decode cX3_init 87 = .ok (.putfield 50, 3) := by decide +kernel
theorem dX3_init_90 : decode cX3_init 90 = .ok (.aload_n 0, 1) := by decide +kernel
theorem dX3_init_91 : decode cX3_init 91 = .ok (.iconst 0, 1) := by decide +kernel
theorem dX3_init_92 : decode cX3_init 92 = .ok (.putfield 54, 3) := by decide +kernel
theorem dX3_init_95 : decode cX3_init 95 = .ok (.aload_n 0, 1) := by decide +kernel
theorem dX3_init_96 : decode cX3_init 96 = .ok (.bipush (-5), 2) := by decide +kernel
theorem dX3_init_98 : decode cX3_init 98 = .ok (.putfield 57, 3) := by decide +kernel
theorem dX3_init_101 : decode cX3_init 101 = .ok (.aload_n 0, 1) := by decide +kernel
theorem dX3_init_102 : decode cX3_init 102 = .ok (.iconst (-1), 1) := by decide +kernel
theorem dX3_init_103 : decode cX3_init 103 = .ok (.putfield 60, 3) := by decide +kernel
theorem dX3_init_106 : decode cX3_init 106 = .ok (.aload_n 0, 1) := by decide +kernel
theorem dX3_init_107 : decode cX3_init 107 = .ok (.iconst 0, 1) := by decide +kernel
theorem dX3_init_108 : decode cX3_init 108 = .ok (.putfield 63, 3) := by decide +kernel
theorem dX3_init_111 : decode cX3_init 111 = .ok (.aload_n 0, 1) := by decide +kernel
theorem dX3_init_112 : decode cX3_init 112 = .ok (.iconst (-1), 1) := by decide +kernel
theorem dX3_init_113 : decode cX3_init 113 = .ok (.putfield 67, 3) := by decide +kernel
theorem dX3_init_116 : decode cX3_init 116 = .ok (.aload_n 0, 1) := by decide +kernel
theorem dX3_init_117 : decode cX3_init 117 = .ok (.iconst (-1), 1) := by decide +kernel
theorem dX3_init_118 : decode cX3_init 118 = .ok (.putfield 70, 3) := by decide +kernel
theorem dX3_init_121 : decode cX3_init 121 = .ok (.return_, 1) := by decide +kernel
theorem dX3_agree_0 : decode cX3_agree 0 = .ok (.aload_n 0, 1) := by decide +kernel
theorem dX3_agree_1 : decode cX3_agree 1 = .ok (.iload_n 1, 1) := by decide +kernel
theorem dX3_agree_2 : decode cX3_agree 2 = .ok (.putfield 67, 3) := by decide +kernel
theorem dX3_agree_5 : decode cX3_agree 5 = .ok (.aload_n 0, 1) := by decide +kernel
theorem dX3_agree_6 : decode cX3_agree 6 = .ok (.iload_n 2, 1) := by decide +kernel
theorem dX3_agree_7 : decode cX3_agree 7 = .ok (.putfield 70, 3) := by decide +kernel
theorem dX3_agree_10 : decode cX3_agree 10 = .ok (.return_, 1) := by decide +kernel
theorem dX3_begin_0 : decode cX3_begin 0 = .ok (.aload_n 0, 1) := by decide +kernel
theorem dX3_begin_1 : decode cX3_begin 1 = .ok (.aload_n 1, 1) := by decide +kernel
theorem dX3_begin_2 : decode cX3_begin 2 = .ok (.putfield 39, 3) := by decide +kernel
theorem dX3_begin_5 : decode cX3_begin 5 = .ok (.aload_n 0, 1) := by decide +kernel
theorem dX3_begin_6 : decode cX3_begin 6 = .ok (.aload_n 2, 1) := by decide +kernel
theorem dX3_begin_7 : decode cX3_begin 7 = .ok (.putfield 46, 3) := by decide +kernel
theorem dX3_begin_10 : decode cX3_begin 10 = .ok (.aload_n 0, 1) := by decide +kernel
theorem dX3_begin_11 : decode cX3_begin 11 = .ok (.aload_n 0, 1) := by decide +kernel
theorem dX3_begin_12 : decode cX3_begin 12 = .ok (.getfield 60, 3) := by decide +kernel
theorem dX3_begin_15 : decode cX3_begin 15 = .ok (.iconst (-1), 1) := by decide +kernel
theorem dX3_begin_16 : decode cX3_begin 16 = .ok (.if_icmp .ne 10, 3) := by decide +kernel
theorem dX3_begin_19 : decode cX3_begin 19 = .ok (.aload_n 2, 1) := by decide +kernel
theorem dX3_begin_20 : decode cX3_begin 20 = .ok (.getfield 73, 3) := by decide +kernel
theorem dX3_begin_23 : decode cX3_begin 23 = .ok (.goto 7, 3) := by decide +kernel
theorem dX3_begin_26 : decode cX3_begin 26 = .ok (.aload_n 0, 1) := by decide +kernel
theorem dX3_begin_27 : decode cX3_begin 27 = .ok (.getfield 60, 3) := by decide +kernel
theorem dX3_begin_30 : decode cX3_begin 30 = .ok (.putfield 50, 3) := by decide +kernel
theorem dX3_begin_33 : decode cX3_begin 33 = .ok (.aload_n 0, 1) := by decide +kernel
theorem dX3_begin_34 : decode cX3_begin 34 = .ok (.getfield 24, 3) := by decide +kernel
theorem dX3_begin_37 : decode cX3_begin 37 = .ok (.iconst 4, 1) := by decide +kernel
theorem dX3_begin_38 : decode cX3_begin 38 = .ok (.aload_n 1, 1) := by decide +kernel
theorem dX3_begin_39 : decode cX3_begin 39 = .ok (.getfield 74, 3) := by decide +kernel
theorem dX3_begin_42 : decode cX3_begin 42 = .ok (.bipush 10, 2) := by decide +kernel
theorem dX3_begin_44 : decode cX3_begin 44 = .ok (.idiv, 1) := by decide +kernel
theorem dX3_begin_45 : decode cX3_begin 45 = .ok (.iastore, 1) := by decide +kernel
theorem dX3_begin_46 : decode cX3_begin 46 = .ok (.aload_n 0, 1) := by decide +kernel
theorem dX3_begin_47 : decode cX3_begin 47 = .ok (.getfield 24, 3) := by decide +kernel
theorem dX3_begin_50 : decode cX3_begin 50 = .ok (.iconst 5, 1) := by decide +kernel
theorem dX3_begin_51 : decode cX3_begin 51 = .ok (.aload_n 1, 1) := by decide +kernel
theorem dX3_begin_52 : decode cX3_begin 52 = .ok (.getfield 77, 3) := by decide +kernel
theorem dX3_begin_55 : decode cX3_begin 55 = .ok (.bipush 7, 2) := by decide +kernel
theorem dX3_begin_57 : decode cX3_begin 57 = .ok (.irem, 1) := by decide +kernel
theorem dX3_begin_58 : decode cX3_begin 58 = .ok (.iastore, 1) := by decide +kernel
theorem dX3_begin_59 : decode cX3_begin 59 = .ok (.aload_n 0, 1) := by decide +kernel
theorem dX3_begin_60 : decode cX3_begin 60 = .ok (.getfield 30, 3) := by decide +kernel
theorem dX3_begin_63 : decode cX3_begin 63 = .ok (.iconst 0, 1) := by decide +kernel
theorem dX3_begin_64 : decode cX3_begin 64 = .ok (.invokestatic 80, 3) := by decide +kernel
theorem dX3_begin_67 : decode cX3_begin 67 = .ok (.aload_n 0, 1) := by decide +kernel
theorem dX3_begin_68 : decode cX3_begin 68 = .ok (.getfield 33, 3) := by decide +kernel
theorem dX3_begin_71 : decode cX3_begin 71 = .ok (.iconst (-1), 1) := by decide +kernel
theorem dX3_begin_72 : decode cX3_begin 72 = .ok (.invokestatic 80, 3) := by decide +kernel
theorem dX3_begin_75 : decode cX3_begin 75 = .ok (.return_, 1) := by decide +kernel
theorem dX3_hold_0 : decode cX3_hold 0 = .ok (.aload_n 1, 1) := by decide +kernel
theorem dX3_hold_1 : decode cX3_hold 1 = .ok (.getfield 86, 3) := by decide +kernel
theorem dX3_hold_4 : decode cX3_hold 4 = .ok (.ifCond .ne 4, 3) := by decide +kernel
theorem dX3_hold_7 : decode cX3_hold 7 = .ok (.return_, 1) := by decide +kernel
theorem dX3_hold_8 : decode cX3_hold 8 = .ok (.aload_n 0, 1) := by decide +kernel
theorem dX3_hold_9 : decode cX3_hold 9 = .ok (.aload_n 1, 1) := by decide +kernel
theorem dX3_hold_10 : decode cX3_hold 10 = .ok (.aload_n 2, 1) := by decide +kernel
theorem dX3_hold_11 : decode cX3_hold 11 = .ok (.invokevirtual 89, 3) := by decide +kernel
theorem dX3_hold_14 : decode cX3_hold 14 = .ok (.iconst 0, 1) := by decide +kernel
theorem dX3_hold_15 : decode cX3_hold 15 = .ok (.istore_n 3, 1) := by decide +kernel
theorem dX3_hold_16 : decode cX3_hold 16 = .ok (.iload_n 3, 1) := by decide +kernel
theorem dX3_hold_17 : decode cX3_hold 17 = .ok (.aload_n 1, 1) := by decide +kernel
theorem dX3_hold_18 : decode cX3_hold 18 = .ok (.getfield 86, 3) := by decide +kernel
theorem dX3_hold_21 : decode cX3_hold 21 = .ok (.if_icmp .ge 20, 3) := by decide +kernel
theorem dX3_hold_24 : decode cX3_hold 24 = .ok (.aload_n 0, 1) := by decide +kernel
theorem dX3_hold_25 : decode cX3_hold 25 = .ok (.getfield 9, 3) := by decide +kernel
theorem dX3_hold_28 : decode cX3_hold 28 = .ok (.iload_n 3, 1) := by decide +kernel
theorem dX3_hold_29 : decode cX3_hold 29 = .ok (.aload_n 0, 1) := by decide +kernel
theorem dX3_hold_30 : decode cX3_hold 30 = .ok (.iload_n 3, 1) := by decide +kernel
theorem dX3_hold_31 : decode cX3_hold 31 = .ok (.invokevirtual 93, 3) := by decide +kernel
theorem dX3_hold_34 : decode cX3_hold 34 = .ok (.iastore, 1) := by decide +kernel
theorem dX3_hold_35 : decode cX3_hold 35 = .ok (.iinc 3 1, 3) := by decide +kernel
theorem dX3_hold_38 : decode cX3_hold 38 = .ok (.goto (-22), 3) := by decide +kernel
theorem dX3_hold_41 : decode cX3_hold 41 = .ok (.aload_n 0, 1) := by decide +kernel
theorem dX3_hold_42 : decode cX3_hold 42 = .ok (.invokevirtual 97, 3) := by decide +kernel
theorem dX3_hold_45 : decode cX3_hold 45 = .ok (.aload_n 0, 1) := by decide +kernel
theorem dX3_hold_46 : decode cX3_hold 46 = .ok (.aload_n 0, 1) := by decide +kernel
theorem dX3_hold_47 : decode cX3_hold 47 = .ok (.getfield 9, 3) := by decide +kernel
theorem dX3_hold_50 : decode cX3_hold 50 = .ok (.invokevirtual 100, 3) := by decide +kernel
theorem dX3_hold_53 : decode cX3_hold 53 = .ok (.iconst 0, 1) := by decide +kernel
theorem dX3_hold_54 : decode cX3_hold 54 = .ok (.istore_n 3, 1) := by decide +kernel
theorem dX3_hold_55 : decode cX3_hold 55 = .ok (.iload_n 3, 1) := by decide +kernel
theorem dX3_hold_56 : decode cX3_hold 56 = .ok (.aload_n 1, 1) := by decide +kernel
theorem dX3_hold_57 : decode cX3_hold 57 = .ok (.getfield 86, 3) := by decide +kernel
theorem dX3_hold_60 : decode cX3_hold 60 = .ok (.if_icmp .ge 35, 3) := by decide +kernel
theorem dX3_hold_63 : decode cX3_hold 63 = .ok (.aload_n 1, 1) := by decide +kernel
theorem dX3_hold_64 : decode cX3_hold 64 = .ok (.getfield 104, 3) := by decide +kernel
theorem dX3_hold_67 : decode cX3_hold 67 = .ok (.iload_n 3, 1) := by decide +kernel
theorem dX3_hold_68 : decode cX3_hold 68 = .ok (.aload_n 0, 1) := by decide +kernel
theorem dX3_hold_69 : decode cX3_hold 69 = .ok (.getfield 18, 3) := by decide +kernel
theorem dX3_hold_72 : decode cX3_hold 72 = .ok (.iload_n 3, 1) := by decide +kernel
theorem dX3_hold_73 : decode cX3_hold 73 = .ok (.iaload, 1) := by decide +kernel
theorem dX3_hold_74 : decode cX3_hold 74 = .ok (.iastore, 1) := by decide +kernel
theorem dX3_hold_75 : decode cX3_hold 75 = .ok (.aload_n 1, 1) := by decide +kernel
theorem dX3_hold_76 : decode cX3_hold 76 = .ok (.getfield 107, 3) := by decide +kernel
theorem dX3_hold_79 : decode cX3_hold 79 = .ok (.iload_n 3, 1) := by decide +kernel
theorem dX3_hold_80 : decode cX3_hold 80 = .ok (.dup2, 1) := by decide +kernel
theorem dX3_hold_81 : decode cX3_hold 81 = .ok (.iaload, 1) := by decide +kernel
theorem dX3_hold_82 : decode cX3_hold 82 = .ok (.aload_n 0, 1) := by decide +kernel
theorem dX3_hold_83 : decode cX3_hold 83 = .ok (.iload_n 3, 1) := by decide +kernel
theorem dX3_hold_84 : decode cX3_hold 84 = .ok (.invokevirtual 110, 3) := by decide +kernel
theorem dX3_hold_87 : decode cX3_hold 87 = .ok (.iadd, 1) := by decide +kernel
theorem dX3_hold_88 : decode cX3_hold 88 = .ok (.iastore, 1) := by decide +kernel
theorem dX3_hold_89 : decode cX3_hold 89 = .ok (.iinc 3 1, 3) := by decide +kernel
theorem dX3_hold_92 : decode cX3_hold 92 = .ok (.goto (-37), 3) := by decide +kernel
theorem dX3_hold_95 : decode cX3_hold 95 = .ok (.aload_n 1, 1) := by decide +kernel
theorem dX3_hold_96 : decode cX3_hold 96 = .ok (.bipush 99, 2) := by decide +kernel
theorem dX3_hold_98 : decode cX3_hold 98 = .ok (.aload_n 0, 1) := by decide +kernel
theorem dX3_hold_99 : decode cX3_hold 99 = .ok (.getfield 54, 3) := by decide +kernel
theorem dX3_hold_102 : decode cX3_hold 102 = .ok (.aload_n 2, 1) := by decide +kernel
theorem dX3_hold_103 : decode cX3_hold 103 = .ok (.getfield 113, 3) := by decide +kernel
theorem dX3_hold_106 : decode cX3_hold 106 = .ok (.iadd, 1) := by decide +kernel
theorem dX3_hold_107 : decode cX3_hold 107 = .ok (.invokestatic 116, 3) := by decide +kernel
theorem dX3_hold_110 : decode cX3_hold 110 = .ok (.putfield 74, 3) := by decide +kernel
theorem dX3_hold_113 : decode cX3_hold 113 = .ok (.aload_n 1, 1) := by decide +kernel
theorem dX3_hold_114 : decode cX3_hold 114 = .ok (.dup, 1) := by decide +kernel
theorem dX3_hold_115 : decode cX3_hold 115 = .ok (.getfield 77, 3) := by decide +kernel
theorem dX3_hold_118 : decode cX3_hold 118 = .ok (.iconst 1, 1) := by decide +kernel
theorem dX3_hold_119 : decode cX3_hold 119 = .ok (.iadd, 1) := by decide +kernel
theorem dX3_hold_120 : decode cX3_hold 120 = .ok (.putfield 77, 3) := by decide +kernel
theorem dX3_hold_123 : decode cX3_hold 123 = .ok (.aload_n 1, 1) := by decide +kernel
theorem dX3_hold_124 : decode cX3_hold 124 = .ok (.aload_n 0, 1) := by decide +kernel
theorem dX3_hold_125 : decode cX3_hold 125 = .ok (.getfield 57, 3) := by decide +kernel
theorem dX3_hold_128 : decode cX3_hold 128 = .ok (.putfield 122, 3) := by decide +kernel
theorem dX3_hold_131 : decode cX3_hold 131 = .ok (.return_, 1) := by decide +kernel
theorem dX3_keepPact_0 : decode cX3_keepPact 0 = .ok (.aload_n 0, 1) := by decide +kernel
theorem dX3_keepPact_1 : decode cX3_keepPact 1 = .ok (.getfield 67, 3) := by decide +kernel
theorem dX3_keepPact_4 : decode cX3_keepPact 4 = .ok (.iconst (-1), 1) := by decide +kernel
theorem dX3_keepPact_5 : decode cX3_keepPact 5 = .ok (.if_icmp .eq 11, 3) := by decide +kernel
theorem dX3_keepPact_8 : decode cX3_keepPact 8 = .ok (.aload_n 0, 1) := by decide +kernel
theorem dX3_keepPact_9 : decode cX3_keepPact 9 = .ok (.getfield 70, 3) := by decide +kernel
theorem dX3_keepPact_12 : decode cX3_keepPact 12 = .ok (.iconst (-1), 1) := by decide +kernel
theorem dX3_keepPact_13 : decode cX3_keepPact 13 = .ok (.if_icmp .ne 4, 3) := by decide +kernel
theorem dX3_keepPact_16 : decode cX3_keepPact 16 = .ok (.return_, 1) := by decide +kernel
theorem dX3_keepPact_17 : decode cX3_keepPact 17 = .ok (.aload_n 0, 1) := by decide +kernel
theorem dX3_keepPact_18 : decode cX3_keepPact 18 = .ok (.getfield 39, 3) := by decide +kernel
theorem dX3_keepPact_21 : decode cX3_keepPact 21 = .ok (.getfield 77, 3) := by decide +kernel
theorem dX3_keepPact_24 : decode cX3_keepPact 24 = .ok (.iconst 2, 1) := by decide +kernel
theorem dX3_keepPact_25 : decode cX3_keepPact 25 = .ok (.irem, 1) := by decide +kernel
theorem dX3_keepPact_26 : decode cX3_keepPact 26 = .ok (.ifCond .ne 7, 3) := by decide +kernel
theorem dX3_keepPact_29 : decode cX3_keepPact 29 = .ok (.iconst 1, 1) := by decide +kernel
theorem dX3_keepPact_30 : decode cX3_keepPact 30 = .ok (.goto 4, 3) := by decide +kernel
theorem dX3_keepPact_33 : decode cX3_keepPact 33 = .ok (.iconst 0, 1) := by decide +kernel
theorem dX3_keepPact_34 : decode cX3_keepPact 34 = .ok (.istore_n 1, 1) := by decide +kernel
theorem dX3_keepPact_35 : decode cX3_keepPact 35 = .ok (.aload_n 0, 1) := by decide +kernel
theorem dX3_keepPact_36 : decode cX3_keepPact 36 = .ok (.getfield 9, 3) := by decide +kernel
theorem dX3_keepPact_39 : decode cX3_keepPact 39 = .ok (.aload_n 0, 1) := by decide +kernel
theorem dX3_keepPact_40 : decode cX3_keepPact 40 = .ok (.getfield 67, 3) := by decide +kernel
theorem dX3_keepPact_43 : decode cX3_keepPact 43 = .ok (.iload_n 1, 1) := by decide +kernel
theorem dX3_keepPact_44 : decode cX3_keepPact 44 = .ok (.ifCond .eq 7, 3) := by decide +kernel
theorem dX3_keepPact_47 : decode cX3_keepPact 47 = .ok (.iconst 0, 1) := by decide +kernel
theorem dX3_keepPact_48 : decode cX3_keepPact 48 = .ok (.goto 5, 3) := by decide +kernel
theorem dX3_keepPact_51 : decode cX3_keepPact 51 = .ok (.bipush 9, 2) := by decide +kernel
theorem dX3_keepPact_53 : decode cX3_keepPact 53 = .ok (.iastore, 1) := by decide +kernel
theorem dX3_keepPact_54 : decode cX3_keepPact 54 = .ok (.aload_n 0, 1) := by decide +kernel
theorem dX3_keepPact_55 : decode cX3_keepPact 55 = .ok (.getfield 9, 3) := by decide +kernel
theorem dX3_keepPact_58 : decode cX3_keepPact 58 = .ok (.aload_n 0, 1) := by decide +kernel
theorem dX3_keepPact_59 : decode cX3_keepPact 59 = .ok (.getfield 70, 3) := by decide +kernel
theorem dX3_keepPact_62 : decode cX3_keepPact 62 = .ok (.iload_n 1, 1) := by decide +kernel
theorem dX3_keepPact_63 : decode cX3_keepPact 63 = .ok (.ifCond .eq 8, 3) := by decide +kernel
theorem dX3_keepPact_66 : decode cX3_keepPact 66 = .ok (.bipush 9, 2) := by decide +kernel
theorem dX3_keepPact_68 : decode cX3_keepPact 68 = .ok (.goto 4, 3) := by decide +kernel
theorem dX3_keepPact_71 : decode cX3_keepPact 71 = .ok (.iconst 0, 1) := by decide +kernel
theorem dX3_keepPact_72 : decode cX3_keepPact 72 = .ok (.iastore, 1) := by decide +kernel
theorem dX3_keepPact_73 : decode cX3_keepPact 73 = .ok (.return_, 1) := by decide +kernel
theorem dX3_wishOf_0 : decode cX3_wishOf 0 = .ok (.aload_n 0, 1) := by decide +kernel
theorem dX3_wishOf_1 : decode cX3_wishOf 1 = .ok (.getfield 39, 3) := by decide +kernel
theorem dX3_wishOf_4 : decode cX3_wishOf 4 = .ok (.getfield 123, 3) := by decide +kernel
theorem dX3_wishOf_7 : decode cX3_wishOf 7 = .ok (.iload_n 1, 1) := by decide +kernel
theorem dX3_wishOf_8 : decode cX3_wishOf 8 = .ok (.iaload, 1) := by decide +kernel
theorem dX3_wishOf_9 : decode cX3_wishOf 9 = .ok (.iconst 4, 1) := by decide +kernel
theorem dX3_wishOf_10 : decode cX3_wishOf 10 = .ok (.if_icmp .eq 12, 3) := by decide +kernel
theorem dX3_wishOf_13 : decode cX3_wishOf 13 = .ok (.aload_n 0, 1) := by decide +kernel
theorem dX3_wishOf_14 : decode cX3_wishOf 14 = .ok (.getfield 39, 3) := by decide +kernel
theorem dX3_wishOf_17 : decode cX3_wishOf 17 = .ok (.iload_n 1, 1) := by decide +kernel
theorem dX3_wishOf_18 : decode cX3_wishOf 18 = .ok (.invokevirtual 126, 3) := by decide +kernel
theorem dX3_wishOf_21 : decode cX3_wishOf 21 = .ok (.ireturn, 1) := by decide +kernel
theorem dX3_wishOf_22 : decode cX3_wishOf 22 = .ok (.iconst 0, 1) := by decide +kernel
theorem dX3_wishOf_23 : decode cX3_wishOf 23 = .ok (.istore_n 2, 1) := by decide +kernel
theorem dX3_wishOf_24 : decode cX3_wishOf 24 = .ok (.iload_n 2, 1) := by decide +kernel
theorem dX3_wishOf_25 : decode cX3_wishOf 25 = .ok (.aload_n 0, 1) := by decide +kernel
theorem dX3_wishOf_26 : decode cX3_wishOf 26 = .ok (.getfield 39, 3) := by decide +kernel
theorem dX3_wishOf_29 : decode cX3_wishOf 29 = .ok (.getfield 86, 3) := by decide +kernel
theorem dX3_wishOf_32 : decode cX3_wishOf 32 = .ok (.if_icmp .ge 23, 3) := by decide +kernel
theorem dX3_wishOf_35 : decode cX3_wishOf 35 = .ok (.aload_n 0, 1) := by decide +kernel
theorem dX3_wishOf_36 : decode cX3_wishOf 36 = .ok (.getfield 15, 3) := by decide +kernel
theorem dX3_wishOf_39 : decode cX3_wishOf 39 = .ok (.iload_n 2, 1) := by decide +kernel
theorem dX3_wishOf_40 : decode cX3_wishOf 40 = .ok (.aload_n 0, 1) := by decide +kernel
theorem dX3_wishOf_41 : decode cX3_wishOf 41 = .ok (.getfield 39, 3) := by decide +kernel
theorem dX3_wishOf_44 : decode cX3_wishOf 44 = .ok (.iload_n 2, 1) := by decide +kernel
theorem dX3_wishOf_45 : decode cX3_wishOf 45 = .ok (.invokevirtual 126, 3) := by decide +kernel
theorem dX3_wishOf_48 : decode cX3_wishOf 48 = .ok (.iastore, 1) := by decide +kernel
theorem dX3_wishOf_49 : decode cX3_wishOf 49 = .ok (.iinc 2 1, 3) := by decide +kernel
theorem dX3_wishOf_52 : decode cX3_wishOf 52 = .ok (.goto (-28), 3) := by decide +kernel
theorem dX3_wishOf_55 : decode cX3_wishOf 55 = .ok (.iconst 0, 1) := by decide +kernel
theorem dX3_wishOf_56 : decode cX3_wishOf 56 = .ok (.istore_n 2, 1) := by decide +kernel
theorem dX3_wishOf_57 : decode cX3_wishOf 57 = .ok (.iconst 0, 1) := by decide +kernel
theorem dX3_wishOf_58 : decode cX3_wishOf 58 = .ok (.istore_n 3, 1) := by decide +kernel
theorem dX3_wishOf_59 : decode cX3_wishOf 59 = .ok (.iconst 0, 1) := by decide +kernel
theorem dX3_wishOf_60 : decode cX3_wishOf 60 = .ok (.istore 4, 2) := by decide +kernel
theorem dX3_wishOf_62 : decode cX3_wishOf 62 = .ok (.iload 4, 2) := by decide +kernel
theorem dX3_wishOf_64 : decode cX3_wishOf 64 = .ok (.bipush 9, 2) := by decide +kernel
theorem dX3_wishOf_66 : decode cX3_wishOf 66 = .ok (.if_icmp .gt 49, 3) := by decide +kernel
theorem dX3_wishOf_69 : decode cX3_wishOf 69 = .ok (.aload_n 0, 1) := by decide +kernel
theorem dX3_wishOf_70 : decode cX3_wishOf 70 = .ok (.getfield 15, 3) := by decide +kernel
theorem dX3_wishOf_73 : decode cX3_wishOf 73 = .ok (.iload_n 1, 1) := by decide +kernel
theorem dX3_wishOf_74 : decode cX3_wishOf 74 = .ok (.iload 4, 2) := by decide +kernel
theorem dX3_wishOf_76 : decode cX3_wishOf 76 = .ok (.iastore, 1) := by decide +kernel
theorem dX3_wishOf_77 : decode cX3_wishOf 77 = .ok (.aload_n 0, 1) := by decide +kernel
theorem dX3_wishOf_78 : decode cX3_wishOf 78 = .ok (.aload_n 0, 1) := by decide +kernel
theorem dX3_wishOf_79 : decode cX3_wishOf 79 = .ok (.getfield 15, 3) := by decide +kernel
theorem dX3_wishOf_82 : decode cX3_wishOf 82 = .ok (.invokevirtual 100, 3) := by decide +kernel
theorem dX3_wishOf_85 : decode cX3_wishOf 85 = .ok (.aload_n 0, 1) := by decide +kernel
theorem dX3_wishOf_86 : decode cX3_wishOf 86 = .ok (.iload_n 1, 1) := by decide +kernel
theorem dX3_wishOf_87 : decode cX3_wishOf 87 = .ok (.invokevirtual 110, 3) := by decide +kernel
theorem dX3_wishOf_90 : decode cX3_wishOf 90 = .ok (.istore 5, 2) := by decide +kernel
theorem dX3_wishOf_92 : decode cX3_wishOf 92 = .ok (.iload 4, 2) := by decide +kernel
theorem dX3_wishOf_94 : decode cX3_wishOf 94 = .ok (.ifCond .eq 9, 3) := by decide +kernel
theorem dX3_wishOf_97 : decode cX3_wishOf 97 = .ok (.iload 5, 2) := by decide +kernel
theorem dX3_wishOf_99 : decode cX3_wishOf 99 = .ok (.iload_n 3, 1) := by decide +kernel
theorem dX3_wishOf_100 : decode cX3_wishOf 100 = .ok (.if_icmp .le 9, 3) := by decide +kernel
theorem dX3_wishOf_103 : decode cX3_wishOf 103 = .ok (.iload 4, 2) := by decide +kernel
theorem dX3_wishOf_105 : decode cX3_wishOf 105 = .ok (.istore_n 2, 1) := by decide +kernel
theorem dX3_wishOf_106 : decode cX3_wishOf 106 = .ok (.iload 5, 2) := by decide +kernel
theorem dX3_wishOf_108 : decode cX3_wishOf 108 = .ok (.istore_n 3, 1) := by decide +kernel
theorem dX3_wishOf_109 : decode cX3_wishOf 109 = .ok (.iinc 4 1, 3) := by decide +kernel
theorem dX3_wishOf_112 : decode cX3_wishOf 112 = .ok (.goto (-50), 3) := by decide +kernel
theorem dX3_wishOf_115 : decode cX3_wishOf 115 = .ok (.iload_n 2, 1) := by decide +kernel
theorem dX3_wishOf_116 : decode cX3_wishOf 116 = .ok (.ireturn, 1) := by decide +kernel
theorem dX3_serve_0 : decode cX3_serve 0 = .ok (.aload_n 0, 1) := by decide +kernel
theorem dX3_serve_1 : decode cX3_serve 1 = .ok (.aload_n 0, 1) := by decide +kernel
theorem dX3_serve_2 : decode cX3_serve 2 = .ok (.getfield 39, 3) := by decide +kernel
theorem dX3_serve_5 : decode cX3_serve 5 = .ok (.getfield 74, 3) := by decide +kernel
theorem dX3_serve_8 : decode cX3_serve 8 = .ok (.putfield 54, 3) := by decide +kernel
theorem dX3_serve_11 : decode cX3_serve 11 = .ok (.iconst 0, 1) := by decide +kernel
theorem dX3_serve_12 : decode cX3_serve 12 = .ok (.istore_n 2, 1) := by decide +kernel
theorem dX3_serve_13 : decode cX3_serve 13 = .ok (.iload_n 2, 1) := by decide +kernel
theorem dX3_serve_14 : decode cX3_serve 14 = .ok (.aload_n 0, 1) := by decide +kernel
theorem dX3_serve_15 : decode cX3_serve 15 = .ok (.getfield 39, 3) := by decide +kernel
theorem dX3_serve_18 : decode cX3_serve 18 = .ok (.getfield 86, 3) := by decide +kernel
theorem dX3_serve_21 : decode cX3_serve 21 = .ok (.if_icmp .ge 64, 3) := by decide +kernel
theorem dX3_serve_24 : decode cX3_serve 24 = .ok (.aload_n 0, 1) := by decide +kernel
theorem dX3_serve_25 : decode cX3_serve 25 = .ok (.getfield 18, 3) := by decide +kernel
theorem dX3_serve_28 : decode cX3_serve 28 = .ok (.iload_n 2, 1) := by decide +kernel
theorem dX3_serve_29 : decode cX3_serve 29 = .ok (.aload_n 1, 1) := by decide +kernel
theorem dX3_serve_30 : decode cX3_serve 30 = .ok (.iload_n 2, 1) := by decide +kernel
theorem dX3_serve_31 : decode cX3_serve 31 = .ok (.iaload, 1) := by decide +kernel
theorem dX3_serve_32 : decode cX3_serve 32 = .ok (.aload_n 0, 1) := by decide +kernel
theorem dX3_serve_33 : decode cX3_serve 33 = .ok (.getfield 54, 3) := by decide +kernel
theorem dX3_serve_36 : decode cX3_serve 36 = .ok (.invokestatic 116, 3) := by decide +kernel
theorem dX3_serve_39 : decode cX3_serve 39 = .ok (.iastore, 1) := by decide +kernel
theorem dX3_serve_40 : decode cX3_serve 40 = .ok (.aload_n 0, 1) := by decide +kernel
theorem dX3_serve_41 : decode cX3_serve 41 = .ok (.dup, 1) := by decide +kernel
theorem dX3_serve_42 : decode cX3_serve 42 = .ok (.getfield 54, 3) := by decide +kernel
theorem dX3_serve_45 : decode cX3_serve 45 = .ok (.aload_n 0, 1) := by decide +kernel
theorem dX3_serve_46 : decode cX3_serve 46 = .ok (.getfield 18, 3) := by decide +kernel
theorem dX3_serve_49 : decode cX3_serve 49 = .ok (.iload_n 2, 1) := by decide +kernel
theorem dX3_serve_50 : decode cX3_serve 50 = .ok (.iaload, 1) := by decide +kernel
theorem dX3_serve_51 : decode cX3_serve 51 = .ok (.isub, 1) := by decide +kernel
theorem dX3_serve_52 : decode cX3_serve 52 = .ok (.putfield 54, 3) := by decide +kernel
theorem dX3_serve_55 : decode cX3_serve 55 = .ok (.aload_n 0, 1) := by decide +kernel
theorem dX3_serve_56 : decode cX3_serve 56 = .ok (.getfield 21, 3) := by decide +kernel
theorem dX3_serve_59 : decode cX3_serve 59 = .ok (.iload_n 2, 1) := by decide +kernel
theorem dX3_serve_60 : decode cX3_serve 60 = .ok (.aload_n 0, 1) := by decide +kernel
theorem dX3_serve_61 : decode cX3_serve 61 = .ok (.getfield 18, 3) := by decide +kernel
theorem dX3_serve_64 : decode cX3_serve 64 = .ok (.iload_n 2, 1) := by decide +kernel
theorem dX3_serve_65 : decode cX3_serve 65 = .ok (.iaload, 1) := by decide +kernel
theorem dX3_serve_66 : decode cX3_serve 66 = .ok (.iconst 1, 1) := by decide +kernel
theorem dX3_serve_67 : decode cX3_serve 67 = .ok (.aload_n 0, 1) := by decide +kernel
theorem dX3_serve_68 : decode cX3_serve 68 = .ok (.getfield 46, 3) := by decide +kernel
theorem dX3_serve_71 : decode cX3_serve 71 = .ok (.getfield 129, 3) := by decide +kernel
theorem dX3_serve_74 : decode cX3_serve 74 = .ok (.invokestatic 132, 3) := by decide +kernel
theorem dX3_serve_77 : decode cX3_serve 77 = .ok (.idiv, 1) := by decide +kernel
theorem dX3_serve_78 : decode cX3_serve 78 = .ok (.iastore, 1) := by decide +kernel
theorem dX3_serve_79 : decode cX3_serve 79 = .ok (.iinc 2 1, 3) := by decide +kernel
theorem dX3_serve_82 : decode cX3_serve 82 = .ok (.goto (-69), 3) := by decide +kernel
theorem dX3_serve_85 : decode cX3_serve 85 = .ok (.aload_n 0, 1) := by decide +kernel
theorem dX3_serve_86 : decode cX3_serve 86 = .ok (.aload_n 0, 1) := by decide +kernel
theorem dX3_serve_87 : decode cX3_serve 87 = .ok (.getfield 50, 3) := by decide +kernel
theorem dX3_serve_90 : decode cX3_serve 90 = .ok (.iconst 2, 1) := by decide +kernel
theorem dX3_serve_91 : decode cX3_serve 91 = .ok (.if_icmp .ne 10, 3) := by decide +kernel
theorem dX3_serve_94 : decode cX3_serve 94 = .ok (.aload_n 0, 1) := by decide +kernel
theorem dX3_serve_95 : decode cX3_serve 95 = .ok (.invokevirtual 135, 3) := by decide +kernel
theorem dX3_serve_98 : decode cX3_serve 98 = .ok (.goto 7, 3) := by decide +kernel
theorem dX3_serve_101 : decode cX3_serve 101 = .ok (.aload_n 0, 1) := by decide +kernel
theorem dX3_serve_102 : decode cX3_serve 102 = .ok (.invokevirtual 139, 3) := by decide +kernel
theorem dX3_serve_105 : decode cX3_serve 105 = .ok (.putfield 57, 3) := by decide +kernel
theorem dX3_serve_108 : decode cX3_serve 108 = .ok (.return_, 1) := by decide +kernel
theorem dX3_outermost_0 : decode cX3_outermost 0 = .ok (.aload_n 0, 1) := by decide +kernel
theorem dX3_outermost_1 : decode cX3_outermost 1 = .ok (.getfield 39, 3) := by decide +kernel
theorem dX3_outermost_4 : decode cX3_outermost 4 = .ok (.getfield 86, 3) := by decide +kernel
theorem dX3_outermost_7 : decode cX3_outermost 7 = .ok (.ifCond .le 7, 3) := by decide +kernel
theorem dX3_outermost_10 : decode cX3_outermost 10 = .ok (.iconst 0, 1) := by decide +kernel
theorem dX3_outermost_11 : decode cX3_outermost 11 = .ok (.goto 5, 3) := by decide +kernel
theorem dX3_outermost_14 : decode cX3_outermost 14 = .ok (.bipush (-5), 2) := by decide +kernel
theorem dX3_outermost_16 : decode cX3_outermost 16 = .ok (.istore_n 1, 1) := by decide +kernel
theorem dX3_outermost_17 : decode cX3_outermost 17 = .ok (.iconst 1, 1) := by decide +kernel
theorem dX3_outermost_18 : decode cX3_outermost 18 = .ok (.istore_n 2, 1) := by decide +kernel
theorem dX3_outermost_19 : decode cX3_outermost 19 = .ok (.iload_n 2, 1) := by decide +kernel
theorem dX3_outermost_20 : decode cX3_outermost 20 = .ok (.aload_n 0, 1) := by decide +kernel
theorem dX3_outermost_21 : decode cX3_outermost 21 = .ok (.getfield 39, 3) := by decide +kernel
theorem dX3_outermost_24 : decode cX3_outermost 24 = .ok (.getfield 86, 3) := by decide +kernel
theorem dX3_outermost_27 : decode cX3_outermost 27 = .ok (.if_icmp .ge 43, 3) := by decide +kernel
theorem dX3_outermost_30 : decode cX3_outermost 30 = .ok (.aload_n 0, 1) := by decide +kernel
theorem dX3_outermost_31 : decode cX3_outermost 31 = .ok (.getfield 21, 3) := by decide +kernel
theorem dX3_outermost_34 : decode cX3_outermost 34 = .ok (.iload_n 2, 1) := by decide +kernel
theorem dX3_outermost_35 : decode cX3_outermost 35 = .ok (.iaload, 1) := by decide +kernel
theorem dX3_outermost_36 : decode cX3_outermost 36 = .ok (.aload_n 0, 1) := by decide +kernel
theorem dX3_outermost_37 : decode cX3_outermost 37 = .ok (.getfield 21, 3) := by decide +kernel
theorem dX3_outermost_40 : decode cX3_outermost 40 = .ok (.iload_n 1, 1) := by decide +kernel
theorem dX3_outermost_41 : decode cX3_outermost 41 = .ok (.iaload, 1) := by decide +kernel
theorem dX3_outermost_42 : decode cX3_outermost 42 = .ok (.isub, 1) := by decide +kernel
theorem dX3_outermost_43 : decode cX3_outermost 43 = .ok (.istore_n 3, 1) := by decide +kernel
theorem dX3_outermost_44 : decode cX3_outermost 44 = .ok (.aload_n 0, 1) := by decide +kernel
theorem dX3_outermost_45 : decode cX3_outermost 45 = .ok (.getfield 50, 3) := by decide +kernel
theorem dX3_outermost_48 : decode cX3_outermost 48 = .ok (.ifCond .ne 10, 3) := by decide +kernel
theorem dX3_outermost_51 : decode cX3_outermost 51 = .ok (.iload_n 3, 1) := by decide +kernel
theorem dX3_outermost_52 : decode cX3_outermost 52 = .ok (.ifCond .ge 12, 3) := by decide +kernel
theorem dX3_outermost_55 : decode cX3_outermost 55 = .ok (.goto 7, 3) := by decide +kernel
theorem dX3_outermost_58 : decode cX3_outermost 58 = .ok (.iload_n 3, 1) := by decide +kernel
theorem dX3_outermost_59 : decode cX3_outermost 59 = .ok (.ifCond .le 5, 3) := by decide +kernel
theorem dX3_outermost_62 : decode cX3_outermost 62 = .ok (.iload_n 2, 1) := by decide +kernel
theorem dX3_outermost_63 : decode cX3_outermost 63 = .ok (.istore_n 1, 1) := by decide +kernel
theorem dX3_outermost_64 : decode cX3_outermost 64 = .ok (.iinc 2 1, 3) := by decide +kernel
theorem dX3_outermost_67 : decode cX3_outermost 67 = .ok (.goto (-48), 3) := by decide +kernel
theorem dX3_outermost_70 : decode cX3_outermost 70 = .ok (.iload_n 1, 1) := by decide +kernel
theorem dX3_outermost_71 : decode cX3_outermost 71 = .ok (.ireturn, 1) := by decide +kernel
theorem dX3_middle_0 : decode cX3_middle 0 = .ok (.iconst 0, 1) := by decide +kernel
theorem dX3_middle_1 : decode cX3_middle 1 = .ok (.istore_n 1, 1) := by decide +kernel
theorem dX3_middle_2 : decode cX3_middle 2 = .ok (.iload_n 1, 1) := by decide +kernel
theorem dX3_middle_3 : decode cX3_middle 3 = .ok (.aload_n 0, 1) := by decide +kernel
theorem dX3_middle_4 : decode cX3_middle 4 = .ok (.getfield 39, 3) := by decide +kernel
theorem dX3_middle_7 : decode cX3_middle 7 = .ok (.getfield 86, 3) := by decide +kernel
theorem dX3_middle_10 : decode cX3_middle 10 = .ok (.if_icmp .ge 28, 3) := by decide +kernel
theorem dX3_middle_13 : decode cX3_middle 13 = .ok (.aload_n 0, 1) := by decide +kernel
theorem dX3_middle_14 : decode cX3_middle 14 = .ok (.iload_n 1, 1) := by decide +kernel
theorem dX3_middle_15 : decode cX3_middle 15 = .ok (.invokevirtual 142, 3) := by decide +kernel
theorem dX3_middle_18 : decode cX3_middle 18 = .ok (.aload_n 0, 1) := by decide +kernel
theorem dX3_middle_19 : decode cX3_middle 19 = .ok (.getfield 39, 3) := by decide +kernel
theorem dX3_middle_22 : decode cX3_middle 22 = .ok (.getfield 86, 3) := by decide +kernel
theorem dX3_middle_25 : decode cX3_middle 25 = .ok (.iconst 2, 1) := by decide +kernel
theorem dX3_middle_26 : decode cX3_middle 26 = .ok (.idiv, 1) := by decide +kernel
theorem dX3_middle_27 : decode cX3_middle 27 = .ok (.if_icmp .ne 5, 3) := by decide +kernel
theorem dX3_middle_30 : decode cX3_middle 30 = .ok (.iload_n 1, 1) := by decide +kernel
theorem dX3_middle_31 : decode cX3_middle 31 = .ok (.ireturn, 1) := by decide +kernel
theorem dX3_middle_32 : decode cX3_middle 32 = .ok (.iinc 1 1, 3) := by decide +kernel
theorem dX3_middle_35 : decode cX3_middle 35 = .ok (.goto (-33), 3) := by decide +kernel
theorem dX3_middle_38 : decode cX3_middle 38 = .ok (.bipush (-5), 2) := by decide +kernel
theorem dX3_middle_40 : decode cX3_middle 40 = .ok (.ireturn, 1) := by decide +kernel
theorem dX3_placeOf_0 : decode cX3_placeOf 0 = .ok (.iconst 0, 1) := by decide +kernel
theorem dX3_placeOf_1 : decode cX3_placeOf 1 = .ok (.istore_n 2, 1) := by decide +kernel
theorem dX3_placeOf_2 : decode cX3_placeOf 2 = .ok (.iconst 0, 1) := by decide +kernel
theorem dX3_placeOf_3 : decode cX3_placeOf 3 = .ok (.istore_n 3, 1) := by decide +kernel
theorem dX3_placeOf_4 : decode cX3_placeOf 4 = .ok (.iload_n 3, 1) := by decide +kernel
theorem dX3_placeOf_5 : decode cX3_placeOf 5 = .ok (.aload_n 0, 1) := by decide +kernel
theorem dX3_placeOf_6 : decode cX3_placeOf 6 = .ok (.getfield 39, 3) := by decide +kernel
theorem dX3_placeOf_9 : decode cX3_placeOf 9 = .ok (.getfield 86, 3) := by decide +kernel
theorem dX3_placeOf_12 : decode cX3_placeOf 12 = .ok (.if_icmp .ge 42, 3) := by decide +kernel
theorem dX3_placeOf_15 : decode cX3_placeOf 15 = .ok (.aload_n 0, 1) := by decide +kernel
theorem dX3_placeOf_16 : decode cX3_placeOf 16 = .ok (.getfield 21, 3) := by decide +kernel
theorem dX3_placeOf_19 : decode cX3_placeOf 19 = .ok (.iload_n 1, 1) := by decide +kernel
theorem dX3_placeOf_20 : decode cX3_placeOf 20 = .ok (.iaload, 1) := by decide +kernel
theorem dX3_placeOf_21 : decode cX3_placeOf 21 = .ok (.aload_n 0, 1) := by decide +kernel
theorem dX3_placeOf_22 : decode cX3_placeOf 22 = .ok (.getfield 21, 3) := by decide +kernel
theorem dX3_placeOf_25 : decode cX3_placeOf 25 = .ok (.iload_n 3, 1) := by decide +kernel
theorem dX3_placeOf_26 : decode cX3_placeOf 26 = .ok (.iaload, 1) := by decide +kernel
theorem dX3_placeOf_27 : decode cX3_placeOf 27 = .ok (.isub, 1) := by decide +kernel
theorem dX3_placeOf_28 : decode cX3_placeOf 28 = .ok (.istore 4, 2) := by decide +kernel
theorem dX3_placeOf_30 : decode cX3_placeOf 30 = .ok (.iload 4, 2) := by decide +kernel
theorem dX3_placeOf_32 : decode cX3_placeOf 32 = .ok (.ifCond .gt 13, 3) := by decide +kernel
theorem dX3_placeOf_35 : decode cX3_placeOf 35 = .ok (.iload 4, 2) := by decide +kernel
theorem dX3_placeOf_37 : decode cX3_placeOf 37 = .ok (.ifCond .ne 11, 3) := by decide +kernel
theorem dX3_placeOf_40 : decode cX3_placeOf 40 = .ok (.iload_n 3, 1) := by decide +kernel
theorem dX3_placeOf_41 : decode cX3_placeOf 41 = .ok (.iload_n 1, 1) := by decide +kernel
theorem dX3_placeOf_42 : decode cX3_placeOf 42 = .ok (.if_icmp .ge 6, 3) := by decide +kernel
theorem dX3_placeOf_45 : decode cX3_placeOf 45 = .ok (.iinc 2 1, 3) := by decide +kernel
theorem dX3_placeOf_48 : decode cX3_placeOf 48 = .ok (.iinc 3 1, 3) := by decide +kernel
theorem dX3_placeOf_51 : decode cX3_placeOf 51 = .ok (.goto (-47), 3) := by decide +kernel
theorem dX3_placeOf_54 : decode cX3_placeOf 54 = .ok (.iload_n 2, 1) := by decide +kernel
theorem dX3_placeOf_55 : decode cX3_placeOf 55 = .ok (.ireturn, 1) := by decide +kernel
theorem dX3_isLikeBaker_0 : decode cX3_isLikeBaker 0 = .ok (.aload_n 0, 1) := by decide +kernel
theorem dX3_isLikeBaker_1 : decode cX3_isLikeBaker 1 = .ok (.getfield 57, 3) := by decide +kernel
theorem dX3_isLikeBaker_4 : decode cX3_isLikeBaker 4 = .ok (.ifCond .lt 25, 3) := by decide +kernel
theorem dX3_isLikeBaker_7 : decode cX3_isLikeBaker 7 = .ok (.aload_n 0, 1) := by decide +kernel
theorem dX3_isLikeBaker_8 : decode cX3_isLikeBaker 8 = .ok (.getfield 21, 3) := by decide +kernel
theorem dX3_isLikeBaker_11 : decode cX3_isLikeBaker 11 = .ok (.iload_n 1, 1) := by decide +kernel
theorem dX3_isLikeBaker_12 : decode cX3_isLikeBaker 12 = .ok (.iaload, 1) := by decide +kernel
theorem dX3_isLikeBaker_13 : decode cX3_isLikeBaker 13 = .ok (.aload_n 0, 1) := by decide +kernel
theorem dX3_isLikeBaker_14 : decode cX3_isLikeBaker 14 = .ok (.getfield 21, 3) := by decide +kernel
theorem dX3_isLikeBaker_17 : decode cX3_isLikeBaker 17 = .ok (.aload_n 0, 1) := by decide +kernel
theorem dX3_isLikeBaker_18 : decode cX3_isLikeBaker 18 = .ok (.getfield 57, 3) := by decide +kernel
theorem dX3_isLikeBaker_21 : decode cX3_isLikeBaker 21 = .ok (.iaload, 1) := by decide +kernel
theorem dX3_isLikeBaker_22 : decode cX3_isLikeBaker 22 = .ok (.if_icmp .ne 7, 3) := by decide +kernel
theorem dX3_isLikeBaker_25 : decode cX3_isLikeBaker 25 = .ok (.iconst 1, 1) := by decide +kernel
theorem dX3_isLikeBaker_26 : decode cX3_isLikeBaker 26 = .ok (.goto 4, 3) := by decide +kernel
theorem dX3_isLikeBaker_29 : decode cX3_isLikeBaker 29 = .ok (.iconst 0, 1) := by decide +kernel
theorem dX3_isLikeBaker_30 : decode cX3_isLikeBaker 30 = .ok (.ireturn, 1) := by decide +kernel
theorem dX3_likeBaker_0 : decode cX3_likeBaker 0 = .ok (.iconst 0, 1) := by decide +kernel
theorem dX3_likeBaker_1 : decode cX3_likeBaker 1 = .ok (.istore_n 1, 1) := by decide +kernel
theorem dX3_likeBaker_2 : decode cX3_likeBaker 2 = .ok (.iconst 0, 1) := by decide +kernel
theorem dX3_likeBaker_3 : decode cX3_likeBaker 3 = .ok (.istore_n 2, 1) := by decide +kernel
theorem dX3_likeBaker_4 : decode cX3_likeBaker 4 = .ok (.iload_n 2, 1) := by decide +kernel
theorem dX3_likeBaker_5 : decode cX3_likeBaker 5 = .ok (.aload_n 0, 1) := by decide +kernel
theorem dX3_likeBaker_6 : decode cX3_likeBaker 6 = .ok (.getfield 39, 3) := by decide +kernel
theorem dX3_likeBaker_9 : decode cX3_likeBaker 9 = .ok (.getfield 86, 3) := by decide +kernel
theorem dX3_likeBaker_12 : decode cX3_likeBaker 12 = .ok (.if_icmp .ge 25, 3) := by decide +kernel
theorem dX3_likeBaker_15 : decode cX3_likeBaker 15 = .ok (.iload_n 1, 1) := by decide +kernel
theorem dX3_likeBaker_16 : decode cX3_likeBaker 16 = .ok (.aload_n 0, 1) := by decide +kernel
theorem dX3_likeBaker_17 : decode cX3_likeBaker 17 = .ok (.iload_n 2, 1) := by decide +kernel
theorem dX3_likeBaker_18 : decode cX3_likeBaker 18 = .ok (.invokevirtual 145, 3) := by decide +kernel
theorem dX3_likeBaker_21 : decode cX3_likeBaker 21 = .ok (.ifCond .eq 7, 3) := by decide +kernel
theorem dX3_likeBaker_24 : decode cX3_likeBaker 24 = .ok (.iconst 1, 1) := by decide +kernel
theorem dX3_likeBaker_25 : decode cX3_likeBaker 25 = .ok (.goto 4, 3) := by decide +kernel
theorem dX3_likeBaker_28 : decode cX3_likeBaker 28 = .ok (.iconst 0, 1) := by decide +kernel
theorem dX3_likeBaker_29 : decode cX3_likeBaker 29 = .ok (.iadd, 1) := by decide +kernel
theorem dX3_likeBaker_30 : decode cX3_likeBaker 30 = .ok (.istore_n 1, 1) := by decide +kernel
theorem dX3_likeBaker_31 : decode cX3_likeBaker 31 = .ok (.iinc 2 1, 3) := by decide +kernel
theorem dX3_likeBaker_34 : decode cX3_likeBaker 34 = .ok (.goto (-30), 3) := by decide +kernel
theorem dX3_likeBaker_37 : decode cX3_likeBaker 37 = .ok (.iload_n 1, 1) := by decide +kernel
theorem dX3_likeBaker_38 : decode cX3_likeBaker 38 = .ok (.ireturn, 1) := by decide +kernel
theorem dX3_someoneWentShort_0 : decode cX3_someoneWentShort 0 = .ok (.iconst 0, 1) := by decide +kernel
theorem dX3_someoneWentShort_1 : decode cX3_someoneWentShort 1 = .ok (.istore_n 1, 1) := by decide +kernel
theorem dX3_someoneWentShort_2 : decode cX3_someoneWentShort 2 = .ok (.iconst 0, 1) := by decide +kernel
theorem dX3_someoneWentShort_3 : decode cX3_someoneWentShort 3 = .ok (.istore_n 2, 1) := by decide +kernel
theorem dX3_someoneWentShort_4 : decode cX3_someoneWentShort 4 = .ok (.iload_n 2, 1) := by decide +kernel
theorem dX3_someoneWentShort_5 : decode cX3_someoneWentShort 5 = .ok (.aload_n 0, 1) := by decide +kernel
theorem dX3_someoneWentShort_6 : decode cX3_someoneWentShort 6 = .ok (.getfield 39, 3) := by decide +kernel
theorem dX3_someoneWentShort_9 : decode cX3_someoneWentShort 9 = .ok (.getfield 86, 3) := by decide +kernel
theorem dX3_someoneWentShort_12 : decode cX3_someoneWentShort 12 = .ok (.if_icmp .ge 34, 3) := by decide +kernel
theorem dX3_someoneWentShort_15 : decode cX3_someoneWentShort 15 = .ok (.iload_n 1, 1) := by decide +kernel
theorem dX3_someoneWentShort_16 : decode cX3_someoneWentShort 16 = .ok (.ifCond .ne 18, 3) := by decide +kernel
theorem dX3_someoneWentShort_19 : decode cX3_someoneWentShort 19 = .ok (.aload_n 0, 1) := by decide +kernel
theorem dX3_someoneWentShort_20 : decode cX3_someoneWentShort 20 = .ok (.getfield 18, 3) := by decide +kernel
theorem dX3_someoneWentShort_23 : decode cX3_someoneWentShort 23 = .ok (.iload_n 2, 1) := by decide +kernel
theorem dX3_someoneWentShort_24 : decode cX3_someoneWentShort 24 = .ok (.iaload, 1) := by decide +kernel
theorem dX3_someoneWentShort_25 : decode cX3_someoneWentShort 25 = .ok (.aload_n 0, 1) := by decide +kernel
theorem dX3_someoneWentShort_26 : decode cX3_someoneWentShort 26 = .ok (.getfield 9, 3) := by decide +kernel
theorem dX3_someoneWentShort_29 : decode cX3_someoneWentShort 29 = .ok (.iload_n 2, 1) := by decide +kernel
theorem dX3_someoneWentShort_30 : decode cX3_someoneWentShort 30 = .ok (.iaload, 1) := by decide +kernel
theorem dX3_someoneWentShort_31 : decode cX3_someoneWentShort 31 = .ok (.if_icmp .ge 7, 3) := by decide +kernel
theorem dX3_someoneWentShort_34 : decode cX3_someoneWentShort 34 = .ok (.iconst 1, 1) := by decide +kernel
theorem dX3_someoneWentShort_35 : decode cX3_someoneWentShort 35 = .ok (.goto 4, 3) := by decide +kernel
theorem dX3_someoneWentShort_38 : decode cX3_someoneWentShort 38 = .ok (.iconst 0, 1) := by decide +kernel
theorem dX3_someoneWentShort_39 : decode cX3_someoneWentShort 39 = .ok (.istore_n 1, 1) := by decide +kernel
theorem dX3_someoneWentShort_40 : decode cX3_someoneWentShort 40 = .ok (.iinc 2 1, 3) := by decide +kernel
theorem dX3_someoneWentShort_43 : decode cX3_someoneWentShort 43 = .ok (.goto (-39), 3) := by decide +kernel
theorem dX3_someoneWentShort_46 : decode cX3_someoneWentShort 46 = .ok (.iload_n 1, 1) := by decide +kernel
theorem dX3_someoneWentShort_47 : decode cX3_someoneWentShort 47 = .ok (.ireturn, 1) := by decide +kernel
theorem dX3_haveTogether_0 : decode cX3_haveTogether 0 = .ok (.iconst 0, 1) := by decide +kernel
theorem dX3_haveTogether_1 : decode cX3_haveTogether 1 = .ok (.istore_n 1, 1) := by decide +kernel
theorem dX3_haveTogether_2 : decode cX3_haveTogether 2 = .ok (.iconst 0, 1) := by decide +kernel
theorem dX3_haveTogether_3 : decode cX3_haveTogether 3 = .ok (.istore_n 2, 1) := by decide +kernel
theorem dX3_haveTogether_4 : decode cX3_haveTogether 4 = .ok (.iload_n 2, 1) := by decide +kernel
theorem dX3_haveTogether_5 : decode cX3_haveTogether 5 = .ok (.aload_n 0, 1) := by decide +kernel
theorem dX3_haveTogether_6 : decode cX3_haveTogether 6 = .ok (.getfield 39, 3) := by decide +kernel
theorem dX3_haveTogether_9 : decode cX3_haveTogether 9 = .ok (.getfield 86, 3) := by decide +kernel
theorem dX3_haveTogether_12 : decode cX3_haveTogether 12 = .ok (.if_icmp .ge 17, 3) := by decide +kernel
theorem dX3_haveTogether_15 : decode cX3_haveTogether 15 = .ok (.iload_n 1, 1) := by decide +kernel
theorem dX3_haveTogether_16 : decode cX3_haveTogether 16 = .ok (.aload_n 0, 1) := by decide +kernel
theorem dX3_haveTogether_17 : decode cX3_haveTogether 17 = .ok (.iload_n 2, 1) := by decide +kernel
theorem dX3_haveTogether_18 : decode cX3_haveTogether 18 = .ok (.invokevirtual 110, 3) := by decide +kernel
theorem dX3_haveTogether_21 : decode cX3_haveTogether 21 = .ok (.iadd, 1) := by decide +kernel
theorem dX3_haveTogether_22 : decode cX3_haveTogether 22 = .ok (.istore_n 1, 1) := by decide +kernel
theorem dX3_haveTogether_23 : decode cX3_haveTogether 23 = .ok (.iinc 2 1, 3) := by decide +kernel
theorem dX3_haveTogether_26 : decode cX3_haveTogether 26 = .ok (.goto (-22), 3) := by decide +kernel
theorem dX3_haveTogether_29 : decode cX3_haveTogether 29 = .ok (.iload_n 1, 1) := by decide +kernel
theorem dX3_haveTogether_30 : decode cX3_haveTogether 30 = .ok (.ireturn, 1) := by decide +kernel
theorem dX3_has_0 : decode cX3_has 0 = .ok (.iload_n 1, 1) := by decide +kernel
theorem dX3_has_1 : decode cX3_has 1 = .ok (.bipush 10, 2) := by decide +kernel
theorem dX3_has_3 : decode cX3_has 3 = .ok (.imul, 1) := by decide +kernel
theorem dX3_has_4 : decode cX3_has 4 = .ok (.istore_n 2, 1) := by decide +kernel
theorem dX3_has_5 : decode cX3_has 5 = .ok (.aload_n 0, 1) := by decide +kernel
theorem dX3_has_6 : decode cX3_has 6 = .ok (.iload_n 1, 1) := by decide +kernel
theorem dX3_has_7 : decode cX3_has 7 = .ok (.invokevirtual 149, 3) := by decide +kernel
theorem dX3_has_10 : decode cX3_has 10 = .ok (.aload_n 0, 1) := by decide +kernel
theorem dX3_has_11 : decode cX3_has 11 = .ok (.getfield 30, 3) := by decide +kernel
theorem dX3_has_14 : decode cX3_has 14 = .ok (.iload_n 1, 1) := by decide +kernel
theorem dX3_has_15 : decode cX3_has 15 = .ok (.iaload, 1) := by decide +kernel
theorem dX3_has_16 : decode cX3_has 16 = .ok (.iconst 1, 1) := by decide +kernel
theorem dX3_has_17 : decode cX3_has 17 = .ok (.iadd, 1) := by decide +kernel
theorem dX3_has_18 : decode cX3_has 18 = .ok (.istore_n 3, 1) := by decide +kernel
theorem dX3_has_19 : decode cX3_has 19 = .ok (.iload_n 3, 1) := by decide +kernel
theorem dX3_has_20 : decode cX3_has 20 = .ok (.aload_n 0, 1) := by decide +kernel
theorem dX3_has_21 : decode cX3_has 21 = .ok (.getfield 18, 3) := by decide +kernel
theorem dX3_has_24 : decode cX3_has 24 = .ok (.iload_n 1, 1) := by decide +kernel
theorem dX3_has_25 : decode cX3_has 25 = .ok (.iaload, 1) := by decide +kernel
theorem dX3_has_26 : decode cX3_has 26 = .ok (.if_icmp .gt 54, 3) := by decide +kernel
theorem dX3_has_29 : decode cX3_has 29 = .ok (.aload_n 0, 1) := by decide +kernel
theorem dX3_has_30 : decode cX3_has 30 = .ok (.getfield 24, 3) := by decide +kernel
theorem dX3_has_33 : decode cX3_has 33 = .ok (.iconst 3, 1) := by decide +kernel
theorem dX3_has_34 : decode cX3_has 34 = .ok (.iload_n 3, 1) := by decide +kernel
theorem dX3_has_35 : decode cX3_has 35 = .ok (.iastore, 1) := by decide +kernel
theorem dX3_has_36 : decode cX3_has 36 = .ok (.aload_n 0, 1) := by decide +kernel
theorem dX3_has_37 : decode cX3_has 37 = .ok (.getfield 27, 3) := by decide +kernel
theorem dX3_has_40 : decode cX3_has 40 = .ok (.iload_n 2, 1) := by decide +kernel
theorem dX3_has_41 : decode cX3_has 41 = .ok (.iload_n 3, 1) := by decide +kernel
theorem dX3_has_42 : decode cX3_has 42 = .ok (.iadd, 1) := by decide +kernel
theorem dX3_has_43 : decode cX3_has 43 = .ok (.aload_n 0, 1) := by decide +kernel
theorem dX3_has_44 : decode cX3_has 44 = .ok (.getfield 27, 3) := by decide +kernel
theorem dX3_has_47 : decode cX3_has 47 = .ok (.iload_n 2, 1) := by decide +kernel
theorem dX3_has_48 : decode cX3_has 48 = .ok (.iload_n 3, 1) := by decide +kernel
theorem dX3_has_49 : decode cX3_has 49 = .ok (.iadd, 1) := by decide +kernel
theorem dX3_has_50 : decode cX3_has 50 = .ok (.iconst 1, 1) := by decide +kernel
theorem dX3_has_51 : decode cX3_has 51 = .ok (.isub, 1) := by decide +kernel
theorem dX3_has_52 : decode cX3_has 52 = .ok (.iaload, 1) := by decide +kernel
theorem dX3_has_53 : decode cX3_has 53 = .ok (.aload_n 0, 1) := by decide +kernel
theorem dX3_has_54 : decode cX3_has 54 = .ok (.getfield 46, 3) := by decide +kernel
theorem dX3_has_57 : decode cX3_has 57 = .ok (.iconst 0, 1) := by decide +kernel
theorem dX3_has_58 : decode cX3_has 58 = .ok (.aload_n 0, 1) := by decide +kernel
theorem dX3_has_59 : decode cX3_has 59 = .ok (.getfield 24, 3) := by decide +kernel
theorem dX3_has_62 : decode cX3_has 62 = .ok (.invokevirtual 153, 3) := by decide +kernel
theorem dX3_has_65 : decode cX3_has 65 = .ok (.iadd, 1) := by decide +kernel
theorem dX3_has_66 : decode cX3_has 66 = .ok (.iastore, 1) := by decide +kernel
theorem dX3_has_67 : decode cX3_has 67 = .ok (.aload_n 0, 1) := by decide +kernel
theorem dX3_has_68 : decode cX3_has 68 = .ok (.getfield 30, 3) := by decide +kernel
theorem dX3_has_71 : decode cX3_has 71 = .ok (.iload_n 1, 1) := by decide +kernel
theorem dX3_has_72 : decode cX3_has 72 = .ok (.iload_n 3, 1) := by decide +kernel
theorem dX3_has_73 : decode cX3_has 73 = .ok (.iastore, 1) := by decide +kernel
theorem dX3_has_74 : decode cX3_has 74 = .ok (.iinc 3 1, 3) := by decide +kernel
theorem dX3_has_77 : decode cX3_has 77 = .ok (.goto (-58), 3) := by decide +kernel
theorem dX3_has_80 : decode cX3_has 80 = .ok (.aload_n 0, 1) := by decide +kernel
theorem dX3_has_81 : decode cX3_has 81 = .ok (.getfield 27, 3) := by decide +kernel
theorem dX3_has_84 : decode cX3_has 84 = .ok (.iload_n 2, 1) := by decide +kernel
theorem dX3_has_85 : decode cX3_has 85 = .ok (.aload_n 0, 1) := by decide +kernel
theorem dX3_has_86 : decode cX3_has 86 = .ok (.getfield 18, 3) := by decide +kernel
theorem dX3_has_89 : decode cX3_has 89 = .ok (.iload_n 1, 1) := by decide +kernel
theorem dX3_has_90 : decode cX3_has 90 = .ok (.iaload, 1) := by decide +kernel
theorem dX3_has_91 : decode cX3_has 91 = .ok (.iadd, 1) := by decide +kernel
theorem dX3_has_92 : decode cX3_has 92 = .ok (.iaload, 1) := by decide +kernel
theorem dX3_has_93 : decode cX3_has 93 = .ok (.istore_n 3, 1) := by decide +kernel
theorem dX3_has_94 : decode cX3_has 94 = .ok (.iload_n 1, 1) := by decide +kernel
theorem dX3_has_95 : decode cX3_has 95 = .ok (.aload_n 0, 1) := by decide +kernel
theorem dX3_has_96 : decode cX3_has 96 = .ok (.getfield 57, 3) := by decide +kernel
theorem dX3_has_99 : decode cX3_has 99 = .ok (.if_icmp .ne 10, 3) := by decide +kernel
theorem dX3_has_102 : decode cX3_has 102 = .ok (.aload_n 0, 1) := by decide +kernel
theorem dX3_has_103 : decode cX3_has 103 = .ok (.getfield 63, 3) := by decide +kernel
theorem dX3_has_106 : decode cX3_has 106 = .ok (.ifCond .eq 5, 3) := by decide +kernel
theorem dX3_has_109 : decode cX3_has 109 = .ok (.iload_n 3, 1) := by decide +kernel
theorem dX3_has_110 : decode cX3_has 110 = .ok (.ireturn, 1) := by decide +kernel
theorem dX3_has_111 : decode cX3_has 111 = .ok (.aload_n 0, 1) := by decide +kernel
theorem dX3_has_112 : decode cX3_has 112 = .ok (.getfield 33, 3) := by decide +kernel
theorem dX3_has_115 : decode cX3_has 115 = .ok (.iload_n 2, 1) := by decide +kernel
theorem dX3_has_116 : decode cX3_has 116 = .ok (.aload_n 0, 1) := by decide +kernel
theorem dX3_has_117 : decode cX3_has 117 = .ok (.getfield 18, 3) := by decide +kernel
theorem dX3_has_120 : decode cX3_has 120 = .ok (.iload_n 1, 1) := by decide +kernel
theorem dX3_has_121 : decode cX3_has 121 = .ok (.iaload, 1) := by decide +kernel
theorem dX3_has_122 : decode cX3_has 122 = .ok (.iadd, 1) := by decide +kernel
theorem dX3_has_123 : decode cX3_has 123 = .ok (.iaload, 1) := by decide +kernel
theorem dX3_has_124 : decode cX3_has 124 = .ok (.ifCond .ge 40, 3) := by decide +kernel
theorem dX3_has_127 : decode cX3_has 127 = .ok (.aload_n 0, 1) := by decide +kernel
theorem dX3_has_128 : decode cX3_has 128 = .ok (.getfield 24, 3) := by decide +kernel
theorem dX3_has_131 : decode cX3_has 131 = .ok (.iconst 3, 1) := by decide +kernel
theorem dX3_has_132 : decode cX3_has 132 = .ok (.aload_n 0, 1) := by decide +kernel
theorem dX3_has_133 : decode cX3_has 133 = .ok (.getfield 18, 3) := by decide +kernel
theorem dX3_has_136 : decode cX3_has 136 = .ok (.iload_n 1, 1) := by decide +kernel
theorem dX3_has_137 : decode cX3_has 137 = .ok (.iaload, 1) := by decide +kernel
theorem dX3_has_138 : decode cX3_has 138 = .ok (.iastore, 1) := by decide +kernel
theorem dX3_has_139 : decode cX3_has 139 = .ok (.aload_n 0, 1) := by decide +kernel
theorem dX3_has_140 : decode cX3_has 140 = .ok (.getfield 33, 3) := by decide +kernel
theorem dX3_has_143 : decode cX3_has 143 = .ok (.iload_n 2, 1) := by decide +kernel
theorem dX3_has_144 : decode cX3_has 144 = .ok (.aload_n 0, 1) := by decide +kernel
theorem dX3_has_145 : decode cX3_has 145 = .ok (.getfield 18, 3) := by decide +kernel
theorem dX3_has_148 : decode cX3_has 148 = .ok (.iload_n 1, 1) := by decide +kernel
theorem dX3_has_149 : decode cX3_has 149 = .ok (.iaload, 1) := by decide +kernel
theorem dX3_has_150 : decode cX3_has 150 = .ok (.iadd, 1) := by decide +kernel
theorem dX3_has_151 : decode cX3_has 151 = .ok (.aload_n 0, 1) := by decide +kernel
theorem dX3_has_152 : decode cX3_has 152 = .ok (.getfield 46, 3) := by decide +kernel
theorem dX3_has_155 : decode cX3_has 155 = .ok (.iconst 1, 1) := by decide +kernel
theorem dX3_has_156 : decode cX3_has 156 = .ok (.aload_n 0, 1) := by decide +kernel
theorem dX3_has_157 : decode cX3_has 157 = .ok (.getfield 24, 3) := by decide +kernel
theorem dX3_has_160 : decode cX3_has 160 = .ok (.invokevirtual 153, 3) := by decide +kernel
theorem dX3_has_163 : decode cX3_has 163 = .ok (.iastore, 1) := by decide +kernel
theorem dX3_has_164 : decode cX3_has 164 = .ok (.iload_n 3, 1) := by decide +kernel
theorem dX3_has_165 : decode cX3_has 165 = .ok (.aload_n 0, 1) := by decide +kernel
theorem dX3_has_166 : decode cX3_has 166 = .ok (.getfield 33, 3) := by decide +kernel
theorem dX3_has_169 : decode cX3_has 169 = .ok (.iload_n 2, 1) := by decide +kernel
theorem dX3_has_170 : decode cX3_has 170 = .ok (.aload_n 0, 1) := by decide +kernel
theorem dX3_has_171 : decode cX3_has 171 = .ok (.getfield 18, 3) := by decide +kernel
theorem dX3_has_174 : decode cX3_has 174 = .ok (.iload_n 1, 1) := by decide +kernel
theorem dX3_has_175 : decode cX3_has 175 = .ok (.iaload, 1) := by decide +kernel
theorem dX3_has_176 : decode cX3_has 176 = .ok (.iadd, 1) := by decide +kernel
theorem dX3_has_177 : decode cX3_has 177 = .ok (.iaload, 1) := by decide +kernel
theorem dX3_has_178 : decode cX3_has 178 = .ok (.isub, 1) := by decide +kernel
theorem dX3_has_179 : decode cX3_has 179 = .ok (.ireturn, 1) := by decide +kernel
theorem dX3_ask_0 : decode cX3_ask 0 = .ok (.aload_n 0, 1) := by decide +kernel
theorem dX3_ask_1 : decode cX3_ask 1 = .ok (.iload_n 2, 1) := by decide +kernel
theorem dX3_ask_2 : decode cX3_ask 2 = .ok (.invokevirtual 149, 3) := by decide +kernel
theorem dX3_ask_5 : decode cX3_ask 5 = .ok (.aload_n 0, 1) := by decide +kernel
theorem dX3_ask_6 : decode cX3_ask 6 = .ok (.getfield 24, 3) := by decide +kernel
theorem dX3_ask_9 : decode cX3_ask 9 = .ok (.iconst 3, 1) := by decide +kernel
theorem dX3_ask_10 : decode cX3_ask 10 = .ok (.iload_n 3, 1) := by decide +kernel
theorem dX3_ask_11 : decode cX3_ask 11 = .ok (.iastore, 1) := by decide +kernel
theorem dX3_ask_12 : decode cX3_ask 12 = .ok (.aload_n 0, 1) := by decide +kernel
theorem dX3_ask_13 : decode cX3_ask 13 = .ok (.getfield 46, 3) := by decide +kernel
theorem dX3_ask_16 : decode cX3_ask 16 = .ok (.iload_n 1, 1) := by decide +kernel
theorem dX3_ask_17 : decode cX3_ask 17 = .ok (.aload_n 0, 1) := by decide +kernel
theorem dX3_ask_18 : decode cX3_ask 18 = .ok (.getfield 24, 3) := by decide +kernel
theorem dX3_ask_21 : decode cX3_ask 21 = .ok (.invokevirtual 153, 3) := by decide +kernel
theorem dX3_ask_24 : decode cX3_ask 24 = .ok (.ireturn, 1) := by decide +kernel
theorem dX3_turnTo_0 : decode cX3_turnTo 0 = .ok (.aload_n 0, 1) := by decide +kernel
theorem dX3_turnTo_1 : decode cX3_turnTo 1 = .ok (.getfield 24, 3) := by decide +kernel
theorem dX3_turnTo_4 : decode cX3_turnTo 4 = .ok (.iconst 0, 1) := by decide +kernel
theorem dX3_turnTo_5 : decode cX3_turnTo 5 = .ok (.iload_n 1, 1) := by decide +kernel
theorem dX3_turnTo_6 : decode cX3_turnTo 6 = .ok (.iastore, 1) := by decide +kernel
theorem dX3_turnTo_7 : decode cX3_turnTo 7 = .ok (.aload_n 0, 1) := by decide +kernel
theorem dX3_turnTo_8 : decode cX3_turnTo 8 = .ok (.getfield 24, 3) := by decide +kernel
theorem dX3_turnTo_11 : decode cX3_turnTo 11 = .ok (.iconst 1, 1) := by decide +kernel
theorem dX3_turnTo_12 : decode cX3_turnTo 12 = .ok (.aload_n 0, 1) := by decide +kernel
theorem dX3_turnTo_13 : decode cX3_turnTo 13 = .ok (.getfield 39, 3) := by decide +kernel
theorem dX3_turnTo_16 : decode cX3_turnTo 16 = .ok (.getfield 123, 3) := by decide +kernel
theorem dX3_turnTo_19 : decode cX3_turnTo 19 = .ok (.iload_n 1, 1) := by decide +kernel
theorem dX3_turnTo_20 : decode cX3_turnTo 20 = .ok (.iaload, 1) := by decide +kernel
theorem dX3_turnTo_21 : decode cX3_turnTo 21 = .ok (.iastore, 1) := by decide +kernel
theorem dX3_turnTo_22 : decode cX3_turnTo 22 = .ok (.aload_n 0, 1) := by decide +kernel
theorem dX3_turnTo_23 : decode cX3_turnTo 23 = .ok (.getfield 24, 3) := by decide +kernel
theorem dX3_turnTo_26 : decode cX3_turnTo 26 = .ok (.iconst 2, 1) := by decide +kernel
theorem dX3_turnTo_27 : decode cX3_turnTo 27 = .ok (.aload_n 0, 1) := by decide +kernel
theorem dX3_turnTo_28 : decode cX3_turnTo 28 = .ok (.getfield 39, 3) := by decide +kernel
theorem dX3_turnTo_31 : decode cX3_turnTo 31 = .ok (.getfield 157, 3) := by decide +kernel
theorem dX3_turnTo_34 : decode cX3_turnTo 34 = .ok (.iload_n 1, 1) := by decide +kernel
theorem dX3_turnTo_35 : decode cX3_turnTo 35 = .ok (.iaload, 1) := by decide +kernel
theorem dX3_turnTo_36 : decode cX3_turnTo 36 = .ok (.iastore, 1) := by decide +kernel
theorem dX3_turnTo_37 : decode cX3_turnTo 37 = .ok (.return_, 1) := by decide +kernel
theorem dX4_init_0 : decode cX4_init 0 = .ok (.aload_n 0, 1) := by decide +kernel
theorem dX4_init_1 : decode cX4_init 1 = .ok (.invokespecial 3, 3) := by decide +kernel
theorem dX4_init_4 : decode cX4_init 4 = .ok (.aload_n 0, 1) := by decide +kernel
theorem dX4_init_5 : decode cX4_init 5 = .ok (.iconst 5, 1) := by decide +kernel
theorem dX4_init_6 : decode cX4_init 6 = .ok (.newarray .int, 2) := by decide +kernel
theorem dX4_init_8 : decode cX4_init 8 = .ok (.putfield 9, 3) := by decide +kernel
theorem dX4_init_11 : decode cX4_init 11 = .ok (.aload_n 0, 1) := by decide +kernel
theorem dX4_init_12 : decode cX4_init 12 = .ok (.iconst 5, 1) := by decide +kernel
theorem dX4_init_13 : decode cX4_init 13 = .ok (.newarray .int, 2) := by decide +kernel
theorem dX4_init_15 : decode cX4_init 15 = .ok (.putfield 15, 3) := by decide +kernel
theorem dX4_init_18 : decode cX4_init 18 = .ok (.aload_n 0, 1) := by decide +kernel
theorem dX4_init_19 : decode cX4_init 19 = .ok (.iconst 5, 1) := by decide +kernel
theorem dX4_init_20 : decode cX4_init 20 = .ok (.newarray .int, 2) := by decide +kernel
theorem dX4_init_22 : decode cX4_init 22 = .ok (.putfield 18, 3) := by decide +kernel
theorem dX4_init_25 : decode cX4_init 25 = .ok (.aload_n 0, 1) := by decide +kernel
theorem dX4_init_26 : decode cX4_init 26 = .ok (.iconst 5, 1) := by decide +kernel
theorem dX4_init_27 : decode cX4_init 27 = .ok (.newarray .int, 2) := by decide +kernel
theorem dX4_init_29 : decode cX4_init 29 = .ok (.putfield 21, 3) := by decide +kernel
theorem dX4_init_32 : decode cX4_init 32 = .ok (.aload_n 0, 1) := by decide +kernel
theorem dX4_init_33 : decode cX4_init 33 = .ok (.iconst 5, 1) := by decide +kernel
theorem dX4_init_34 : decode cX4_init 34 = .ok (.newarray .int, 2) := by decide +kernel
theorem dX4_init_36 : decode cX4_init 36 = .ok (.putfield 24, 3) := by decide +kernel
theorem dX4_init_39 : decode cX4_init 39 = .ok (.aload_n 0, 1) := by decide +kernel
theorem dX4_init_40 : decode cX4_init 40 = .ok (.bipush 20, 2) := by decide +kernel
theorem dX4_init_42 : decode cX4_init 42 = .ok (.newarray .int, 2) := by decide +kernel
theorem dX4_init_44 : decode cX4_init 44 = .ok (.putfield 27, 3) := by decide +kernel
theorem dX4_init_47 : decode cX4_init 47 = .ok (.aload_n 0, 1) := by decide +kernel
theorem dX4_init_48 : decode cX4_init 48 = .ok (.bipush 12, 2) := by decide +kernel
theorem dX4_init_50 : decode cX4_init 50 = .ok (.newarray .int, 2) := by decide +kernel
theorem dX4_init_52 : decode cX4_init 52 = .ok (.putfield 30, 3) := by decide +kernel
theorem dX4_init_55 : decode cX4_init 55 = .ok (.aload_n 0, 1) := by decide +kernel
theorem dX4_init_56 : decode cX4_init 56 = .ok (.iconst 0, 1) := by decide +kernel
theorem dX4_init_57 : decode cX4_init 57 = .ok (.putfield 33, 3) := by decide +kernel
theorem dX4_init_60 : decode cX4_init 60 = .ok (.aload_n 0, 1) := by decide +kernel
theorem dX4_init_61 : decode cX4_init 61 = .ok (.bipush 20, 2) := by decide +kernel
theorem dX4_init_63 : decode cX4_init 63 = .ok (.putfield 37, 3) := by decide +kernel
theorem dX4_init_66 : decode cX4_init 66 = .ok (.aload_n 0, 1) := by decide +kernel
theorem dX4_init_67 : decode cX4_init 67 = .ok (.iconst 0, 1) := by decide +kernel
theorem dX4_init_68 : decode cX4_init 68 = .ok (.putfield 40, 3) := by decide +kernel
theorem dX4_init_71 : decode cX4_init 71 = .ok (.aload_n 0, 1) := by decide +kernel
theorem dX4_init_72 : decode cX4_init 72 = .ok (.bipush (-5), 2) := by decide +kernel
theorem dX4_init_74 : decode cX4_init 74 = .ok (.putfield 43, 3) := by decide +kernel
theorem dX4_init_77 : decode cX4_init 77 = .ok (.aload_n 0, 1) := by decide +kernel
theorem dX4_init_78 : decode cX4_init 78 = .ok (.iconst 0, 1) := by decide +kernel
theorem dX4_init_79 : decode cX4_init 79 = .ok (.putfield 46, 3) := by decide +kernel
theorem dX4_init_82 : decode cX4_init 82 = .ok (.aload_n 0, 1) := by decide +kernel
theorem dX4_init_83 : decode cX4_init 83 = .ok (.iconst (-1), 1) := by decide +kernel
theorem dX4_init_84 : decode cX4_init 84 = .ok (.putfield 49, 3) := by decide +kernel
theorem dX4_init_87 : decode cX4_init 87 = .ok (.return_, 1) := by decide +kernel
theorem dX4_becomes_0 : decode cX4_becomes 0 = .ok (.aload_n 1, 1) := by decide +kernel
theorem dX4_becomes_1 : decode cX4_becomes 1 = .ok (.getfield 9, 3) := by decide +kernel
theorem dX4_becomes_4 : decode cX4_becomes 4 = .ok (.iconst 0, 1) := by decide +kernel
theorem dX4_becomes_5 : decode cX4_becomes 5 = .ok (.aload_n 0, 1) := by decide +kernel
theorem dX4_becomes_6 : decode cX4_becomes 6 = .ok (.getfield 9, 3) := by decide +kernel
theorem dX4_becomes_9 : decode cX4_becomes 9 = .ok (.iconst 0, 1) := by decide +kernel
theorem dX4_becomes_10 : decode cX4_becomes 10 = .ok (.iconst 5, 1) := by decide +kernel
theorem dX4_becomes_11 : decode cX4_becomes 11 = .ok (.invokestatic 52, 3) := by decide +kernel
theorem dX4_becomes_14 : decode cX4_becomes 14 = .ok (.aload_n 1, 1) := by decide +kernel
theorem dX4_becomes_15 : decode cX4_becomes 15 = .ok (.getfield 15, 3) := by decide +kernel
theorem dX4_becomes_18 : decode cX4_becomes 18 = .ok (.iconst 0, 1) := by decide +kernel
theorem dX4_becomes_19 : decode cX4_becomes 19 = .ok (.aload_n 0, 1) := by decide +kernel
theorem dX4_becomes_20 : decode cX4_becomes 20 = .ok (.getfield 15, 3) := by decide +kernel
theorem dX4_becomes_23 : decode cX4_becomes 23 = .ok (.iconst 0, 1) := by decide +kernel
theorem dX4_becomes_24 : decode cX4_becomes 24 = .ok (.iconst 5, 1) := by decide +kernel
theorem dX4_becomes_25 : decode cX4_becomes 25 = .ok (.invokestatic 52, 3) := by decide +kernel
theorem dX4_becomes_28 : decode cX4_becomes 28 = .ok (.aload_n 1, 1) := by decide +kernel
theorem dX4_becomes_29 : decode cX4_becomes 29 = .ok (.getfield 18, 3) := by decide +kernel
theorem dX4_becomes_32 : decode cX4_becomes 32 = .ok (.iconst 0, 1) := by decide +kernel
theorem dX4_becomes_33 : decode cX4_becomes 33 = .ok (.aload_n 0, 1) := by decide +kernel
theorem dX4_becomes_34 : decode cX4_becomes 34 = .ok (.getfield 18, 3) := by decide +kernel
theorem dX4_becomes_37 : decode cX4_becomes 37 = .ok (.iconst 0, 1) := by decide +kernel
theorem dX4_becomes_38 : decode cX4_becomes 38 = .ok (.iconst 5, 1) := by decide +kernel
theorem dX4_becomes_39 : decode cX4_becomes 39 = .ok (.invokestatic 52, 3) := by decide +kernel
theorem dX4_becomes_42 : decode cX4_becomes 42 = .ok (.aload_n 1, 1) := by decide +kernel
theorem dX4_becomes_43 : decode cX4_becomes 43 = .ok (.getfield 21, 3) := by decide +kernel
theorem dX4_becomes_46 : decode cX4_becomes 46 = .ok (.iconst 0, 1) := by decide +kernel
theorem dX4_becomes_47 : decode cX4_becomes 47 = .ok (.aload_n 0, 1) := by decide +kernel
theorem dX4_becomes_48 : decode cX4_becomes 48 = .ok (.getfield 21, 3) := by decide +kernel
theorem dX4_becomes_51 : decode cX4_becomes 51 = .ok (.iconst 0, 1) := by decide +kernel
theorem dX4_becomes_52 : decode cX4_becomes 52 = .ok (.iconst 5, 1) := by decide +kernel
theorem dX4_becomes_53 : decode cX4_becomes 53 = .ok (.invokestatic 52, 3) := by decide +kernel
theorem dX4_becomes_56 : decode cX4_becomes 56 = .ok (.aload_n 1, 1) := by decide +kernel
theorem dX4_becomes_57 : decode cX4_becomes 57 = .ok (.getfield 24, 3) := by decide +kernel
theorem dX4_becomes_60 : decode cX4_becomes 60 = .ok (.iconst 0, 1) := by decide +kernel
theorem dX4_becomes_61 : decode cX4_becomes 61 = .ok (.aload_n 0, 1) := by decide +kernel
theorem dX4_becomes_62 : decode cX4_becomes 62 = .ok (.getfield 24, 3) := by decide +kernel
theorem dX4_becomes_65 : decode cX4_becomes 65 = .ok (.iconst 0, 1) := by decide +kernel
theorem dX4_becomes_66 : decode cX4_becomes 66 = .ok (.iconst 5, 1) := by decide +kernel
theorem dX4_becomes_67 : decode cX4_becomes 67 = .ok (.invokestatic 52, 3) := by decide +kernel
theorem dX4_becomes_70 : decode cX4_becomes 70 = .ok (.aload_n 1, 1) := by decide +kernel
theorem dX4_becomes_71 : decode cX4_becomes 71 = .ok (.getfield 27, 3) := by decide +kernel
theorem dX4_becomes_74 : decode cX4_becomes 74 = .ok (.iconst 0, 1) := by decide +kernel
theorem dX4_becomes_75 : decode cX4_becomes 75 = .ok (.aload_n 0, 1) := by decide +kernel
theorem dX4_becomes_76 : decode cX4_becomes 76 = .ok (.getfield 27, 3) := by decide +kernel
theorem dX4_becomes_79 : decode cX4_becomes 79 = .ok (.iconst 0, 1) := by decide +kernel
theorem dX4_becomes_80 : decode cX4_becomes 80 = .ok (.bipush 20, 2) := by decide +kernel
theorem dX4_becomes_82 : decode cX4_becomes 82 = .ok (.invokestatic 52, 3) := by decide +kernel
theorem dX4_becomes_85 : decode cX4_becomes 85 = .ok (.aload_n 1, 1) := by decide +kernel
theorem dX4_becomes_86 : decode cX4_becomes 86 = .ok (.getfield 30, 3) := by decide +kernel
theorem dX4_becomes_89 : decode cX4_becomes 89 = .ok (.iconst 0, 1) := by decide +kernel
theorem dX4_becomes_90 : decode cX4_becomes 90 = .ok (.aload_n 0, 1) := by decide +kernel
theorem dX4_becomes_91 : decode cX4_becomes 91 = .ok (.getfield 30, 3) := by decide +kernel
theorem dX4_becomes_94 : decode cX4_becomes 94 = .ok (.iconst 0, 1) := by decide +kernel
theorem dX4_becomes_95 : decode cX4_becomes 95 = .ok (.bipush 12, 2) := by decide +kernel
theorem dX4_becomes_97 : decode cX4_becomes 97 = .ok (.invokestatic 52, 3) := by decide +kernel
theorem dX4_becomes_100 : decode cX4_becomes 100 = .ok (.aload_n 0, 1) := by decide +kernel
theorem dX4_becomes_101 : decode cX4_becomes 101 = .ok (.aload_n 1, 1) := by decide +kernel
theorem dX4_becomes_102 : decode cX4_becomes 102 = .ok (.getfield 33, 3) := by decide +kernel
theorem dX4_becomes_105 : decode cX4_becomes 105 = .ok (.putfield 33, 3) := by decide +kernel
theorem dX4_becomes_108 : decode cX4_becomes 108 = .ok (.aload_n 0, 1) := by decide +kernel
theorem dX4_becomes_109 : decode cX4_becomes 109 = .ok (.aload_n 1, 1) := by decide +kernel
theorem dX4_becomes_110 : decode cX4_becomes 110 = .ok (.getfield 37, 3) := by decide +kernel
theorem dX4_becomes_113 : decode cX4_becomes 113 = .ok (.putfield 37, 3) := by decide +kernel
theorem dX4_becomes_116 : decode cX4_becomes 116 = .ok (.aload_n 0, 1) := by decide +kernel
theorem dX4_becomes_117 : decode cX4_becomes 117 = .ok (.aload_n 1, 1) := by decide +kernel
theorem dX4_becomes_118 : decode cX4_becomes 118 = .ok (.getfield 40, 3) := by decide +kernel
theorem dX4_becomes_121 : decode cX4_becomes 121 = .ok (.putfield 40, 3) := by decide +kernel
theorem dX4_becomes_124 : decode cX4_becomes 124 = .ok (.aload_n 0, 1) := by decide +kernel
theorem dX4_becomes_125 : decode cX4_becomes 125 = .ok (.aload_n 1, 1) := by decide +kernel
theorem dX4_becomes_126 : decode cX4_becomes 126 = .ok (.getfield 43, 3) := by decide +kernel
theorem dX4_becomes_129 : decode cX4_becomes 129 = .ok (.putfield 43, 3) := by decide +kernel
theorem dX4_becomes_132 : decode cX4_becomes 132 = .ok (.aload_n 0, 1) := by decide +kernel
theorem dX4_becomes_133 : decode cX4_becomes 133 = .ok (.aload_n 1, 1) := by decide +kernel
theorem dX4_becomes_134 : decode cX4_becomes 134 = .ok (.getfield 46, 3) := by decide +kernel
theorem dX4_becomes_137 : decode cX4_becomes 137 = .ok (.putfield 46, 3) := by decide +kernel
theorem dX4_becomes_140 : decode cX4_becomes 140 = .ok (.aload_n 0, 1) := by decide +kernel
theorem dX4_becomes_141 : decode cX4_becomes 141 = .ok (.aload_n 1, 1) := by decide +kernel
theorem dX4_becomes_142 : decode cX4_becomes 142 = .ok (.getfield 49, 3) := by decide +kernel
theorem dX4_becomes_145 : decode cX4_becomes 145 = .ok (.putfield 49, 3) := by decide +kernel
theorem dX4_becomes_148 : decode cX4_becomes 148 = .ok (.return_, 1) := by decide +kernel
theorem dX4_seat_0 : decode cX4_seat 0 = .ok (.aload_n 0, 1) := by decide +kernel
theorem dX4_seat_1 : decode cX4_seat 1 = .ok (.getfield 33, 3) := by decide +kernel
theorem dX4_seat_4 : decode cX4_seat 4 = .ok (.istore 4, 2) := by decide +kernel
theorem dX4_seat_6 : decode cX4_seat 6 = .ok (.iload 4, 2) := by decide +kernel
theorem dX4_seat_8 : decode cX4_seat 8 = .ok (.iconst 5, 1) := by decide +kernel
theorem dX4_seat_9 : decode cX4_seat 9 = .ok (.if_icmp .lt 6, 3) := by decide +kernel
theorem dX4_seat_12 : decode cX4_seat 12 = .ok (.bipush (-4), 2) := by decide +kernel
theorem dX4_seat_14 : decode cX4_seat 14 = .ok (.ireturn, 1) := by decide +kernel
theorem dX4_seat_15 : decode cX4_seat 15 = .ok (.aload_n 0, 1) := by decide +kernel
theorem dX4_seat_16 : decode cX4_seat 16 = .ok (.getfield 9, 3) := by decide +kernel
theorem dX4_seat_19 : decode cX4_seat 19 = .ok (.iload 4, 2) := by decide +kernel
theorem dX4_seat_21 : decode cX4_seat 21 = .ok (.iload_n 1, 1) := by decide +kernel
theorem dX4_seat_22 : decode cX4_seat 22 = .ok (.iastore, 1) := by decide +kernel
theorem dX4_seat_23 : decode cX4_seat 23 = .ok (.aload_n 0, 1) := by decide +kernel
theorem dX4_seat_24 : decode cX4_seat 24 = .ok (.getfield 15, 3) := by decide +kernel
theorem dX4_seat_27 : decode cX4_seat 27 = .ok (.iload 4, 2) := by decide +kernel
theorem dX4_seat_29 : decode cX4_seat 29 = .ok (.iload_n 2, 1) := by decide +kernel
theorem dX4_seat_30 : decode cX4_seat 30 = .ok (.iastore, 1) := by decide +kernel
theorem dX4_seat_31 : decode cX4_seat 31 = .ok (.aload_n 0, 1) := by decide +kernel
theorem dX4_seat_32 : decode cX4_seat 32 = .ok (.getfield 18, 3) := by decide +kernel
theorem dX4_seat_35 : decode cX4_seat 35 = .ok (.iload 4, 2) := by decide +kernel
theorem dX4_seat_37 : decode cX4_seat 37 = .ok (.iload_n 3, 1) := by decide +kernel
theorem dX4_seat_38 : decode cX4_seat 38 = .ok (.iastore, 1) := by decide +kernel
theorem dX4_seat_39 : decode cX4_seat 39 = .ok (.aload_n 0, 1) := by decide +kernel
theorem dX4_seat_40 : decode cX4_seat 40 = .ok (.dup, 1) := by decide +kernel
theorem dX4_seat_41 : decode cX4_seat 41 = .ok (.getfield 33, 3) := by decide +kernel
theorem dX4_seat_44 : decode cX4_seat 44 = .ok (.iconst 1, 1) := by decide +kernel
theorem dX4_seat_45 : decode cX4_seat 45 = .ok (.iadd, 1) := by decide +kernel
theorem dX4_seat_46 : decode cX4_seat 46 = .ok (.putfield 33, 3) := by decide +kernel
theorem dX4_seat_49 : decode cX4_seat 49 = .ok (.iload 4, 2) := by decide +kernel
theorem dX4_seat_51 : decode cX4_seat 51 = .ok (.ireturn, 1) := by decide +kernel
theorem dX4_plainWish_0 : decode cX4_plainWish 0 = .ok (.aload_n 0, 1) := by decide +kernel
theorem dX4_plainWish_1 : decode cX4_plainWish 1 = .ok (.getfield 9, 3) := by decide +kernel
theorem dX4_plainWish_4 : decode cX4_plainWish 4 = .ok (.iload_n 1, 1) := by decide +kernel
theorem dX4_plainWish_5 : decode cX4_plainWish 5 = .ok (.iaload, 1) := by decide +kernel
theorem dX4_plainWish_6 : decode cX4_plainWish 6 = .ok (.tableswitch 130 1 6 #[38, 57, 83, 38, 63, 114], 38) := by decide +kernel
theorem dX4_plainWish_44 : decode cX4_plainWish 44 = .ok (.bipush 9, 2) := by decide +kernel
theorem dX4_plainWish_46 : decode cX4_plainWish 46 = .ok (.aload_n 0, 1) := by decide +kernel
theorem dX4_plainWish_47 : decode cX4_plainWish 47 = .ok (.getfield 18, 3) := by decide +kernel
theorem dX4_plainWish_50 : decode cX4_plainWish 50 = .ok (.iload_n 1, 1) := by decide +kernel
theorem dX4_plainWish_51 : decode cX4_plainWish 51 = .ok (.iaload, 1) := by decide +kernel
theorem dX4_plainWish_52 : decode cX4_plainWish 52 = .ok (.aload_n 0, 1) := by decide +kernel
theorem dX4_plainWish_53 : decode cX4_plainWish 53 = .ok (.getfield 15, 3) := by decide +kernel
theorem dX4_plainWish_56 : decode cX4_plainWish 56 = .ok (.iload_n 1, 1) := by decide +kernel
theorem dX4_plainWish_57 : decode cX4_plainWish 57 = .ok (.iaload, 1) := by decide +kernel
theorem dX4_plainWish_58 : decode cX4_plainWish 58 = .ok (.iadd, 1) := by decide +kernel
theorem dX4_plainWish_59 : decode cX4_plainWish 59 = .ok (.invokestatic 58, 3) := by decide +kernel
theorem dX4_plainWish_62 : decode cX4_plainWish 62 = .ok (.ireturn, 1) := by decide +kernel
theorem dX4_plainWish_63 : decode cX4_plainWish 63 = .ok (.aload_n 0, 1) := by decide +kernel
theorem dX4_plainWish_64 : decode cX4_plainWish 64 = .ok (.iload_n 1, 1) := by decide +kernel
theorem dX4_plainWish_65 : decode cX4_plainWish 65 = .ok (.invokevirtual 64, 3) := by decide +kernel
theorem dX4_plainWish_68 : decode cX4_plainWish 68 = .ok (.ireturn, 1) := by decide +kernel
theorem dX4_plainWish_69 : decode cX4_plainWish 69 = .ok (.aload_n 0, 1) := by decide +kernel
theorem dX4_plainWish_70 : decode cX4_plainWish 70 = .ok (.getfield 15, 3) := by decide +kernel
theorem dX4_plainWish_73 : decode cX4_plainWish 73 = .ok (.iload_n 1, 1) := by decide +kernel
theorem dX4_plainWish_74 : decode cX4_plainWish 74 = .ok (.iaload, 1) := by decide +kernel
theorem dX4_plainWish_75 : decode cX4_plainWish 75 = .ok (.iconst 5, 1) := by decide +kernel
theorem dX4_plainWish_76 : decode cX4_plainWish 76 = .ok (.if_icmp .ge 7, 3) := by decide +kernel
theorem dX4_plainWish_79 : decode cX4_plainWish 79 = .ok (.iconst 0, 1) := by decide +kernel
theorem dX4_plainWish_80 : decode cX4_plainWish 80 = .ok (.goto 8, 3) := by decide +kernel
theorem dX4_plainWish_83 : decode cX4_plainWish 83 = .ok (.aload_n 0, 1) := by decide +kernel
theorem dX4_plainWish_84 : decode cX4_plainWish 84 = .ok (.iload_n 1, 1) := by decide +kernel
theorem dX4_plainWish_85 : decode cX4_plainWish 85 = .ok (.invokevirtual 64, 3) := by decide +kernel
theorem dX4_plainWish_88 : decode cX4_plainWish 88 = .ok (.ireturn, 1) := by decide +kernel
theorem dX4_plainWish_89 : decode cX4_plainWish 89 = .ok (.aload_n 0, 1) := by decide +kernel
theorem dX4_plainWish_90 : decode cX4_plainWish 90 = .ok (.getfield 33, 3) := by decide +kernel
theorem dX4_plainWish_93 : decode cX4_plainWish 93 = .ok (.ifCond .le 20, 3) := by decide +kernel
theorem dX4_plainWish_96 : decode cX4_plainWish 96 = .ok (.aload_n 0, 1) := by decide +kernel
theorem dX4_plainWish_97 : decode cX4_plainWish 97 = .ok (.getfield 40, 3) := by decide +kernel
theorem dX4_plainWish_100 : decode cX4_plainWish 100 = .ok (.aload_n 0, 1) := by decide +kernel
theorem dX4_plainWish_101 : decode cX4_plainWish 101 = .ok (.getfield 33, 3) := by decide +kernel
theorem dX4_plainWish_104 : decode cX4_plainWish 104 = .ok (.irem, 1) := by decide +kernel
theorem dX4_plainWish_105 : decode cX4_plainWish 105 = .ok (.iload_n 1, 1) := by decide +kernel
theorem dX4_plainWish_106 : decode cX4_plainWish 106 = .ok (.if_icmp .ne 7, 3) := by decide +kernel
theorem dX4_plainWish_109 : decode cX4_plainWish 109 = .ok (.iconst 0, 1) := by decide +kernel
theorem dX4_plainWish_110 : decode cX4_plainWish 110 = .ok (.goto 9, 3) := by decide +kernel
theorem dX4_plainWish_113 : decode cX4_plainWish 113 = .ok (.aload_n 0, 1) := by decide +kernel
theorem dX4_plainWish_114 : decode cX4_plainWish 114 = .ok (.getfield 18, 3) := by decide +kernel
theorem dX4_plainWish_117 : decode cX4_plainWish 117 = .ok (.iload_n 1, 1) := by decide +kernel
theorem dX4_plainWish_118 : decode cX4_plainWish 118 = .ok (.iaload, 1) := by decide +kernel
theorem dX4_plainWish_119 : decode cX4_plainWish 119 = .ok (.ireturn, 1) := by decide +kernel
theorem dX4_plainWish_120 : decode cX4_plainWish 120 = .ok (.aload_n 0, 1) := by decide +kernel
theorem dX4_plainWish_121 : decode cX4_plainWish 121 = .ok (.getfield 27, 3) := by decide +kernel
theorem dX4_plainWish_124 : decode cX4_plainWish 124 = .ok (.iload_n 1, 1) := by decide +kernel
theorem dX4_plainWish_125 : decode cX4_plainWish 125 = .ok (.iconst 4, 1) := by decide +kernel
theorem dX4_plainWish_126 : decode cX4_plainWish 126 = .ok (.imul, 1) := by decide +kernel
theorem dX4_plainWish_127 : decode cX4_plainWish 127 = .ok (.aload_n 0, 1) := by decide +kernel
theorem dX4_plainWish_128 : decode cX4_plainWish 128 = .ok (.getfield 40, 3) := by decide +kernel
theorem dX4_plainWish_131 : decode cX4_plainWish 131 = .ok (.iconst 4, 1) := by decide +kernel
theorem dX4_plainWish_132 : decode cX4_plainWish 132 = .ok (.irem, 1) := by decide +kernel
theorem dX4_plainWish_133 : decode cX4_plainWish 133 = .ok (.iadd, 1) := by decide +kernel
theorem dX4_plainWish_134 : decode cX4_plainWish 134 = .ok (.iaload, 1) := by decide +kernel
theorem dX4_plainWish_135 : decode cX4_plainWish 135 = .ok (.ireturn, 1) := by decide +kernel
theorem dX4_plainWish_136 : decode cX4_plainWish 136 = .ok (.aload_n 0, 1) := by decide +kernel
theorem dX4_plainWish_137 : decode cX4_plainWish 137 = .ok (.getfield 18, 3) := by decide +kernel
theorem dX4_plainWish_140 : decode cX4_plainWish 140 = .ok (.iload_n 1, 1) := by decide +kernel
theorem dX4_plainWish_141 : decode cX4_plainWish 141 = .ok (.iaload, 1) := by decide +kernel
theorem dX4_plainWish_142 : decode cX4_plainWish 142 = .ok (.ireturn, 1) := by decide +kernel
theorem dX4_crumbMore_0 : decode cX4_crumbMore 0 = .ok (.iload_n 1, 1) := by decide +kernel
theorem dX4_crumbMore_1 : decode cX4_crumbMore 1 = .ok (.ifCond .le 9, 3) := by decide +kernel
theorem dX4_crumbMore_4 : decode cX4_crumbMore 4 = .ok (.iload_n 1, 1) := by decide +kernel
theorem dX4_crumbMore_5 : decode cX4_crumbMore 5 = .ok (.iconst 1, 1) := by decide +kernel
theorem dX4_crumbMore_6 : decode cX4_crumbMore 6 = .ok (.isub, 1) := by decide +kernel
theorem dX4_crumbMore_7 : decode cX4_crumbMore 7 = .ok (.goto 9, 3) := by decide +kernel
theorem dX4_crumbMore_10 : decode cX4_crumbMore 10 = .ok (.aload_n 0, 1) := by decide +kernel
theorem dX4_crumbMore_11 : decode cX4_crumbMore 11 = .ok (.getfield 33, 3) := by decide +kernel
theorem dX4_crumbMore_14 : decode cX4_crumbMore 14 = .ok (.iconst 1, 1) := by decide +kernel
theorem dX4_crumbMore_15 : decode cX4_crumbMore 15 = .ok (.isub, 1) := by decide +kernel
theorem dX4_crumbMore_16 : decode cX4_crumbMore 16 = .ok (.istore_n 2, 1) := by decide +kernel
theorem dX4_crumbMore_17 : decode cX4_crumbMore 17 = .ok (.bipush 9, 2) := by decide +kernel
theorem dX4_crumbMore_19 : decode cX4_crumbMore 19 = .ok (.aload_n 0, 1) := by decide +kernel
theorem dX4_crumbMore_20 : decode cX4_crumbMore 20 = .ok (.getfield 21, 3) := by decide +kernel
theorem dX4_crumbMore_23 : decode cX4_crumbMore 23 = .ok (.iconst 0, 1) := by decide +kernel
theorem dX4_crumbMore_24 : decode cX4_crumbMore 24 = .ok (.iload_n 2, 1) := by decide +kernel
theorem dX4_crumbMore_25 : decode cX4_crumbMore 25 = .ok (.invokestatic 68, 3) := by decide +kernel
theorem dX4_crumbMore_28 : decode cX4_crumbMore 28 = .ok (.iaload, 1) := by decide +kernel
theorem dX4_crumbMore_29 : decode cX4_crumbMore 29 = .ok (.iconst 1, 1) := by decide +kernel
theorem dX4_crumbMore_30 : decode cX4_crumbMore 30 = .ok (.iadd, 1) := by decide +kernel
theorem dX4_crumbMore_31 : decode cX4_crumbMore 31 = .ok (.invokestatic 58, 3) := by decide +kernel
theorem dX4_crumbMore_34 : decode cX4_crumbMore 34 = .ok (.ireturn, 1) := by decide +kernel
theorem dX4_gladTogether_0 : decode cX4_gladTogether 0 = .ok (.iconst 0, 1) := by decide +kernel
theorem dX4_gladTogether_1 : decode cX4_gladTogether 1 = .ok (.istore_n 1, 1) := by decide +kernel
theorem dX4_gladTogether_2 : decode cX4_gladTogether 2 = .ok (.iconst 0, 1) := by decide +kernel
theorem dX4_gladTogether_3 : decode cX4_gladTogether 3 = .ok (.istore_n 2, 1) := by decide +kernel
theorem dX4_gladTogether_4 : decode cX4_gladTogether 4 = .ok (.iload_n 2, 1) := by decide +kernel
theorem dX4_gladTogether_5 : decode cX4_gladTogether 5 = .ok (.aload_n 0, 1) := by decide +kernel
theorem dX4_gladTogether_6 : decode cX4_gladTogether 6 = .ok (.getfield 33, 3) := by decide +kernel
theorem dX4_gladTogether_9 : decode cX4_gladTogether 9 = .ok (.if_icmp .ge 18, 3) := by decide +kernel
theorem dX4_gladTogether_12 : decode cX4_gladTogether 12 = .ok (.iload_n 1, 1) := by decide +kernel
theorem dX4_gladTogether_13 : decode cX4_gladTogether 13 = .ok (.aload_n 0, 1) := by decide +kernel
theorem dX4_gladTogether_14 : decode cX4_gladTogether 14 = .ok (.getfield 24, 3) := by decide +kernel
theorem dX4_gladTogether_17 : decode cX4_gladTogether 17 = .ok (.iload_n 2, 1) := by decide +kernel
theorem dX4_gladTogether_18 : decode cX4_gladTogether 18 = .ok (.iaload, 1) := by decide +kernel
theorem dX4_gladTogether_19 : decode cX4_gladTogether 19 = .ok (.iadd, 1) := by decide +kernel
theorem dX4_gladTogether_20 : decode cX4_gladTogether 20 = .ok (.istore_n 1, 1) := by decide +kernel
theorem dX4_gladTogether_21 : decode cX4_gladTogether 21 = .ok (.iinc 2 1, 3) := by decide +kernel
theorem dX4_gladTogether_24 : decode cX4_gladTogether 24 = .ok (.goto (-20), 3) := by decide +kernel
theorem dX4_gladTogether_27 : decode cX4_gladTogether 27 = .ok (.iload_n 1, 1) := by decide +kernel
theorem dX4_gladTogether_28 : decode cX4_gladTogether 28 = .ok (.ireturn, 1) := by decide +kernel
theorem dX4_looksLike_0 : decode cX4_looksLike 0 = .ok (.aload_n 0, 1) := by decide +kernel
theorem dX4_looksLike_1 : decode cX4_looksLike 1 = .ok (.getfield 37, 3) := by decide +kernel
theorem dX4_looksLike_4 : decode cX4_looksLike 4 = .ok (.aload_n 1, 1) := by decide +kernel
theorem dX4_looksLike_5 : decode cX4_looksLike 5 = .ok (.getfield 37, 3) := by decide +kernel
theorem dX4_looksLike_8 : decode cX4_looksLike 8 = .ok (.if_icmp .ne 7, 3) := by decide +kernel
theorem dX4_looksLike_11 : decode cX4_looksLike 11 = .ok (.iconst 1, 1) := by decide +kernel
theorem dX4_looksLike_12 : decode cX4_looksLike 12 = .ok (.goto 4, 3) := by decide +kernel
theorem dX4_looksLike_15 : decode cX4_looksLike 15 = .ok (.iconst 0, 1) := by decide +kernel
theorem dX4_looksLike_16 : decode cX4_looksLike 16 = .ok (.istore_n 2, 1) := by decide +kernel
theorem dX4_looksLike_17 : decode cX4_looksLike 17 = .ok (.iconst 0, 1) := by decide +kernel
theorem dX4_looksLike_18 : decode cX4_looksLike 18 = .ok (.istore_n 3, 1) := by decide +kernel
theorem dX4_looksLike_19 : decode cX4_looksLike 19 = .ok (.iload_n 3, 1) := by decide +kernel
theorem dX4_looksLike_20 : decode cX4_looksLike 20 = .ok (.aload_n 0, 1) := by decide +kernel
theorem dX4_looksLike_21 : decode cX4_looksLike 21 = .ok (.getfield 33, 3) := by decide +kernel
theorem dX4_looksLike_24 : decode cX4_looksLike 24 = .ok (.if_icmp .ge 34, 3) := by decide +kernel
theorem dX4_looksLike_27 : decode cX4_looksLike 27 = .ok (.iload_n 2, 1) := by decide +kernel
theorem dX4_looksLike_28 : decode cX4_looksLike 28 = .ok (.ifCond .eq 30, 3) := by decide +kernel
theorem dX4_looksLike_31 : decode cX4_looksLike 31 = .ok (.aload_n 0, 1) := by decide +kernel
theorem dX4_looksLike_32 : decode cX4_looksLike 32 = .ok (.getfield 21, 3) := by decide +kernel
theorem dX4_looksLike_35 : decode cX4_looksLike 35 = .ok (.iload_n 3, 1) := by decide +kernel
theorem dX4_looksLike_36 : decode cX4_looksLike 36 = .ok (.iaload, 1) := by decide +kernel
theorem dX4_looksLike_37 : decode cX4_looksLike 37 = .ok (.aload_n 1, 1) := by decide +kernel
theorem dX4_looksLike_38 : decode cX4_looksLike 38 = .ok (.getfield 21, 3) := by decide +kernel
theorem dX4_looksLike_41 : decode cX4_looksLike 41 = .ok (.iload_n 3, 1) := by decide +kernel
theorem dX4_looksLike_42 : decode cX4_looksLike 42 = .ok (.iaload, 1) := by decide +kernel
theorem dX4_looksLike_43 : decode cX4_looksLike 43 = .ok (.if_icmp .ne 7, 3) := by decide +kernel
theorem dX4_looksLike_46 : decode cX4_looksLike 46 = .ok (.iconst 1, 1) := by decide +kernel
theorem dX4_looksLike_47 : decode cX4_looksLike 47 = .ok (.goto 4, 3) := by decide +kernel
theorem dX4_looksLike_50 : decode cX4_looksLike 50 = .ok (.iconst 0, 1) := by decide +kernel
theorem dX4_looksLike_51 : decode cX4_looksLike 51 = .ok (.istore_n 2, 1) := by decide +kernel
theorem dX4_looksLike_52 : decode cX4_looksLike 52 = .ok (.iinc 3 1, 3) := by decide +kernel
theorem dX4_looksLike_55 : decode cX4_looksLike 55 = .ok (.goto (-36), 3) := by decide +kernel
theorem dX4_looksLike_58 : decode cX4_looksLike 58 = .ok (.iload_n 2, 1) := by decide +kernel
theorem dX4_looksLike_59 : decode cX4_looksLike 59 = .ok (.ireturn, 1) := by decide +kernel
theorem dX5_init_0 : decode cX5_init 0 = .ok (.aload_n 0, 1) := by decide +kernel
theorem dX5_init_1 : decode cX5_init 1 = .ok (.invokespecial 3, 3) := by decide +kernel
theorem dX5_init_4 : decode cX5_init 4 = .ok (.aload_n 0, 1) := by decide +kernel
theorem dX5_init_5 : decode cX5_init 5 = .ok (.bipush 60, 2) := by decide +kernel
theorem dX5_init_7 : decode cX5_init 7 = .ok (.newarray .long, 2) := by decide +kernel
theorem dX5_init_9 : decode cX5_init 9 = .ok (.putfield 9, 3) := by decide +kernel
theorem dX5_init_12 : decode cX5_init 12 = .ok (.aload_n 0, 1) := by decide +kernel
theorem dX5_init_13 : decode cX5_init 13 = .ok (.iconst (-1), 1) := by decide +kernel
theorem dX5_init_14 : decode cX5_init 14 = .ok (.putfield 15, 3) := by decide +kernel
theorem dX5_init_17 : decode cX5_init 17 = .ok (.aload_n 0, 1) := by decide +kernel
theorem dX5_init_18 : decode cX5_init 18 = .ok (.iconst 0, 1) := by decide +kernel
theorem dX5_init_19 : decode cX5_init 19 = .ok (.putfield 19, 3) := by decide +kernel
theorem dX5_init_22 : decode cX5_init 22 = .ok (.return_, 1) := by decide +kernel
theorem dX5_becomesEmpty_0 : decode cX5_becomesEmpty 0 = .ok (.aload_n 0, 1) := by decide +kernel
theorem dX5_becomesEmpty_1 : decode cX5_becomesEmpty 1 = .ok (.iload_n 1, 1) := by decide +kernel
theorem dX5_becomesEmpty_2 : decode cX5_becomesEmpty 2 = .ok (.putfield 15, 3) := by decide +kernel
theorem dX5_becomesEmpty_5 : decode cX5_becomesEmpty 5 = .ok (.aload_n 0, 1) := by decide +kernel
theorem dX5_becomesEmpty_6 : decode cX5_becomesEmpty 6 = .ok (.iload_n 2, 1) := by decide +kernel
theorem dX5_becomesEmpty_7 : decode cX5_becomesEmpty 7 = .ok (.putfield 19, 3) := by decide +kernel
theorem dX5_becomesEmpty_10 : decode cX5_becomesEmpty 10 = .ok (.aload_n 0, 1) := by decide +kernel
theorem dX5_becomesEmpty_11 : decode cX5_becomesEmpty 11 = .ok (.getfield 9, 3) := by decide +kernel
theorem dX5_becomesEmpty_14 : decode cX5_becomesEmpty 14 = .ok (.lconst 0, 1) := by decide +kernel
theorem dX5_becomesEmpty_15 : decode cX5_becomesEmpty 15 = .ok (.invokestatic 22, 3) := by decide +kernel
theorem dX5_becomesEmpty_18 : decode cX5_becomesEmpty 18 = .ok (.return_, 1) := by decide +kernel
theorem dX5_has_0 : decode cX5_has 0 = .ok (.iload_n 1, 1) := by decide +kernel
theorem dX5_has_1 : decode cX5_has 1 = .ok (.ifCond .lt 15, 3) := by decide +kernel
theorem dX5_has_4 : decode cX5_has 4 = .ok (.iload_n 1, 1) := by decide +kernel
theorem dX5_has_5 : decode cX5_has 5 = .ok (.aload_n 0, 1) := by decide +kernel
theorem dX5_has_6 : decode cX5_has 6 = .ok (.getfield 19, 3) := by decide +kernel
theorem dX5_has_9 : decode cX5_has 9 = .ok (.if_icmp .ge 7, 3) := by decide +kernel
theorem dX5_has_12 : decode cX5_has 12 = .ok (.iconst 1, 1) := by decide +kernel
theorem dX5_has_13 : decode cX5_has 13 = .ok (.goto 4, 3) := by decide +kernel
theorem dX5_has_16 : decode cX5_has 16 = .ok (.iconst 0, 1) := by decide +kernel
theorem dX5_has_17 : decode cX5_has 17 = .ok (.ireturn, 1) := by decide +kernel
theorem dX5_hasStretch_0 : decode cX5_hasStretch 0 = .ok (.iload_n 2, 1) := by decide +kernel
theorem dX5_hasStretch_1 : decode cX5_hasStretch 1 = .ok (.ifCond .lt 29, 3) := by decide +kernel
theorem dX5_hasStretch_4 : decode cX5_hasStretch 4 = .ok (.iload_n 2, 1) := by decide +kernel
theorem dX5_hasStretch_5 : decode cX5_hasStretch 5 = .ok (.aload_n 0, 1) := by decide +kernel
theorem dX5_hasStretch_6 : decode cX5_hasStretch 6 = .ok (.getfield 19, 3) := by decide +kernel
theorem dX5_hasStretch_9 : decode cX5_hasStretch 9 = .ok (.if_icmp .gt 21, 3) := by decide +kernel
theorem dX5_hasStretch_12 : decode cX5_hasStretch 12 = .ok (.iload_n 1, 1) := by decide +kernel
theorem dX5_hasStretch_13 : decode cX5_hasStretch 13 = .ok (.ifCond .lt 17, 3) := by decide +kernel
theorem dX5_hasStretch_16 : decode cX5_hasStretch 16 = .ok (.iload_n 1, 1) := by decide +kernel
theorem dX5_hasStretch_17 : decode cX5_hasStretch 17 = .ok (.aload_n 0, 1) := by decide +kernel
theorem dX5_hasStretch_18 : decode cX5_hasStretch 18 = .ok (.getfield 19, 3) := by decide +kernel
theorem dX5_hasStretch_21 : decode cX5_hasStretch 21 = .ok (.iload_n 2, 1) := by decide +kernel
theorem dX5_hasStretch_22 : decode cX5_hasStretch 22 = .ok (.isub, 1) := by decide +kernel
theorem dX5_hasStretch_23 : decode cX5_hasStretch 23 = .ok (.if_icmp .gt 7, 3) := by decide +kernel
theorem dX5_hasStretch_26 : decode cX5_hasStretch 26 = .ok (.iconst 1, 1) := by decide +kernel
theorem dX5_hasStretch_27 : decode cX5_hasStretch 27 = .ok (.goto 4, 3) := by decide +kernel
theorem dX5_hasStretch_30 : decode cX5_hasStretch 30 = .ok (.iconst 0, 1) := by decide +kernel
theorem dX5_hasStretch_31 : decode cX5_hasStretch 31 = .ok (.ireturn, 1) := by decide +kernel
theorem dX5_put_0 : decode cX5_put 0 = .ok (.aload_n 0, 1) := by decide +kernel
theorem dX5_put_1 : decode cX5_put 1 = .ok (.iload_n 1, 1) := by decide +kernel
theorem dX5_put_2 : decode cX5_put 2 = .ok (.invokevirtual 28, 3) := by decide +kernel
theorem dX5_put_5 : decode cX5_put 5 = .ok (.ifCond .ne 4, 3) := by decide +kernel
theorem dX5_put_8 : decode cX5_put 8 = .ok (.return_, 1) := by decide +kernel
theorem dX5_put_9 : decode cX5_put 9 = .ok (.aload_n 0, 1) := by decide +kernel
theorem dX5_put_10 : decode cX5_put 10 = .ok (.getfield 15, 3) := by decide +kernel
theorem dX5_put_13 : decode cX5_put 13 = .ok (.tableswitch 93 0 4 #[35, 48, 61, 93, 73], 35) := by decide +kernel
theorem dX5_put_48 : decode cX5_put 48 = .ok (.aload_n 0, 1) := by decide +kernel
theorem dX5_put_49 : decode cX5_put 49 = .ok (.getfield 9, 3) := by decide +kernel
theorem dX5_put_52 : decode cX5_put 52 = .ok (.iload_n 1, 1) := by decide +kernel
theorem dX5_put_53 : decode cX5_put 53 = .ok (.lload_n 2, 1) := by decide +kernel
theorem dX5_put_54 : decode cX5_put 54 = .ok (.l2i, 1) := by decide +kernel
theorem dX5_put_55 : decode cX5_put 55 = .ok (.i2b, 1) := by decide +kernel
theorem dX5_put_56 : decode cX5_put 56 = .ok (.i2l, 1) := by decide +kernel
theorem dX5_put_57 : decode cX5_put 57 = .ok (.lastore, 1) := by decide +kernel
theorem dX5_put_58 : decode cX5_put 58 = .ok (.goto 55, 3) := by decide +kernel
theorem dX5_put_61 : decode cX5_put 61 = .ok (.aload_n 0, 1) := by decide +kernel
theorem dX5_put_62 : decode cX5_put 62 = .ok (.getfield 9, 3) := by decide +kernel
theorem dX5_put_65 : decode cX5_put 65 = .ok (.iload_n 1, 1) := by decide +kernel
theorem dX5_put_66 : decode cX5_put 66 = .ok (.lload_n 2, 1) := by decide +kernel
theorem dX5_put_67 : decode cX5_put 67 = .ok (.l2i, 1) := by decide +kernel
theorem dX5_put_68 : decode cX5_put 68 = .ok (.i2s, 1) := by decide +kernel
theorem dX5_put_69 : decode cX5_put 69 = .ok (.i2l, 1) := by decide +kernel
theorem dX5_put_70 : decode cX5_put 70 = .ok (.lastore, 1) := by decide +kernel
theorem dX5_put_71 : decode cX5_put 71 = .ok (.goto 42, 3) := by decide +kernel
theorem dX5_put_74 : decode cX5_put 74 = .ok (.aload_n 0, 1) := by decide +kernel
theorem dX5_put_75 : decode cX5_put 75 = .ok (.getfield 9, 3) := by decide +kernel
theorem dX5_put_78 : decode cX5_put 78 = .ok (.iload_n 1, 1) := by decide +kernel
theorem dX5_put_79 : decode cX5_put 79 = .ok (.lload_n 2, 1) := by decide +kernel
theorem dX5_put_80 : decode cX5_put 80 = .ok (.l2i, 1) := by decide +kernel
theorem dX5_put_81 : decode cX5_put 81 = .ok (.i2l, 1) := by decide +kernel
theorem dX5_put_82 : decode cX5_put 82 = .ok (.lastore, 1) := by decide +kernel
theorem dX5_put_83 : decode cX5_put 83 = .ok (.goto 30, 3) := by decide +kernel
theorem dX5_put_86 : decode cX5_put 86 = .ok (.aload_n 0, 1) := by decide +kernel
theorem dX5_put_87 : decode cX5_put 87 = .ok (.getfield 9, 3) := by decide +kernel
theorem dX5_put_90 : decode cX5_put 90 = .ok (.iload_n 1, 1) := by decide +kernel
theorem dX5_put_91 : decode cX5_put 91 = .ok (.lload_n 2, 1) := by decide +kernel
theorem dX5_put_92 : decode cX5_put 92 = .ok (.lconst 0, 1) := by decide +kernel
theorem dX5_put_93 : decode cX5_put 93 = .ok (.lcmp, 1) := by decide +kernel
theorem dX5_put_94 : decode cX5_put 94 = .ok (.ifCond .eq 7, 3) := by decide +kernel
theorem dX5_put_97 : decode cX5_put 97 = .ok (.lconst 1, 1) := by decide +kernel
theorem dX5_put_98 : decode cX5_put 98 = .ok (.goto 4, 3) := by decide +kernel
theorem dX5_put_101 : decode cX5_put 101 = .ok (.lconst 0, 1) := by decide +kernel
theorem dX5_put_102 : decode cX5_put 102 = .ok (.lastore, 1) := by decide +kernel
theorem dX5_put_103 : decode cX5_put 103 = .ok (.goto 10, 3) := by decide +kernel
theorem dX5_put_106 : decode cX5_put 106 = .ok (.aload_n 0, 1) := by decide +kernel
theorem dX5_put_107 : decode cX5_put 107 = .ok (.getfield 9, 3) := by decide +kernel
theorem dX5_put_110 : decode cX5_put 110 = .ok (.iload_n 1, 1) := by decide +kernel
theorem dX5_put_111 : decode cX5_put 111 = .ok (.lload_n 2, 1) := by decide +kernel
theorem dX5_put_112 : decode cX5_put 112 = .ok (.lastore, 1) := by decide +kernel
theorem dX5_put_113 : decode cX5_put 113 = .ok (.return_, 1) := by decide +kernel
theorem dX6_init_0 : decode cX6_init 0 = .ok (.aload_n 0, 1) := by decide +kernel
theorem dX6_init_1 : decode cX6_init 1 = .ok (.invokespecial 3, 3) := by decide +kernel
theorem dX6_init_4 : decode cX6_init 4 = .ok (.aload_n 0, 1) := by decide +kernel
theorem dX6_init_5 : decode cX6_init 5 = .ok (.new 9, 3) := by decide +kernel
theorem dX6_init_8 : decode cX6_init 8 = .ok (.dup, 1) := by decide +kernel
theorem dX6_init_9 : decode cX6_init 9 = .ok (.invokespecial 11, 3) := by decide +kernel
theorem dX6_init_12 : decode cX6_init 12 = .ok (.putfield 12, 3) := by decide +kernel
theorem dX6_init_15 : decode cX6_init 15 = .ok (.aload_n 0, 1) := by decide +kernel
theorem dX6_init_16 : decode cX6_init 16 = .ok (.new 9, 3) := by decide +kernel
theorem dX6_init_19 : decode cX6_init 19 = .ok (.dup, 1) := by decide +kernel
theorem dX6_init_20 : decode cX6_init 20 = .ok (.invokespecial 11, 3) := by decide +kernel
theorem dX6_init_23 : decode cX6_init 23 = .ok (.putfield 18, 3) := by decide +kernel
theorem dX6_init_26 : decode cX6_init 26 = .ok (.aload_n 0, 1) := by decide +kernel
theorem dX6_init_27 : decode cX6_init 27 = .ok (.new 9, 3) := by decide +kernel
theorem dX6_init_30 : decode cX6_init 30 = .ok (.dup, 1) := by decide +kernel
theorem dX6_init_31 : decode cX6_init 31 = .ok (.invokespecial 11, 3) := by decide +kernel
theorem dX6_init_34 : decode cX6_init 34 = .ok (.putfield 21, 3) := by decide +kernel
theorem dX6_init_37 : decode cX6_init 37 = .ok (.aload_n 0, 1) := by decide +kernel
theorem dX6_init_38 : decode cX6_init 38 = .ok (.new 24, 3) := by decide +kernel
theorem dX6_init_41 : decode cX6_init 41 = .ok (.dup, 1) := by decide +kernel
theorem dX6_init_42 : decode cX6_init 42 = .ok (.invokespecial 26, 3) := by decide +kernel
theorem dX6_init_45 : decode cX6_init 45 = .ok (.putfield 27, 3) := by decide +kernel
theorem dX6_init_48 : decode cX6_init 48 = .ok (.aload_n 0, 1) := by decide +kernel
theorem dX6_init_49 : decode cX6_init 49 = .ok (.bipush 6, 2) := by decide +kernel
theorem dX6_init_51 : decode cX6_init 51 = .ok (.anewarray 24, 3) := by decide +kernel
theorem dX6_init_54 : decode cX6_init 54 = .ok (.putfield 31, 3) := by decide +kernel
theorem dX6_init_57 : decode cX6_init 57 = .ok (.aload_n 0, 1) := by decide +kernel
theorem dX6_init_58 : decode cX6_init 58 = .ok (.new 35, 3) := by decide +kernel
theorem dX6_init_61 : decode cX6_init 61 = .ok (.dup, 1) := by decide +kernel
theorem dX6_init_62 : decode cX6_init 62 = .ok (.invokespecial 37, 3) := by decide +kernel
theorem dX6_init_65 : decode cX6_init 65 = .ok (.putfield 38, 3) := by decide +kernel
theorem dX6_init_68 : decode cX6_init 68 = .ok (.aload_n 0, 1) := by decide +kernel
theorem dX6_init_69 : decode cX6_init 69 = .ok (.new 42, 3) := by decide +kernel
theorem dX6_init_72 : decode cX6_init 72 = .ok (.dup, 1) := by decide +kernel
theorem dX6_init_73 : decode cX6_init 73 = .ok (.invokespecial 44, 3) := by decide +kernel
theorem dX6_init_76 : decode cX6_init 76 = .ok (.putfield 45, 3) := by decide +kernel
theorem dX6_init_79 : decode cX6_init 79 = .ok (.aload_n 0, 1) := by decide +kernel
theorem dX6_init_80 : decode cX6_init 80 = .ok (.new 49, 3) := by decide +kernel
theorem dX6_init_83 : decode cX6_init 83 = .ok (.dup, 1) := by decide +kernel
theorem dX6_init_84 : decode cX6_init 84 = .ok (.invokespecial 51, 3) := by decide +kernel
theorem dX6_init_87 : decode cX6_init 87 = .ok (.putfield 52, 3) := by decide +kernel
theorem dX6_init_90 : decode cX6_init 90 = .ok (.aload_n 0, 1) := by decide +kernel
theorem dX6_init_91 : decode cX6_init 91 = .ok (.bipush 6, 2) := by decide +kernel
theorem dX6_init_93 : decode cX6_init 93 = .ok (.anewarray 56, 3) := by decide +kernel
theorem dX6_init_96 : decode cX6_init 96 = .ok (.putfield 58, 3) := by decide +kernel
theorem dX6_init_99 : decode cX6_init 99 = .ok (.aload_n 0, 1) := by decide +kernel
theorem dX6_init_100 : decode cX6_init 100 = .ok (.iconst 5, 1) := by decide +kernel
theorem dX6_init_101 : decode cX6_init 101 = .ok (.newarray .int, 2) := by decide +kernel
theorem dX6_init_103 : decode cX6_init 103 = .ok (.putfield 62, 3) := by decide +kernel
theorem dX6_init_106 : decode cX6_init 106 = .ok (.aload_n 0, 1) := by decide +kernel
theorem dX6_init_107 : decode cX6_init 107 = .ok (.iconst 5, 1) := by decide +kernel
theorem dX6_init_108 : decode cX6_init 108 = .ok (.newarray .int, 2) := by decide +kernel
theorem dX6_init_110 : decode cX6_init 110 = .ok (.putfield 66, 3) := by decide +kernel
theorem dX6_init_113 : decode cX6_init 113 = .ok (.aload_n 0, 1) := by decide +kernel
theorem dX6_init_114 : decode cX6_init 114 = .ok (.iconst 0, 1) := by decide +kernel
theorem dX6_init_115 : decode cX6_init 115 = .ok (.putfield 69, 3) := by decide +kernel
theorem dX6_init_118 : decode cX6_init 118 = .ok (.aload_n 0, 1) := by decide +kernel
theorem dX6_init_119 : decode cX6_init 119 = .ok (.iconst 0, 1) := by decide +kernel
theorem dX6_init_120 : decode cX6_init 120 = .ok (.putfield 73, 3) := by decide +kernel
theorem dX6_init_123 : decode cX6_init 123 = .ok (.iconst 0, 1) := by decide +kernel
theorem dX6_init_124 : decode cX6_init 124 = .ok (.istore_n 1, 1) := by decide +kernel
theorem dX6_init_125 : decode cX6_init 125 = .ok (.iload_n 1, 1) := by decide +kernel
theorem dX6_init_126 : decode cX6_init 126 = .ok (.bipush 6, 2) := by decide +kernel
theorem dX6_init_128 : decode cX6_init 128 = .ok (.if_icmp .ge 22, 3) := by decide +kernel
theorem dX6_init_131 : decode cX6_init 131 = .ok (.aload_n 0, 1) := by decide +kernel
theorem dX6_init_132 : decode cX6_init 132 = .ok (.getfield 31, 3) := by decide +kernel
theorem dX6_init_135 : decode cX6_init 135 = .ok (.iload_n 1, 1) := by decide +kernel
theorem dX6_init_136 : decode cX6_init 136 = .ok (.new 24, 3) := by decide +kernel
theorem dX6_init_139 : decode cX6_init 139 = .ok (.dup, 1) := by decide +kernel
theorem dX6_init_140 : decode cX6_init 140 = .ok (.invokespecial 26, 3) := by decide +kernel
theorem dX6_init_143 : decode cX6_init 143 = .ok (.aastore, 1) := by decide +kernel
theorem dX6_init_144 : decode cX6_init 144 = .ok (.iinc 1 1, 3) := by decide +kernel
theorem dX6_init_147 : decode cX6_init 147 = .ok (.goto (-22), 3) := by decide +kernel
theorem dX6_init_150 : decode cX6_init 150 = .ok (.iconst 0, 1) := by decide +kernel
theorem dX6_init_151 : decode cX6_init 151 = .ok (.istore_n 1, 1) := by decide +kernel
theorem dX6_init_152 : decode cX6_init 152 = .ok (.iload_n 1, 1) := by decide +kernel
theorem dX6_init_153 : decode cX6_init 153 = .ok (.bipush 6, 2) := by decide +kernel
theorem dX6_init_155 : decode cX6_init 155 = .ok (.if_icmp .ge 22, 3) := by decide +kernel
theorem dX6_init_158 : decode cX6_init 158 = .ok (.aload_n 0, 1) := by decide +kernel
theorem dX6_init_159 : decode cX6_init 159 = .ok (.getfield 58, 3) := by decide +kernel
theorem dX6_init_162 : decode cX6_init 162 = .ok (.iload_n 1, 1) := by decide +kernel
theorem dX6_init_163 : decode cX6_init 163 = .ok (.new 56, 3) := by decide +kernel
theorem dX6_init_166 : decode cX6_init 166 = .ok (.dup, 1) := by decide +kernel
theorem dX6_init_167 : decode cX6_init 167 = .ok (.invokespecial 77, 3) := by decide +kernel
theorem dX6_init_170 : decode cX6_init 170 = .ok (.aastore, 1) := by decide +kernel
theorem dX6_init_171 : decode cX6_init 171 = .ok (.iinc 1 1, 3) := by decide +kernel
theorem dX6_init_174 : decode cX6_init 174 = .ok (.goto (-22), 3) := by decide +kernel
theorem dX6_init_177 : decode cX6_init 177 = .ok (.return_, 1) := by decide +kernel
theorem dX6_eater_0 : decode cX6_eater 0 = .ok (.iload_n 1, 1) := by decide +kernel
theorem dX6_eater_1 : decode cX6_eater 1 = .ok (.bipush 6, 2) := by decide +kernel
theorem dX6_eater_3 : decode cX6_eater 3 = .ok (.invokestatic 78, 3) := by decide +kernel
theorem dX6_eater_6 : decode cX6_eater 6 = .ok (.ifCond .ne 5, 3) := by decide +kernel
theorem dX6_eater_9 : decode cX6_eater 9 = .ok (.iconst (-1), 1) := by decide +kernel
theorem dX6_eater_10 : decode cX6_eater 10 = .ok (.ireturn, 1) := by decide +kernel
theorem dX6_eater_11 : decode cX6_eater 11 = .ok (.iload_n 2, 1) := by decide +kernel
theorem dX6_eater_12 : decode cX6_eater 12 = .ok (.bipush 9, 2) := by decide +kernel
theorem dX6_eater_14 : decode cX6_eater 14 = .ok (.invokestatic 78, 3) := by decide +kernel
end
section
theorem dX6_eater_17 : decode cX6_eater 17 = .ok (.ifCond .eq 12, 3) := by decide +kernel
theorem dX6_eater_20 : decode cX6_eater 20 = .ok (.iload_n 3, 1) := by decide +kernel
theorem dX6_eater_21 : decode cX6_eater 21 = .ok (.bipush 9, 2) := by decide +kernel
theorem dX6_eater_23 : decode cX6_eater 23 = .ok (.invokestatic 78, 3) := by decide +kernel
theorem dX6_eater_26 : decode cX6_eater 26 = .ok (.ifCond .ne 6, 3) := by decide +kernel
theorem dX6_eater_29 : decode cX6_eater 29 = .ok (.bipush (-2), 2) := by decide +kernel
theorem dX6_eater_31 : decode cX6_eater 31 = .ok (.ireturn, 1) := by decide +kernel
theorem dX6_eater_32 : decode cX6_eater 32 = .ok (.aload_n 0, 1) := by decide +kernel
theorem dX6_eater_33 : decode cX6_eater 33 = .ok (.getfield 12, 3) := by decide +kernel
theorem dX6_eater_36 : decode cX6_eater 36 = .ok (.getfield 82, 3) := by decide +kernel
theorem dX6_eater_39 : decode cX6_eater 39 = .ok (.iconst 5, 1) := by decide +kernel
theorem dX6_eater_40 : decode cX6_eater 40 = .ok (.if_icmp .lt 6, 3) := by decide +kernel
theorem dX6_eater_43 : decode cX6_eater 43 = .ok (.bipush (-4), 2) := by decide +kernel
theorem dX6_eater_45 : decode cX6_eater 45 = .ok (.ireturn, 1) := by decide +kernel
theorem dX6_eater_46 : decode cX6_eater 46 = .ok (.aload_n 0, 1) := by decide +kernel
theorem dX6_eater_47 : decode cX6_eater 47 = .ok (.getfield 12, 3) := by decide +kernel
theorem dX6_eater_50 : decode cX6_eater 50 = .ok (.iload_n 1, 1) := by decide +kernel
theorem dX6_eater_51 : decode cX6_eater 51 = .ok (.iload_n 2, 1) := by decide +kernel
theorem dX6_eater_52 : decode cX6_eater 52 = .ok (.iload_n 3, 1) := by decide +kernel
theorem dX6_eater_53 : decode cX6_eater 53 = .ok (.invokevirtual 85, 3) := by decide +kernel
theorem dX6_eater_56 : decode cX6_eater 56 = .ok (.ireturn, 1) := by decide +kernel
theorem dX6_of_0 : decode cX6_of 0 = .ok (.aload_n 0, 1) := by decide +kernel
theorem dX6_of_1 : decode cX6_of 1 = .ok (.iload_n 1, 1) := by decide +kernel
theorem dX6_of_2 : decode cX6_of 2 = .ok (.invokevirtual 89, 3) := by decide +kernel
theorem dX6_of_5 : decode cX6_of 5 = .ok (.ifCond .ne 6, 3) := by decide +kernel
theorem dX6_of_8 : decode cX6_of 8 = .ok (.ldc 93, 2) := by decide +kernel
theorem dX6_of_10 : decode cX6_of 10 = .ok (.ireturn, 1) := by decide +kernel
theorem dX6_of_11 : decode cX6_of 11 = .ok (.iload_n 2, 1) := by decide +kernel
theorem dX6_of_12 : decode cX6_of 12 = .ok (.tableswitch 86 0 4 #[36, 46, 56, 66, 76], 36) := by decide +kernel
theorem dX6_of_48 : decode cX6_of 48 = .ok (.aload_n 0, 1) := by decide +kernel
theorem dX6_of_49 : decode cX6_of 49 = .ok (.getfield 12, 3) := by decide +kernel
theorem dX6_of_52 : decode cX6_of 52 = .ok (.getfield 94, 3) := by decide +kernel
theorem dX6_of_55 : decode cX6_of 55 = .ok (.iload_n 1, 1) := by decide +kernel
theorem dX6_of_56 : decode cX6_of 56 = .ok (.iaload, 1) := by decide +kernel
theorem dX6_of_57 : decode cX6_of 57 = .ok (.ireturn, 1) := by decide +kernel
theorem dX6_of_58 : decode cX6_of 58 = .ok (.aload_n 0, 1) := by decide +kernel
theorem dX6_of_59 : decode cX6_of 59 = .ok (.getfield 12, 3) := by decide +kernel
theorem dX6_of_62 : decode cX6_of 62 = .ok (.getfield 97, 3) := by decide +kernel
theorem dX6_of_65 : decode cX6_of 65 = .ok (.iload_n 1, 1) := by decide +kernel
theorem dX6_of_66 : decode cX6_of 66 = .ok (.iaload, 1) := by decide +kernel
theorem dX6_of_67 : decode cX6_of 67 = .ok (.ireturn, 1) := by decide +kernel
theorem dX6_of_68 : decode cX6_of 68 = .ok (.aload_n 0, 1) := by decide +kernel
theorem dX6_of_69 : decode cX6_of 69 = .ok (.getfield 12, 3) := by decide +kernel
theorem dX6_of_72 : decode cX6_of 72 = .ok (.getfield 100, 3) := by decide +kernel
theorem dX6_of_75 : decode cX6_of 75 = .ok (.iload_n 1, 1) := by decide +kernel
theorem dX6_of_76 : decode cX6_of 76 = .ok (.iaload, 1) := by decide +kernel
theorem dX6_of_77 : decode cX6_of 77 = .ok (.ireturn, 1) := by decide +kernel
theorem dX6_of_78 : decode cX6_of 78 = .ok (.aload_n 0, 1) := by decide +kernel
theorem dX6_of_79 : decode cX6_of 79 = .ok (.getfield 12, 3) := by decide +kernel
theorem dX6_of_82 : decode cX6_of 82 = .ok (.getfield 103, 3) := by decide +kernel
theorem dX6_of_85 : decode cX6_of 85 = .ok (.iload_n 1, 1) := by decide +kernel
theorem dX6_of_86 : decode cX6_of 86 = .ok (.iaload, 1) := by decide +kernel
theorem dX6_of_87 : decode cX6_of 87 = .ok (.ireturn, 1) := by decide +kernel
theorem dX6_of_88 : decode cX6_of 88 = .ok (.aload_n 0, 1) := by decide +kernel
theorem dX6_of_89 : decode cX6_of 89 = .ok (.getfield 12, 3) := by decide +kernel
theorem dX6_of_92 : decode cX6_of 92 = .ok (.getfield 106, 3) := by decide +kernel
theorem dX6_of_95 : decode cX6_of 95 = .ok (.iload_n 1, 1) := by decide +kernel
theorem dX6_of_96 : decode cX6_of 96 = .ok (.iaload, 1) := by decide +kernel
theorem dX6_of_97 : decode cX6_of 97 = .ok (.ireturn, 1) := by decide +kernel
theorem dX6_of_98 : decode cX6_of 98 = .ok (.aload_n 0, 1) := by decide +kernel
theorem dX6_of_99 : decode cX6_of 99 = .ok (.iload_n 1, 1) := by decide +kernel
theorem dX6_of_100 : decode cX6_of 100 = .ok (.iload_n 2, 1) := by decide +kernel
theorem dX6_of_101 : decode cX6_of 101 = .ok (.invokevirtual 109, 3) := by decide +kernel
theorem dX6_of_104 : decode cX6_of 104 = .ok (.ireturn, 1) := by decide +kernel
theorem dX6_reckonedOf_0 : decode cX6_reckonedOf 0 = .ok (.aload_n 0, 1) := by decide +kernel
theorem dX6_reckonedOf_1 : decode cX6_reckonedOf 1 = .ok (.getfield 38, 3) := by decide +kernel
theorem dX6_reckonedOf_4 : decode cX6_reckonedOf 4 = .ok (.aload_n 0, 1) := by decide +kernel
theorem dX6_reckonedOf_5 : decode cX6_reckonedOf 5 = .ok (.getfield 12, 3) := by decide +kernel
theorem dX6_reckonedOf_8 : decode cX6_reckonedOf 8 = .ok (.aload_n 0, 1) := by decide +kernel
theorem dX6_reckonedOf_9 : decode cX6_reckonedOf 9 = .ok (.invokevirtual 113, 3) := by decide +kernel
theorem dX6_reckonedOf_12 : decode cX6_reckonedOf 12 = .ok (.invokevirtual 117, 3) := by decide +kernel
theorem dX6_reckonedOf_15 : decode cX6_reckonedOf 15 = .ok (.iload_n 2, 1) := by decide +kernel
theorem dX6_reckonedOf_16 : decode cX6_reckonedOf 16 = .ok (.iconst 5, 1) := by decide +kernel
theorem dX6_reckonedOf_17 : decode cX6_reckonedOf 17 = .ok (.if_icmp .ne 12, 3) := by decide +kernel
theorem dX6_reckonedOf_20 : decode cX6_reckonedOf 20 = .ok (.aload_n 0, 1) := by decide +kernel
theorem dX6_reckonedOf_21 : decode cX6_reckonedOf 21 = .ok (.getfield 38, 3) := by decide +kernel
theorem dX6_reckonedOf_24 : decode cX6_reckonedOf 24 = .ok (.iload_n 1, 1) := by decide +kernel
theorem dX6_reckonedOf_25 : decode cX6_reckonedOf 25 = .ok (.invokevirtual 121, 3) := by decide +kernel
theorem dX6_reckonedOf_28 : decode cX6_reckonedOf 28 = .ok (.ireturn, 1) := by decide +kernel
theorem dX6_reckonedOf_29 : decode cX6_reckonedOf 29 = .ok (.iload_n 2, 1) := by decide +kernel
theorem dX6_reckonedOf_30 : decode cX6_reckonedOf 30 = .ok (.bipush 6, 2) := by decide +kernel
theorem dX6_reckonedOf_32 : decode cX6_reckonedOf 32 = .ok (.if_icmp .ne 22, 3) := by decide +kernel
theorem dX6_reckonedOf_35 : decode cX6_reckonedOf 35 = .ok (.aload_n 0, 1) := by decide +kernel
theorem dX6_reckonedOf_36 : decode cX6_reckonedOf 36 = .ok (.getfield 38, 3) := by decide +kernel
theorem dX6_reckonedOf_39 : decode cX6_reckonedOf 39 = .ok (.iconst 1, 1) := by decide +kernel
theorem dX6_reckonedOf_40 : decode cX6_reckonedOf 40 = .ok (.iload_n 1, 1) := by decide +kernel
theorem dX6_reckonedOf_41 : decode cX6_reckonedOf 41 = .ok (.aload_n 0, 1) := by decide +kernel
theorem dX6_reckonedOf_42 : decode cX6_reckonedOf 42 = .ok (.getfield 12, 3) := by decide +kernel
theorem dX6_reckonedOf_45 : decode cX6_reckonedOf 45 = .ok (.getfield 103, 3) := by decide +kernel
theorem dX6_reckonedOf_48 : decode cX6_reckonedOf 48 = .ok (.iload_n 1, 1) := by decide +kernel
theorem dX6_reckonedOf_49 : decode cX6_reckonedOf 49 = .ok (.iaload, 1) := by decide +kernel
theorem dX6_reckonedOf_50 : decode cX6_reckonedOf 50 = .ok (.invokevirtual 125, 3) := by decide +kernel
theorem dX6_reckonedOf_53 : decode cX6_reckonedOf 53 = .ok (.ireturn, 1) := by decide +kernel
theorem dX6_reckonedOf_54 : decode cX6_reckonedOf 54 = .ok (.iload_n 2, 1) := by decide +kernel
theorem dX6_reckonedOf_55 : decode cX6_reckonedOf 55 = .ok (.bipush 11, 2) := by decide +kernel
theorem dX6_reckonedOf_57 : decode cX6_reckonedOf 57 = .ok (.if_icmp .lt 9, 3) := by decide +kernel
theorem dX6_reckonedOf_60 : decode cX6_reckonedOf 60 = .ok (.iload_n 2, 1) := by decide +kernel
theorem dX6_reckonedOf_61 : decode cX6_reckonedOf 61 = .ok (.bipush 19, 2) := by decide +kernel
theorem dX6_reckonedOf_63 : decode cX6_reckonedOf 63 = .ok (.if_icmp .le 6, 3) := by decide +kernel
theorem dX6_reckonedOf_66 : decode cX6_reckonedOf 66 = .ok (.ldc 93, 2) := by decide +kernel
theorem dX6_reckonedOf_68 : decode cX6_reckonedOf 68 = .ok (.ireturn, 1) := by decide +kernel
theorem dX6_reckonedOf_69 : decode cX6_reckonedOf 69 = .ok (.aload_n 0, 1) := by decide +kernel
theorem dX6_reckonedOf_70 : decode cX6_reckonedOf 70 = .ok (.getfield 38, 3) := by decide +kernel
theorem dX6_reckonedOf_73 : decode cX6_reckonedOf 73 = .ok (.iconst 0, 1) := by decide +kernel
theorem dX6_reckonedOf_74 : decode cX6_reckonedOf 74 = .ok (.iload_n 1, 1) := by decide +kernel
theorem dX6_reckonedOf_75 : decode cX6_reckonedOf 75 = .ok (.iload_n 2, 1) := by decide +kernel
theorem dX6_reckonedOf_76 : decode cX6_reckonedOf 76 = .ok (.bipush 10, 2) := by decide +kernel
theorem dX6_reckonedOf_78 : decode cX6_reckonedOf 78 = .ok (.isub, 1) := by decide +kernel
theorem dX6_reckonedOf_79 : decode cX6_reckonedOf 79 = .ok (.invokevirtual 125, 3) := by decide +kernel
theorem dX6_reckonedOf_82 : decode cX6_reckonedOf 82 = .ok (.ireturn, 1) := by decide +kernel
theorem dX6_hunger_0 : decode cX6_hunger 0 = .ok (.aload_n 0, 1) := by decide +kernel
theorem dX6_hunger_1 : decode cX6_hunger 1 = .ok (.iload_n 1, 1) := by decide +kernel
theorem dX6_hunger_2 : decode cX6_hunger 2 = .ok (.invokevirtual 89, 3) := by decide +kernel
theorem dX6_hunger_5 : decode cX6_hunger 5 = .ok (.ifCond .ne 5, 3) := by decide +kernel
theorem dX6_hunger_8 : decode cX6_hunger 8 = .ok (.iconst (-1), 1) := by decide +kernel
theorem dX6_hunger_9 : decode cX6_hunger 9 = .ok (.ireturn, 1) := by decide +kernel
theorem dX6_hunger_10 : decode cX6_hunger 10 = .ok (.iload_n 2, 1) := by decide +kernel
theorem dX6_hunger_11 : decode cX6_hunger 11 = .ok (.bipush 9, 2) := by decide +kernel
theorem dX6_hunger_13 : decode cX6_hunger 13 = .ok (.invokestatic 78, 3) := by decide +kernel
theorem dX6_hunger_16 : decode cX6_hunger 16 = .ok (.ifCond .ne 6, 3) := by decide +kernel
theorem dX6_hunger_19 : decode cX6_hunger 19 = .ok (.bipush (-2), 2) := by decide +kernel
theorem dX6_hunger_21 : decode cX6_hunger 21 = .ok (.ireturn, 1) := by decide +kernel
theorem dX6_hunger_22 : decode cX6_hunger 22 = .ok (.aload_n 0, 1) := by decide +kernel
theorem dX6_hunger_23 : decode cX6_hunger 23 = .ok (.getfield 12, 3) := by decide +kernel
theorem dX6_hunger_26 : decode cX6_hunger 26 = .ok (.getfield 100, 3) := by decide +kernel
theorem dX6_hunger_29 : decode cX6_hunger 29 = .ok (.iload_n 1, 1) := by decide +kernel
theorem dX6_hunger_30 : decode cX6_hunger 30 = .ok (.iaload, 1) := by decide +kernel
theorem dX6_hunger_31 : decode cX6_hunger 31 = .ok (.istore_n 3, 1) := by decide +kernel
theorem dX6_hunger_32 : decode cX6_hunger 32 = .ok (.aload_n 0, 1) := by decide +kernel
theorem dX6_hunger_33 : decode cX6_hunger 33 = .ok (.getfield 12, 3) := by decide +kernel
theorem dX6_hunger_36 : decode cX6_hunger 36 = .ok (.getfield 100, 3) := by decide +kernel
theorem dX6_hunger_39 : decode cX6_hunger 39 = .ok (.iload_n 1, 1) := by decide +kernel
theorem dX6_hunger_40 : decode cX6_hunger 40 = .ok (.iload_n 2, 1) := by decide +kernel
theorem dX6_hunger_41 : decode cX6_hunger 41 = .ok (.iastore, 1) := by decide +kernel
theorem dX6_hunger_42 : decode cX6_hunger 42 = .ok (.iload_n 3, 1) := by decide +kernel
theorem dX6_hunger_43 : decode cX6_hunger 43 = .ok (.ireturn, 1) := by decide +kernel
theorem dX6_row_0 : decode cX6_row 0 = .ok (.aload_n 0, 1) := by decide +kernel
theorem dX6_row_1 : decode cX6_row 1 = .ok (.iload_n 1, 1) := by decide +kernel
theorem dX6_row_2 : decode cX6_row 2 = .ok (.invokevirtual 89, 3) := by decide +kernel
theorem dX6_row_5 : decode cX6_row 5 = .ok (.ifCond .eq 11, 3) := by decide +kernel
theorem dX6_row_8 : decode cX6_row 8 = .ok (.iload_n 2, 1) := by decide +kernel
theorem dX6_row_9 : decode cX6_row 9 = .ok (.iconst 3, 1) := by decide +kernel
theorem dX6_row_10 : decode cX6_row 10 = .ok (.invokestatic 78, 3) := by decide +kernel
theorem dX6_row_13 : decode cX6_row 13 = .ok (.ifCond .ne 5, 3) := by decide +kernel
theorem dX6_row_16 : decode cX6_row 16 = .ok (.iconst (-1), 1) := by decide +kernel
theorem dX6_row_17 : decode cX6_row 17 = .ok (.ireturn, 1) := by decide +kernel
theorem dX6_row_18 : decode cX6_row 18 = .ok (.iload_n 3, 1) := by decide +kernel
theorem dX6_row_19 : decode cX6_row 19 = .ok (.bipush 9, 2) := by decide +kernel
theorem dX6_row_21 : decode cX6_row 21 = .ok (.invokestatic 78, 3) := by decide +kernel
theorem dX6_row_24 : decode cX6_row 24 = .ok (.ifCond .ne 6, 3) := by decide +kernel
theorem dX6_row_27 : decode cX6_row 27 = .ok (.bipush (-2), 2) := by decide +kernel
theorem dX6_row_29 : decode cX6_row 29 = .ok (.ireturn, 1) := by decide +kernel
theorem dX6_row_30 : decode cX6_row 30 = .ok (.aload_n 0, 1) := by decide +kernel
theorem dX6_row_31 : decode cX6_row 31 = .ok (.getfield 12, 3) := by decide +kernel
theorem dX6_row_34 : decode cX6_row 34 = .ok (.getfield 94, 3) := by decide +kernel
theorem dX6_row_37 : decode cX6_row 37 = .ok (.iload_n 1, 1) := by decide +kernel
theorem dX6_row_38 : decode cX6_row 38 = .ok (.iaload, 1) := by decide +kernel
theorem dX6_row_39 : decode cX6_row 39 = .ok (.bipush 6, 2) := by decide +kernel
theorem dX6_row_41 : decode cX6_row 41 = .ok (.if_icmp .eq 6, 3) := by decide +kernel
theorem dX6_row_44 : decode cX6_row 44 = .ok (.bipush (-3), 2) := by decide +kernel
theorem dX6_row_46 : decode cX6_row 46 = .ok (.ireturn, 1) := by decide +kernel
theorem dX6_row_47 : decode cX6_row 47 = .ok (.aload_n 0, 1) := by decide +kernel
theorem dX6_row_48 : decode cX6_row 48 = .ok (.getfield 12, 3) := by decide +kernel
theorem dX6_row_51 : decode cX6_row 51 = .ok (.getfield 128, 3) := by decide +kernel
theorem dX6_row_54 : decode cX6_row 54 = .ok (.iload_n 1, 1) := by decide +kernel
theorem dX6_row_55 : decode cX6_row 55 = .ok (.iconst 4, 1) := by decide +kernel
theorem dX6_row_56 : decode cX6_row 56 = .ok (.imul, 1) := by decide +kernel
theorem dX6_row_57 : decode cX6_row 57 = .ok (.iload_n 2, 1) := by decide +kernel
theorem dX6_row_58 : decode cX6_row 58 = .ok (.iadd, 1) := by decide +kernel
theorem dX6_row_59 : decode cX6_row 59 = .ok (.iaload, 1) := by decide +kernel
theorem dX6_row_60 : decode cX6_row 60 = .ok (.istore 4, 2) := by decide +kernel
theorem dX6_row_62 : decode cX6_row 62 = .ok (.aload_n 0, 1) := by decide +kernel
theorem dX6_row_63 : decode cX6_row 63 = .ok (.getfield 12, 3) := by decide +kernel
theorem dX6_row_66 : decode cX6_row 66 = .ok (.getfield 128, 3) := by decide +kernel
theorem dX6_row_69 : decode cX6_row 69 = .ok (.iload_n 1, 1) := by decide +kernel
theorem dX6_row_70 : decode cX6_row 70 = .ok (.iconst 4, 1) := by decide +kernel
theorem dX6_row_71 : decode cX6_row 71 = .ok (.imul, 1) := by decide +kernel
theorem dX6_row_72 : decode cX6_row 72 = .ok (.iload_n 2, 1) := by decide +kernel
theorem dX6_row_73 : decode cX6_row 73 = .ok (.iadd, 1) := by decide +kernel
theorem dX6_row_74 : decode cX6_row 74 = .ok (.iload_n 3, 1) := by decide +kernel
theorem dX6_row_75 : decode cX6_row 75 = .ok (.iastore, 1) := by decide +kernel
theorem dX6_row_76 : decode cX6_row 76 = .ok (.iload 4, 2) := by decide +kernel
theorem dX6_row_78 : decode cX6_row 78 = .ok (.ireturn, 1) := by decide +kernel
theorem dX6_bin_0 : decode cX6_bin 0 = .ok (.iload_n 1, 1) := by decide +kernel
theorem dX6_bin_1 : decode cX6_bin 1 = .ok (.bipush 99, 2) := by decide +kernel
theorem dX6_bin_3 : decode cX6_bin 3 = .ok (.invokestatic 78, 3) := by decide +kernel
theorem dX6_bin_6 : decode cX6_bin 6 = .ok (.ifCond .ne 6, 3) := by decide +kernel
theorem dX6_bin_9 : decode cX6_bin 9 = .ok (.bipush (-2), 2) := by decide +kernel
theorem dX6_bin_11 : decode cX6_bin 11 = .ok (.ireturn, 1) := by decide +kernel
theorem dX6_bin_12 : decode cX6_bin 12 = .ok (.aload_n 0, 1) := by decide +kernel
theorem dX6_bin_13 : decode cX6_bin 13 = .ok (.getfield 12, 3) := by decide +kernel
theorem dX6_bin_16 : decode cX6_bin 16 = .ok (.getfield 131, 3) := by decide +kernel
theorem dX6_bin_19 : decode cX6_bin 19 = .ok (.istore_n 2, 1) := by decide +kernel
theorem dX6_bin_20 : decode cX6_bin 20 = .ok (.aload_n 0, 1) := by decide +kernel
theorem dX6_bin_21 : decode cX6_bin 21 = .ok (.getfield 12, 3) := by decide +kernel
theorem dX6_bin_24 : decode cX6_bin 24 = .ok (.iload_n 1, 1) := by decide +kernel
theorem dX6_bin_25 : decode cX6_bin 25 = .ok (.putfield 131, 3) := by decide +kernel
theorem dX6_bin_28 : decode cX6_bin 28 = .ok (.iload_n 2, 1) := by decide +kernel
theorem dX6_bin_29 : decode cX6_bin 29 = .ok (.ireturn, 1) := by decide +kernel
theorem dX6_feed_0 : decode cX6_feed 0 = .ok (.iload_n 1, 1) := by decide +kernel
theorem dX6_feed_1 : decode cX6_feed 1 = .ok (.bipush 127, 2) := by decide +kernel
theorem dX6_feed_3 : decode cX6_feed 3 = .ok (.invokestatic 78, 3) := by decide +kernel
theorem dX6_feed_6 : decode cX6_feed 6 = .ok (.ifCond .ne 6, 3) := by decide +kernel
theorem dX6_feed_9 : decode cX6_feed 9 = .ok (.bipush (-2), 2) := by decide +kernel
theorem dX6_feed_11 : decode cX6_feed 11 = .ok (.ireturn, 1) := by decide +kernel
theorem dX6_feed_12 : decode cX6_feed 12 = .ok (.aload_n 0, 1) := by decide +kernel
theorem dX6_feed_13 : decode cX6_feed 13 = .ok (.getfield 45, 3) := by decide +kernel
theorem dX6_feed_16 : decode cX6_feed 16 = .ok (.getfield 134, 3) := by decide +kernel
theorem dX6_feed_19 : decode cX6_feed 19 = .ok (.bipush 100, 2) := by decide +kernel
theorem dX6_feed_21 : decode cX6_feed 21 = .ok (.if_icmp .lt 6, 3) := by decide +kernel
theorem dX6_feed_24 : decode cX6_feed 24 = .ok (.bipush (-4), 2) := by decide +kernel
theorem dX6_feed_26 : decode cX6_feed 26 = .ok (.ireturn, 1) := by decide +kernel
theorem dX6_feed_27 : decode cX6_feed 27 = .ok (.aload_n 0, 1) := by decide +kernel
theorem dX6_feed_28 : decode cX6_feed 28 = .ok (.getfield 45, 3) := by decide +kernel
theorem dX6_feed_31 : decode cX6_feed 31 = .ok (.iload_n 1, 1) := by decide +kernel
theorem dX6_feed_32 : decode cX6_feed 32 = .ok (.i2c, 1) := by decide +kernel
theorem dX6_feed_33 : decode cX6_feed 33 = .ok (.invokevirtual 137, 3) := by decide +kernel
theorem dX6_feed_36 : decode cX6_feed 36 = .ok (.ireturn, 1) := by decide +kernel
theorem dX6_house_0 : decode cX6_house 0 = .ok (.aload_n 0, 1) := by decide +kernel
theorem dX6_house_1 : decode cX6_house 1 = .ok (.getfield 69, 3) := by decide +kernel
theorem dX6_house_4 : decode cX6_house 4 = .ok (.bipush 6, 2) := by decide +kernel
theorem dX6_house_6 : decode cX6_house 6 = .ok (.if_icmp .lt 6, 3) := by decide +kernel
theorem dX6_house_9 : decode cX6_house 9 = .ok (.bipush (-4), 2) := by decide +kernel
theorem dX6_house_11 : decode cX6_house 11 = .ok (.ireturn, 1) := by decide +kernel
theorem dX6_house_12 : decode cX6_house 12 = .ok (.aload_n 0, 1) := by decide +kernel
theorem dX6_house_13 : decode cX6_house 13 = .ok (.getfield 45, 3) := by decide +kernel
theorem dX6_house_16 : decode cX6_house 16 = .ok (.aload_n 0, 1) := by decide +kernel
theorem dX6_house_17 : decode cX6_house 17 = .ok (.getfield 31, 3) := by decide +kernel
theorem dX6_house_20 : decode cX6_house 20 = .ok (.aload_n 0, 1) := by decide +kernel
theorem dX6_house_21 : decode cX6_house 21 = .ok (.getfield 69, 3) := by decide +kernel
theorem dX6_house_24 : decode cX6_house 24 = .ok (.aaload, 1) := by decide +kernel
theorem dX6_house_25 : decode cX6_house 25 = .ok (.invokevirtual 141, 3) := by decide +kernel
theorem dX6_house_28 : decode cX6_house 28 = .ok (.istore_n 1, 1) := by decide +kernel
theorem dX6_house_29 : decode cX6_house 29 = .ok (.aload_n 0, 1) := by decide +kernel
theorem dX6_house_30 : decode cX6_house 30 = .ok (.getfield 45, 3) := by decide +kernel
theorem dX6_house_33 : decode cX6_house 33 = .ok (.iconst 0, 1) := by decide +kernel
theorem dX6_house_34 : decode cX6_house 34 = .ok (.putfield 134, 3) := by decide +kernel
theorem dX6_house_37 : decode cX6_house 37 = .ok (.iload_n 1, 1) := by decide +kernel
theorem dX6_house_38 : decode cX6_house 38 = .ok (.ifCond .lt 8, 3) := by decide +kernel
theorem dX6_house_41 : decode cX6_house 41 = .ok (.bipush (-10), 2) := by decide +kernel
theorem dX6_house_43 : decode cX6_house 43 = .ok (.iload_n 1, 1) := by decide +kernel
theorem dX6_house_44 : decode cX6_house 44 = .ok (.isub, 1) := by decide +kernel
theorem dX6_house_45 : decode cX6_house 45 = .ok (.ireturn, 1) := by decide +kernel
theorem dX6_house_46 : decode cX6_house 46 = .ok (.aload_n 0, 1) := by decide +kernel
theorem dX6_house_47 : decode cX6_house 47 = .ok (.getfield 12, 3) := by decide +kernel
theorem dX6_house_50 : decode cX6_house 50 = .ok (.aload_n 0, 1) := by decide +kernel
theorem dX6_house_51 : decode cX6_house 51 = .ok (.getfield 69, 3) := by decide +kernel
theorem dX6_house_54 : decode cX6_house 54 = .ok (.putfield 145, 3) := by decide +kernel
theorem dX6_house_57 : decode cX6_house 57 = .ok (.aload_n 0, 1) := by decide +kernel
theorem dX6_house_58 : decode cX6_house 58 = .ok (.dup, 1) := by decide +kernel
theorem dX6_house_59 : decode cX6_house 59 = .ok (.getfield 69, 3) := by decide +kernel
theorem dX6_house_62 : decode cX6_house 62 = .ok (.iconst 1, 1) := by decide +kernel
theorem dX6_house_63 : decode cX6_house 63 = .ok (.iadd, 1) := by decide +kernel
theorem dX6_house_64 : decode cX6_house 64 = .ok (.putfield 69, 3) := by decide +kernel
theorem dX6_house_67 : decode cX6_house 67 = .ok (.aload_n 0, 1) := by decide +kernel
theorem dX6_house_68 : decode cX6_house 68 = .ok (.getfield 12, 3) := by decide +kernel
theorem dX6_house_71 : decode cX6_house 71 = .ok (.getfield 145, 3) := by decide +kernel
theorem dX6_house_74 : decode cX6_house 74 = .ok (.ireturn, 1) := by decide +kernel
theorem dX6_told_0 : decode cX6_told 0 = .ok (.iload_n 1, 1) := by decide +kernel
theorem dX6_told_1 : decode cX6_told 1 = .ok (.tableswitch 87 0 5 #[39, 47, 55, 63, 71, 79], 39) := by decide +kernel
theorem dX6_told_40 : decode cX6_told 40 = .ok (.aload_n 0, 1) := by decide +kernel
theorem dX6_told_41 : decode cX6_told 41 = .ok (.invokevirtual 113, 3) := by decide +kernel
theorem dX6_told_44 : decode cX6_told 44 = .ok (.getfield 148, 3) := by decide +kernel
theorem dX6_told_47 : decode cX6_told 47 = .ok (.ireturn, 1) := by decide +kernel
theorem dX6_told_48 : decode cX6_told 48 = .ok (.aload_n 0, 1) := by decide +kernel
theorem dX6_told_49 : decode cX6_told 49 = .ok (.invokevirtual 113, 3) := by decide +kernel
theorem dX6_told_52 : decode cX6_told 52 = .ok (.getfield 151, 3) := by decide +kernel
theorem dX6_told_55 : decode cX6_told 55 = .ok (.ireturn, 1) := by decide +kernel
theorem dX6_told_56 : decode cX6_told 56 = .ok (.aload_n 0, 1) := by decide +kernel
theorem dX6_told_57 : decode cX6_told 57 = .ok (.invokevirtual 113, 3) := by decide +kernel
theorem dX6_told_60 : decode cX6_told 60 = .ok (.getfield 154, 3) := by decide +kernel
theorem dX6_told_63 : decode cX6_told 63 = .ok (.ireturn, 1) := by decide +kernel
theorem dX6_told_64 : decode cX6_told 64 = .ok (.aload_n 0, 1) := by decide +kernel
theorem dX6_told_65 : decode cX6_told 65 = .ok (.getfield 12, 3) := by decide +kernel
theorem dX6_told_68 : decode cX6_told 68 = .ok (.getfield 131, 3) := by decide +kernel
theorem dX6_told_71 : decode cX6_told 71 = .ok (.ireturn, 1) := by decide +kernel
theorem dX6_told_72 : decode cX6_told 72 = .ok (.aload_n 0, 1) := by decide +kernel
theorem dX6_told_73 : decode cX6_told 73 = .ok (.getfield 12, 3) := by decide +kernel
theorem dX6_told_76 : decode cX6_told 76 = .ok (.getfield 157, 3) := by decide +kernel
theorem dX6_told_79 : decode cX6_told 79 = .ok (.ireturn, 1) := by decide +kernel
theorem dX6_told_80 : decode cX6_told 80 = .ok (.aload_n 0, 1) := by decide +kernel
theorem dX6_told_81 : decode cX6_told 81 = .ok (.getfield 12, 3) := by decide +kernel
theorem dX6_told_84 : decode cX6_told 84 = .ok (.getfield 160, 3) := by decide +kernel
theorem dX6_told_87 : decode cX6_told 87 = .ok (.ireturn, 1) := by decide +kernel
theorem dX6_told_88 : decode cX6_told 88 = .ok (.iconst (-1), 1) := by decide +kernel
theorem dX6_told_89 : decode cX6_told 89 = .ok (.ireturn, 1) := by decide +kernel
theorem dX6_supper_0 : decode cX6_supper 0 = .ok (.aload_n 0, 1) := by decide +kernel
theorem dX6_supper_1 : decode cX6_supper 1 = .ok (.getfield 12, 3) := by decide +kernel
theorem dX6_supper_4 : decode cX6_supper 4 = .ok (.getfield 157, 3) := by decide +kernel
theorem dX6_supper_7 : decode cX6_supper 7 = .ok (.sipush 9999, 3) := by decide +kernel
theorem dX6_supper_10 : decode cX6_supper 10 = .ok (.if_icmp .lt 6, 3) := by decide +kernel
theorem dX6_supper_13 : decode cX6_supper 13 = .ok (.bipush (-3), 2) := by decide +kernel
theorem dX6_supper_15 : decode cX6_supper 15 = .ok (.ireturn, 1) := by decide +kernel
theorem dX6_supper_16 : decode cX6_supper 16 = .ok (.aload_n 0, 1) := by decide +kernel
theorem dX6_supper_17 : decode cX6_supper 17 = .ok (.getfield 38, 3) := by decide +kernel
theorem dX6_supper_20 : decode cX6_supper 20 = .ok (.aload_n 0, 1) := by decide +kernel
theorem dX6_supper_21 : decode cX6_supper 21 = .ok (.getfield 12, 3) := by decide +kernel
theorem dX6_supper_24 : decode cX6_supper 24 = .ok (.aload_n 0, 1) := by decide +kernel
theorem dX6_supper_25 : decode cX6_supper 25 = .ok (.invokevirtual 113, 3) := by decide +kernel
theorem dX6_supper_28 : decode cX6_supper 28 = .ok (.invokevirtual 163, 3) := by decide +kernel
theorem dX6_supper_31 : decode cX6_supper 31 = .ok (.aload_n 0, 1) := by decide +kernel
theorem dX6_supper_32 : decode cX6_supper 32 = .ok (.getfield 12, 3) := by decide +kernel
theorem dX6_supper_35 : decode cX6_supper 35 = .ok (.getfield 160, 3) := by decide +kernel
theorem dX6_supper_38 : decode cX6_supper 38 = .ok (.ireturn, 1) := by decide +kernel
theorem dX6_run_0 : decode cX6_run 0 = .ok (.aload_n 0, 1) := by decide +kernel
theorem dX6_run_1 : decode cX6_run 1 = .ok (.iload_n 2, 1) := by decide +kernel
theorem dX6_run_2 : decode cX6_run 2 = .ok (.bipush 10, 2) := by decide +kernel
theorem dX6_run_4 : decode cX6_run 4 = .ok (.isub, 1) := by decide +kernel
theorem dX6_run_5 : decode cX6_run 5 = .ok (.invokevirtual 89, 3) := by decide +kernel
theorem dX6_run_8 : decode cX6_run 8 = .ok (.ifCond .ne 14, 3) := by decide +kernel
theorem dX6_run_11 : decode cX6_run 11 = .ok (.aload_n 0, 1) := by decide +kernel
theorem dX6_run_12 : decode cX6_run 12 = .ok (.iload_n 2, 1) := by decide +kernel
theorem dX6_run_13 : decode cX6_run 13 = .ok (.bipush 20, 2) := by decide +kernel
theorem dX6_run_15 : decode cX6_run 15 = .ok (.isub, 1) := by decide +kernel
theorem dX6_run_16 : decode cX6_run 16 = .ok (.invokevirtual 89, 3) := by decide +kernel
theorem dX6_run_19 : decode cX6_run 19 = .ok (.ifCond .eq 7, 3) := by decide +kernel
theorem dX6_run_22 : decode cX6_run 22 = .ok (.iconst 1, 1) := by decide +kernel
theorem dX6_run_23 : decode cX6_run 23 = .ok (.goto 4, 3) := by decide +kernel
theorem dX6_run_26 : decode cX6_run 26 = .ok (.iconst 0, 1) := by decide +kernel
theorem dX6_run_27 : decode cX6_run 27 = .ok (.istore_n 3, 1) := by decide +kernel
theorem dX6_run_28 : decode cX6_run 28 = .ok (.iload_n 2, 1) := by decide +kernel
theorem dX6_run_29 : decode cX6_run 29 = .ok (.iconst 1, 1) := by decide +kernel
theorem dX6_run_30 : decode cX6_run 30 = .ok (.invokestatic 78, 3) := by decide +kernel
theorem dX6_run_33 : decode cX6_run 33 = .ok (.ifCond .ne 10, 3) := by decide +kernel
theorem dX6_run_36 : decode cX6_run 36 = .ok (.iload_n 3, 1) := by decide +kernel
theorem dX6_run_37 : decode cX6_run 37 = .ok (.ifCond .ne 6, 3) := by decide +kernel
theorem dX6_run_40 : decode cX6_run 40 = .ok (.ldc 93, 2) := by decide +kernel
theorem dX6_run_42 : decode cX6_run 42 = .ok (.ireturn, 1) := by decide +kernel
theorem dX6_run_43 : decode cX6_run 43 = .ok (.iload_n 1, 1) := by decide +kernel
theorem dX6_run_44 : decode cX6_run 44 = .ok (.bipush 60, 2) := by decide +kernel
theorem dX6_run_46 : decode cX6_run 46 = .ok (.invokestatic 78, 3) := by decide +kernel
theorem dX6_run_49 : decode cX6_run 49 = .ok (.ifCond .ne 6, 3) := by decide +kernel
theorem dX6_run_52 : decode cX6_run 52 = .ok (.ldc 166, 2) := by decide +kernel
theorem dX6_run_54 : decode cX6_run 54 = .ok (.ireturn, 1) := by decide +kernel
theorem dX6_run_55 : decode cX6_run 55 = .ok (.aload_n 0, 1) := by decide +kernel
theorem dX6_run_56 : decode cX6_run 56 = .ok (.iload_n 2, 1) := by decide +kernel
theorem dX6_run_57 : decode cX6_run 57 = .ok (.bipush 20, 2) := by decide +kernel
theorem dX6_run_59 : decode cX6_run 59 = .ok (.isub, 1) := by decide +kernel
theorem dX6_run_60 : decode cX6_run 60 = .ok (.invokevirtual 89, 3) := by decide +kernel
theorem dX6_run_63 : decode cX6_run 63 = .ok (.ifCond .eq 13, 3) := by decide +kernel
theorem dX6_run_66 : decode cX6_run 66 = .ok (.aload_n 0, 1) := by decide +kernel
theorem dX6_run_67 : decode cX6_run 67 = .ok (.iload_n 2, 1) := by decide +kernel
theorem dX6_run_68 : decode cX6_run 68 = .ok (.bipush 20, 2) := by decide +kernel
theorem dX6_run_70 : decode cX6_run 70 = .ok (.isub, 1) := by decide +kernel
theorem dX6_run_71 : decode cX6_run 71 = .ok (.iload_n 1, 1) := by decide +kernel
theorem dX6_run_72 : decode cX6_run 72 = .ok (.invokevirtual 167, 3) := by decide +kernel
theorem dX6_run_75 : decode cX6_run 75 = .ok (.ireturn, 1) := by decide +kernel
theorem dX6_run_76 : decode cX6_run 76 = .ok (.aload_n 0, 1) := by decide +kernel
theorem dX6_run_77 : decode cX6_run 77 = .ok (.iload_n 1, 1) := by decide +kernel
theorem dX6_run_78 : decode cX6_run 78 = .ok (.invokevirtual 170, 3) := by decide +kernel
theorem dX6_run_81 : decode cX6_run 81 = .ok (.iload_n 2, 1) := by decide +kernel
theorem dX6_run_82 : decode cX6_run 82 = .ok (.ifCond .ne 11, 3) := by decide +kernel
theorem dX6_run_85 : decode cX6_run 85 = .ok (.aload_n 0, 1) := by decide +kernel
theorem dX6_run_86 : decode cX6_run 86 = .ok (.getfield 21, 3) := by decide +kernel
theorem dX6_run_89 : decode cX6_run 89 = .ok (.getfield 131, 3) := by decide +kernel
theorem dX6_run_92 : decode cX6_run 92 = .ok (.ireturn, 1) := by decide +kernel
theorem dX6_run_93 : decode cX6_run 93 = .ok (.iload_n 2, 1) := by decide +kernel
theorem dX6_run_94 : decode cX6_run 94 = .ok (.iconst 1, 1) := by decide +kernel
theorem dX6_run_95 : decode cX6_run 95 = .ok (.if_icmp .ne 13, 3) := by decide +kernel
theorem dX6_run_98 : decode cX6_run 98 = .ok (.aload_n 0, 1) := by decide +kernel
theorem dX6_run_99 : decode cX6_run 99 = .ok (.getfield 21, 3) := by decide +kernel
theorem dX6_run_102 : decode cX6_run 102 = .ok (.getfield 160, 3) := by decide +kernel
theorem dX6_run_105 : decode cX6_run 105 = .ok (.goto 15, 3) := by decide +kernel
theorem dX6_run_108 : decode cX6_run 108 = .ok (.aload_n 0, 1) := by decide +kernel
theorem dX6_run_109 : decode cX6_run 109 = .ok (.getfield 21, 3) := by decide +kernel
theorem dX6_run_112 : decode cX6_run 112 = .ok (.getfield 106, 3) := by decide +kernel
theorem dX6_run_115 : decode cX6_run 115 = .ok (.iload_n 2, 1) := by decide +kernel
theorem dX6_run_116 : decode cX6_run 116 = .ok (.bipush 10, 2) := by decide +kernel
theorem dX6_run_118 : decode cX6_run 118 = .ok (.isub, 1) := by decide +kernel
theorem dX6_run_119 : decode cX6_run 119 = .ok (.iaload, 1) := by decide +kernel
theorem dX6_run_120 : decode cX6_run 120 = .ok (.ireturn, 1) := by decide +kernel
theorem dX6_timesBaker_0 : decode cX6_timesBaker 0 = .ok (.iconst 0, 1) := by decide +kernel
theorem dX6_timesBaker_1 : decode cX6_timesBaker 1 = .ok (.istore_n 3, 1) := by decide +kernel
theorem dX6_timesBaker_2 : decode cX6_timesBaker 2 = .ok (.aload_n 0, 1) := by decide +kernel
theorem dX6_timesBaker_3 : decode cX6_timesBaker 3 = .ok (.getfield 21, 3) := by decide +kernel
theorem dX6_timesBaker_6 : decode cX6_timesBaker 6 = .ok (.aload_n 0, 1) := by decide +kernel
theorem dX6_timesBaker_7 : decode cX6_timesBaker 7 = .ok (.getfield 12, 3) := by decide +kernel
theorem dX6_timesBaker_10 : decode cX6_timesBaker 10 = .ok (.invokevirtual 174, 3) := by decide +kernel
theorem dX6_timesBaker_13 : decode cX6_timesBaker 13 = .ok (.iconst 0, 1) := by decide +kernel
theorem dX6_timesBaker_14 : decode cX6_timesBaker 14 = .ok (.istore 4, 2) := by decide +kernel
theorem dX6_timesBaker_16 : decode cX6_timesBaker 16 = .ok (.iload 4, 2) := by decide +kernel
theorem dX6_timesBaker_18 : decode cX6_timesBaker 18 = .ok (.iload_n 2, 1) := by decide +kernel
theorem dX6_timesBaker_19 : decode cX6_timesBaker 19 = .ok (.if_icmp .ge 43, 3) := by decide +kernel
theorem dX6_timesBaker_22 : decode cX6_timesBaker 22 = .ok (.aload_n 0, 1) := by decide +kernel
theorem dX6_timesBaker_23 : decode cX6_timesBaker 23 = .ok (.getfield 38, 3) := by decide +kernel
theorem dX6_timesBaker_26 : decode cX6_timesBaker 26 = .ok (.aload_n 0, 1) := by decide +kernel
theorem dX6_timesBaker_27 : decode cX6_timesBaker 27 = .ok (.getfield 21, 3) := by decide +kernel
theorem dX6_timesBaker_30 : decode cX6_timesBaker 30 = .ok (.aload_n 0, 1) := by decide +kernel
theorem dX6_timesBaker_31 : decode cX6_timesBaker 31 = .ok (.invokevirtual 113, 3) := by decide +kernel
theorem dX6_timesBaker_34 : decode cX6_timesBaker 34 = .ok (.invokevirtual 163, 3) := by decide +kernel
theorem dX6_timesBaker_37 : decode cX6_timesBaker 37 = .ok (.iload_n 3, 1) := by decide +kernel
theorem dX6_timesBaker_38 : decode cX6_timesBaker 38 = .ok (.aload_n 0, 1) := by decide +kernel
theorem dX6_timesBaker_39 : decode cX6_timesBaker 39 = .ok (.getfield 21, 3) := by decide +kernel
theorem dX6_timesBaker_42 : decode cX6_timesBaker 42 = .ok (.getfield 160, 3) := by decide +kernel
theorem dX6_timesBaker_45 : decode cX6_timesBaker 45 = .ok (.iload_n 1, 1) := by decide +kernel
theorem dX6_timesBaker_46 : decode cX6_timesBaker 46 = .ok (.if_icmp .ne 7, 3) := by decide +kernel
theorem dX6_timesBaker_49 : decode cX6_timesBaker 49 = .ok (.iconst 1, 1) := by decide +kernel
theorem dX6_timesBaker_50 : decode cX6_timesBaker 50 = .ok (.goto 4, 3) := by decide +kernel
theorem dX6_timesBaker_53 : decode cX6_timesBaker 53 = .ok (.iconst 0, 1) := by decide +kernel
theorem dX6_timesBaker_54 : decode cX6_timesBaker 54 = .ok (.iadd, 1) := by decide +kernel
theorem dX6_timesBaker_55 : decode cX6_timesBaker 55 = .ok (.istore_n 3, 1) := by decide +kernel
theorem dX6_timesBaker_56 : decode cX6_timesBaker 56 = .ok (.iinc 4 1, 3) := by decide +kernel
theorem dX6_timesBaker_59 : decode cX6_timesBaker 59 = .ok (.goto (-43), 3) := by decide +kernel
theorem dX6_timesBaker_62 : decode cX6_timesBaker 62 = .ok (.iload_n 3, 1) := by decide +kernel
theorem dX6_timesBaker_63 : decode cX6_timesBaker 63 = .ok (.ireturn, 1) := by decide +kernel
theorem dX6_round_0 : decode cX6_round 0 = .ok (.aload_n 0, 1) := by decide +kernel
theorem dX6_round_1 : decode cX6_round 1 = .ok (.getfield 21, 3) := by decide +kernel
theorem dX6_round_4 : decode cX6_round 4 = .ok (.aload_n 0, 1) := by decide +kernel
theorem dX6_round_5 : decode cX6_round 5 = .ok (.getfield 12, 3) := by decide +kernel
theorem dX6_round_8 : decode cX6_round 8 = .ok (.invokevirtual 174, 3) := by decide +kernel
theorem dX6_round_11 : decode cX6_round 11 = .ok (.iconst 1, 1) := by decide +kernel
theorem dX6_round_12 : decode cX6_round 12 = .ok (.istore_n 1, 1) := by decide +kernel
theorem dX6_round_13 : decode cX6_round 13 = .ok (.iload_n 1, 1) := by decide +kernel
theorem dX6_round_14 : decode cX6_round 14 = .ok (.bipush 60, 2) := by decide +kernel
theorem dX6_round_16 : decode cX6_round 16 = .ok (.if_icmp .gt 40, 3) := by decide +kernel
theorem dX6_round_19 : decode cX6_round 19 = .ok (.aload_n 0, 1) := by decide +kernel
theorem dX6_round_20 : decode cX6_round 20 = .ok (.getfield 38, 3) := by decide +kernel
theorem dX6_round_23 : decode cX6_round 23 = .ok (.aload_n 0, 1) := by decide +kernel
theorem dX6_round_24 : decode cX6_round 24 = .ok (.getfield 21, 3) := by decide +kernel
theorem dX6_round_27 : decode cX6_round 27 = .ok (.aload_n 0, 1) := by decide +kernel
theorem dX6_round_28 : decode cX6_round 28 = .ok (.invokevirtual 113, 3) := by decide +kernel
theorem dX6_round_31 : decode cX6_round 31 = .ok (.invokevirtual 163, 3) := by decide +kernel
theorem dX6_round_34 : decode cX6_round 34 = .ok (.aload_n 0, 1) := by decide +kernel
theorem dX6_round_35 : decode cX6_round 35 = .ok (.getfield 21, 3) := by decide +kernel
theorem dX6_round_38 : decode cX6_round 38 = .ok (.aload_n 0, 1) := by decide +kernel
theorem dX6_round_39 : decode cX6_round 39 = .ok (.getfield 12, 3) := by decide +kernel
theorem dX6_round_42 : decode cX6_round 42 = .ok (.invokevirtual 178, 3) := by decide +kernel
theorem dX6_round_45 : decode cX6_round 45 = .ok (.ifCond .eq 5, 3) := by decide +kernel
theorem dX6_round_48 : decode cX6_round 48 = .ok (.iload_n 1, 1) := by decide +kernel
theorem dX6_round_49 : decode cX6_round 49 = .ok (.ireturn, 1) := by decide +kernel
theorem dX6_round_50 : decode cX6_round 50 = .ok (.iinc 1 1, 3) := by decide +kernel
theorem dX6_round_53 : decode cX6_round 53 = .ok (.goto (-40), 3) := by decide +kernel
theorem dX6_round_56 : decode cX6_round 56 = .ok (.bipush (-5), 2) := by decide +kernel
theorem dX6_round_58 : decode cX6_round 58 = .ok (.ireturn, 1) := by decide +kernel
theorem dX6_still_0 : decode cX6_still 0 = .ok (.iload_n 1, 1) := by decide +kernel
theorem dX6_still_1 : decode cX6_still 1 = .ok (.ifCond .eq 17, 3) := by decide +kernel
theorem dX6_still_4 : decode cX6_still 4 = .ok (.aload_n 0, 1) := by decide +kernel
theorem dX6_still_5 : decode cX6_still 5 = .ok (.iload_n 1, 1) := by decide +kernel
theorem dX6_still_6 : decode cX6_still 6 = .ok (.bipush 10, 2) := by decide +kernel
theorem dX6_still_8 : decode cX6_still 8 = .ok (.isub, 1) := by decide +kernel
theorem dX6_still_9 : decode cX6_still 9 = .ok (.invokevirtual 89, 3) := by decide +kernel
theorem dX6_still_12 : decode cX6_still 12 = .ok (.ifCond .ne 6, 3) := by decide +kernel
theorem dX6_still_15 : decode cX6_still 15 = .ok (.ldc 93, 2) := by decide +kernel
theorem dX6_still_17 : decode cX6_still 17 = .ok (.ireturn, 1) := by decide +kernel
theorem dX6_still_18 : decode cX6_still 18 = .ok (.aload_n 0, 1) := by decide +kernel
theorem dX6_still_19 : decode cX6_still 19 = .ok (.getfield 12, 3) := by decide +kernel
theorem dX6_still_22 : decode cX6_still 22 = .ok (.getfield 82, 3) := by decide +kernel
theorem dX6_still_25 : decode cX6_still 25 = .ok (.iconst 5, 1) := by decide +kernel
theorem dX6_still_26 : decode cX6_still 26 = .ok (.if_icmp .lt 6, 3) := by decide +kernel
theorem dX6_still_29 : decode cX6_still 29 = .ok (.bipush (-9), 2) := by decide +kernel
theorem dX6_still_31 : decode cX6_still 31 = .ok (.ireturn, 1) := by decide +kernel
theorem dX6_still_32 : decode cX6_still 32 = .ok (.iconst 0, 1) := by decide +kernel
theorem dX6_still_33 : decode cX6_still 33 = .ok (.istore_n 2, 1) := by decide +kernel
theorem dX6_still_34 : decode cX6_still 34 = .ok (.aload_n 0, 1) := by decide +kernel
theorem dX6_still_35 : decode cX6_still 35 = .ok (.getfield 38, 3) := by decide +kernel
theorem dX6_still_38 : decode cX6_still 38 = .ok (.aload_n 0, 1) := by decide +kernel
theorem dX6_still_39 : decode cX6_still 39 = .ok (.getfield 12, 3) := by decide +kernel
theorem dX6_still_42 : decode cX6_still 42 = .ok (.aload_n 0, 1) := by decide +kernel
theorem dX6_still_43 : decode cX6_still 43 = .ok (.invokevirtual 113, 3) := by decide +kernel
theorem dX6_still_46 : decode cX6_still 46 = .ok (.invokevirtual 117, 3) := by decide +kernel
theorem dX6_still_49 : decode cX6_still 49 = .ok (.iconst 0, 1) := by decide +kernel
theorem dX6_still_50 : decode cX6_still 50 = .ok (.istore_n 3, 1) := by decide +kernel
theorem dX6_still_51 : decode cX6_still 51 = .ok (.iload_n 3, 1) := by decide +kernel
theorem dX6_still_52 : decode cX6_still 52 = .ok (.aload_n 0, 1) := by decide +kernel
theorem dX6_still_53 : decode cX6_still 53 = .ok (.invokevirtual 182, 3) := by decide +kernel
theorem dX6_still_56 : decode cX6_still 56 = .ok (.if_icmp .ge 37, 3) := by decide +kernel
theorem dX6_still_59 : decode cX6_still 59 = .ok (.aload_n 0, 1) := by decide +kernel
theorem dX6_still_60 : decode cX6_still 60 = .ok (.iload_n 3, 1) := by decide +kernel
theorem dX6_still_61 : decode cX6_still 61 = .ok (.invokevirtual 186, 3) := by decide +kernel
theorem dX6_still_64 : decode cX6_still 64 = .ok (.aload_n 0, 1) := by decide +kernel
theorem dX6_still_65 : decode cX6_still 65 = .ok (.invokevirtual 189, 3) := by decide +kernel
theorem dX6_still_68 : decode cX6_still 68 = .ok (.ifCond .eq 19, 3) := by decide +kernel
theorem dX6_still_71 : decode cX6_still 71 = .ok (.aload_n 0, 1) := by decide +kernel
theorem dX6_still_72 : decode cX6_still 72 = .ok (.iload_n 2, 1) := by decide +kernel
theorem dX6_still_73 : decode cX6_still 73 = .ok (.ifCond .ne 7, 3) := by decide +kernel
theorem dX6_still_76 : decode cX6_still 76 = .ok (.iconst 1, 1) := by decide +kernel
theorem dX6_still_77 : decode cX6_still 77 = .ok (.goto 4, 3) := by decide +kernel
theorem dX6_still_80 : decode cX6_still 80 = .ok (.iconst 0, 1) := by decide +kernel
theorem dX6_still_81 : decode cX6_still 81 = .ok (.invokevirtual 193, 3) := by decide +kernel
theorem dX6_still_84 : decode cX6_still 84 = .ok (.iinc 2 1, 3) := by decide +kernel
theorem dX6_still_87 : decode cX6_still 87 = .ok (.iinc 3 1, 3) := by decide +kernel
theorem dX6_still_90 : decode cX6_still 90 = .ok (.goto (-39), 3) := by decide +kernel
theorem dX6_still_93 : decode cX6_still 93 = .ok (.iload_n 1, 1) := by decide +kernel
theorem dX6_still_94 : decode cX6_still 94 = .ok (.ifCond .ne 5, 3) := by decide +kernel
theorem dX6_still_97 : decode cX6_still 97 = .ok (.iload_n 2, 1) := by decide +kernel
theorem dX6_still_98 : decode cX6_still 98 = .ok (.ireturn, 1) := by decide +kernel
theorem dX6_still_99 : decode cX6_still 99 = .ok (.iload_n 2, 1) := by decide +kernel
theorem dX6_still_100 : decode cX6_still 100 = .ok (.ifCond .ne 8, 3) := by decide +kernel
theorem dX6_still_103 : decode cX6_still 103 = .ok (.bipush (-5), 2) := by decide +kernel
theorem dX6_still_105 : decode cX6_still 105 = .ok (.goto 12, 3) := by decide +kernel
theorem dX6_still_108 : decode cX6_still 108 = .ok (.aload_n 0, 1) := by decide +kernel
theorem dX6_still_109 : decode cX6_still 109 = .ok (.getfield 66, 3) := by decide +kernel
theorem dX6_still_112 : decode cX6_still 112 = .ok (.iload_n 1, 1) := by decide +kernel
theorem dX6_still_113 : decode cX6_still 113 = .ok (.bipush 10, 2) := by decide +kernel
theorem dX6_still_115 : decode cX6_still 115 = .ok (.isub, 1) := by decide +kernel
theorem dX6_still_116 : decode cX6_still 116 = .ok (.iaload, 1) := by decide +kernel
theorem dX6_still_117 : decode cX6_still 117 = .ok (.ireturn, 1) := by decide +kernel
theorem dX6_allBest_0 : decode cX6_allBest 0 = .ok (.iload_n 1, 1) := by decide +kernel
theorem dX6_allBest_1 : decode cX6_allBest 1 = .ok (.ifCond .eq 17, 3) := by decide +kernel
theorem dX6_allBest_4 : decode cX6_allBest 4 = .ok (.aload_n 0, 1) := by decide +kernel
theorem dX6_allBest_5 : decode cX6_allBest 5 = .ok (.iload_n 1, 1) := by decide +kernel
theorem dX6_allBest_6 : decode cX6_allBest 6 = .ok (.bipush 10, 2) := by decide +kernel
theorem dX6_allBest_8 : decode cX6_allBest 8 = .ok (.isub, 1) := by decide +kernel
theorem dX6_allBest_9 : decode cX6_allBest 9 = .ok (.invokevirtual 89, 3) := by decide +kernel
theorem dX6_allBest_12 : decode cX6_allBest 12 = .ok (.ifCond .ne 6, 3) := by decide +kernel
theorem dX6_allBest_15 : decode cX6_allBest 15 = .ok (.ldc 93, 2) := by decide +kernel
theorem dX6_allBest_17 : decode cX6_allBest 17 = .ok (.ireturn, 1) := by decide +kernel
theorem dX6_allBest_18 : decode cX6_allBest 18 = .ok (.aload_n 0, 1) := by decide +kernel
theorem dX6_allBest_19 : decode cX6_allBest 19 = .ok (.getfield 12, 3) := by decide +kernel
theorem dX6_allBest_22 : decode cX6_allBest 22 = .ok (.getfield 82, 3) := by decide +kernel
theorem dX6_allBest_25 : decode cX6_allBest 25 = .ok (.iconst 5, 1) := by decide +kernel
theorem dX6_allBest_26 : decode cX6_allBest 26 = .ok (.if_icmp .lt 6, 3) := by decide +kernel
theorem dX6_allBest_29 : decode cX6_allBest 29 = .ok (.bipush (-9), 2) := by decide +kernel
theorem dX6_allBest_31 : decode cX6_allBest 31 = .ok (.ireturn, 1) := by decide +kernel
theorem dX6_allBest_32 : decode cX6_allBest 32 = .ok (.iconst 0, 1) := by decide +kernel
theorem dX6_allBest_33 : decode cX6_allBest 33 = .ok (.istore_n 2, 1) := by decide +kernel
theorem dX6_allBest_34 : decode cX6_allBest 34 = .ok (.aload_n 0, 1) := by decide +kernel
theorem dX6_allBest_35 : decode cX6_allBest 35 = .ok (.getfield 38, 3) := by decide +kernel
theorem dX6_allBest_38 : decode cX6_allBest 38 = .ok (.aload_n 0, 1) := by decide +kernel
theorem dX6_allBest_39 : decode cX6_allBest 39 = .ok (.getfield 12, 3) := by decide +kernel
theorem dX6_allBest_42 : decode cX6_allBest 42 = .ok (.aload_n 0, 1) := by decide +kernel
theorem dX6_allBest_43 : decode cX6_allBest 43 = .ok (.invokevirtual 113, 3) := by decide +kernel
theorem dX6_allBest_46 : decode cX6_allBest 46 = .ok (.invokevirtual 117, 3) := by decide +kernel
theorem dX6_allBest_49 : decode cX6_allBest 49 = .ok (.iconst 0, 1) := by decide +kernel
theorem dX6_allBest_50 : decode cX6_allBest 50 = .ok (.istore_n 3, 1) := by decide +kernel
theorem dX6_allBest_51 : decode cX6_allBest 51 = .ok (.iload_n 3, 1) := by decide +kernel
theorem dX6_allBest_52 : decode cX6_allBest 52 = .ok (.aload_n 0, 1) := by decide +kernel
theorem dX6_allBest_53 : decode cX6_allBest 53 = .ok (.invokevirtual 182, 3) := by decide +kernel
theorem dX6_allBest_56 : decode cX6_allBest 56 = .ok (.if_icmp .ge 69, 3) := by decide +kernel
theorem dX6_allBest_59 : decode cX6_allBest 59 = .ok (.aload_n 0, 1) := by decide +kernel
theorem dX6_allBest_60 : decode cX6_allBest 60 = .ok (.iload_n 3, 1) := by decide +kernel
theorem dX6_allBest_61 : decode cX6_allBest 61 = .ok (.invokevirtual 186, 3) := by decide +kernel
theorem dX6_allBest_64 : decode cX6_allBest 64 = .ok (.aload_n 0, 1) := by decide +kernel
theorem dX6_allBest_65 : decode cX6_allBest 65 = .ok (.getfield 38, 3) := by decide +kernel
theorem dX6_allBest_68 : decode cX6_allBest 68 = .ok (.aload_n 0, 1) := by decide +kernel
theorem dX6_allBest_69 : decode cX6_allBest 69 = .ok (.getfield 62, 3) := by decide +kernel
theorem dX6_allBest_72 : decode cX6_allBest 72 = .ok (.invokevirtual 197, 3) := by decide +kernel
theorem dX6_allBest_75 : decode cX6_allBest 75 = .ok (.aload_n 0, 1) := by decide +kernel
theorem dX6_allBest_76 : decode cX6_allBest 76 = .ok (.getfield 38, 3) := by decide +kernel
theorem dX6_allBest_79 : decode cX6_allBest 79 = .ok (.invokevirtual 201, 3) := by decide +kernel
theorem dX6_allBest_82 : decode cX6_allBest 82 = .ok (.istore 4, 2) := by decide +kernel
theorem dX6_allBest_84 : decode cX6_allBest 84 = .ok (.iload_n 3, 1) := by decide +kernel
theorem dX6_allBest_85 : decode cX6_allBest 85 = .ok (.ifCond .eq 9, 3) := by decide +kernel
theorem dX6_allBest_88 : decode cX6_allBest 88 = .ok (.iload 4, 2) := by decide +kernel
theorem dX6_allBest_90 : decode cX6_allBest 90 = .ok (.iload_n 2, 1) := by decide +kernel
theorem dX6_allBest_91 : decode cX6_allBest 91 = .ok (.if_icmp .le 7, 3) := by decide +kernel
theorem dX6_allBest_94 : decode cX6_allBest 94 = .ok (.iconst 1, 1) := by decide +kernel
theorem dX6_allBest_95 : decode cX6_allBest 95 = .ok (.goto 4, 3) := by decide +kernel
theorem dX6_allBest_98 : decode cX6_allBest 98 = .ok (.iconst 0, 1) := by decide +kernel
theorem dX6_allBest_99 : decode cX6_allBest 99 = .ok (.istore 5, 2) := by decide +kernel
theorem dX6_allBest_101 : decode cX6_allBest 101 = .ok (.aload_n 0, 1) := by decide +kernel
theorem dX6_allBest_102 : decode cX6_allBest 102 = .ok (.iload 5, 2) := by decide +kernel
theorem dX6_allBest_104 : decode cX6_allBest 104 = .ok (.invokevirtual 193, 3) := by decide +kernel
theorem dX6_allBest_107 : decode cX6_allBest 107 = .ok (.iload 5, 2) := by decide +kernel
theorem dX6_allBest_109 : decode cX6_allBest 109 = .ok (.ifCond .eq 8, 3) := by decide +kernel
theorem dX6_allBest_112 : decode cX6_allBest 112 = .ok (.iload 4, 2) := by decide +kernel
theorem dX6_allBest_114 : decode cX6_allBest 114 = .ok (.goto 4, 3) := by decide +kernel
theorem dX6_allBest_117 : decode cX6_allBest 117 = .ok (.iload_n 2, 1) := by decide +kernel
theorem dX6_allBest_118 : decode cX6_allBest 118 = .ok (.istore_n 2, 1) := by decide +kernel
theorem dX6_allBest_119 : decode cX6_allBest 119 = .ok (.iinc 3 1, 3) := by decide +kernel
theorem dX6_allBest_122 : decode cX6_allBest 122 = .ok (.goto (-71), 3) := by decide +kernel
theorem dX6_allBest_125 : decode cX6_allBest 125 = .ok (.iload_n 1, 1) := by decide +kernel
theorem dX6_allBest_126 : decode cX6_allBest 126 = .ok (.ifCond .ne 7, 3) := by decide +kernel
theorem dX6_allBest_129 : decode cX6_allBest 129 = .ok (.iload_n 2, 1) := by decide +kernel
theorem dX6_allBest_130 : decode cX6_allBest 130 = .ok (.goto 12, 3) := by decide +kernel
theorem dX6_allBest_133 : decode cX6_allBest 133 = .ok (.aload_n 0, 1) := by decide +kernel
theorem dX6_allBest_134 : decode cX6_allBest 134 = .ok (.getfield 66, 3) := by decide +kernel
theorem dX6_allBest_137 : decode cX6_allBest 137 = .ok (.iload_n 1, 1) := by decide +kernel
theorem dX6_allBest_138 : decode cX6_allBest 138 = .ok (.bipush 10, 2) := by decide +kernel
theorem dX6_allBest_140 : decode cX6_allBest 140 = .ok (.isub, 1) := by decide +kernel
theorem dX6_allBest_141 : decode cX6_allBest 141 = .ok (.iaload, 1) := by decide +kernel
theorem dX6_allBest_142 : decode cX6_allBest 142 = .ok (.ireturn, 1) := by decide +kernel
theorem dX6_rowsInAll_0 : decode cX6_rowsInAll 0 = .ok (.iconst 1, 1) := by decide +kernel
theorem dX6_rowsInAll_1 : decode cX6_rowsInAll 1 = .ok (.iconst 2, 1) := by decide +kernel
theorem dX6_rowsInAll_2 : decode cX6_rowsInAll 2 = .ok (.aload_n 0, 1) := by decide +kernel
theorem dX6_rowsInAll_3 : decode cX6_rowsInAll 3 = .ok (.getfield 12, 3) := by decide +kernel
theorem dX6_rowsInAll_6 : decode cX6_rowsInAll 6 = .ok (.getfield 82, 3) := by decide +kernel
theorem dX6_rowsInAll_9 : decode cX6_rowsInAll 9 = .ok (.imul, 1) := by decide +kernel
theorem dX6_rowsInAll_10 : decode cX6_rowsInAll 10 = .ok (.ishl, 1) := by decide +kernel
theorem dX6_rowsInAll_11 : decode cX6_rowsInAll 11 = .ok (.ireturn, 1) := by decide +kernel
theorem dX6_becomesRow_0 : decode cX6_becomesRow 0 = .ok (.iconst 0, 1) := by decide +kernel
theorem dX6_becomesRow_1 : decode cX6_becomesRow 1 = .ok (.istore_n 2, 1) := by decide +kernel
theorem dX6_becomesRow_2 : decode cX6_becomesRow 2 = .ok (.iload_n 2, 1) := by decide +kernel
theorem dX6_becomesRow_3 : decode cX6_becomesRow 3 = .ok (.aload_n 0, 1) := by decide +kernel
theorem dX6_becomesRow_4 : decode cX6_becomesRow 4 = .ok (.getfield 12, 3) := by decide +kernel
theorem dX6_becomesRow_7 : decode cX6_becomesRow 7 = .ok (.getfield 82, 3) := by decide +kernel
theorem dX6_becomesRow_10 : decode cX6_becomesRow 10 = .ok (.if_icmp .ge 32, 3) := by decide +kernel
theorem dX6_becomesRow_13 : decode cX6_becomesRow 13 = .ok (.aload_n 0, 1) := by decide +kernel
theorem dX6_becomesRow_14 : decode cX6_becomesRow 14 = .ok (.getfield 62, 3) := by decide +kernel
theorem dX6_becomesRow_17 : decode cX6_becomesRow 17 = .ok (.iload_n 2, 1) := by decide +kernel
theorem dX6_becomesRow_18 : decode cX6_becomesRow 18 = .ok (.iload_n 1, 1) := by decide +kernel
theorem dX6_becomesRow_19 : decode cX6_becomesRow 19 = .ok (.iconst 2, 1) := by decide +kernel
theorem dX6_becomesRow_20 : decode cX6_becomesRow 20 = .ok (.aload_n 0, 1) := by decide +kernel
theorem dX6_becomesRow_21 : decode cX6_becomesRow 21 = .ok (.getfield 12, 3) := by decide +kernel
theorem dX6_becomesRow_24 : decode cX6_becomesRow 24 = .ok (.getfield 82, 3) := by decide +kernel
theorem dX6_becomesRow_27 : decode cX6_becomesRow 27 = .ok (.iconst 1, 1) := by decide +kernel
theorem dX6_becomesRow_28 : decode cX6_becomesRow 28 = .ok (.isub, 1) := by decide +kernel
theorem dX6_becomesRow_29 : decode cX6_becomesRow 29 = .ok (.iload_n 2, 1) := by decide +kernel
theorem dX6_becomesRow_30 : decode cX6_becomesRow 30 = .ok (.isub, 1) := by decide +kernel
theorem dX6_becomesRow_31 : decode cX6_becomesRow 31 = .ok (.imul, 1) := by decide +kernel
theorem dX6_becomesRow_32 : decode cX6_becomesRow 32 = .ok (.ishr, 1) := by decide +kernel
theorem dX6_becomesRow_33 : decode cX6_becomesRow 33 = .ok (.iconst 3, 1) := by decide +kernel
theorem dX6_becomesRow_34 : decode cX6_becomesRow 34 = .ok (.iand, 1) := by decide +kernel
theorem dX6_becomesRow_35 : decode cX6_becomesRow 35 = .ok (.iastore, 1) := by decide +kernel
theorem dX6_becomesRow_36 : decode cX6_becomesRow 36 = .ok (.iinc 2 1, 3) := by decide +kernel
theorem dX6_becomesRow_39 : decode cX6_becomesRow 39 = .ok (.goto (-37), 3) := by decide +kernel
theorem dX6_becomesRow_42 : decode cX6_becomesRow 42 = .ok (.return_, 1) := by decide +kernel
theorem dX6_keepIf_0 : decode cX6_keepIf 0 = .ok (.iload_n 1, 1) := by decide +kernel
theorem dX6_keepIf_1 : decode cX6_keepIf 1 = .ok (.ifCond .eq 17, 3) := by decide +kernel
theorem dX6_keepIf_4 : decode cX6_keepIf 4 = .ok (.aload_n 0, 1) := by decide +kernel
theorem dX6_keepIf_5 : decode cX6_keepIf 5 = .ok (.getfield 62, 3) := by decide +kernel
theorem dX6_keepIf_8 : decode cX6_keepIf 8 = .ok (.iconst 0, 1) := by decide +kernel
theorem dX6_keepIf_9 : decode cX6_keepIf 9 = .ok (.aload_n 0, 1) := by decide +kernel
theorem dX6_keepIf_10 : decode cX6_keepIf 10 = .ok (.getfield 66, 3) := by decide +kernel
theorem dX6_keepIf_13 : decode cX6_keepIf 13 = .ok (.iconst 0, 1) := by decide +kernel
theorem dX6_keepIf_14 : decode cX6_keepIf 14 = .ok (.iconst 5, 1) := by decide +kernel
theorem dX6_keepIf_15 : decode cX6_keepIf 15 = .ok (.invokestatic 204, 3) := by decide +kernel
theorem dX6_keepIf_18 : decode cX6_keepIf 18 = .ok (.return_, 1) := by decide +kernel
theorem dX6_nobodyGains_0 : decode cX6_nobodyGains 0 = .ok (.iconst 0, 1) := by decide +kernel
theorem dX6_nobodyGains_1 : decode cX6_nobodyGains 1 = .ok (.istore_n 1, 1) := by decide +kernel
theorem dX6_nobodyGains_2 : decode cX6_nobodyGains 2 = .ok (.iload_n 1, 1) := by decide +kernel
theorem dX6_nobodyGains_3 : decode cX6_nobodyGains 3 = .ok (.aload_n 0, 1) := by decide +kernel
theorem dX6_nobodyGains_4 : decode cX6_nobodyGains 4 = .ok (.getfield 12, 3) := by decide +kernel
theorem dX6_nobodyGains_7 : decode cX6_nobodyGains 7 = .ok (.getfield 82, 3) := by decide +kernel
theorem dX6_nobodyGains_10 : decode cX6_nobodyGains 10 = .ok (.if_icmp .ge 19, 3) := by decide +kernel
theorem dX6_nobodyGains_13 : decode cX6_nobodyGains 13 = .ok (.aload_n 0, 1) := by decide +kernel
theorem dX6_nobodyGains_14 : decode cX6_nobodyGains 14 = .ok (.iload_n 1, 1) := by decide +kernel
theorem dX6_nobodyGains_15 : decode cX6_nobodyGains 15 = .ok (.invokevirtual 210, 3) := by decide +kernel
theorem dX6_nobodyGains_18 : decode cX6_nobodyGains 18 = .ok (.ifCond .eq 5, 3) := by decide +kernel
theorem dX6_nobodyGains_21 : decode cX6_nobodyGains 21 = .ok (.iconst 0, 1) := by decide +kernel
theorem dX6_nobodyGains_22 : decode cX6_nobodyGains 22 = .ok (.ireturn, 1) := by decide +kernel
theorem dX6_nobodyGains_23 : decode cX6_nobodyGains 23 = .ok (.iinc 1 1, 3) := by decide +kernel
theorem dX6_nobodyGains_26 : decode cX6_nobodyGains 26 = .ok (.goto (-24), 3) := by decide +kernel
theorem dX6_nobodyGains_29 : decode cX6_nobodyGains 29 = .ok (.iconst 1, 1) := by decide +kernel
theorem dX6_nobodyGains_30 : decode cX6_nobodyGains 30 = .ok (.ireturn, 1) := by decide +kernel
theorem dX6_gains_0 : decode cX6_gains 0 = .ok (.aload_n 0, 1) := by decide +kernel
theorem dX6_gains_1 : decode cX6_gains 1 = .ok (.getfield 62, 3) := by decide +kernel
theorem dX6_gains_4 : decode cX6_gains 4 = .ok (.iload_n 1, 1) := by decide +kernel
theorem dX6_gains_5 : decode cX6_gains 5 = .ok (.iaload, 1) := by decide +kernel
theorem dX6_gains_6 : decode cX6_gains 6 = .ok (.istore_n 2, 1) := by decide +kernel
theorem dX6_gains_7 : decode cX6_gains 7 = .ok (.aload_n 0, 1) := by decide +kernel
theorem dX6_gains_8 : decode cX6_gains 8 = .ok (.getfield 38, 3) := by decide +kernel
theorem dX6_gains_11 : decode cX6_gains 11 = .ok (.aload_n 0, 1) := by decide +kernel
theorem dX6_gains_12 : decode cX6_gains 12 = .ok (.getfield 62, 3) := by decide +kernel
theorem dX6_gains_15 : decode cX6_gains 15 = .ok (.invokevirtual 197, 3) := by decide +kernel
theorem dX6_gains_18 : decode cX6_gains 18 = .ok (.aload_n 0, 1) := by decide +kernel
theorem dX6_gains_19 : decode cX6_gains 19 = .ok (.getfield 38, 3) := by decide +kernel
theorem dX6_gains_22 : decode cX6_gains 22 = .ok (.iload_n 1, 1) := by decide +kernel
theorem dX6_gains_23 : decode cX6_gains 23 = .ok (.invokevirtual 213, 3) := by decide +kernel
theorem dX6_gains_26 : decode cX6_gains 26 = .ok (.istore_n 3, 1) := by decide +kernel
theorem dX6_gains_27 : decode cX6_gains 27 = .ok (.iconst 0, 1) := by decide +kernel
theorem dX6_gains_28 : decode cX6_gains 28 = .ok (.istore 4, 2) := by decide +kernel
theorem dX6_gains_30 : decode cX6_gains 30 = .ok (.iconst 0, 1) := by decide +kernel
theorem dX6_gains_31 : decode cX6_gains 31 = .ok (.istore 5, 2) := by decide +kernel
theorem dX6_gains_33 : decode cX6_gains 33 = .ok (.iload 5, 2) := by decide +kernel
theorem dX6_gains_35 : decode cX6_gains 35 = .ok (.iconst 3, 1) := by decide +kernel
theorem dX6_gains_36 : decode cX6_gains 36 = .ok (.if_icmp .gt 52, 3) := by decide +kernel
theorem dX6_gains_39 : decode cX6_gains 39 = .ok (.iload 4, 2) := by decide +kernel
theorem dX6_gains_41 : decode cX6_gains 41 = .ok (.ifCond .ne 47, 3) := by decide +kernel
theorem dX6_gains_44 : decode cX6_gains 44 = .ok (.aload_n 0, 1) := by decide +kernel
theorem dX6_gains_45 : decode cX6_gains 45 = .ok (.getfield 62, 3) := by decide +kernel
theorem dX6_gains_48 : decode cX6_gains 48 = .ok (.iload_n 1, 1) := by decide +kernel
theorem dX6_gains_49 : decode cX6_gains 49 = .ok (.iload 5, 2) := by decide +kernel
theorem dX6_gains_51 : decode cX6_gains 51 = .ok (.iastore, 1) := by decide +kernel
theorem dX6_gains_52 : decode cX6_gains 52 = .ok (.aload_n 0, 1) := by decide +kernel
theorem dX6_gains_53 : decode cX6_gains 53 = .ok (.getfield 38, 3) := by decide +kernel
theorem dX6_gains_56 : decode cX6_gains 56 = .ok (.aload_n 0, 1) := by decide +kernel
theorem dX6_gains_57 : decode cX6_gains 57 = .ok (.getfield 62, 3) := by decide +kernel
theorem dX6_gains_60 : decode cX6_gains 60 = .ok (.invokevirtual 197, 3) := by decide +kernel
theorem dX6_gains_63 : decode cX6_gains 63 = .ok (.aload_n 0, 1) := by decide +kernel
theorem dX6_gains_64 : decode cX6_gains 64 = .ok (.getfield 38, 3) := by decide +kernel
theorem dX6_gains_67 : decode cX6_gains 67 = .ok (.iload_n 1, 1) := by decide +kernel
theorem dX6_gains_68 : decode cX6_gains 68 = .ok (.invokevirtual 213, 3) := by decide +kernel
theorem dX6_gains_71 : decode cX6_gains 71 = .ok (.iload_n 3, 1) := by decide +kernel
theorem dX6_gains_72 : decode cX6_gains 72 = .ok (.if_icmp .le 7, 3) := by decide +kernel
theorem dX6_gains_75 : decode cX6_gains 75 = .ok (.iconst 1, 1) := by decide +kernel
theorem dX6_gains_76 : decode cX6_gains 76 = .ok (.goto 4, 3) := by decide +kernel
theorem dX6_gains_79 : decode cX6_gains 79 = .ok (.iconst 0, 1) := by decide +kernel
theorem dX6_gains_80 : decode cX6_gains 80 = .ok (.istore 4, 2) := by decide +kernel
theorem dX6_gains_82 : decode cX6_gains 82 = .ok (.iinc 5 1, 3) := by decide +kernel
theorem dX6_gains_85 : decode cX6_gains 85 = .ok (.goto (-52), 3) := by decide +kernel
theorem dX6_gains_88 : decode cX6_gains 88 = .ok (.aload_n 0, 1) := by decide +kernel
theorem dX6_gains_89 : decode cX6_gains 89 = .ok (.getfield 62, 3) := by decide +kernel
theorem dX6_gains_92 : decode cX6_gains 92 = .ok (.iload_n 1, 1) := by decide +kernel
theorem dX6_gains_93 : decode cX6_gains 93 = .ok (.iload_n 2, 1) := by decide +kernel
theorem dX6_gains_94 : decode cX6_gains 94 = .ok (.iastore, 1) := by decide +kernel
theorem dX6_gains_95 : decode cX6_gains 95 = .ok (.iload 4, 2) := by decide +kernel
theorem dX6_gains_97 : decode cX6_gains 97 = .ok (.ireturn, 1) := by decide +kernel
theorem dX6_laws_0 : decode cX6_laws 0 = .ok (.iload_n 1, 1) := by decide +kernel
theorem dX6_laws_1 : decode cX6_laws 1 = .ok (.bipush 60, 2) := by decide +kernel
theorem dX6_laws_3 : decode cX6_laws 3 = .ok (.invokestatic 78, 3) := by decide +kernel
theorem dX6_laws_6 : decode cX6_laws 6 = .ok (.ifCond .ne 6, 3) := by decide +kernel
theorem dX6_laws_9 : decode cX6_laws 9 = .ok (.bipush (-2), 2) := by decide +kernel
theorem dX6_laws_11 : decode cX6_laws 11 = .ok (.ireturn, 1) := by decide +kernel
theorem dX6_laws_12 : decode cX6_laws 12 = .ok (.iconst 0, 1) := by decide +kernel
theorem dX6_laws_13 : decode cX6_laws 13 = .ok (.istore_n 2, 1) := by decide +kernel
theorem dX6_laws_14 : decode cX6_laws 14 = .ok (.iconst 0, 1) := by decide +kernel
theorem dX6_laws_15 : decode cX6_laws 15 = .ok (.istore_n 3, 1) := by decide +kernel
theorem dX6_laws_16 : decode cX6_laws 16 = .ok (.iconst 0, 1) := by decide +kernel
theorem dX6_laws_17 : decode cX6_laws 17 = .ok (.istore 4, 2) := by decide +kernel
theorem dX6_laws_19 : decode cX6_laws 19 = .ok (.iload 4, 2) := by decide +kernel
theorem dX6_laws_21 : decode cX6_laws 21 = .ok (.iconst 3, 1) := by decide +kernel
theorem dX6_laws_22 : decode cX6_laws 22 = .ok (.if_icmp .ge 49, 3) := by decide +kernel
theorem dX6_laws_25 : decode cX6_laws 25 = .ok (.aload_n 0, 1) := by decide +kernel
theorem dX6_laws_26 : decode cX6_laws 26 = .ok (.getfield 38, 3) := by decide +kernel
theorem dX6_laws_29 : decode cX6_laws 29 = .ok (.iload 4, 2) := by decide +kernel
theorem dX6_laws_31 : decode cX6_laws 31 = .ok (.putfield 216, 3) := by decide +kernel
theorem dX6_laws_34 : decode cX6_laws 34 = .ok (.aload_n 0, 1) := by decide +kernel
theorem dX6_laws_35 : decode cX6_laws 35 = .ok (.iload_n 1, 1) := by decide +kernel
theorem dX6_laws_36 : decode cX6_laws 36 = .ok (.invokevirtual 170, 3) := by decide +kernel
theorem dX6_laws_39 : decode cX6_laws 39 = .ok (.aload_n 0, 1) := by decide +kernel
theorem dX6_laws_40 : decode cX6_laws 40 = .ok (.getfield 21, 3) := by decide +kernel
theorem dX6_laws_43 : decode cX6_laws 43 = .ok (.invokevirtual 219, 3) := by decide +kernel
theorem dX6_laws_46 : decode cX6_laws 46 = .ok (.istore 5, 2) := by decide +kernel
theorem dX6_laws_48 : decode cX6_laws 48 = .ok (.iload 4, 2) := by decide +kernel
theorem dX6_laws_50 : decode cX6_laws 50 = .ok (.ifCond .eq 9, 3) := by decide +kernel
theorem dX6_laws_53 : decode cX6_laws 53 = .ok (.iload 5, 2) := by decide +kernel
theorem dX6_laws_55 : decode cX6_laws 55 = .ok (.iload_n 3, 1) := by decide +kernel
theorem dX6_laws_56 : decode cX6_laws 56 = .ok (.if_icmp .le 9, 3) := by decide +kernel
theorem dX6_laws_59 : decode cX6_laws 59 = .ok (.iload 4, 2) := by decide +kernel
theorem dX6_laws_61 : decode cX6_laws 61 = .ok (.istore_n 2, 1) := by decide +kernel
theorem dX6_laws_62 : decode cX6_laws 62 = .ok (.iload 5, 2) := by decide +kernel
theorem dX6_laws_64 : decode cX6_laws 64 = .ok (.istore_n 3, 1) := by decide +kernel
theorem dX6_laws_65 : decode cX6_laws 65 = .ok (.iinc 4 1, 3) := by decide +kernel
theorem dX6_laws_68 : decode cX6_laws 68 = .ok (.goto (-49), 3) := by decide +kernel
theorem dX6_laws_71 : decode cX6_laws 71 = .ok (.aload_n 0, 1) := by decide +kernel
theorem dX6_laws_72 : decode cX6_laws 72 = .ok (.getfield 38, 3) := by decide +kernel
theorem dX6_laws_75 : decode cX6_laws 75 = .ok (.iconst (-1), 1) := by decide +kernel
theorem dX6_laws_76 : decode cX6_laws 76 = .ok (.putfield 216, 3) := by decide +kernel
theorem dX6_laws_79 : decode cX6_laws 79 = .ok (.iload_n 2, 1) := by decide +kernel
theorem dX6_laws_80 : decode cX6_laws 80 = .ok (.ireturn, 1) := by decide +kernel
theorem dX6_cook_0 : decode cX6_cook 0 = .ok (.aload_n 0, 1) := by decide +kernel
theorem dX6_cook_1 : decode cX6_cook 1 = .ok (.iload_n 1, 1) := by decide +kernel
theorem dX6_cook_2 : decode cX6_cook 2 = .ok (.invokevirtual 89, 3) := by decide +kernel
theorem dX6_cook_5 : decode cX6_cook 5 = .ok (.ifCond .ne 6, 3) := by decide +kernel
theorem dX6_cook_8 : decode cX6_cook 8 = .ok (.ldc 93, 2) := by decide +kernel
theorem dX6_cook_10 : decode cX6_cook 10 = .ok (.ireturn, 1) := by decide +kernel
theorem dX6_cook_11 : decode cX6_cook 11 = .ok (.iload_n 2, 1) := by decide +kernel
theorem dX6_cook_12 : decode cX6_cook 12 = .ok (.bipush 60, 2) := by decide +kernel
theorem dX6_cook_14 : decode cX6_cook 14 = .ok (.invokestatic 78, 3) := by decide +kernel
theorem dX6_cook_17 : decode cX6_cook 17 = .ok (.ifCond .ne 6, 3) := by decide +kernel
theorem dX6_cook_20 : decode cX6_cook 20 = .ok (.ldc 166, 2) := by decide +kernel
theorem dX6_cook_22 : decode cX6_cook 22 = .ok (.ireturn, 1) := by decide +kernel
theorem dX6_cook_23 : decode cX6_cook 23 = .ok (.aload_n 0, 1) := by decide +kernel
theorem dX6_cook_24 : decode cX6_cook 24 = .ok (.getfield 38, 3) := by decide +kernel
theorem dX6_cook_27 : decode cX6_cook 27 = .ok (.iconst 1, 1) := by decide +kernel
theorem dX6_cook_28 : decode cX6_cook 28 = .ok (.putfield 222, 3) := by decide +kernel
theorem dX6_cook_31 : decode cX6_cook 31 = .ok (.aload_n 0, 1) := by decide +kernel
theorem dX6_cook_32 : decode cX6_cook 32 = .ok (.iload_n 2, 1) := by decide +kernel
theorem dX6_cook_33 : decode cX6_cook 33 = .ok (.invokevirtual 170, 3) := by decide +kernel
theorem dX6_cook_36 : decode cX6_cook 36 = .ok (.aload_n 0, 1) := by decide +kernel
theorem dX6_cook_37 : decode cX6_cook 37 = .ok (.getfield 38, 3) := by decide +kernel
theorem dX6_cook_40 : decode cX6_cook 40 = .ok (.iconst 0, 1) := by decide +kernel
theorem dX6_cook_41 : decode cX6_cook 41 = .ok (.putfield 222, 3) := by decide +kernel
theorem dX6_cook_44 : decode cX6_cook 44 = .ok (.aload_n 0, 1) := by decide +kernel
theorem dX6_cook_45 : decode cX6_cook 45 = .ok (.getfield 21, 3) := by decide +kernel
theorem dX6_cook_48 : decode cX6_cook 48 = .ok (.getfield 106, 3) := by decide +kernel
theorem dX6_cook_51 : decode cX6_cook 51 = .ok (.iload_n 1, 1) := by decide +kernel
theorem dX6_cook_52 : decode cX6_cook 52 = .ok (.iaload, 1) := by decide +kernel
theorem dX6_cook_53 : decode cX6_cook 53 = .ok (.istore_n 3, 1) := by decide +kernel
theorem dX6_cook_54 : decode cX6_cook 54 = .ok (.aload_n 0, 1) := by decide +kernel
theorem dX6_cook_55 : decode cX6_cook 55 = .ok (.iload_n 2, 1) := by decide +kernel
theorem dX6_cook_56 : decode cX6_cook 56 = .ok (.invokevirtual 170, 3) := by decide +kernel
theorem dX6_cook_59 : decode cX6_cook 59 = .ok (.iload_n 3, 1) := by decide +kernel
theorem dX6_cook_60 : decode cX6_cook 60 = .ok (.aload_n 0, 1) := by decide +kernel
theorem dX6_cook_61 : decode cX6_cook 61 = .ok (.getfield 21, 3) := by decide +kernel
theorem dX6_cook_64 : decode cX6_cook 64 = .ok (.getfield 106, 3) := by decide +kernel
theorem dX6_cook_67 : decode cX6_cook 67 = .ok (.iload_n 1, 1) := by decide +kernel
theorem dX6_cook_68 : decode cX6_cook 68 = .ok (.iaload, 1) := by decide +kernel
theorem dX6_cook_69 : decode cX6_cook 69 = .ok (.isub, 1) := by decide +kernel
theorem dX6_cook_70 : decode cX6_cook 70 = .ok (.ireturn, 1) := by decide +kernel
theorem dX6_thin_0 : decode cX6_thin 0 = .ok (.iload_n 1, 1) := by decide +kernel
theorem dX6_thin_1 : decode cX6_thin 1 = .ok (.bipush 8, 2) := by decide +kernel
theorem dX6_thin_3 : decode cX6_thin 3 = .ok (.invokestatic 78, 3) := by decide +kernel
theorem dX6_thin_6 : decode cX6_thin 6 = .ok (.ifCond .ne 6, 3) := by decide +kernel
theorem dX6_thin_9 : decode cX6_thin 9 = .ok (.bipush (-2), 2) := by decide +kernel
theorem dX6_thin_11 : decode cX6_thin 11 = .ok (.ireturn, 1) := by decide +kernel
theorem dX6_thin_12 : decode cX6_thin 12 = .ok (.iconst 0, 1) := by decide +kernel
theorem dX6_thin_13 : decode cX6_thin 13 = .ok (.istore_n 2, 1) := by decide +kernel
theorem dX6_thin_14 : decode cX6_thin 14 = .ok (.iload_n 2, 1) := by decide +kernel
theorem dX6_thin_15 : decode cX6_thin 15 = .ok (.bipush 99, 2) := by decide +kernel
theorem dX6_thin_17 : decode cX6_thin 17 = .ok (.if_icmp .gt 20, 3) := by decide +kernel
theorem dX6_thin_20 : decode cX6_thin 20 = .ok (.aload_n 0, 1) := by decide +kernel
theorem dX6_thin_21 : decode cX6_thin 21 = .ok (.iload_n 2, 1) := by decide +kernel
theorem dX6_thin_22 : decode cX6_thin 22 = .ok (.iload_n 1, 1) := by decide +kernel
theorem dX6_thin_23 : decode cX6_thin 23 = .ok (.invokevirtual 225, 3) := by decide +kernel
theorem dX6_thin_26 : decode cX6_thin 26 = .ok (.ifCond .eq 5, 3) := by decide +kernel
theorem dX6_thin_29 : decode cX6_thin 29 = .ok (.iload_n 2, 1) := by decide +kernel
theorem dX6_thin_30 : decode cX6_thin 30 = .ok (.ireturn, 1) := by decide +kernel
theorem dX6_thin_31 : decode cX6_thin 31 = .ok (.iinc 2 1, 3) := by decide +kernel
theorem dX6_thin_34 : decode cX6_thin 34 = .ok (.goto (-20), 3) := by decide +kernel
theorem dX6_thin_37 : decode cX6_thin 37 = .ok (.bipush (-5), 2) := by decide +kernel
theorem dX6_thin_39 : decode cX6_thin 39 = .ok (.ireturn, 1) := by decide +kernel
theorem dX6_lasts_0 : decode cX6_lasts 0 = .ok (.aload_n 0, 1) := by decide +kernel
theorem dX6_lasts_1 : decode cX6_lasts 1 = .ok (.getfield 21, 3) := by decide +kernel
theorem dX6_lasts_4 : decode cX6_lasts 4 = .ok (.aload_n 0, 1) := by decide +kernel
theorem dX6_lasts_5 : decode cX6_lasts 5 = .ok (.getfield 12, 3) := by decide +kernel
theorem dX6_lasts_8 : decode cX6_lasts 8 = .ok (.invokevirtual 174, 3) := by decide +kernel
theorem dX6_lasts_11 : decode cX6_lasts 11 = .ok (.aload_n 0, 1) := by decide +kernel
theorem dX6_lasts_12 : decode cX6_lasts 12 = .ok (.getfield 21, 3) := by decide +kernel
theorem dX6_lasts_15 : decode cX6_lasts 15 = .ok (.iload_n 1, 1) := by decide +kernel
theorem dX6_lasts_16 : decode cX6_lasts 16 = .ok (.putfield 131, 3) := by decide +kernel
theorem dX6_lasts_19 : decode cX6_lasts 19 = .ok (.iconst 0, 1) := by decide +kernel
theorem dX6_lasts_20 : decode cX6_lasts 20 = .ok (.istore_n 3, 1) := by decide +kernel
theorem dX6_lasts_21 : decode cX6_lasts 21 = .ok (.iload_n 3, 1) := by decide +kernel
theorem dX6_lasts_22 : decode cX6_lasts 22 = .ok (.iload_n 2, 1) := by decide +kernel
theorem dX6_lasts_23 : decode cX6_lasts 23 = .ok (.if_icmp .ge 36, 3) := by decide +kernel
theorem dX6_lasts_26 : decode cX6_lasts 26 = .ok (.aload_n 0, 1) := by decide +kernel
theorem dX6_lasts_27 : decode cX6_lasts 27 = .ok (.getfield 38, 3) := by decide +kernel
theorem dX6_lasts_30 : decode cX6_lasts 30 = .ok (.aload_n 0, 1) := by decide +kernel
theorem dX6_lasts_31 : decode cX6_lasts 31 = .ok (.getfield 21, 3) := by decide +kernel
theorem dX6_lasts_34 : decode cX6_lasts 34 = .ok (.aload_n 0, 1) := by decide +kernel
theorem dX6_lasts_35 : decode cX6_lasts 35 = .ok (.invokevirtual 113, 3) := by decide +kernel
theorem dX6_lasts_38 : decode cX6_lasts 38 = .ok (.invokevirtual 163, 3) := by decide +kernel
theorem dX6_lasts_41 : decode cX6_lasts 41 = .ok (.aload_n 0, 1) := by decide +kernel
theorem dX6_lasts_42 : decode cX6_lasts 42 = .ok (.getfield 38, 3) := by decide +kernel
theorem dX6_lasts_45 : decode cX6_lasts 45 = .ok (.invokevirtual 228, 3) := by decide +kernel
theorem dX6_lasts_48 : decode cX6_lasts 48 = .ok (.ifCond .eq 5, 3) := by decide +kernel
theorem dX6_lasts_51 : decode cX6_lasts 51 = .ok (.iconst 0, 1) := by decide +kernel
theorem dX6_lasts_52 : decode cX6_lasts 52 = .ok (.ireturn, 1) := by decide +kernel
theorem dX6_lasts_53 : decode cX6_lasts 53 = .ok (.iinc 3 1, 3) := by decide +kernel
theorem dX6_lasts_56 : decode cX6_lasts 56 = .ok (.goto (-35), 3) := by decide +kernel
theorem dX6_lasts_59 : decode cX6_lasts 59 = .ok (.iconst 1, 1) := by decide +kernel
theorem dX6_lasts_60 : decode cX6_lasts 60 = .ok (.ireturn, 1) := by decide +kernel
theorem dX6_pact_0 : decode cX6_pact 0 = .ok (.aload_n 0, 1) := by decide +kernel
theorem dX6_pact_1 : decode cX6_pact 1 = .ok (.iload_n 1, 1) := by decide +kernel
theorem dX6_pact_2 : decode cX6_pact 2 = .ok (.invokevirtual 89, 3) := by decide +kernel
theorem dX6_pact_5 : decode cX6_pact 5 = .ok (.ifCond .eq 11, 3) := by decide +kernel
theorem dX6_pact_8 : decode cX6_pact 8 = .ok (.aload_n 0, 1) := by decide +kernel
theorem dX6_pact_9 : decode cX6_pact 9 = .ok (.iload_n 2, 1) := by decide +kernel
theorem dX6_pact_10 : decode cX6_pact 10 = .ok (.invokevirtual 89, 3) := by decide +kernel
theorem dX6_pact_13 : decode cX6_pact 13 = .ok (.ifCond .ne 6, 3) := by decide +kernel
theorem dX6_pact_16 : decode cX6_pact 16 = .ok (.ldc 93, 2) := by decide +kernel
theorem dX6_pact_18 : decode cX6_pact 18 = .ok (.ireturn, 1) := by decide +kernel
theorem dX6_pact_19 : decode cX6_pact 19 = .ok (.iload_n 1, 1) := by decide +kernel
theorem dX6_pact_20 : decode cX6_pact 20 = .ok (.iload_n 2, 1) := by decide +kernel
theorem dX6_pact_21 : decode cX6_pact 21 = .ok (.if_icmp .eq 12, 3) := by decide +kernel
theorem dX6_pact_24 : decode cX6_pact 24 = .ok (.iload_n 3, 1) := by decide +kernel
theorem dX6_pact_25 : decode cX6_pact 25 = .ok (.bipush 60, 2) := by decide +kernel
theorem dX6_pact_27 : decode cX6_pact 27 = .ok (.invokestatic 78, 3) := by decide +kernel
theorem dX6_pact_30 : decode cX6_pact 30 = .ok (.ifCond .ne 6, 3) := by decide +kernel
theorem dX6_pact_33 : decode cX6_pact 33 = .ok (.ldc 166, 2) := by decide +kernel
theorem dX6_pact_35 : decode cX6_pact 35 = .ok (.ireturn, 1) := by decide +kernel
theorem dX6_pact_36 : decode cX6_pact 36 = .ok (.aload_n 0, 1) := by decide +kernel
theorem dX6_pact_37 : decode cX6_pact 37 = .ok (.getfield 38, 3) := by decide +kernel
theorem dX6_pact_40 : decode cX6_pact 40 = .ok (.iload_n 1, 1) := by decide +kernel
theorem dX6_pact_41 : decode cX6_pact 41 = .ok (.iload_n 2, 1) := by decide +kernel
theorem dX6_pact_42 : decode cX6_pact 42 = .ok (.invokestatic 231, 3) := by decide +kernel
theorem dX6_pact_45 : decode cX6_pact 45 = .ok (.iload_n 1, 1) := by decide +kernel
theorem dX6_pact_46 : decode cX6_pact 46 = .ok (.iload_n 2, 1) := by decide +kernel
theorem dX6_pact_47 : decode cX6_pact 47 = .ok (.invokestatic 236, 3) := by decide +kernel
theorem dX6_pact_50 : decode cX6_pact 50 = .ok (.invokevirtual 239, 3) := by decide +kernel
theorem dX6_pact_53 : decode cX6_pact 53 = .ok (.aload_n 0, 1) := by decide +kernel
theorem dX6_pact_54 : decode cX6_pact 54 = .ok (.iload_n 3, 1) := by decide +kernel
theorem dX6_pact_55 : decode cX6_pact 55 = .ok (.invokevirtual 170, 3) := by decide +kernel
theorem dX6_pact_58 : decode cX6_pact 58 = .ok (.aload_n 0, 1) := by decide +kernel
theorem dX6_pact_59 : decode cX6_pact 59 = .ok (.getfield 38, 3) := by decide +kernel
theorem dX6_pact_62 : decode cX6_pact 62 = .ok (.iconst (-1), 1) := by decide +kernel
theorem dX6_pact_63 : decode cX6_pact 63 = .ok (.iconst (-1), 1) := by decide +kernel
theorem dX6_pact_64 : decode cX6_pact 64 = .ok (.invokevirtual 239, 3) := by decide +kernel
theorem dX6_pact_67 : decode cX6_pact 67 = .ok (.aload_n 0, 1) := by decide +kernel
theorem dX6_pact_68 : decode cX6_pact 68 = .ok (.getfield 21, 3) := by decide +kernel
theorem dX6_pact_71 : decode cX6_pact 71 = .ok (.getfield 106, 3) := by decide +kernel
theorem dX6_pact_74 : decode cX6_pact 74 = .ok (.iload_n 1, 1) := by decide +kernel
theorem dX6_pact_75 : decode cX6_pact 75 = .ok (.iaload, 1) := by decide +kernel
theorem dX6_pact_76 : decode cX6_pact 76 = .ok (.aload_n 0, 1) := by decide +kernel
theorem dX6_pact_77 : decode cX6_pact 77 = .ok (.getfield 21, 3) := by decide +kernel
theorem dX6_pact_80 : decode cX6_pact 80 = .ok (.getfield 106, 3) := by decide +kernel
theorem dX6_pact_83 : decode cX6_pact 83 = .ok (.iload_n 2, 1) := by decide +kernel
theorem dX6_pact_84 : decode cX6_pact 84 = .ok (.iaload, 1) := by decide +kernel
theorem dX6_pact_85 : decode cX6_pact 85 = .ok (.iadd, 1) := by decide +kernel
theorem dX6_pact_86 : decode cX6_pact 86 = .ok (.istore 4, 2) := by decide +kernel
theorem dX6_pact_88 : decode cX6_pact 88 = .ok (.aload_n 0, 1) := by decide +kernel
theorem dX6_pact_89 : decode cX6_pact 89 = .ok (.iload_n 3, 1) := by decide +kernel
theorem dX6_pact_90 : decode cX6_pact 90 = .ok (.invokevirtual 170, 3) := by decide +kernel
theorem dX6_pact_93 : decode cX6_pact 93 = .ok (.iload 4, 2) := by decide +kernel
theorem dX6_pact_95 : decode cX6_pact 95 = .ok (.aload_n 0, 1) := by decide +kernel
theorem dX6_pact_96 : decode cX6_pact 96 = .ok (.getfield 21, 3) := by decide +kernel
theorem dX6_pact_99 : decode cX6_pact 99 = .ok (.getfield 106, 3) := by decide +kernel
theorem dX6_pact_102 : decode cX6_pact 102 = .ok (.iload_n 1, 1) := by decide +kernel
theorem dX6_pact_103 : decode cX6_pact 103 = .ok (.iaload, 1) := by decide +kernel
theorem dX6_pact_104 : decode cX6_pact 104 = .ok (.isub, 1) := by decide +kernel
theorem dX6_pact_105 : decode cX6_pact 105 = .ok (.aload_n 0, 1) := by decide +kernel
theorem dX6_pact_106 : decode cX6_pact 106 = .ok (.getfield 21, 3) := by decide +kernel
theorem dX6_pact_109 : decode cX6_pact 109 = .ok (.getfield 106, 3) := by decide +kernel
theorem dX6_pact_112 : decode cX6_pact 112 = .ok (.iload_n 2, 1) := by decide +kernel
theorem dX6_pact_113 : decode cX6_pact 113 = .ok (.iaload, 1) := by decide +kernel
theorem dX6_pact_114 : decode cX6_pact 114 = .ok (.isub, 1) := by decide +kernel
theorem dX6_pact_115 : decode cX6_pact 115 = .ok (.ireturn, 1) := by decide +kernel
theorem dX6_guest_0 : decode cX6_guest 0 = .ok (.iload_n 1, 1) := by decide +kernel
theorem dX6_guest_1 : decode cX6_guest 1 = .ok (.bipush 9, 2) := by decide +kernel
theorem dX6_guest_3 : decode cX6_guest 3 = .ok (.invokestatic 78, 3) := by decide +kernel
theorem dX6_guest_6 : decode cX6_guest 6 = .ok (.ifCond .ne 6, 3) := by decide +kernel
theorem dX6_guest_9 : decode cX6_guest 9 = .ok (.bipush (-2), 2) := by decide +kernel
theorem dX6_guest_11 : decode cX6_guest 11 = .ok (.ireturn, 1) := by decide +kernel
theorem dX6_guest_12 : decode cX6_guest 12 = .ok (.aload_n 0, 1) := by decide +kernel
theorem dX6_guest_13 : decode cX6_guest 13 = .ok (.getfield 12, 3) := by decide +kernel
theorem dX6_guest_16 : decode cX6_guest 16 = .ok (.getfield 82, 3) := by decide +kernel
theorem dX6_guest_19 : decode cX6_guest 19 = .ok (.iconst 5, 1) := by decide +kernel
theorem dX6_guest_20 : decode cX6_guest 20 = .ok (.if_icmp .lt 6, 3) := by decide +kernel
theorem dX6_guest_23 : decode cX6_guest 23 = .ok (.bipush (-3), 2) := by decide +kernel
theorem dX6_guest_25 : decode cX6_guest 25 = .ok (.ireturn, 1) := by decide +kernel
theorem dX6_guest_26 : decode cX6_guest 26 = .ok (.aload_n 0, 1) := by decide +kernel
theorem dX6_guest_27 : decode cX6_guest 27 = .ok (.getfield 21, 3) := by decide +kernel
theorem dX6_guest_30 : decode cX6_guest 30 = .ok (.aload_n 0, 1) := by decide +kernel
theorem dX6_guest_31 : decode cX6_guest 31 = .ok (.getfield 12, 3) := by decide +kernel
theorem dX6_guest_34 : decode cX6_guest 34 = .ok (.invokevirtual 174, 3) := by decide +kernel
theorem dX6_guest_37 : decode cX6_guest 37 = .ok (.aload_n 0, 1) := by decide +kernel
theorem dX6_guest_38 : decode cX6_guest 38 = .ok (.getfield 21, 3) := by decide +kernel
theorem dX6_guest_41 : decode cX6_guest 41 = .ok (.iconst 0, 1) := by decide +kernel
theorem dX6_guest_42 : decode cX6_guest 42 = .ok (.iconst 0, 1) := by decide +kernel
theorem dX6_guest_43 : decode cX6_guest 43 = .ok (.iload_n 1, 1) := by decide +kernel
theorem dX6_guest_44 : decode cX6_guest 44 = .ok (.invokevirtual 85, 3) := by decide +kernel
theorem dX6_guest_47 : decode cX6_guest 47 = .ok (.pop, 1) := by decide +kernel
theorem dX6_guest_48 : decode cX6_guest 48 = .ok (.aload_n 0, 1) := by decide +kernel
theorem dX6_guest_49 : decode cX6_guest 49 = .ok (.getfield 38, 3) := by decide +kernel
theorem dX6_guest_52 : decode cX6_guest 52 = .ok (.aload_n 0, 1) := by decide +kernel
theorem dX6_guest_53 : decode cX6_guest 53 = .ok (.getfield 21, 3) := by decide +kernel
theorem dX6_guest_56 : decode cX6_guest 56 = .ok (.aload_n 0, 1) := by decide +kernel
theorem dX6_guest_57 : decode cX6_guest 57 = .ok (.invokevirtual 113, 3) := by decide +kernel
theorem dX6_guest_60 : decode cX6_guest 60 = .ok (.invokevirtual 163, 3) := by decide +kernel
theorem dX6_guest_63 : decode cX6_guest 63 = .ok (.aload_n 0, 1) := by decide +kernel
theorem dX6_guest_64 : decode cX6_guest 64 = .ok (.getfield 21, 3) := by decide +kernel
theorem dX6_guest_67 : decode cX6_guest 67 = .ok (.getfield 160, 3) := by decide +kernel
theorem dX6_guest_70 : decode cX6_guest 70 = .ok (.ireturn, 1) := by decide +kernel
theorem dX6_odds_0 : decode cX6_odds 0 = .ok (.aload_n 0, 1) := by decide +kernel
theorem dX6_odds_1 : decode cX6_odds 1 = .ok (.iload_n 1, 1) := by decide +kernel
theorem dX6_odds_2 : decode cX6_odds 2 = .ok (.invokevirtual 89, 3) := by decide +kernel
theorem dX6_odds_5 : decode cX6_odds 5 = .ok (.ifCond .eq 11, 3) := by decide +kernel
theorem dX6_odds_8 : decode cX6_odds 8 = .ok (.iload_n 2, 1) := by decide +kernel
theorem dX6_odds_9 : decode cX6_odds 9 = .ok (.iconst 1, 1) := by decide +kernel
theorem dX6_odds_10 : decode cX6_odds 10 = .ok (.invokestatic 78, 3) := by decide +kernel
theorem dX6_odds_13 : decode cX6_odds 13 = .ok (.ifCond .ne 7, 3) := by decide +kernel
theorem dX6_odds_16 : decode cX6_odds 16 = .ok (.ldc2_w 243, 3) := by decide +kernel
theorem dX6_odds_19 : decode cX6_odds 19 = .ok (.lreturn, 1) := by decide +kernel
theorem dX6_odds_20 : decode cX6_odds 20 = .ok (.aload_n 0, 1) := by decide +kernel
theorem dX6_odds_21 : decode cX6_odds 21 = .ok (.iconst 1, 1) := by decide +kernel
theorem dX6_odds_22 : decode cX6_odds 22 = .ok (.invokevirtual 170, 3) := by decide +kernel
theorem dX6_odds_25 : decode cX6_odds 25 = .ok (.aload_n 0, 1) := by decide +kernel
theorem dX6_odds_26 : decode cX6_odds 26 = .ok (.getfield 38, 3) := by decide +kernel
theorem dX6_odds_29 : decode cX6_odds 29 = .ok (.iload_n 1, 1) := by decide +kernel
theorem dX6_odds_30 : decode cX6_odds 30 = .ok (.invokevirtual 245, 3) := by decide +kernel
theorem dX6_odds_33 : decode cX6_odds 33 = .ok (.ifCond .eq 7, 3) := by decide +kernel
theorem dX6_odds_36 : decode cX6_odds 36 = .ok (.lconst 1, 1) := by decide +kernel
theorem dX6_odds_37 : decode cX6_odds 37 = .ok (.goto 4, 3) := by decide +kernel
theorem dX6_odds_40 : decode cX6_odds 40 = .ok (.lconst 0, 1) := by decide +kernel
theorem dX6_odds_41 : decode cX6_odds 41 = .ok (.aload_n 0, 1) := by decide +kernel
theorem dX6_odds_42 : decode cX6_odds 42 = .ok (.getfield 38, 3) := by decide +kernel
theorem dX6_odds_45 : decode cX6_odds 45 = .ok (.invokevirtual 248, 3) := by decide +kernel
theorem dX6_odds_48 : decode cX6_odds 48 = .ok (.i2l, 1) := by decide +kernel
theorem dX6_odds_49 : decode cX6_odds 49 = .ok (.iload_n 2, 1) := by decide +kernel
theorem dX6_odds_50 : decode cX6_odds 50 = .ok (.invokestatic 251, 3) := by decide +kernel
theorem dX6_odds_53 : decode cX6_odds 53 = .ok (.lreturn, 1) := by decide +kernel
theorem dX6_mean_0 : decode cX6_mean 0 = .ok (.iload_n 1, 1) := by decide +kernel
theorem dX6_mean_1 : decode cX6_mean 1 = .ok (.iconst 1, 1) := by decide +kernel
theorem dX6_mean_2 : decode cX6_mean 2 = .ok (.if_icmp .lt 27, 3) := by decide +kernel
theorem dX6_mean_5 : decode cX6_mean 5 = .ok (.iload_n 1, 1) := by decide +kernel
theorem dX6_mean_6 : decode cX6_mean 6 = .ok (.bipush 60, 2) := by decide +kernel
theorem dX6_mean_8 : decode cX6_mean 8 = .ok (.if_icmp .gt 21, 3) := by decide +kernel
theorem dX6_mean_11 : decode cX6_mean 11 = .ok (.iload_n 2, 1) := by decide +kernel
theorem dX6_mean_12 : decode cX6_mean 12 = .ok (.iconst 1, 1) := by decide +kernel
theorem dX6_mean_13 : decode cX6_mean 13 = .ok (.invokestatic 78, 3) := by decide +kernel
theorem dX6_mean_16 : decode cX6_mean 16 = .ok (.ifCond .eq 13, 3) := by decide +kernel
theorem dX6_mean_19 : decode cX6_mean 19 = .ok (.aload_n 0, 1) := by decide +kernel
theorem dX6_mean_20 : decode cX6_mean 20 = .ok (.getfield 12, 3) := by decide +kernel
theorem dX6_mean_23 : decode cX6_mean 23 = .ok (.getfield 82, 3) := by decide +kernel
theorem dX6_mean_26 : decode cX6_mean 26 = .ok (.ifCond .ne 7, 3) := by decide +kernel
theorem dX6_mean_29 : decode cX6_mean 29 = .ok (.ldc2_w 243, 3) := by decide +kernel
theorem dX6_mean_32 : decode cX6_mean 32 = .ok (.lreturn, 1) := by decide +kernel
theorem dX6_mean_33 : decode cX6_mean 33 = .ok (.aload_n 0, 1) := by decide +kernel
theorem dX6_mean_34 : decode cX6_mean 34 = .ok (.iload_n 1, 1) := by decide +kernel
theorem dX6_mean_35 : decode cX6_mean 35 = .ok (.invokevirtual 170, 3) := by decide +kernel
theorem dX6_mean_38 : decode cX6_mean 38 = .ok (.aload_n 0, 1) := by decide +kernel
theorem dX6_mean_39 : decode cX6_mean 39 = .ok (.getfield 21, 3) := by decide +kernel
theorem dX6_mean_42 : decode cX6_mean 42 = .ok (.invokevirtual 219, 3) := by decide +kernel
theorem dX6_mean_45 : decode cX6_mean 45 = .ok (.aload_n 0, 1) := by decide +kernel
theorem dX6_mean_46 : decode cX6_mean 46 = .ok (.getfield 12, 3) := by decide +kernel
theorem dX6_mean_49 : decode cX6_mean 49 = .ok (.invokevirtual 219, 3) := by decide +kernel
theorem dX6_mean_52 : decode cX6_mean 52 = .ok (.isub, 1) := by decide +kernel
theorem dX6_mean_53 : decode cX6_mean 53 = .ok (.i2l, 1) := by decide +kernel
theorem dX6_mean_54 : decode cX6_mean 54 = .ok (.iload_n 1, 1) := by decide +kernel
theorem dX6_mean_55 : decode cX6_mean 55 = .ok (.aload_n 0, 1) := by decide +kernel
theorem dX6_mean_56 : decode cX6_mean 56 = .ok (.getfield 12, 3) := by decide +kernel
theorem dX6_mean_59 : decode cX6_mean 59 = .ok (.getfield 82, 3) := by decide +kernel
theorem dX6_mean_62 : decode cX6_mean 62 = .ok (.imul, 1) := by decide +kernel
theorem dX6_mean_63 : decode cX6_mean 63 = .ok (.i2l, 1) := by decide +kernel
theorem dX6_mean_64 : decode cX6_mean 64 = .ok (.iload_n 2, 1) := by decide +kernel
theorem dX6_mean_65 : decode cX6_mean 65 = .ok (.invokestatic 251, 3) := by decide +kernel
theorem dX6_mean_68 : decode cX6_mean 68 = .ok (.lreturn, 1) := by decide +kernel
theorem dX6_fraction_0 : decode cX6_fraction 0 = .ok (.lload_n 0, 1) := by decide +kernel
theorem dX6_fraction_1 : decode cX6_fraction 1 = .ok (.invokestatic 255, 3) := by decide +kernel
theorem dX6_fraction_4 : decode cX6_fraction 4 = .ok (.lstore 5, 2) := by decide +kernel
theorem dX6_fraction_6 : decode cX6_fraction 6 = .ok (.lload_n 2, 1) := by decide +kernel
theorem dX6_fraction_7 : decode cX6_fraction 7 = .ok (.lstore 7, 2) := by decide +kernel
theorem dX6_fraction_9 : decode cX6_fraction 9 = .ok (.iconst 0, 1) := by decide +kernel
theorem dX6_fraction_10 : decode cX6_fraction 10 = .ok (.istore 9, 2) := by decide +kernel
theorem dX6_fraction_12 : decode cX6_fraction 12 = .ok (.iload 9, 2) := by decide +kernel
theorem dX6_fraction_14 : decode cX6_fraction 14 = .ok (.bipush 100, 2) := by decide +kernel
theorem dX6_fraction_16 : decode cX6_fraction 16 = .ok (.if_icmp .ge 31, 3) := by decide +kernel
theorem dX6_fraction_19 : decode cX6_fraction 19 = .ok (.lload 7, 2) := by decide +kernel
theorem dX6_fraction_21 : decode cX6_fraction 21 = .ok (.lconst 0, 1) := by decide +kernel
theorem dX6_fraction_22 : decode cX6_fraction 22 = .ok (.lcmp, 1) := by decide +kernel
theorem dX6_fraction_23 : decode cX6_fraction 23 = .ok (.ifCond .le 24, 3) := by decide +kernel
theorem dX6_fraction_26 : decode cX6_fraction 26 = .ok (.lload 5, 2) := by decide +kernel
theorem dX6_fraction_28 : decode cX6_fraction 28 = .ok (.lload 7, 2) := by decide +kernel
theorem dX6_fraction_30 : decode cX6_fraction 30 = .ok (.lrem, 1) := by decide +kernel
theorem dX6_fraction_31 : decode cX6_fraction 31 = .ok (.lstore 10, 2) := by decide +kernel
theorem dX6_fraction_33 : decode cX6_fraction 33 = .ok (.lload 7, 2) := by decide +kernel
theorem dX6_fraction_35 : decode cX6_fraction 35 = .ok (.lstore 5, 2) := by decide +kernel
theorem dX6_fraction_37 : decode cX6_fraction 37 = .ok (.lload 10, 2) := by decide +kernel
theorem dX6_fraction_39 : decode cX6_fraction 39 = .ok (.lstore 7, 2) := by decide +kernel
theorem dX6_fraction_41 : decode cX6_fraction 41 = .ok (.iinc 9 1, 3) := by decide +kernel
theorem dX6_fraction_44 : decode cX6_fraction 44 = .ok (.goto (-32), 3) := by decide +kernel
theorem dX6_fraction_47 : decode cX6_fraction 47 = .ok (.lconst 1, 1) := by decide +kernel
theorem dX6_fraction_48 : decode cX6_fraction 48 = .ok (.lload 5, 2) := by decide +kernel
theorem dX6_fraction_50 : decode cX6_fraction 50 = .ok (.invokestatic 259, 3) := by decide +kernel
theorem dX6_fraction_53 : decode cX6_fraction 53 = .ok (.lstore 9, 2) := by decide +kernel
theorem dX6_fraction_55 : decode cX6_fraction 55 = .ok (.iload 4, 2) := by decide +kernel
theorem dX6_fraction_57 : decode cX6_fraction 57 = .ok (.ifCond .ne 7, 3) := by decide +kernel
theorem dX6_fraction_60 : decode cX6_fraction 60 = .ok (.lload_n 0, 1) := by decide +kernel
theorem dX6_fraction_61 : decode cX6_fraction 61 = .ok (.goto 4, 3) := by decide +kernel
theorem dX6_fraction_64 : decode cX6_fraction 64 = .ok (.lload_n 2, 1) := by decide +kernel
theorem dX6_fraction_65 : decode cX6_fraction 65 = .ok (.lload 9, 2) := by decide +kernel
theorem dX6_fraction_67 : decode cX6_fraction 67 = .ok (.ldiv, 1) := by decide +kernel
theorem dX6_fraction_68 : decode cX6_fraction 68 = .ok (.lreturn, 1) := by decide +kernel
theorem dX6_book_0 : decode cX6_book 0 = .ok (.iload_n 1, 1) := by decide +kernel
theorem dX6_book_1 : decode cX6_book 1 = .ok (.iconst (-1), 1) := by decide +kernel
theorem dX6_book_2 : decode cX6_book 2 = .ok (.if_icmp .lt 9, 3) := by decide +kernel
theorem dX6_book_5 : decode cX6_book 5 = .ok (.iload_n 1, 1) := by decide +kernel
theorem dX6_book_6 : decode cX6_book 6 = .ok (.bipush 99, 2) := by decide +kernel
theorem dX6_book_8 : decode cX6_book 8 = .ok (.if_icmp .le 6, 3) := by decide +kernel
theorem dX6_book_11 : decode cX6_book 11 = .ok (.bipush (-2), 2) := by decide +kernel
theorem dX6_book_13 : decode cX6_book 13 = .ok (.ireturn, 1) := by decide +kernel
theorem dX6_book_14 : decode cX6_book 14 = .ok (.iload_n 1, 1) := by decide +kernel
theorem dX6_book_15 : decode cX6_book 15 = .ok (.iconst (-1), 1) := by decide +kernel
theorem dX6_book_16 : decode cX6_book 16 = .ok (.if_icmp .ne 13, 3) := by decide +kernel
theorem dX6_book_19 : decode cX6_book 19 = .ok (.aload_n 0, 1) := by decide +kernel
theorem dX6_book_20 : decode cX6_book 20 = .ok (.getfield 12, 3) := by decide +kernel
theorem dX6_book_23 : decode cX6_book 23 = .ok (.iconst 0, 1) := by decide +kernel
theorem dX6_book_24 : decode cX6_book 24 = .ok (.putfield 262, 3) := by decide +kernel
theorem dX6_book_27 : decode cX6_book 27 = .ok (.iconst 0, 1) := by decide +kernel
theorem dX6_book_28 : decode cX6_book 28 = .ok (.ireturn, 1) := by decide +kernel
theorem dX6_book_29 : decode cX6_book 29 = .ok (.aload_n 0, 1) := by decide +kernel
theorem dX6_book_30 : decode cX6_book 30 = .ok (.getfield 12, 3) := by decide +kernel
theorem dX6_book_33 : decode cX6_book 33 = .ok (.getfield 262, 3) := by decide +kernel
theorem dX6_book_36 : decode cX6_book 36 = .ok (.bipush 12, 2) := by decide +kernel
theorem dX6_book_38 : decode cX6_book 38 = .ok (.if_icmp .lt 6, 3) := by decide +kernel
theorem dX6_book_41 : decode cX6_book 41 = .ok (.bipush (-4), 2) := by decide +kernel
theorem dX6_book_43 : decode cX6_book 43 = .ok (.ireturn, 1) := by decide +kernel
theorem dX6_book_44 : decode cX6_book 44 = .ok (.aload_n 0, 1) := by decide +kernel
theorem dX6_book_45 : decode cX6_book 45 = .ok (.getfield 12, 3) := by decide +kernel
theorem dX6_book_48 : decode cX6_book 48 = .ok (.getfield 265, 3) := by decide +kernel
theorem dX6_book_51 : decode cX6_book 51 = .ok (.aload_n 0, 1) := by decide +kernel
theorem dX6_book_52 : decode cX6_book 52 = .ok (.getfield 12, 3) := by decide +kernel
theorem dX6_book_55 : decode cX6_book 55 = .ok (.getfield 262, 3) := by decide +kernel
theorem dX6_book_58 : decode cX6_book 58 = .ok (.iload_n 1, 1) := by decide +kernel
theorem dX6_book_59 : decode cX6_book 59 = .ok (.iastore, 1) := by decide +kernel
theorem dX6_book_60 : decode cX6_book 60 = .ok (.aload_n 0, 1) := by decide +kernel
theorem dX6_book_61 : decode cX6_book 61 = .ok (.getfield 12, 3) := by decide +kernel
theorem dX6_book_64 : decode cX6_book 64 = .ok (.dup, 1) := by decide +kernel
theorem dX6_book_65 : decode cX6_book 65 = .ok (.getfield 262, 3) := by decide +kernel
theorem dX6_book_68 : decode cX6_book 68 = .ok (.iconst 1, 1) := by decide +kernel
theorem dX6_book_69 : decode cX6_book 69 = .ok (.iadd, 1) := by decide +kernel
theorem dX6_book_70 : decode cX6_book 70 = .ok (.putfield 262, 3) := by decide +kernel
theorem dX6_book_73 : decode cX6_book 73 = .ok (.aload_n 0, 1) := by decide +kernel
theorem dX6_book_74 : decode cX6_book 74 = .ok (.getfield 12, 3) := by decide +kernel
theorem dX6_book_77 : decode cX6_book 77 = .ok (.getfield 262, 3) := by decide +kernel
theorem dX6_book_80 : decode cX6_book 80 = .ok (.ireturn, 1) := by decide +kernel
theorem dX6_looked_0 : decode cX6_looked 0 = .ok (.aload_n 0, 1) := by decide +kernel
theorem dX6_looked_1 : decode cX6_looked 1 = .ok (.getfield 21, 3) := by decide +kernel
theorem dX6_looked_4 : decode cX6_looked 4 = .ok (.aload_n 0, 1) := by decide +kernel
theorem dX6_looked_5 : decode cX6_looked 5 = .ok (.getfield 12, 3) := by decide +kernel
theorem dX6_looked_8 : decode cX6_looked 8 = .ok (.invokevirtual 174, 3) := by decide +kernel
theorem dX6_looked_11 : decode cX6_looked 11 = .ok (.iconst 0, 1) := by decide +kernel
theorem dX6_looked_12 : decode cX6_looked 12 = .ok (.istore_n 1, 1) := by decide +kernel
theorem dX6_looked_13 : decode cX6_looked 13 = .ok (.iload_n 1, 1) := by decide +kernel
theorem dX6_looked_14 : decode cX6_looked 14 = .ok (.aload_n 0, 1) := by decide +kernel
theorem dX6_looked_15 : decode cX6_looked 15 = .ok (.getfield 12, 3) := by decide +kernel
theorem dX6_looked_18 : decode cX6_looked 18 = .ok (.getfield 262, 3) := by decide +kernel
theorem dX6_looked_21 : decode cX6_looked 21 = .ok (.if_icmp .ge 45, 3) := by decide +kernel
theorem dX6_looked_24 : decode cX6_looked 24 = .ok (.aload_n 0, 1) := by decide +kernel
theorem dX6_looked_25 : decode cX6_looked 25 = .ok (.getfield 38, 3) := by decide +kernel
theorem dX6_looked_28 : decode cX6_looked 28 = .ok (.aload_n 0, 1) := by decide +kernel
theorem dX6_looked_29 : decode cX6_looked 29 = .ok (.getfield 21, 3) := by decide +kernel
theorem dX6_looked_32 : decode cX6_looked 32 = .ok (.aload_n 0, 1) := by decide +kernel
theorem dX6_looked_33 : decode cX6_looked 33 = .ok (.invokevirtual 113, 3) := by decide +kernel
theorem dX6_looked_36 : decode cX6_looked 36 = .ok (.invokevirtual 163, 3) := by decide +kernel
theorem dX6_looked_39 : decode cX6_looked 39 = .ok (.aload_n 0, 1) := by decide +kernel
theorem dX6_looked_40 : decode cX6_looked 40 = .ok (.getfield 21, 3) := by decide +kernel
theorem dX6_looked_43 : decode cX6_looked 43 = .ok (.getfield 131, 3) := by decide +kernel
theorem dX6_looked_46 : decode cX6_looked 46 = .ok (.aload_n 0, 1) := by decide +kernel
theorem dX6_looked_47 : decode cX6_looked 47 = .ok (.getfield 12, 3) := by decide +kernel
theorem dX6_looked_50 : decode cX6_looked 50 = .ok (.getfield 265, 3) := by decide +kernel
theorem dX6_looked_53 : decode cX6_looked 53 = .ok (.iload_n 1, 1) := by decide +kernel
theorem dX6_looked_54 : decode cX6_looked 54 = .ok (.iaload, 1) := by decide +kernel
theorem dX6_looked_55 : decode cX6_looked 55 = .ok (.if_icmp .eq 5, 3) := by decide +kernel
theorem dX6_looked_58 : decode cX6_looked 58 = .ok (.iload_n 1, 1) := by decide +kernel
theorem dX6_looked_59 : decode cX6_looked 59 = .ok (.ireturn, 1) := by decide +kernel
theorem dX6_looked_60 : decode cX6_looked 60 = .ok (.iinc 1 1, 3) := by decide +kernel
theorem dX6_looked_63 : decode cX6_looked 63 = .ok (.goto (-50), 3) := by decide +kernel
theorem dX6_looked_66 : decode cX6_looked 66 = .ok (.bipush (-5), 2) := by decide +kernel
theorem dX6_looked_68 : decode cX6_looked 68 = .ok (.ireturn, 1) := by decide +kernel
theorem dX6_judge_0 : decode cX6_judge 0 = .ok (.iload_n 1, 1) := by decide +kernel
theorem dX6_judge_1 : decode cX6_judge 1 = .ok (.iconst 5, 1) := by decide +kernel
theorem dX6_judge_2 : decode cX6_judge 2 = .ok (.invokestatic 78, 3) := by decide +kernel
theorem dX6_judge_5 : decode cX6_judge 5 = .ok (.ifCond .ne 5, 3) := by decide +kernel
theorem dX6_judge_8 : decode cX6_judge 8 = .ok (.iconst (-1), 1) := by decide +kernel
theorem dX6_judge_9 : decode cX6_judge 9 = .ok (.ireturn, 1) := by decide +kernel
theorem dX6_judge_10 : decode cX6_judge 10 = .ok (.aload_n 0, 1) := by decide +kernel
theorem dX6_judge_11 : decode cX6_judge 11 = .ok (.getfield 58, 3) := by decide +kernel
theorem dX6_judge_14 : decode cX6_judge 14 = .ok (.iload_n 1, 1) := by decide +kernel
theorem dX6_judge_15 : decode cX6_judge 15 = .ok (.aaload, 1) := by decide +kernel
theorem dX6_judge_16 : decode cX6_judge 16 = .ok (.astore_n 3, 1) := by decide +kernel
theorem dX6_judge_17 : decode cX6_judge 17 = .ok (.aload_n 3, 1) := by decide +kernel
theorem dX6_judge_18 : decode cX6_judge 18 = .ok (.getfield 268, 3) := by decide +kernel
theorem dX6_judge_21 : decode cX6_judge 21 = .ok (.iconst (-1), 1) := by decide +kernel
theorem dX6_judge_22 : decode cX6_judge 22 = .ok (.if_icmp .eq 14, 3) := by decide +kernel
theorem dX6_judge_25 : decode cX6_judge 25 = .ok (.aload_n 3, 1) := by decide +kernel
theorem dX6_judge_26 : decode cX6_judge 26 = .ok (.getfield 268, 3) := by decide +kernel
theorem dX6_judge_29 : decode cX6_judge 29 = .ok (.iconst 2, 1) := by decide +kernel
theorem dX6_judge_30 : decode cX6_judge 30 = .ok (.if_icmp .eq 6, 3) := by decide +kernel
theorem dX6_judge_33 : decode cX6_judge 33 = .ok (.bipush (-12), 2) := by decide +kernel
theorem dX6_judge_35 : decode cX6_judge 35 = .ok (.ireturn, 1) := by decide +kernel
theorem dX6_judge_36 : decode cX6_judge 36 = .ok (.iconst 0, 1) := by decide +kernel
theorem dX6_judge_37 : decode cX6_judge 37 = .ok (.istore 4, 2) := by decide +kernel
theorem dX6_judge_39 : decode cX6_judge 39 = .ok (.iload 4, 2) := by decide +kernel
theorem dX6_judge_41 : decode cX6_judge 41 = .ok (.aload_n 0, 1) := by decide +kernel
theorem dX6_judge_42 : decode cX6_judge 42 = .ok (.getfield 12, 3) := by decide +kernel
theorem dX6_judge_45 : decode cX6_judge 45 = .ok (.getfield 82, 3) := by decide +kernel
theorem dX6_judge_48 : decode cX6_judge 48 = .ok (.if_icmp .ge 61, 3) := by decide +kernel
theorem dX6_judge_51 : decode cX6_judge 51 = .ok (.iload_n 2, 1) := by decide +kernel
theorem dX6_judge_52 : decode cX6_judge 52 = .ok (.aload_n 3, 1) := by decide +kernel
theorem dX6_judge_53 : decode cX6_judge 53 = .ok (.getfield 271, 3) := by decide +kernel
theorem dX6_judge_56 : decode cX6_judge 56 = .ok (.if_icmp .ge 14, 3) := by decide +kernel
theorem dX6_judge_59 : decode cX6_judge 59 = .ok (.aload_n 3, 1) := by decide +kernel
theorem dX6_judge_60 : decode cX6_judge 60 = .ok (.iload_n 2, 1) := by decide +kernel
theorem dX6_judge_61 : decode cX6_judge 61 = .ok (.iload 4, 2) := by decide +kernel
theorem dX6_judge_63 : decode cX6_judge 63 = .ok (.iadd, 1) := by decide +kernel
theorem dX6_judge_64 : decode cX6_judge 64 = .ok (.invokevirtual 272, 3) := by decide +kernel
theorem dX6_judge_67 : decode cX6_judge 67 = .ok (.ifCond .ne 9, 3) := by decide +kernel
theorem dX6_judge_70 : decode cX6_judge 70 = .ok (.bipush 100, 2) := by decide +kernel
theorem dX6_judge_72 : decode cX6_judge 72 = .ok (.iload 4, 2) := by decide +kernel
theorem dX6_judge_74 : decode cX6_judge 74 = .ok (.iadd, 1) := by decide +kernel
theorem dX6_judge_75 : decode cX6_judge 75 = .ok (.ireturn, 1) := by decide +kernel
theorem dX6_judge_76 : decode cX6_judge 76 = .ok (.aload_n 3, 1) := by decide +kernel
theorem dX6_judge_77 : decode cX6_judge 77 = .ok (.getfield 274, 3) := by decide +kernel
theorem dX6_judge_80 : decode cX6_judge 80 = .ok (.iload_n 2, 1) := by decide +kernel
theorem dX6_judge_81 : decode cX6_judge 81 = .ok (.iload 4, 2) := by decide +kernel
theorem dX6_judge_83 : decode cX6_judge 83 = .ok (.iadd, 1) := by decide +kernel
theorem dX6_judge_84 : decode cX6_judge 84 = .ok (.laload, 1) := by decide +kernel
theorem dX6_judge_85 : decode cX6_judge 85 = .ok (.aload_n 0, 1) := by decide +kernel
theorem dX6_judge_86 : decode cX6_judge 86 = .ok (.getfield 12, 3) := by decide +kernel
theorem dX6_judge_89 : decode cX6_judge 89 = .ok (.getfield 106, 3) := by decide +kernel
theorem dX6_judge_92 : decode cX6_judge 92 = .ok (.iload 4, 2) := by decide +kernel
theorem dX6_judge_94 : decode cX6_judge 94 = .ok (.iaload, 1) := by decide +kernel
theorem dX6_judge_95 : decode cX6_judge 95 = .ok (.i2l, 1) := by decide +kernel
theorem dX6_judge_96 : decode cX6_judge 96 = .ok (.lcmp, 1) := by decide +kernel
theorem dX6_judge_97 : decode cX6_judge 97 = .ok (.ifCond .eq 6, 3) := by decide +kernel
theorem dX6_judge_100 : decode cX6_judge 100 = .ok (.iload 4, 2) := by decide +kernel
theorem dX6_judge_102 : decode cX6_judge 102 = .ok (.ireturn, 1) := by decide +kernel
theorem dX6_judge_103 : decode cX6_judge 103 = .ok (.iinc 4 1, 3) := by decide +kernel
theorem dX6_judge_106 : decode cX6_judge 106 = .ok (.goto (-67), 3) := by decide +kernel
theorem dX6_judge_109 : decode cX6_judge 109 = .ok (.bipush (-5), 2) := by decide +kernel
theorem dX6_judge_111 : decode cX6_judge 111 = .ok (.ireturn, 1) := by decide +kernel
theorem dX6_image_0 : decode cX6_image 0 = .ok (.aload_n 0, 1) := by decide +kernel
theorem dX6_image_1 : decode cX6_image 1 = .ok (.getfield 18, 3) := by decide +kernel
theorem dX6_image_4 : decode cX6_image 4 = .ok (.aload_n 0, 1) := by decide +kernel
theorem dX6_image_5 : decode cX6_image 5 = .ok (.getfield 12, 3) := by decide +kernel
theorem dX6_image_8 : decode cX6_image 8 = .ok (.invokevirtual 174, 3) := by decide +kernel
theorem dX6_image_11 : decode cX6_image 11 = .ok (.aload_n 0, 1) := by decide +kernel
theorem dX6_image_12 : decode cX6_image 12 = .ok (.iconst 1, 1) := by decide +kernel
theorem dX6_image_13 : decode cX6_image 13 = .ok (.putfield 73, 3) := by decide +kernel
theorem dX6_image_16 : decode cX6_image 16 = .ok (.aload_n 0, 1) := by decide +kernel
theorem dX6_image_17 : decode cX6_image 17 = .ok (.getfield 18, 3) := by decide +kernel
theorem dX6_image_20 : decode cX6_image 20 = .ok (.getfield 82, 3) := by decide +kernel
theorem dX6_image_23 : decode cX6_image 23 = .ok (.ireturn, 1) := by decide +kernel
theorem dX6_undo_0 : decode cX6_undo 0 = .ok (.aload_n 0, 1) := by decide +kernel
theorem dX6_undo_1 : decode cX6_undo 1 = .ok (.getfield 73, 3) := by decide +kernel
theorem dX6_undo_4 : decode cX6_undo 4 = .ok (.ifCond .ne 6, 3) := by decide +kernel
theorem dX6_undo_7 : decode cX6_undo 7 = .ok (.bipush (-3), 2) := by decide +kernel
theorem dX6_undo_9 : decode cX6_undo 9 = .ok (.ireturn, 1) := by decide +kernel
theorem dX6_undo_10 : decode cX6_undo 10 = .ok (.aload_n 0, 1) := by decide +kernel
theorem dX6_undo_11 : decode cX6_undo 11 = .ok (.getfield 12, 3) := by decide +kernel
theorem dX6_undo_14 : decode cX6_undo 14 = .ok (.aload_n 0, 1) := by decide +kernel
theorem dX6_undo_15 : decode cX6_undo 15 = .ok (.getfield 18, 3) := by decide +kernel
theorem dX6_undo_18 : decode cX6_undo 18 = .ok (.invokevirtual 174, 3) := by decide +kernel
theorem dX6_undo_21 : decode cX6_undo 21 = .ok (.aload_n 0, 1) := by decide +kernel
theorem dX6_undo_22 : decode cX6_undo 22 = .ok (.getfield 12, 3) := by decide +kernel
theorem dX6_undo_25 : decode cX6_undo 25 = .ok (.getfield 82, 3) := by decide +kernel
theorem dX6_undo_28 : decode cX6_undo 28 = .ok (.ireturn, 1) := by decide +kernel
theorem dX6_act_0 : decode cX6_act 0 = .ok (.aload_n 0, 1) := by decide +kernel
theorem dX6_act_1 : decode cX6_act 1 = .ok (.getfield 52, 3) := by decide +kernel
theorem dX6_act_4 : decode cX6_act 4 = .ok (.iconst 0, 1) := by decide +kernel
theorem dX6_act_5 : decode cX6_act 5 = .ok (.putfield 278, 3) := by decide +kernel
theorem dX6_act_8 : decode cX6_act 8 = .ok (.aload_n 0, 1) := by decide +kernel
theorem dX6_act_9 : decode cX6_act 9 = .ok (.iload_n 1, 1) := by decide +kernel
theorem dX6_act_10 : decode cX6_act 10 = .ok (.invokevirtual 89, 3) := by decide +kernel
theorem dX6_act_13 : decode cX6_act 13 = .ok (.ifCond .eq 11, 3) := by decide +kernel
theorem dX6_act_16 : decode cX6_act 16 = .ok (.iload_n 2, 1) := by decide +kernel
theorem dX6_act_17 : decode cX6_act 17 = .ok (.iconst 2, 1) := by decide +kernel
theorem dX6_act_18 : decode cX6_act 18 = .ok (.invokestatic 78, 3) := by decide +kernel
theorem dX6_act_21 : decode cX6_act 21 = .ok (.ifCond .ne 5, 3) := by decide +kernel
theorem dX6_act_24 : decode cX6_act 24 = .ok (.iconst 0, 1) := by decide +kernel
theorem dX6_act_25 : decode cX6_act 25 = .ok (.ireturn, 1) := by decide +kernel
theorem dX6_act_26 : decode cX6_act 26 = .ok (.aload_n 0, 1) := by decide +kernel
theorem dX6_act_27 : decode cX6_act 27 = .ok (.getfield 52, 3) := by decide +kernel
theorem dX6_act_30 : decode cX6_act 30 = .ok (.iload_n 2, 1) := by decide +kernel
theorem dX6_act_31 : decode cX6_act 31 = .ok (.iload_n 3, 1) := by decide +kernel
theorem dX6_act_32 : decode cX6_act 32 = .ok (.aload_n 0, 1) := by decide +kernel
theorem dX6_act_33 : decode cX6_act 33 = .ok (.getfield 12, 3) := by decide +kernel
theorem dX6_act_36 : decode cX6_act 36 = .ok (.getfield 94, 3) := by decide +kernel
theorem dX6_act_39 : decode cX6_act 39 = .ok (.iload_n 1, 1) := by decide +kernel
theorem dX6_act_40 : decode cX6_act 40 = .ok (.iaload, 1) := by decide +kernel
theorem dX6_act_41 : decode cX6_act 41 = .ok (.iload_n 1, 1) := by decide +kernel
theorem dX6_act_42 : decode cX6_act 42 = .ok (.aload_n 0, 1) := by decide +kernel
theorem dX6_act_43 : decode cX6_act 43 = .ok (.getfield 12, 3) := by decide +kernel
theorem dX6_act_46 : decode cX6_act 46 = .ok (.getfield 97, 3) := by decide +kernel
theorem dX6_act_49 : decode cX6_act 49 = .ok (.iload_n 1, 1) := by decide +kernel
theorem dX6_act_50 : decode cX6_act 50 = .ok (.iaload, 1) := by decide +kernel
theorem dX6_act_51 : decode cX6_act 51 = .ok (.invokevirtual 281, 3) := by decide +kernel
theorem dX6_act_54 : decode cX6_act 54 = .ok (.ireturn, 1) := by decide +kernel
theorem dX6_trace_0 : decode cX6_trace 0 = .ok (.iload_n 1, 1) := by decide +kernel
theorem dX6_trace_1 : decode cX6_trace 1 = .ok (.aload_n 0, 1) := by decide +kernel
theorem dX6_trace_2 : decode cX6_trace 2 = .ok (.getfield 52, 3) := by decide +kernel
theorem dX6_trace_5 : decode cX6_trace 5 = .ok (.getfield 278, 3) := by decide +kernel
theorem dX6_trace_8 : decode cX6_trace 8 = .ok (.bipush 20, 2) := by decide +kernel
theorem dX6_trace_10 : decode cX6_trace 10 = .ok (.invokestatic 231, 3) := by decide +kernel
theorem dX6_trace_13 : decode cX6_trace 13 = .ok (.iconst 1, 1) := by decide +kernel
theorem dX6_trace_14 : decode cX6_trace 14 = .ok (.isub, 1) := by decide +kernel
theorem dX6_trace_15 : decode cX6_trace 15 = .ok (.invokestatic 78, 3) := by decide +kernel
theorem dX6_trace_18 : decode cX6_trace 18 = .ok (.ifCond .eq 15, 3) := by decide +kernel
theorem dX6_trace_21 : decode cX6_trace 21 = .ok (.aload_n 0, 1) := by decide +kernel
theorem dX6_trace_22 : decode cX6_trace 22 = .ok (.getfield 52, 3) := by decide +kernel
theorem dX6_trace_25 : decode cX6_trace 25 = .ok (.getfield 285, 3) := by decide +kernel
theorem dX6_trace_28 : decode cX6_trace 28 = .ok (.iload_n 1, 1) := by decide +kernel
theorem dX6_trace_29 : decode cX6_trace 29 = .ok (.iaload, 1) := by decide +kernel
theorem dX6_trace_30 : decode cX6_trace 30 = .ok (.goto 4, 3) := by decide +kernel
theorem dX6_trace_33 : decode cX6_trace 33 = .ok (.iconst (-1), 1) := by decide +kernel
theorem dX6_trace_34 : decode cX6_trace 34 = .ok (.ireturn, 1) := by decide +kernel
theorem dX6_taken_0 : decode cX6_taken 0 = .ok (.iload_n 2, 1) := by decide +kernel
theorem dX6_taken_1 : decode cX6_taken 1 = .ok (.bipush 6, 2) := by decide +kernel
theorem dX6_taken_3 : decode cX6_taken 3 = .ok (.invokestatic 78, 3) := by decide +kernel
theorem dX6_taken_6 : decode cX6_taken 6 = .ok (.ifCond .ne 6, 3) := by decide +kernel
theorem dX6_taken_9 : decode cX6_taken 9 = .ok (.bipush (-2), 2) := by decide +kernel
theorem dX6_taken_11 : decode cX6_taken 11 = .ok (.ireturn, 1) := by decide +kernel
theorem dX6_taken_12 : decode cX6_taken 12 = .ok (.aload_n 0, 1) := by decide +kernel
theorem dX6_taken_13 : decode cX6_taken 13 = .ok (.iload_n 1, 1) := by decide +kernel
theorem dX6_taken_14 : decode cX6_taken 14 = .ok (.invokevirtual 89, 3) := by decide +kernel
theorem dX6_taken_17 : decode cX6_taken 17 = .ok (.ifCond .ne 6, 3) := by decide +kernel
theorem dX6_taken_20 : decode cX6_taken 20 = .ok (.bipush (-11), 2) := by decide +kernel
theorem dX6_taken_22 : decode cX6_taken 22 = .ok (.ireturn, 1) := by decide +kernel
theorem dX6_taken_23 : decode cX6_taken 23 = .ok (.aload_n 0, 1) := by decide +kernel
theorem dX6_taken_24 : decode cX6_taken 24 = .ok (.getfield 52, 3) := by decide +kernel
theorem dX6_taken_27 : decode cX6_taken 27 = .ok (.aload_n 0, 1) := by decide +kernel
theorem dX6_taken_28 : decode cX6_taken 28 = .ok (.getfield 12, 3) := by decide +kernel
theorem dX6_taken_31 : decode cX6_taken 31 = .ok (.getfield 94, 3) := by decide +kernel
theorem dX6_taken_34 : decode cX6_taken 34 = .ok (.iload_n 1, 1) := by decide +kernel
theorem dX6_taken_35 : decode cX6_taken 35 = .ok (.iaload, 1) := by decide +kernel
theorem dX6_taken_36 : decode cX6_taken 36 = .ok (.iload_n 2, 1) := by decide +kernel
theorem dX6_taken_37 : decode cX6_taken 37 = .ok (.invokevirtual 288, 3) := by decide +kernel
theorem dX6_taken_40 : decode cX6_taken 40 = .ok (.ifCond .eq 15, 3) := by decide +kernel
theorem dX6_taken_43 : decode cX6_taken 43 = .ok (.aload_n 0, 1) := by decide +kernel
theorem dX6_taken_44 : decode cX6_taken 44 = .ok (.getfield 12, 3) := by decide +kernel
theorem dX6_taken_47 : decode cX6_taken 47 = .ok (.getfield 94, 3) := by decide +kernel
theorem dX6_taken_50 : decode cX6_taken 50 = .ok (.iload_n 1, 1) := by decide +kernel
theorem dX6_taken_51 : decode cX6_taken 51 = .ok (.iaload, 1) := by decide +kernel
theorem dX6_taken_52 : decode cX6_taken 52 = .ok (.goto 5, 3) := by decide +kernel
theorem dX6_taken_55 : decode cX6_taken 55 = .ok (.bipush (-12), 2) := by decide +kernel
theorem dX6_taken_57 : decode cX6_taken 57 = .ok (.ireturn, 1) := by decide +kernel
theorem dX6_count_0 : decode cX6_count 0 = .ok (.iload_n 1, 1) := by decide +kernel
theorem dX6_count_1 : decode cX6_count 1 = .ok (.tableswitch 72 0 4 #[35, 43, 48, 56, 64], 35) := by decide +kernel
theorem dX6_count_36 : decode cX6_count 36 = .ok (.aload_n 0, 1) := by decide +kernel
theorem dX6_count_37 : decode cX6_count 37 = .ok (.getfield 12, 3) := by decide +kernel
theorem dX6_count_40 : decode cX6_count 40 = .ok (.getfield 82, 3) := by decide +kernel
theorem dX6_count_43 : decode cX6_count 43 = .ok (.ireturn, 1) := by decide +kernel
theorem dX6_count_44 : decode cX6_count 44 = .ok (.aload_n 0, 1) := by decide +kernel
theorem dX6_count_45 : decode cX6_count 45 = .ok (.getfield 69, 3) := by decide +kernel
theorem dX6_count_48 : decode cX6_count 48 = .ok (.ireturn, 1) := by decide +kernel
theorem dX6_count_49 : decode cX6_count 49 = .ok (.aload_n 0, 1) := by decide +kernel
theorem dX6_count_50 : decode cX6_count 50 = .ok (.getfield 12, 3) := by decide +kernel
theorem dX6_count_53 : decode cX6_count 53 = .ok (.getfield 262, 3) := by decide +kernel
theorem dX6_count_56 : decode cX6_count 56 = .ok (.ireturn, 1) := by decide +kernel
theorem dX6_count_57 : decode cX6_count 57 = .ok (.aload_n 0, 1) := by decide +kernel
theorem dX6_count_58 : decode cX6_count 58 = .ok (.getfield 45, 3) := by decide +kernel
theorem dX6_count_61 : decode cX6_count 61 = .ok (.getfield 134, 3) := by decide +kernel
theorem dX6_count_64 : decode cX6_count 64 = .ok (.ireturn, 1) := by decide +kernel
theorem dX6_count_65 : decode cX6_count 65 = .ok (.aload_n 0, 1) := by decide +kernel
theorem dX6_count_66 : decode cX6_count 66 = .ok (.getfield 52, 3) := by decide +kernel
theorem dX6_count_69 : decode cX6_count 69 = .ok (.getfield 278, 3) := by decide +kernel
theorem dX6_count_72 : decode cX6_count 72 = .ok (.ireturn, 1) := by decide +kernel
theorem dX6_count_73 : decode cX6_count 73 = .ok (.bipush (-2), 2) := by decide +kernel
theorem dX6_count_75 : decode cX6_count 75 = .ok (.ireturn, 1) := by decide +kernel
theorem dX6_tape_0 : decode cX6_tape 0 = .ok (.iload_n 1, 1) := by decide +kernel
theorem dX6_tape_1 : decode cX6_tape 1 = .ok (.iconst 5, 1) := by decide +kernel
theorem dX6_tape_2 : decode cX6_tape 2 = .ok (.invokestatic 78, 3) := by decide +kernel
theorem dX6_tape_5 : decode cX6_tape 5 = .ok (.ifCond .ne 5, 3) := by decide +kernel
theorem dX6_tape_8 : decode cX6_tape 8 = .ok (.iconst (-1), 1) := by decide +kernel
theorem dX6_tape_9 : decode cX6_tape 9 = .ok (.ireturn, 1) := by decide +kernel
theorem dX6_tape_10 : decode cX6_tape 10 = .ok (.iload_n 2, 1) := by decide +kernel
theorem dX6_tape_11 : decode cX6_tape 11 = .ok (.iconst (-1), 1) := by decide +kernel
theorem dX6_tape_12 : decode cX6_tape 12 = .ok (.if_icmp .lt 18, 3) := by decide +kernel
theorem dX6_tape_15 : decode cX6_tape 15 = .ok (.iload_n 2, 1) := by decide +kernel
theorem dX6_tape_16 : decode cX6_tape 16 = .ok (.iconst 4, 1) := by decide +kernel
theorem dX6_tape_17 : decode cX6_tape 17 = .ok (.if_icmp .gt 13, 3) := by decide +kernel
theorem dX6_tape_20 : decode cX6_tape 20 = .ok (.iload_n 2, 1) := by decide +kernel
theorem dX6_tape_21 : decode cX6_tape 21 = .ok (.ifCond .lt 12, 3) := by decide +kernel
theorem dX6_tape_24 : decode cX6_tape 24 = .ok (.iload_n 3, 1) := by decide +kernel
theorem dX6_tape_25 : decode cX6_tape 25 = .ok (.bipush 60, 2) := by decide +kernel
theorem dX6_tape_27 : decode cX6_tape 27 = .ok (.if_icmp .le 6, 3) := by decide +kernel
theorem dX6_tape_30 : decode cX6_tape 30 = .ok (.bipush (-2), 2) := by decide +kernel
theorem dX6_tape_32 : decode cX6_tape 32 = .ok (.ireturn, 1) := by decide +kernel
theorem dX6_tape_33 : decode cX6_tape 33 = .ok (.iload_n 2, 1) := by decide +kernel
theorem dX6_tape_34 : decode cX6_tape 34 = .ok (.ifCond .lt 10, 3) := by decide +kernel
theorem dX6_tape_37 : decode cX6_tape 37 = .ok (.iload_n 3, 1) := by decide +kernel
theorem dX6_tape_38 : decode cX6_tape 38 = .ok (.ifCond .ge 6, 3) := by decide +kernel
theorem dX6_tape_41 : decode cX6_tape 41 = .ok (.bipush (-14), 2) := by decide +kernel
theorem dX6_tape_43 : decode cX6_tape 43 = .ok (.ireturn, 1) := by decide +kernel
theorem dX6_tape_44 : decode cX6_tape 44 = .ok (.aload_n 0, 1) := by decide +kernel
theorem dX6_tape_45 : decode cX6_tape 45 = .ok (.getfield 58, 3) := by decide +kernel
theorem dX6_tape_48 : decode cX6_tape 48 = .ok (.iload_n 1, 1) := by decide +kernel
theorem dX6_tape_49 : decode cX6_tape 49 = .ok (.aaload, 1) := by decide +kernel
theorem dX6_tape_50 : decode cX6_tape 50 = .ok (.iload_n 2, 1) := by decide +kernel
theorem dX6_tape_51 : decode cX6_tape 51 = .ok (.iload_n 2, 1) := by decide +kernel
theorem dX6_tape_52 : decode cX6_tape 52 = .ok (.ifCond .lt 7, 3) := by decide +kernel
theorem dX6_tape_55 : decode cX6_tape 55 = .ok (.iload_n 3, 1) := by decide +kernel
theorem dX6_tape_56 : decode cX6_tape 56 = .ok (.goto 4, 3) := by decide +kernel
theorem dX6_tape_59 : decode cX6_tape 59 = .ok (.iconst 0, 1) := by decide +kernel
theorem dX6_tape_60 : decode cX6_tape 60 = .ok (.invokevirtual 291, 3) := by decide +kernel
theorem dX6_tape_63 : decode cX6_tape 63 = .ok (.iconst 1, 1) := by decide +kernel
theorem dX6_tape_64 : decode cX6_tape 64 = .ok (.ireturn, 1) := by decide +kernel
theorem dX6_item_0 : decode cX6_item 0 = .ok (.iload_n 1, 1) := by decide +kernel
theorem dX6_item_1 : decode cX6_item 1 = .ok (.iconst 5, 1) := by decide +kernel
theorem dX6_item_2 : decode cX6_item 2 = .ok (.invokestatic 78, 3) := by decide +kernel
theorem dX6_item_5 : decode cX6_item 5 = .ok (.ifCond .ne 5, 3) := by decide +kernel
theorem dX6_item_8 : decode cX6_item 8 = .ok (.iconst (-1), 1) := by decide +kernel
theorem dX6_item_9 : decode cX6_item 9 = .ok (.ireturn, 1) := by decide +kernel
theorem dX6_item_10 : decode cX6_item 10 = .ok (.aload_n 0, 1) := by decide +kernel
theorem dX6_item_11 : decode cX6_item 11 = .ok (.getfield 58, 3) := by decide +kernel
theorem dX6_item_14 : decode cX6_item 14 = .ok (.iload_n 1, 1) := by decide +kernel
theorem dX6_item_15 : decode cX6_item 15 = .ok (.aaload, 1) := by decide +kernel
theorem dX6_item_16 : decode cX6_item 16 = .ok (.getfield 268, 3) := by decide +kernel
theorem dX6_item_19 : decode cX6_item 19 = .ok (.iconst (-1), 1) := by decide +kernel
theorem dX6_item_20 : decode cX6_item 20 = .ok (.if_icmp .ne 6, 3) := by decide +kernel
theorem dX6_item_23 : decode cX6_item 23 = .ok (.bipush (-11), 2) := by decide +kernel
theorem dX6_item_25 : decode cX6_item 25 = .ok (.ireturn, 1) := by decide +kernel
theorem dX6_item_26 : decode cX6_item 26 = .ok (.aload_n 0, 1) := by decide +kernel
theorem dX6_item_27 : decode cX6_item 27 = .ok (.getfield 58, 3) := by decide +kernel
theorem dX6_item_30 : decode cX6_item 30 = .ok (.iload_n 1, 1) := by decide +kernel
theorem dX6_item_31 : decode cX6_item 31 = .ok (.aaload, 1) := by decide +kernel
theorem dX6_item_32 : decode cX6_item 32 = .ok (.iload_n 2, 1) := by decide +kernel
theorem dX6_item_33 : decode cX6_item 33 = .ok (.invokevirtual 272, 3) := by decide +kernel
theorem dX6_item_36 : decode cX6_item 36 = .ok (.ifCond .ne 6, 3) := by decide +kernel
theorem dX6_item_39 : decode cX6_item 39 = .ok (.bipush (-13), 2) := by decide +kernel
theorem dX6_item_41 : decode cX6_item 41 = .ok (.ireturn, 1) := by decide +kernel
theorem dX6_item_42 : decode cX6_item 42 = .ok (.aload_n 0, 1) := by decide +kernel
theorem dX6_item_43 : decode cX6_item 43 = .ok (.getfield 58, 3) := by decide +kernel
theorem dX6_item_46 : decode cX6_item 46 = .ok (.iload_n 1, 1) := by decide +kernel
theorem dX6_item_47 : decode cX6_item 47 = .ok (.aaload, 1) := by decide +kernel
theorem dX6_item_48 : decode cX6_item 48 = .ok (.iload_n 2, 1) := by decide +kernel
theorem dX6_item_49 : decode cX6_item 49 = .ok (.lload_n 3, 1) := by decide +kernel
theorem dX6_item_50 : decode cX6_item 50 = .ok (.invokevirtual 294, 3) := by decide +kernel
theorem dX6_item_53 : decode cX6_item 53 = .ok (.iconst 1, 1) := by decide +kernel
theorem dX6_item_54 : decode cX6_item 54 = .ok (.ireturn, 1) := by decide +kernel
theorem dX6_read_0 : decode cX6_read 0 = .ok (.iload_n 1, 1) := by decide +kernel
theorem dX6_read_1 : decode cX6_read 1 = .ok (.iconst 5, 1) := by decide +kernel
theorem dX6_read_2 : decode cX6_read 2 = .ok (.invokestatic 78, 3) := by decide +kernel
theorem dX6_read_5 : decode cX6_read 5 = .ok (.ifCond .eq 16, 3) := by decide +kernel
theorem dX6_read_8 : decode cX6_read 8 = .ok (.aload_n 0, 1) := by decide +kernel
theorem dX6_read_9 : decode cX6_read 9 = .ok (.getfield 58, 3) := by decide +kernel
theorem dX6_read_12 : decode cX6_read 12 = .ok (.iload_n 1, 1) := by decide +kernel
theorem dX6_read_13 : decode cX6_read 13 = .ok (.aaload, 1) := by decide +kernel
theorem dX6_read_14 : decode cX6_read 14 = .ok (.iload_n 2, 1) := by decide +kernel
theorem dX6_read_15 : decode cX6_read 15 = .ok (.invokevirtual 272, 3) := by decide +kernel
theorem dX6_read_18 : decode cX6_read 18 = .ok (.ifCond .ne 7, 3) := by decide +kernel
theorem dX6_read_21 : decode cX6_read 21 = .ok (.ldc2_w 243, 3) := by decide +kernel
theorem dX6_read_24 : decode cX6_read 24 = .ok (.lreturn, 1) := by decide +kernel
theorem dX6_read_25 : decode cX6_read 25 = .ok (.aload_n 0, 1) := by decide +kernel
theorem dX6_read_26 : decode cX6_read 26 = .ok (.getfield 58, 3) := by decide +kernel
theorem dX6_read_29 : decode cX6_read 29 = .ok (.iload_n 1, 1) := by decide +kernel
theorem dX6_read_30 : decode cX6_read 30 = .ok (.aaload, 1) := by decide +kernel
theorem dX6_read_31 : decode cX6_read 31 = .ok (.getfield 274, 3) := by decide +kernel
theorem dX6_read_34 : decode cX6_read 34 = .ok (.iload_n 2, 1) := by decide +kernel
theorem dX6_read_35 : decode cX6_read 35 = .ok (.laload, 1) := by decide +kernel
theorem dX6_read_36 : decode cX6_read 36 = .ok (.lreturn, 1) := by decide +kernel
theorem dX6_shift_0 : decode cX6_shift 0 = .ok (.iload_n 1, 1) := by decide +kernel
theorem dX6_shift_1 : decode cX6_shift 1 = .ok (.iconst 5, 1) := by decide +kernel
theorem dX6_shift_2 : decode cX6_shift 2 = .ok (.invokestatic 78, 3) := by decide +kernel
theorem dX6_shift_5 : decode cX6_shift 5 = .ok (.ifCond .eq 11, 3) := by decide +kernel
theorem dX6_shift_8 : decode cX6_shift 8 = .ok (.iload_n 3, 1) := by decide +kernel
theorem dX6_shift_9 : decode cX6_shift 9 = .ok (.iconst 5, 1) := by decide +kernel
theorem dX6_shift_10 : decode cX6_shift 10 = .ok (.invokestatic 78, 3) := by decide +kernel
theorem dX6_shift_13 : decode cX6_shift 13 = .ok (.ifCond .ne 5, 3) := by decide +kernel
theorem dX6_shift_16 : decode cX6_shift 16 = .ok (.iconst (-1), 1) := by decide +kernel
theorem dX6_shift_17 : decode cX6_shift 17 = .ok (.ireturn, 1) := by decide +kernel
theorem dX6_shift_18 : decode cX6_shift 18 = .ok (.aload_n 0, 1) := by decide +kernel
theorem dX6_shift_19 : decode cX6_shift 19 = .ok (.getfield 58, 3) := by decide +kernel
theorem dX6_shift_22 : decode cX6_shift 22 = .ok (.iload_n 1, 1) := by decide +kernel
theorem dX6_shift_23 : decode cX6_shift 23 = .ok (.aaload, 1) := by decide +kernel
theorem dX6_shift_24 : decode cX6_shift 24 = .ok (.astore 6, 2) := by decide +kernel
theorem dX6_shift_26 : decode cX6_shift 26 = .ok (.aload_n 0, 1) := by decide +kernel
theorem dX6_shift_27 : decode cX6_shift 27 = .ok (.getfield 58, 3) := by decide +kernel
theorem dX6_shift_30 : decode cX6_shift 30 = .ok (.iload_n 3, 1) := by decide +kernel
theorem dX6_shift_31 : decode cX6_shift 31 = .ok (.aaload, 1) := by decide +kernel
theorem dX6_shift_32 : decode cX6_shift 32 = .ok (.astore 7, 2) := by decide +kernel
theorem dX6_shift_34 : decode cX6_shift 34 = .ok (.aload 6, 2) := by decide +kernel
theorem dX6_shift_36 : decode cX6_shift 36 = .ok (.getfield 268, 3) := by decide +kernel
theorem dX6_shift_39 : decode cX6_shift 39 = .ok (.iconst (-1), 1) := by decide +kernel
theorem dX6_shift_40 : decode cX6_shift 40 = .ok (.if_icmp .eq 12, 3) := by decide +kernel
theorem dX6_shift_43 : decode cX6_shift 43 = .ok (.aload 7, 2) := by decide +kernel
theorem dX6_shift_45 : decode cX6_shift 45 = .ok (.getfield 268, 3) := by decide +kernel
theorem dX6_shift_48 : decode cX6_shift 48 = .ok (.iconst (-1), 1) := by decide +kernel
theorem dX6_shift_49 : decode cX6_shift 49 = .ok (.if_icmp .ne 6, 3) := by decide +kernel
theorem dX6_shift_52 : decode cX6_shift 52 = .ok (.bipush (-11), 2) := by decide +kernel
theorem dX6_shift_54 : decode cX6_shift 54 = .ok (.ireturn, 1) := by decide +kernel
theorem dX6_shift_55 : decode cX6_shift 55 = .ok (.aload 6, 2) := by decide +kernel
theorem dX6_shift_57 : decode cX6_shift 57 = .ok (.getfield 268, 3) := by decide +kernel
theorem dX6_shift_60 : decode cX6_shift 60 = .ok (.aload 7, 2) := by decide +kernel
theorem dX6_shift_62 : decode cX6_shift 62 = .ok (.getfield 268, 3) := by decide +kernel
theorem dX6_shift_65 : decode cX6_shift 65 = .ok (.if_icmp .eq 6, 3) := by decide +kernel
theorem dX6_shift_68 : decode cX6_shift 68 = .ok (.bipush (-12), 2) := by decide +kernel
theorem dX6_shift_70 : decode cX6_shift 70 = .ok (.ireturn, 1) := by decide +kernel
theorem dX6_shift_71 : decode cX6_shift 71 = .ok (.aload 6, 2) := by decide +kernel
theorem dX6_shift_73 : decode cX6_shift 73 = .ok (.iload_n 2, 1) := by decide +kernel
theorem dX6_shift_74 : decode cX6_shift 74 = .ok (.iload 5, 2) := by decide +kernel
theorem dX6_shift_76 : decode cX6_shift 76 = .ok (.invokevirtual 298, 3) := by decide +kernel
theorem dX6_shift_79 : decode cX6_shift 79 = .ok (.ifCond .eq 15, 3) := by decide +kernel
theorem dX6_shift_82 : decode cX6_shift 82 = .ok (.aload 7, 2) := by decide +kernel
theorem dX6_shift_84 : decode cX6_shift 84 = .ok (.iload 4, 2) := by decide +kernel
theorem dX6_shift_86 : decode cX6_shift 86 = .ok (.iload 5, 2) := by decide +kernel
theorem dX6_shift_88 : decode cX6_shift 88 = .ok (.invokevirtual 298, 3) := by decide +kernel
theorem dX6_shift_91 : decode cX6_shift 91 = .ok (.ifCond .ne 6, 3) := by decide +kernel
theorem dX6_shift_94 : decode cX6_shift 94 = .ok (.bipush (-13), 2) := by decide +kernel
theorem dX6_shift_96 : decode cX6_shift 96 = .ok (.ireturn, 1) := by decide +kernel
theorem dX6_shift_97 : decode cX6_shift 97 = .ok (.aload 6, 2) := by decide +kernel
theorem dX6_shift_99 : decode cX6_shift 99 = .ok (.getfield 274, 3) := by decide +kernel
theorem dX6_shift_102 : decode cX6_shift 102 = .ok (.iload_n 2, 1) := by decide +kernel
theorem dX6_shift_103 : decode cX6_shift 103 = .ok (.aload 7, 2) := by decide +kernel
theorem dX6_shift_105 : decode cX6_shift 105 = .ok (.getfield 274, 3) := by decide +kernel
theorem dX6_shift_108 : decode cX6_shift 108 = .ok (.iload 4, 2) := by decide +kernel
theorem dX6_shift_110 : decode cX6_shift 110 = .ok (.iload 5, 2) := by decide +kernel
theorem dX6_shift_112 : decode cX6_shift 112 = .ok (.invokestatic 204, 3) := by decide +kernel
theorem dX6_shift_115 : decode cX6_shift 115 = .ok (.iload 5, 2) := by decide +kernel
theorem dX6_shift_117 : decode cX6_shift 117 = .ok (.ireturn, 1) := by decide +kernel
theorem dX6_within_0 : decode cX6_within 0 = .ok (.iload_n 0, 1) := by decide +kernel
theorem dX6_within_1 : decode cX6_within 1 = .ok (.ifCond .lt 12, 3) := by decide +kernel
theorem dX6_within_4 : decode cX6_within 4 = .ok (.iload_n 0, 1) := by decide +kernel
theorem dX6_within_5 : decode cX6_within 5 = .ok (.iload_n 1, 1) := by decide +kernel
theorem dX6_within_6 : decode cX6_within 6 = .ok (.if_icmp .gt 7, 3) := by decide +kernel
theorem dX6_within_9 : decode cX6_within 9 = .ok (.iconst 1, 1) := by decide +kernel
theorem dX6_within_10 : decode cX6_within 10 = .ok (.goto 4, 3) := by decide +kernel
theorem dX6_within_13 : decode cX6_within 13 = .ok (.iconst 0, 1) := by decide +kernel
theorem dX6_within_14 : decode cX6_within 14 = .ok (.ireturn, 1) := by decide +kernel
theorem dX6_isEater_0 : decode cX6_isEater 0 = .ok (.iload_n 1, 1) := by decide +kernel
theorem dX6_isEater_1 : decode cX6_isEater 1 = .ok (.ifCond .lt 18, 3) := by decide +kernel
theorem dX6_isEater_4 : decode cX6_isEater 4 = .ok (.iload_n 1, 1) := by decide +kernel
theorem dX6_isEater_5 : decode cX6_isEater 5 = .ok (.aload_n 0, 1) := by decide +kernel
theorem dX6_isEater_6 : decode cX6_isEater 6 = .ok (.getfield 12, 3) := by decide +kernel
theorem dX6_isEater_9 : decode cX6_isEater 9 = .ok (.getfield 82, 3) := by decide +kernel
theorem dX6_isEater_12 : decode cX6_isEater 12 = .ok (.if_icmp .ge 7, 3) := by decide +kernel
theorem dX6_isEater_15 : decode cX6_isEater 15 = .ok (.iconst 1, 1) := by decide +kernel
theorem dX6_isEater_16 : decode cX6_isEater 16 = .ok (.goto 4, 3) := by decide +kernel
theorem dX6_isEater_19 : decode cX6_isEater 19 = .ok (.iconst 0, 1) := by decide +kernel
theorem dX6_isEater_20 : decode cX6_isEater 20 = .ok (.ireturn, 1) := by decide +kernel
theorem dX6_holding_0 : decode cX6_holding 0 = .ok (.aload_n 0, 1) := by decide +kernel
theorem dX6_holding_1 : decode cX6_holding 1 = .ok (.getfield 12, 3) := by decide +kernel
theorem dX6_holding_4 : decode cX6_holding 4 = .ok (.getfield 145, 3) := by decide +kernel
theorem dX6_holding_7 : decode cX6_holding 7 = .ok (.aload_n 0, 1) := by decide +kernel
theorem dX6_holding_8 : decode cX6_holding 8 = .ok (.getfield 69, 3) := by decide +kernel
theorem dX6_holding_11 : decode cX6_holding 11 = .ok (.iconst 1, 1) := by decide +kernel
theorem dX6_holding_12 : decode cX6_holding 12 = .ok (.isub, 1) := by decide +kernel
theorem dX6_holding_13 : decode cX6_holding 13 = .ok (.invokestatic 78, 3) := by decide +kernel
theorem dX6_holding_16 : decode cX6_holding 16 = .ok (.ifCond .eq 18, 3) := by decide +kernel
theorem dX6_holding_19 : decode cX6_holding 19 = .ok (.aload_n 0, 1) := by decide +kernel
theorem dX6_holding_20 : decode cX6_holding 20 = .ok (.getfield 31, 3) := by decide +kernel
theorem dX6_holding_23 : decode cX6_holding 23 = .ok (.aload_n 0, 1) := by decide +kernel
theorem dX6_holding_24 : decode cX6_holding 24 = .ok (.getfield 12, 3) := by decide +kernel
theorem dX6_holding_27 : decode cX6_holding 27 = .ok (.getfield 145, 3) := by decide +kernel
theorem dX6_holding_30 : decode cX6_holding 30 = .ok (.aaload, 1) := by decide +kernel
theorem dX6_holding_31 : decode cX6_holding 31 = .ok (.goto 7, 3) := by decide +kernel
theorem dX6_holding_34 : decode cX6_holding 34 = .ok (.aload_n 0, 1) := by decide +kernel
theorem dX6_holding_35 : decode cX6_holding 35 = .ok (.getfield 27, 3) := by decide +kernel
theorem dX6_holding_38 : decode cX6_holding 38 = .ok (.areturn, 1) := by decide +kernel
theorem dX6_ahead_0 : decode cX6_ahead 0 = .ok (.aload_n 0, 1) := by decide +kernel
theorem dX6_ahead_1 : decode cX6_ahead 1 = .ok (.getfield 21, 3) := by decide +kernel
theorem dX6_ahead_4 : decode cX6_ahead 4 = .ok (.aload_n 0, 1) := by decide +kernel
theorem dX6_ahead_5 : decode cX6_ahead 5 = .ok (.getfield 12, 3) := by decide +kernel
theorem dX6_ahead_8 : decode cX6_ahead 8 = .ok (.invokevirtual 174, 3) := by decide +kernel
theorem dX6_ahead_11 : decode cX6_ahead 11 = .ok (.iconst 0, 1) := by decide +kernel
theorem dX6_ahead_12 : decode cX6_ahead 12 = .ok (.istore_n 2, 1) := by decide +kernel
theorem dX6_ahead_13 : decode cX6_ahead 13 = .ok (.iload_n 2, 1) := by decide +kernel
theorem dX6_ahead_14 : decode cX6_ahead 14 = .ok (.iload_n 1, 1) := by decide +kernel
theorem dX6_ahead_15 : decode cX6_ahead 15 = .ok (.if_icmp .ge 24, 3) := by decide +kernel
theorem dX6_ahead_18 : decode cX6_ahead 18 = .ok (.aload_n 0, 1) := by decide +kernel
theorem dX6_ahead_19 : decode cX6_ahead 19 = .ok (.getfield 38, 3) := by decide +kernel
theorem dX6_ahead_22 : decode cX6_ahead 22 = .ok (.aload_n 0, 1) := by decide +kernel
theorem dX6_ahead_23 : decode cX6_ahead 23 = .ok (.getfield 21, 3) := by decide +kernel
theorem dX6_ahead_26 : decode cX6_ahead 26 = .ok (.aload_n 0, 1) := by decide +kernel
theorem dX6_ahead_27 : decode cX6_ahead 27 = .ok (.invokevirtual 113, 3) := by decide +kernel
theorem dX6_ahead_30 : decode cX6_ahead 30 = .ok (.invokevirtual 163, 3) := by decide +kernel
theorem dX6_ahead_33 : decode cX6_ahead 33 = .ok (.iinc 2 1, 3) := by decide +kernel
theorem dX6_ahead_36 : decode cX6_ahead 36 = .ok (.goto (-23), 3) := by decide +kernel
theorem dX6_ahead_39 : decode cX6_ahead 39 = .ok (.return_, 1) := by decide +kernel
theorem dX7_init_0 : decode cX7_init 0 = .ok (.aload_n 0, 1) := by decide +kernel
theorem dX7_init_1 : decode cX7_init 1 = .ok (.invokespecial 1, 3) := by decide +kernel
theorem dX7_init_4 : decode cX7_init 4 = .ok (.aload_n 0, 1) := by decide +kernel
theorem dX7_init_5 : decode cX7_init 5 = .ok (.iconst 0, 1) := by decide +kernel
theorem dX7_init_6 : decode cX7_init 6 = .ok (.putfield 7, 3) := by decide +kernel
theorem dX7_init_9 : decode cX7_init 9 = .ok (.aload_n 0, 1) := by decide +kernel
theorem dX7_init_10 : decode cX7_init 10 = .ok (.bipush 20, 2) := by decide +kernel
theorem dX7_init_12 : decode cX7_init 12 = .ok (.putfield 13, 3) := by decide +kernel
theorem dX7_init_15 : decode cX7_init 15 = .ok (.aload_n 0, 1) := by decide +kernel
theorem dX7_init_16 : decode cX7_init 16 = .ok (.iconst 0, 1) := by decide +kernel
theorem dX7_init_17 : decode cX7_init 17 = .ok (.putfield 16, 3) := by decide +kernel
theorem dX7_init_20 : decode cX7_init 20 = .ok (.aload_n 0, 1) := by decide +kernel
theorem dX7_init_21 : decode cX7_init 21 = .ok (.iconst (-1), 1) := by decide +kernel
theorem dX7_init_22 : decode cX7_init 22 = .ok (.putfield 19, 3) := by decide +kernel
theorem dX7_init_25 : decode cX7_init 25 = .ok (.aload_n 0, 1) := by decide +kernel
theorem dX7_init_26 : decode cX7_init 26 = .ok (.bipush 6, 2) := by decide +kernel
theorem dX7_init_28 : decode cX7_init 28 = .ok (.newarray .int, 2) := by decide +kernel
theorem dX7_init_30 : decode cX7_init 30 = .ok (.putfield 22, 3) := by decide +kernel
theorem dX7_init_33 : decode cX7_init 33 = .ok (.aload_n 0, 1) := by decide +kernel
theorem dX7_init_34 : decode cX7_init 34 = .ok (.bipush 6, 2) := by decide +kernel
theorem dX7_init_36 : decode cX7_init 36 = .ok (.newarray .int, 2) := by decide +kernel
theorem dX7_init_38 : decode cX7_init 38 = .ok (.putfield 26, 3) := by decide +kernel
theorem dX7_init_41 : decode cX7_init 41 = .ok (.aload_n 0, 1) := by decide +kernel
theorem dX7_init_42 : decode cX7_init 42 = .ok (.bipush 6, 2) := by decide +kernel
theorem dX7_init_44 : decode cX7_init 44 = .ok (.newarray .int, 2) := by decide +kernel
theorem dX7_init_46 : decode cX7_init 46 = .ok (.putfield 29, 3) := by decide +kernel
theorem dX7_init_49 : decode cX7_init 49 = .ok (.aload_n 0, 1) := by decide +kernel
theorem dX7_init_50 : decode cX7_init 50 = .ok (.bipush 6, 2) := by decide +kernel
theorem dX7_init_52 : decode cX7_init 52 = .ok (.newarray .int, 2) := by decide +kernel
theorem dX7_init_54 : decode cX7_init 54 = .ok (.putfield 32, 3) := by decide +kernel
theorem dX7_init_57 : decode cX7_init 57 = .ok (.aload_n 0, 1) := by decide +kernel
theorem dX7_init_58 : decode cX7_init 58 = .ok (.bipush 6, 2) := by decide +kernel
theorem dX7_init_60 : decode cX7_init 60 = .ok (.newarray .int, 2) := by decide +kernel
theorem dX7_init_62 : decode cX7_init 62 = .ok (.putfield 35, 3) := by decide +kernel
theorem dX7_init_65 : decode cX7_init 65 = .ok (.aload_n 0, 1) := by decide +kernel
theorem dX7_init_66 : decode cX7_init 66 = .ok (.bipush 24, 2) := by decide +kernel
theorem dX7_init_68 : decode cX7_init 68 = .ok (.newarray .int, 2) := by decide +kernel
theorem dX7_init_70 : decode cX7_init 70 = .ok (.putfield 38, 3) := by decide +kernel
theorem dX7_init_73 : decode cX7_init 73 = .ok (.aload_n 0, 1) := by decide +kernel
theorem dX7_init_74 : decode cX7_init 74 = .ok (.iconst 0, 1) := by decide +kernel
theorem dX7_init_75 : decode cX7_init 75 = .ok (.putfield 41, 3) := by decide +kernel
theorem dX7_init_78 : decode cX7_init 78 = .ok (.aload_n 0, 1) := by decide +kernel
theorem dX7_init_79 : decode cX7_init 79 = .ok (.iconst (-1), 1) := by decide +kernel
theorem dX7_init_80 : decode cX7_init 80 = .ok (.putfield 44, 3) := by decide +kernel
theorem dX7_init_83 : decode cX7_init 83 = .ok (.aload_n 0, 1) := by decide +kernel
theorem dX7_init_84 : decode cX7_init 84 = .ok (.iconst 0, 1) := by decide +kernel
theorem dX7_init_85 : decode cX7_init 85 = .ok (.putfield 47, 3) := by decide +kernel
theorem dX7_init_88 : decode cX7_init 88 = .ok (.aload_n 0, 1) := by decide +kernel
theorem dX7_init_89 : decode cX7_init 89 = .ok (.iconst 0, 1) := by decide +kernel
theorem dX7_init_90 : decode cX7_init 90 = .ok (.putfield 50, 3) := by decide +kernel
theorem dX7_init_93 : decode cX7_init 93 = .ok (.aload_n 0, 1) := by decide +kernel
theorem dX7_init_94 : decode cX7_init 94 = .ok (.iconst 0, 1) := by decide +kernel
theorem dX7_init_95 : decode cX7_init 95 = .ok (.putfield 53, 3) := by decide +kernel
theorem dX7_init_98 : decode cX7_init 98 = .ok (.aload_n 0, 1) := by decide +kernel
theorem dX7_init_99 : decode cX7_init 99 = .ok (.bipush 100, 2) := by decide +kernel
theorem dX7_init_101 : decode cX7_init 101 = .ok (.newarray .int, 2) := by decide +kernel
theorem dX7_init_103 : decode cX7_init 103 = .ok (.putfield 56, 3) := by decide +kernel
theorem dX7_init_106 : decode cX7_init 106 = .ok (.aload_n 0, 1) := by decide +kernel
theorem dX7_init_107 : decode cX7_init 107 = .ok (.bipush 6, 2) := by decide +kernel
theorem dX7_init_109 : decode cX7_init 109 = .ok (.newarray .int, 2) := by decide +kernel
theorem dX7_init_111 : decode cX7_init 111 = .ok (.putfield 59, 3) := by decide +kernel
theorem dX7_init_114 : decode cX7_init 114 = .ok (.aload_n 0, 1) := by decide +kernel
theorem dX7_init_115 : decode cX7_init 115 = .ok (.bipush 60, 2) := by decide +kernel
theorem dX7_init_117 : decode cX7_init 117 = .ok (.newarray .int, 2) := by decide +kernel
theorem dX7_init_119 : decode cX7_init 119 = .ok (.putfield 62, 3) := by decide +kernel
theorem dX7_init_122 : decode cX7_init 122 = .ok (.aload_n 0, 1) := by decide +kernel
theorem dX7_init_123 : decode cX7_init 123 = .ok (.bipush 60, 2) := by decide +kernel
theorem dX7_init_125 : decode cX7_init 125 = .ok (.newarray .int, 2) := by decide +kernel
theorem dX7_init_127 : decode cX7_init 127 = .ok (.putfield 65, 3) := by decide +kernel
theorem dX7_init_130 : decode cX7_init 130 = .ok (.aload_n 0, 1) := by decide +kernel
theorem dX7_init_131 : decode cX7_init 131 = .ok (.bipush 60, 2) := by decide +kernel
theorem dX7_init_133 : decode cX7_init 133 = .ok (.newarray .int, 2) := by decide +kernel
theorem dX7_init_135 : decode cX7_init 135 = .ok (.putfield 68, 3) := by decide +kernel
theorem dX7_init_138 : decode cX7_init 138 = .ok (.aload_n 0, 1) := by decide +kernel
theorem dX7_init_139 : decode cX7_init 139 = .ok (.bipush 60, 2) := by decide +kernel
theorem dX7_init_141 : decode cX7_init 141 = .ok (.newarray .int, 2) := by decide +kernel
theorem dX7_init_143 : decode cX7_init 143 = .ok (.putfield 71, 3) := by decide +kernel
theorem dX7_init_146 : decode cX7_init 146 = .ok (.aload_n 0, 1) := by decide +kernel
theorem dX7_init_147 : decode cX7_init 147 = .ok (.sipush 600, 3) := by decide +kernel
theorem dX7_init_150 : decode cX7_init 150 = .ok (.newarray .int, 2) := by decide +kernel
theorem dX7_init_152 : decode cX7_init 152 = .ok (.putfield 74, 3) := by decide +kernel
theorem dX7_init_155 : decode cX7_init 155 = .ok (.aload_n 0, 1) := by decide +kernel
theorem dX7_init_156 : decode cX7_init 156 = .ok (.bipush 101, 2) := by decide +kernel
theorem dX7_init_158 : decode cX7_init 158 = .ok (.newarray .int, 2) := by decide +kernel
theorem dX7_init_160 : decode cX7_init 160 = .ok (.putfield 77, 3) := by decide +kernel
theorem dX7_init_163 : decode cX7_init 163 = .ok (.aload_n 0, 1) := by decide +kernel
theorem dX7_init_164 : decode cX7_init 164 = .ok (.iconst 0, 1) := by decide +kernel
theorem dX7_init_165 : decode cX7_init 165 = .ok (.putfield 80, 3) := by decide +kernel
theorem dX7_init_168 : decode cX7_init 168 = .ok (.aload_n 0, 1) := by decide +kernel
theorem dX7_init_169 : decode cX7_init 169 = .ok (.iconst 0, 1) := by decide +kernel
theorem dX7_init_170 : decode cX7_init 170 = .ok (.putfield 83, 3) := by decide +kernel
theorem dX7_init_173 : decode cX7_init 173 = .ok (.aload_n 0, 1) := by decide +kernel
theorem dX7_init_174 : decode cX7_init 174 = .ok (.iconst 0, 1) := by decide +kernel
theorem dX7_init_175 : decode cX7_init 175 = .ok (.putfield 86, 3) := by decide +kernel
theorem dX7_init_178 : decode cX7_init 178 = .ok (.aload_n 0, 1) := by decide +kernel
theorem dX7_init_179 : decode cX7_init 179 = .ok (.bipush 21, 2) := by decide +kernel
theorem dX7_init_181 : decode cX7_init 181 = .ok (.newarray .int, 2) := by decide +kernel
theorem dX7_init_183 : decode cX7_init 183 = .ok (.dup, 1) := by decide +kernel
theorem dX7_init_184 : decode cX7_init 184 = .ok (.iconst 0, 1) := by decide +kernel
theorem dX7_init_185 : decode cX7_init 185 = .ok (.bipush 119, 2) := by decide +kernel
theorem dX7_init_187 : decode cX7_init 187 = .ok (.iastore, 1) := by decide +kernel
theorem dX7_init_188 : decode cX7_init 188 = .ok (.dup, 1) := by decide +kernel
theorem dX7_init_189 : decode cX7_init 189 = .ok (.iconst 1, 1) := by decide +kernel
theorem dX7_init_190 : decode cX7_init 190 = .ok (.bipush 111, 2) := by decide +kernel
theorem dX7_init_192 : decode cX7_init 192 = .ok (.iastore, 1) := by decide +kernel
theorem dX7_init_193 : decode cX7_init 193 = .ok (.dup, 1) := by decide +kernel
theorem dX7_init_194 : decode cX7_init 194 = .ok (.iconst 2, 1) := by decide +kernel
theorem dX7_init_195 : decode cX7_init 195 = .ok (.bipush 114, 2) := by decide +kernel
theorem dX7_init_197 : decode cX7_init 197 = .ok (.iastore, 1) := by decide +kernel
theorem dX7_init_198 : decode cX7_init 198 = .ok (.dup, 1) := by decide +kernel
theorem dX7_init_199 : decode cX7_init 199 = .ok (.iconst 3, 1) := by decide +kernel
theorem dX7_init_200 : decode cX7_init 200 = .ok (.bipush 116, 2) := by decide +kernel
theorem dX7_init_202 : decode cX7_init 202 = .ok (.iastore, 1) := by decide +kernel
theorem dX7_init_203 : decode cX7_init 203 = .ok (.dup, 1) := by decide +kernel
theorem dX7_init_204 : decode cX7_init 204 = .ok (.iconst 4, 1) := by decide +kernel
theorem dX7_init_205 : decode cX7_init 205 = .ok (.bipush 104, 2) := by decide +kernel
theorem dX7_init_207 : decode cX7_init 207 = .ok (.iastore, 1) := by decide +kernel
theorem dX7_init_208 : decode cX7_init 208 = .ok (.dup, 1) := by decide +kernel
theorem dX7_init_209 : decode cX7_init 209 = .ok (.iconst 5, 1) := by decide +kernel
theorem dX7_init_210 : decode cX7_init 210 = .ok (.bipush 98, 2) := by decide +kernel
theorem dX7_init_212 : decode cX7_init 212 = .ok (.iastore, 1) := by decide +kernel
theorem dX7_init_213 : decode cX7_init 213 = .ok (.dup, 1) := by decide +kernel
theorem dX7_init_214 : decode cX7_init 214 = .ok (.bipush 6, 2) := by decide +kernel
theorem dX7_init_216 : decode cX7_init 216 = .ok (.bipush 97, 2) := by decide +kernel
theorem dX7_init_218 : decode cX7_init 218 = .ok (.iastore, 1) := by decide +kernel
theorem dX7_init_219 : decode cX7_init 219 = .ok (.dup, 1) := by decide +kernel
theorem dX7_init_220 : decode cX7_init 220 = .ok (.bipush 7, 2) := by decide +kernel
theorem dX7_init_222 : decode cX7_init 222 = .ok (.bipush 107, 2) := by decide +kernel
theorem dX7_init_224 : decode cX7_init 224 = .ok (.iastore, 1) := by decide +kernel
theorem dX7_init_225 : decode cX7_init 225 = .ok (.dup, 1) := by decide +kernel
theorem dX7_init_226 : decode cX7_init 226 = .ok (.bipush 8, 2) := by decide +kernel
theorem dX7_init_228 : decode cX7_init 228 = .ok (.bipush 101, 2) := by decide +kernel
theorem dX7_init_230 : decode cX7_init 230 = .ok (.iastore, 1) := by decide +kernel
theorem dX7_init_231 : decode cX7_init 231 = .ok (.dup, 1) := by decide +kernel
theorem dX7_init_232 : decode cX7_init 232 = .ok (.bipush 9, 2) := by decide +kernel
theorem dX7_init_234 : decode cX7_init 234 = .ok (.bipush 108, 2) := by decide +kernel
theorem dX7_init_236 : decode cX7_init 236 = .ok (.iastore, 1) := by decide +kernel
theorem dX7_init_237 : decode cX7_init 237 = .ok (.dup, 1) := by decide +kernel
theorem dX7_init_238 : decode cX7_init 238 = .ok (.bipush 10, 2) := by decide +kernel
theorem dX7_init_240 : decode cX7_init 240 = .ok (.bipush 111, 2) := by decide +kernel
theorem dX7_init_242 : decode cX7_init 242 = .ok (.iastore, 1) := by decide +kernel
theorem dX7_init_243 : decode cX7_init 243 = .ok (.dup, 1) := by decide +kernel
theorem dX7_init_244 : decode cX7_init 244 = .ok (.bipush 11, 2) := by decide +kernel
theorem dX7_init_246 : decode cX7_init 246 = .ok (.bipush 97, 2) := by decide +kernel
theorem dX7_init_248 : decode cX7_init 248 = .ok (.iastore, 1) := by decide +kernel
theorem dX7_init_249 : decode cX7_init 249 = .ok (.dup, 1) := by decide +kernel
theorem dX7_init_250 : decode cX7_init 250 = .ok (.bipush 12, 2) := by decide +kernel
theorem dX7_init_252 : decode cX7_init 252 = .ok (.bipush 102, 2) := by decide +kernel
theorem dX7_init_254 : decode cX7_init 254 = .ok (.iastore, 1) := by decide +kernel
theorem dX7_init_255 : decode cX7_init 255 = .ok (.dup, 1) := by decide +kernel
theorem dX7_init_256 : decode cX7_init 256 = .ok (.bipush 13, 2) := by decide +kernel
theorem dX7_init_258 : decode cX7_init 258 = .ok (.bipush 108, 2) := by decide +kernel
theorem dX7_init_260 : decode cX7_init 260 = .ok (.iastore, 1) := by decide +kernel
theorem dX7_init_261 : decode cX7_init 261 = .ok (.dup, 1) := by decide +kernel
theorem dX7_init_262 : decode cX7_init 262 = .ok (.bipush 14, 2) := by decide +kernel
theorem dX7_init_264 : decode cX7_init 264 = .ok (.bipush 97, 2) := by decide +kernel
theorem dX7_init_266 : decode cX7_init 266 = .ok (.iastore, 1) := by decide +kernel
theorem dX7_init_267 : decode cX7_init 267 = .ok (.dup, 1) := by decide +kernel
theorem dX7_init_268 : decode cX7_init 268 = .ok (.bipush 15, 2) := by decide +kernel
theorem dX7_init_270 : decode cX7_init 270 = .ok (.bipush 119, 2) := by decide +kernel
theorem dX7_init_272 : decode cX7_init 272 = .ok (.iastore, 1) := by decide +kernel
theorem dX7_init_273 : decode cX7_init 273 = .ok (.dup, 1) := by decide +kernel
theorem dX7_init_274 : decode cX7_init 274 = .ok (.bipush 16, 2) := by decide +kernel
theorem dX7_init_276 : decode cX7_init 276 = .ok (.bipush 115, 2) := by decide +kernel
theorem dX7_init_278 : decode cX7_init 278 = .ok (.iastore, 1) := by decide +kernel
theorem dX7_init_279 : decode cX7_init 279 = .ok (.dup, 1) := by decide +kernel
theorem dX7_init_280 : decode cX7_init 280 = .ok (.bipush 17, 2) := by decide +kernel
theorem dX7_init_282 : decode cX7_init 282 = .ok (.bipush 99, 2) := by decide +kernel
theorem dX7_init_284 : decode cX7_init 284 = .ok (.iastore, 1) := by decide +kernel
theorem dX7_init_285 : decode cX7_init 285 = .ok (.dup, 1) := by decide +kernel
theorem dX7_init_286 : decode cX7_init 286 = .ok (.bipush 18, 2) := by decide +kernel
theorem dX7_init_288 : decode cX7_init 288 = .ok (.bipush 97, 2) := by decide +kernel
theorem dX7_init_290 : decode cX7_init 290 = .ok (.iastore, 1) := by decide +kernel
theorem dX7_init_291 : decode cX7_init 291 = .ok (.dup, 1) := by decide +kernel
theorem dX7_init_292 : decode cX7_init 292 = .ok (.bipush 19, 2) := by decide +kernel
theorem dX7_init_294 : decode cX7_init 294 = .ok (.bipush 108, 2) := by decide +kernel
theorem dX7_init_296 : decode cX7_init 296 = .ok (.iastore, 1) := by decide +kernel
theorem dX7_init_297 : decode cX7_init 297 = .ok (.dup, 1) := by decide +kernel
theorem dX7_init_298 : decode cX7_init 298 = .ok (.bipush 20, 2) := by decide +kernel
theorem dX7_init_300 : decode cX7_init 300 = .ok (.bipush 101, 2) := by decide +kernel
theorem dX7_init_302 : decode cX7_init 302 = .ok (.iastore, 1) := by decide +kernel
theorem dX7_init_303 : decode cX7_init 303 = .ok (.putfield 89, 3) := by decide +kernel
theorem dX7_init_306 : decode cX7_init 306 = .ok (.aload_n 0, 1) := by decide +kernel
theorem dX7_init_307 : decode cX7_init 307 = .ok (.bipush 100, 2) := by decide +kernel
theorem dX7_init_309 : decode cX7_init 309 = .ok (.newarray .boolean, 2) := by decide +kernel
theorem dX7_init_311 : decode cX7_init 311 = .ok (.putfield 92, 3) := by decide +kernel
theorem dX7_init_314 : decode cX7_init 314 = .ok (.aload_n 0, 1) := by decide +kernel
theorem dX7_init_315 : decode cX7_init 315 = .ok (.iconst 0, 1) := by decide +kernel
theorem dX7_init_316 : decode cX7_init 316 = .ok (.putfield 96, 3) := by decide +kernel
theorem dX7_init_319 : decode cX7_init 319 = .ok (.aload_n 0, 1) := by decide +kernel
theorem dX7_init_320 : decode cX7_init 320 = .ok (.iconst (-1), 1) := by decide +kernel
theorem dX7_init_321 : decode cX7_init 321 = .ok (.putfield 100, 3) := by decide +kernel
theorem dX7_init_324 : decode cX7_init 324 = .ok (.aload_n 0, 1) := by decide +kernel
theorem dX7_init_325 : decode cX7_init 325 = .ok (.bipush 6, 2) := by decide +kernel
theorem dX7_init_327 : decode cX7_init 327 = .ok (.newarray .int, 2) := by decide +kernel
theorem dX7_init_329 : decode cX7_init 329 = .ok (.putfield 103, 3) := by decide +kernel
theorem dX7_init_332 : decode cX7_init 332 = .ok (.aload_n 0, 1) := by decide +kernel
theorem dX7_init_333 : decode cX7_init 333 = .ok (.bipush 6, 2) := by decide +kernel
theorem dX7_init_335 : decode cX7_init 335 = .ok (.newarray .int, 2) := by decide +kernel
theorem dX7_init_337 : decode cX7_init 337 = .ok (.putfield 106, 3) := by decide +kernel
theorem dX7_init_340 : decode cX7_init 340 = .ok (.aload_n 0, 1) := by decide +kernel
theorem dX7_init_341 : decode cX7_init 341 = .ok (.bipush 6, 2) := by decide +kernel
theorem dX7_init_343 : decode cX7_init 343 = .ok (.newarray .int, 2) := by decide +kernel
theorem dX7_init_345 : decode cX7_init 345 = .ok (.putfield 109, 3) := by decide +kernel
theorem dX7_init_348 : decode cX7_init 348 = .ok (.aload_n 0, 1) := by decide +kernel
theorem dX7_init_349 : decode cX7_init 349 = .ok (.iconst (-1), 1) := by decide +kernel
theorem dX7_init_350 : decode cX7_init 350 = .ok (.putfield 112, 3) := by decide +kernel
theorem dX7_init_353 : decode cX7_init 353 = .ok (.aload_n 0, 1) := by decide +kernel
theorem dX7_init_354 : decode cX7_init 354 = .ok (.bipush 6, 2) := by decide +kernel
theorem dX7_init_356 : decode cX7_init 356 = .ok (.newarray .int, 2) := by decide +kernel
theorem dX7_init_358 : decode cX7_init 358 = .ok (.putfield 115, 3) := by decide +kernel
theorem dX7_init_361 : decode cX7_init 361 = .ok (.aload_n 0, 1) := by decide +kernel
theorem dX7_init_362 : decode cX7_init 362 = .ok (.iconst (-1), 1) := by decide +kernel
theorem dX7_init_363 : decode cX7_init 363 = .ok (.putfield 118, 3) := by decide +kernel
theorem dX7_init_366 : decode cX7_init 366 = .ok (.aload_n 0, 1) := by decide +kernel
theorem dX7_init_367 : decode cX7_init 367 = .ok (.iconst (-1), 1) := by decide +kernel
theorem dX7_init_368 : decode cX7_init 368 = .ok (.putfield 121, 3) := by decide +kernel
theorem dX7_init_371 : decode cX7_init 371 = .ok (.aload_n 0, 1) := by decide +kernel
theorem dX7_init_372 : decode cX7_init 372 = .ok (.bipush 6, 2) := by decide +kernel
theorem dX7_init_374 : decode cX7_init 374 = .ok (.newarray .int, 2) := by decide +kernel
theorem dX7_init_376 : decode cX7_init 376 = .ok (.putfield 124, 3) := by decide +kernel
theorem dX7_init_379 : decode cX7_init 379 = .ok (.aload_n 0, 1) := by decide +kernel
theorem dX7_init_380 : decode cX7_init 380 = .ok (.bipush 6, 2) := by decide +kernel
theorem dX7_init_382 : decode cX7_init 382 = .ok (.newarray .int, 2) := by decide +kernel
theorem dX7_init_384 : decode cX7_init 384 = .ok (.putfield 127, 3) := by decide +kernel
theorem dX7_init_387 : decode cX7_init 387 = .ok (.aload_n 0, 1) := by decide +kernel
theorem dX7_init_388 : decode cX7_init 388 = .ok (.bipush 6, 2) := by decide +kernel
theorem dX7_init_390 : decode cX7_init 390 = .ok (.newarray .int, 2) := by decide +kernel
theorem dX7_init_392 : decode cX7_init 392 = .ok (.putfield 130, 3) := by decide +kernel
theorem dX7_init_395 : decode cX7_init 395 = .ok (.aload_n 0, 1) := by decide +kernel
theorem dX7_init_396 : decode cX7_init 396 = .ok (.iconst 0, 1) := by decide +kernel
theorem dX7_init_397 : decode cX7_init 397 = .ok (.putfield 133, 3) := by decide +kernel
theorem dX7_init_400 : decode cX7_init 400 = .ok (.aload_n 0, 1) := by decide +kernel
theorem dX7_init_401 : decode cX7_init 401 = .ok (.iconst 0, 1) := by decide +kernel
theorem dX7_init_402 : decode cX7_init 402 = .ok (.putfield 136, 3) := by decide +kernel
theorem dX7_init_405 : decode cX7_init 405 = .ok (.aload_n 0, 1) := by decide +kernel
theorem dX7_init_406 : decode cX7_init 406 = .ok (.iconst (-1), 1) := by decide +kernel
theorem dX7_init_407 : decode cX7_init 407 = .ok (.putfield 139, 3) := by decide +kernel
theorem dX7_init_410 : decode cX7_init 410 = .ok (.aload_n 0, 1) := by decide +kernel
theorem dX7_init_411 : decode cX7_init 411 = .ok (.bipush 6, 2) := by decide +kernel
theorem dX7_init_413 : decode cX7_init 413 = .ok (.newarray .int, 2) := by decide +kernel
theorem dX7_init_415 : decode cX7_init 415 = .ok (.putfield 142, 3) := by decide +kernel
theorem dX7_init_418 : decode cX7_init 418 = .ok (.aload_n 0, 1) := by decide +kernel
theorem dX7_init_419 : decode cX7_init 419 = .ok (.iconst 0, 1) := by decide +kernel
theorem dX7_init_420 : decode cX7_init 420 = .ok (.putfield 145, 3) := by decide +kernel
theorem dX7_init_423 : decode cX7_init 423 = .ok (.aload_n 0, 1) := by decide +kernel
theorem dX7_init_424 : decode cX7_init 424 = .ok (.bipush 12, 2) := by decide +kernel
theorem dX7_init_426 : decode cX7_init 426 = .ok (.newarray .int, 2) := by decide +kernel
theorem dX7_init_428 : decode cX7_init 428 = .ok (.putfield 148, 3) := by decide +kernel
theorem dX7_init_431 : decode cX7_init 431 = .ok (.aload_n 0, 1) := by decide +kernel
theorem dX7_init_432 : decode cX7_init 432 = .ok (.iconst 0, 1) := by decide +kernel
theorem dX7_init_433 : decode cX7_init 433 = .ok (.putfield 151, 3) := by decide +kernel
theorem dX7_init_436 : decode cX7_init 436 = .ok (.aload_n 0, 1) := by decide +kernel
theorem dX7_init_437 : decode cX7_init 437 = .ok (.iconst (-1), 1) := by decide +kernel
theorem dX7_init_438 : decode cX7_init 438 = .ok (.putfield 154, 3) := by decide +kernel
theorem dX7_init_441 : decode cX7_init 441 = .ok (.aload_n 0, 1) := by decide +kernel
theorem dX7_init_442 : decode cX7_init 442 = .ok (.iconst 0, 1) := by decide +kernel
theorem dX7_init_443 : decode cX7_init 443 = .ok (.putfield 157, 3) := by decide +kernel
theorem dX7_init_446 : decode cX7_init 446 = .ok (.aload_n 0, 1) := by decide +kernel
theorem dX7_init_447 : decode cX7_init 447 = .ok (.iconst 0, 1) := by decide +kernel
theorem dX7_init_448 : decode cX7_init 448 = .ok (.putfield 160, 3) := by decide +kernel
theorem dX7_init_451 : decode cX7_init 451 = .ok (.aload_n 0, 1) := by decide +kernel
theorem dX7_init_452 : decode cX7_init 452 = .ok (.iconst 0, 1) := by decide +kernel
theorem dX7_init_453 : decode cX7_init 453 = .ok (.putfield 163, 3) := by decide +kernel
theorem dX7_init_456 : decode cX7_init 456 = .ok (.aload_n 0, 1) := by decide +kernel
theorem dX7_init_457 : decode cX7_init 457 = .ok (.iconst (-1), 1) := by decide +kernel
theorem dX7_init_458 : decode cX7_init 458 = .ok (.putfield 166, 3) := by decide +kernel
theorem dX7_init_461 : decode cX7_init 461 = .ok (.aload_n 0, 1) := by decide +kernel
theorem dX7_init_462 : decode cX7_init 462 = .ok (.iconst 0, 1) := by decide +kernel
theorem dX7_init_463 : decode cX7_init 463 = .ok (.putfield 169, 3) := by decide +kernel
theorem dX7_init_466 : decode cX7_init 466 = .ok (.aload_n 0, 1) := by decide +kernel
theorem dX7_init_467 : decode cX7_init 467 = .ok (.bipush 6, 2) := by decide +kernel
theorem dX7_init_469 : decode cX7_init 469 = .ok (.newarray .int, 2) := by decide +kernel
theorem dX7_init_471 : decode cX7_init 471 = .ok (.putfield 172, 3) := by decide +kernel
theorem dX7_init_474 : decode cX7_init 474 = .ok (.aload_n 0, 1) := by decide +kernel
theorem dX7_init_475 : decode cX7_init 475 = .ok (.bipush 6, 2) := by decide +kernel
theorem dX7_init_477 : decode cX7_init 477 = .ok (.newarray .int, 2) := by decide +kernel
theorem dX7_init_479 : decode cX7_init 479 = .ok (.putfield 175, 3) := by decide +kernel
theorem dX7_init_482 : decode cX7_init 482 = .ok (.aload_n 0, 1) := by decide +kernel
theorem dX7_init_483 : decode cX7_init 483 = .ok (.bipush 6, 2) := by decide +kernel
theorem dX7_init_485 : decode cX7_init 485 = .ok (.newarray .int, 2) := by decide +kernel
theorem dX7_init_487 : decode cX7_init 487 = .ok (.putfield 178, 3) := by decide +kernel
theorem dX7_init_490 : decode cX7_init 490 = .ok (.aload_n 0, 1) := by decide +kernel
theorem dX7_init_491 : decode cX7_init 491 = .ok (.bipush 6, 2) := by decide +kernel
theorem dX7_init_493 : decode cX7_init 493 = .ok (.newarray .int, 2) := by decide +kernel
theorem dX7_init_495 : decode cX7_init 495 = .ok (.putfield 181, 3) := by decide +kernel
theorem dX7_init_498 : decode cX7_init 498 = .ok (.aload_n 0, 1) := by decide +kernel
theorem dX7_init_499 : decode cX7_init 499 = .ok (.bipush 6, 2) := by decide +kernel
theorem dX7_init_501 : decode cX7_init 501 = .ok (.newarray .int, 2) := by decide +kernel
theorem dX7_init_503 : decode cX7_init 503 = .ok (.putfield 184, 3) := by decide +kernel
theorem dX7_init_506 : decode cX7_init 506 = .ok (.aload_n 0, 1) := by decide +kernel
theorem dX7_init_507 : decode cX7_init 507 = .ok (.bipush 24, 2) := by decide +kernel
theorem dX7_init_509 : decode cX7_init 509 = .ok (.newarray .int, 2) := by decide +kernel
theorem dX7_init_511 : decode cX7_init 511 = .ok (.putfield 187, 3) := by decide +kernel
theorem dX7_init_514 : decode cX7_init 514 = .ok (.aload_n 0, 1) := by decide +kernel
theorem dX7_init_515 : decode cX7_init 515 = .ok (.bipush 12, 2) := by decide +kernel
theorem dX7_init_517 : decode cX7_init 517 = .ok (.newarray .int, 2) := by decide +kernel
theorem dX7_init_519 : decode cX7_init 519 = .ok (.putfield 190, 3) := by decide +kernel
theorem dX7_init_522 : decode cX7_init 522 = .ok (.aload_n 0, 1) := by decide +kernel
theorem dX7_init_523 : decode cX7_init 523 = .ok (.iconst 0, 1) := by decide +kernel
theorem dX7_init_524 : decode cX7_init 524 = .ok (.putfield 193, 3) := by decide +kernel
theorem dX7_init_527 : decode cX7_init 527 = .ok (.aload_n 0, 1) := by decide +kernel
theorem dX7_init_528 : decode cX7_init 528 = .ok (.bipush 20, 2) := by decide +kernel
theorem dX7_init_530 : decode cX7_init 530 = .ok (.newarray .int, 2) := by decide +kernel
theorem dX7_init_532 : decode cX7_init 532 = .ok (.putfield 196, 3) := by decide +kernel
theorem dX7_init_535 : decode cX7_init 535 = .ok (.aload_n 0, 1) := by decide +kernel
theorem dX7_init_536 : decode cX7_init 536 = .ok (.bipush 6, 2) := by decide +kernel
theorem dX7_init_538 : decode cX7_init 538 = .ok (.newarray .int, 2) := by decide +kernel
theorem dX7_init_540 : decode cX7_init 540 = .ok (.dup, 1) := by decide +kernel
theorem dX7_init_541 : decode cX7_init 541 = .ok (.iconst 0, 1) := by decide +kernel
theorem dX7_init_542 : decode cX7_init 542 = .ok (.iconst (-1), 1) := by decide +kernel
theorem dX7_init_543 : decode cX7_init 543 = .ok (.iastore, 1) := by decide +kernel
theorem dX7_init_544 : decode cX7_init 544 = .ok (.dup, 1) := by decide +kernel
theorem dX7_init_545 : decode cX7_init 545 = .ok (.iconst 1, 1) := by decide +kernel
theorem dX7_init_546 : decode cX7_init 546 = .ok (.iconst (-1), 1) := by decide +kernel
theorem dX7_init_547 : decode cX7_init 547 = .ok (.iastore, 1) := by decide +kernel
theorem dX7_init_548 : decode cX7_init 548 = .ok (.dup, 1) := by decide +kernel
theorem dX7_init_549 : decode cX7_init 549 = .ok (.iconst 2, 1) := by decide +kernel
theorem dX7_init_550 : decode cX7_init 550 = .ok (.iconst (-1), 1) := by decide +kernel
theorem dX7_init_551 : decode cX7_init 551 = .ok (.iastore, 1) := by decide +kernel
theorem dX7_init_552 : decode cX7_init 552 = .ok (.dup, 1) := by decide +kernel
theorem dX7_init_553 : decode cX7_init 553 = .ok (.iconst 3, 1) := by decide +kernel
theorem dX7_init_554 : decode cX7_init 554 = .ok (.iconst (-1), 1) := by decide +kernel
theorem dX7_init_555 : decode cX7_init 555 = .ok (.iastore, 1) := by decide +kernel
theorem dX7_init_556 : decode cX7_init 556 = .ok (.dup, 1) := by decide +kernel
theorem dX7_init_557 : decode cX7_init 557 = .ok (.iconst 4, 1) := by decide +kernel
theorem dX7_init_558 : decode cX7_init 558 = .ok (.iconst (-1), 1) := by decide +kernel
theorem dX7_init_559 : decode cX7_init 559 = .ok (.iastore, 1) := by decide +kernel
theorem dX7_init_560 : decode cX7_init 560 = .ok (.dup, 1) := by decide +kernel
theorem dX7_init_561 : decode cX7_init 561 = .ok (.iconst 5, 1) := by decide +kernel
theorem dX7_init_562 : decode cX7_init 562 = .ok (.iconst (-1), 1) := by decide +kernel
theorem dX7_init_563 : decode cX7_init 563 = .ok (.iastore, 1) := by decide +kernel
theorem dX7_init_564 : decode cX7_init 564 = .ok (.putfield 199, 3) := by decide +kernel
theorem dX7_init_567 : decode cX7_init 567 = .ok (.aload_n 0, 1) := by decide +kernel
theorem dX7_init_568 : decode cX7_init 568 = .ok (.bipush 6, 2) := by decide +kernel
theorem dX7_init_570 : decode cX7_init 570 = .ok (.newarray .int, 2) := by decide +kernel
theorem dX7_init_572 : decode cX7_init 572 = .ok (.putfield 202, 3) := by decide +kernel
theorem dX7_init_575 : decode cX7_init 575 = .ok (.aload_n 0, 1) := by decide +kernel
theorem dX7_init_576 : decode cX7_init 576 = .ok (.sipush 360, 3) := by decide +kernel
theorem dX7_init_579 : decode cX7_init 579 = .ok (.newarray .long, 2) := by decide +kernel
theorem dX7_init_581 : decode cX7_init 581 = .ok (.putfield 205, 3) := by decide +kernel
theorem dX7_init_584 : decode cX7_init 584 = .ok (.aload_n 0, 1) := by decide +kernel
theorem dX7_init_585 : decode cX7_init 585 = .ok (.bipush 60, 2) := by decide +kernel
theorem dX7_init_587 : decode cX7_init 587 = .ok (.newarray .long, 2) := by decide +kernel
theorem dX7_init_589 : decode cX7_init 589 = .ok (.putfield 209, 3) := by decide +kernel
theorem dX7_init_592 : decode cX7_init 592 = .ok (.return_, 1) := by decide +kernel
theorem dX7_in_0 : decode cX7_in 0 = .ok (.iload_n 1, 1) := by decide +kernel
theorem dX7_in_1 : decode cX7_in 1 = .ok (.iload_n 2, 1) := by decide +kernel
theorem dX7_in_2 : decode cX7_in 2 = .ok (.if_icmp .lt 12, 3) := by decide +kernel
theorem dX7_in_5 : decode cX7_in 5 = .ok (.iload_n 1, 1) := by decide +kernel
theorem dX7_in_6 : decode cX7_in 6 = .ok (.iload_n 3, 1) := by decide +kernel
theorem dX7_in_7 : decode cX7_in 7 = .ok (.if_icmp .gt 7, 3) := by decide +kernel
theorem dX7_in_10 : decode cX7_in 10 = .ok (.iconst 1, 1) := by decide +kernel
theorem dX7_in_11 : decode cX7_in 11 = .ok (.goto 4, 3) := by decide +kernel
theorem dX7_in_14 : decode cX7_in 14 = .ok (.iconst 0, 1) := by decide +kernel
theorem dX7_in_15 : decode cX7_in 15 = .ok (.ireturn, 1) := by decide +kernel
theorem dX7_isEater_0 : decode cX7_isEater 0 = .ok (.aload_n 0, 1) := by decide +kernel
theorem dX7_isEater_1 : decode cX7_isEater 1 = .ok (.iload_n 1, 1) := by decide +kernel
theorem dX7_isEater_2 : decode cX7_isEater 2 = .ok (.iconst 0, 1) := by decide +kernel
theorem dX7_isEater_3 : decode cX7_isEater 3 = .ok (.aload_n 0, 1) := by decide +kernel
theorem dX7_isEater_4 : decode cX7_isEater 4 = .ok (.getfield 7, 3) := by decide +kernel
theorem dX7_isEater_7 : decode cX7_isEater 7 = .ok (.iconst 1, 1) := by decide +kernel
theorem dX7_isEater_8 : decode cX7_isEater 8 = .ok (.isub, 1) := by decide +kernel
theorem dX7_isEater_9 : decode cX7_isEater 9 = .ok (.invokevirtual 212, 3) := by decide +kernel
theorem dX7_isEater_12 : decode cX7_isEater 12 = .ok (.ireturn, 1) := by decide +kernel
theorem dX7_lay_0 : decode cX7_lay 0 = .ok (.aload_n 0, 1) := by decide +kernel
theorem dX7_lay_1 : decode cX7_lay 1 = .ok (.getfield 22, 3) := by decide +kernel
theorem dX7_lay_4 : decode cX7_lay 4 = .ok (.iload_n 1, 1) := by decide +kernel
theorem dX7_lay_5 : decode cX7_lay 5 = .ok (.iload_n 2, 1) := by decide +kernel
theorem dX7_lay_6 : decode cX7_lay 6 = .ok (.iastore, 1) := by decide +kernel
theorem dX7_lay_7 : decode cX7_lay 7 = .ok (.aload_n 0, 1) := by decide +kernel
theorem dX7_lay_8 : decode cX7_lay 8 = .ok (.getfield 26, 3) := by decide +kernel
theorem dX7_lay_11 : decode cX7_lay 11 = .ok (.iload_n 1, 1) := by decide +kernel
theorem dX7_lay_12 : decode cX7_lay 12 = .ok (.iload_n 3, 1) := by decide +kernel
theorem dX7_lay_13 : decode cX7_lay 13 = .ok (.iastore, 1) := by decide +kernel
theorem dX7_lay_14 : decode cX7_lay 14 = .ok (.aload_n 0, 1) := by decide +kernel
theorem dX7_lay_15 : decode cX7_lay 15 = .ok (.getfield 29, 3) := by decide +kernel
theorem dX7_lay_18 : decode cX7_lay 18 = .ok (.iload_n 1, 1) := by decide +kernel
theorem dX7_lay_19 : decode cX7_lay 19 = .ok (.iload 4, 2) := by decide +kernel
theorem dX7_lay_21 : decode cX7_lay 21 = .ok (.iastore, 1) := by decide +kernel
theorem dX7_lay_22 : decode cX7_lay 22 = .ok (.aload_n 0, 1) := by decide +kernel
theorem dX7_lay_23 : decode cX7_lay 23 = .ok (.getfield 32, 3) := by decide +kernel
theorem dX7_lay_26 : decode cX7_lay 26 = .ok (.iload_n 1, 1) := by decide +kernel
theorem dX7_lay_27 : decode cX7_lay 27 = .ok (.iconst 0, 1) := by decide +kernel
theorem dX7_lay_28 : decode cX7_lay 28 = .ok (.iastore, 1) := by decide +kernel
theorem dX7_lay_29 : decode cX7_lay 29 = .ok (.aload_n 0, 1) := by decide +kernel
theorem dX7_lay_30 : decode cX7_lay 30 = .ok (.getfield 35, 3) := by decide +kernel
theorem dX7_lay_33 : decode cX7_lay 33 = .ok (.iload_n 1, 1) := by decide +kernel
theorem dX7_lay_34 : decode cX7_lay 34 = .ok (.iconst 0, 1) := by decide +kernel
theorem dX7_lay_35 : decode cX7_lay 35 = .ok (.iastore, 1) := by decide +kernel
theorem dX7_lay_36 : decode cX7_lay 36 = .ok (.iconst 0, 1) := by decide +kernel
theorem dX7_lay_37 : decode cX7_lay 37 = .ok (.istore 5, 2) := by decide +kernel
theorem dX7_lay_39 : decode cX7_lay 39 = .ok (.iload 5, 2) := by decide +kernel
theorem dX7_lay_41 : decode cX7_lay 41 = .ok (.iconst 4, 1) := by decide +kernel
theorem dX7_lay_42 : decode cX7_lay 42 = .ok (.if_icmp .ge 21, 3) := by decide +kernel
theorem dX7_lay_45 : decode cX7_lay 45 = .ok (.aload_n 0, 1) := by decide +kernel
theorem dX7_lay_46 : decode cX7_lay 46 = .ok (.getfield 38, 3) := by decide +kernel
theorem dX7_lay_49 : decode cX7_lay 49 = .ok (.iconst 4, 1) := by decide +kernel
theorem dX7_lay_50 : decode cX7_lay 50 = .ok (.iload_n 1, 1) := by decide +kernel
theorem dX7_lay_51 : decode cX7_lay 51 = .ok (.imul, 1) := by decide +kernel
theorem dX7_lay_52 : decode cX7_lay 52 = .ok (.iload 5, 2) := by decide +kernel
theorem dX7_lay_54 : decode cX7_lay 54 = .ok (.iadd, 1) := by decide +kernel
theorem dX7_lay_55 : decode cX7_lay 55 = .ok (.iconst 0, 1) := by decide +kernel
theorem dX7_lay_56 : decode cX7_lay 56 = .ok (.iastore, 1) := by decide +kernel
theorem dX7_lay_57 : decode cX7_lay 57 = .ok (.iinc 5 1, 3) := by decide +kernel
theorem dX7_lay_60 : decode cX7_lay 60 = .ok (.goto (-21), 3) := by decide +kernel
theorem dX7_lay_63 : decode cX7_lay 63 = .ok (.return_, 1) := by decide +kernel
theorem dX7_eater_0 : decode cX7_eater 0 = .ok (.aload_n 0, 1) := by decide +kernel
theorem dX7_eater_1 : decode cX7_eater 1 = .ok (.iload_n 1, 1) := by decide +kernel
theorem dX7_eater_2 : decode cX7_eater 2 = .ok (.iconst 0, 1) := by decide +kernel
theorem dX7_eater_3 : decode cX7_eater 3 = .ok (.bipush 6, 2) := by decide +kernel
theorem dX7_eater_5 : decode cX7_eater 5 = .ok (.invokevirtual 212, 3) := by decide +kernel
theorem dX7_eater_8 : decode cX7_eater 8 = .ok (.ifCond .ne 5, 3) := by decide +kernel
theorem dX7_eater_11 : decode cX7_eater 11 = .ok (.iconst (-1), 1) := by decide +kernel
theorem dX7_eater_12 : decode cX7_eater 12 = .ok (.ireturn, 1) := by decide +kernel
theorem dX7_eater_13 : decode cX7_eater 13 = .ok (.aload_n 0, 1) := by decide +kernel
theorem dX7_eater_14 : decode cX7_eater 14 = .ok (.iload_n 2, 1) := by decide +kernel
theorem dX7_eater_15 : decode cX7_eater 15 = .ok (.iconst 0, 1) := by decide +kernel
theorem dX7_eater_16 : decode cX7_eater 16 = .ok (.bipush 9, 2) := by decide +kernel
theorem dX7_eater_18 : decode cX7_eater 18 = .ok (.invokevirtual 212, 3) := by decide +kernel
theorem dX7_eater_21 : decode cX7_eater 21 = .ok (.ifCond .eq 14, 3) := by decide +kernel
theorem dX7_eater_24 : decode cX7_eater 24 = .ok (.aload_n 0, 1) := by decide +kernel
theorem dX7_eater_25 : decode cX7_eater 25 = .ok (.iload_n 3, 1) := by decide +kernel
theorem dX7_eater_26 : decode cX7_eater 26 = .ok (.iconst 0, 1) := by decide +kernel
theorem dX7_eater_27 : decode cX7_eater 27 = .ok (.bipush 9, 2) := by decide +kernel
theorem dX7_eater_29 : decode cX7_eater 29 = .ok (.invokevirtual 212, 3) := by decide +kernel
theorem dX7_eater_32 : decode cX7_eater 32 = .ok (.ifCond .ne 6, 3) := by decide +kernel
theorem dX7_eater_35 : decode cX7_eater 35 = .ok (.bipush (-2), 2) := by decide +kernel
theorem dX7_eater_37 : decode cX7_eater 37 = .ok (.ireturn, 1) := by decide +kernel
theorem dX7_eater_38 : decode cX7_eater 38 = .ok (.aload_n 0, 1) := by decide +kernel
theorem dX7_eater_39 : decode cX7_eater 39 = .ok (.getfield 7, 3) := by decide +kernel
theorem dX7_eater_42 : decode cX7_eater 42 = .ok (.iconst 5, 1) := by decide +kernel
theorem dX7_eater_43 : decode cX7_eater 43 = .ok (.if_icmp .ne 6, 3) := by decide +kernel
theorem dX7_eater_46 : decode cX7_eater 46 = .ok (.bipush (-4), 2) := by decide +kernel
theorem dX7_eater_48 : decode cX7_eater 48 = .ok (.ireturn, 1) := by decide +kernel
theorem dX7_eater_49 : decode cX7_eater 49 = .ok (.aload_n 0, 1) := by decide +kernel
theorem dX7_eater_50 : decode cX7_eater 50 = .ok (.aload_n 0, 1) := by decide +kernel
theorem dX7_eater_51 : decode cX7_eater 51 = .ok (.getfield 7, 3) := by decide +kernel
theorem dX7_eater_54 : decode cX7_eater 54 = .ok (.iload_n 1, 1) := by decide +kernel
theorem dX7_eater_55 : decode cX7_eater 55 = .ok (.iload_n 2, 1) := by decide +kernel
theorem dX7_eater_56 : decode cX7_eater 56 = .ok (.iload_n 3, 1) := by decide +kernel
theorem dX7_eater_57 : decode cX7_eater 57 = .ok (.invokevirtual 216, 3) := by decide +kernel
theorem dX7_eater_60 : decode cX7_eater 60 = .ok (.aload_n 0, 1) := by decide +kernel
theorem dX7_eater_61 : decode cX7_eater 61 = .ok (.dup, 1) := by decide +kernel
theorem dX7_eater_62 : decode cX7_eater 62 = .ok (.getfield 7, 3) := by decide +kernel
theorem dX7_eater_65 : decode cX7_eater 65 = .ok (.iconst 1, 1) := by decide +kernel
theorem dX7_eater_66 : decode cX7_eater 66 = .ok (.iadd, 1) := by decide +kernel
theorem dX7_eater_67 : decode cX7_eater 67 = .ok (.putfield 7, 3) := by decide +kernel
theorem dX7_eater_70 : decode cX7_eater 70 = .ok (.aload_n 0, 1) := by decide +kernel
theorem dX7_eater_71 : decode cX7_eater 71 = .ok (.getfield 7, 3) := by decide +kernel
theorem dX7_eater_74 : decode cX7_eater 74 = .ok (.iconst 1, 1) := by decide +kernel
theorem dX7_eater_75 : decode cX7_eater 75 = .ok (.isub, 1) := by decide +kernel
theorem dX7_eater_76 : decode cX7_eater 76 = .ok (.ireturn, 1) := by decide +kernel
theorem dX7_hunger_0 : decode cX7_hunger 0 = .ok (.aload_n 0, 1) := by decide +kernel
theorem dX7_hunger_1 : decode cX7_hunger 1 = .ok (.iload_n 1, 1) := by decide +kernel
theorem dX7_hunger_2 : decode cX7_hunger 2 = .ok (.invokevirtual 220, 3) := by decide +kernel
theorem dX7_hunger_5 : decode cX7_hunger 5 = .ok (.ifCond .ne 5, 3) := by decide +kernel
theorem dX7_hunger_8 : decode cX7_hunger 8 = .ok (.iconst (-1), 1) := by decide +kernel
theorem dX7_hunger_9 : decode cX7_hunger 9 = .ok (.ireturn, 1) := by decide +kernel
theorem dX7_hunger_10 : decode cX7_hunger 10 = .ok (.aload_n 0, 1) := by decide +kernel
theorem dX7_hunger_11 : decode cX7_hunger 11 = .ok (.iload_n 2, 1) := by decide +kernel
theorem dX7_hunger_12 : decode cX7_hunger 12 = .ok (.iconst 0, 1) := by decide +kernel
theorem dX7_hunger_13 : decode cX7_hunger 13 = .ok (.bipush 9, 2) := by decide +kernel
theorem dX7_hunger_15 : decode cX7_hunger 15 = .ok (.invokevirtual 212, 3) := by decide +kernel
theorem dX7_hunger_18 : decode cX7_hunger 18 = .ok (.ifCond .ne 6, 3) := by decide +kernel
theorem dX7_hunger_21 : decode cX7_hunger 21 = .ok (.bipush (-2), 2) := by decide +kernel
theorem dX7_hunger_23 : decode cX7_hunger 23 = .ok (.ireturn, 1) := by decide +kernel
theorem dX7_hunger_24 : decode cX7_hunger 24 = .ok (.aload_n 0, 1) := by decide +kernel
theorem dX7_hunger_25 : decode cX7_hunger 25 = .ok (.getfield 29, 3) := by decide +kernel
theorem dX7_hunger_28 : decode cX7_hunger 28 = .ok (.iload_n 1, 1) := by decide +kernel
theorem dX7_hunger_29 : decode cX7_hunger 29 = .ok (.iaload, 1) := by decide +kernel
theorem dX7_hunger_30 : decode cX7_hunger 30 = .ok (.istore_n 3, 1) := by decide +kernel
theorem dX7_hunger_31 : decode cX7_hunger 31 = .ok (.aload_n 0, 1) := by decide +kernel
theorem dX7_hunger_32 : decode cX7_hunger 32 = .ok (.getfield 29, 3) := by decide +kernel
theorem dX7_hunger_35 : decode cX7_hunger 35 = .ok (.iload_n 1, 1) := by decide +kernel
theorem dX7_hunger_36 : decode cX7_hunger 36 = .ok (.iload_n 2, 1) := by decide +kernel
theorem dX7_hunger_37 : decode cX7_hunger 37 = .ok (.iastore, 1) := by decide +kernel
theorem dX7_hunger_38 : decode cX7_hunger 38 = .ok (.iload_n 3, 1) := by decide +kernel
theorem dX7_hunger_39 : decode cX7_hunger 39 = .ok (.ireturn, 1) := by decide +kernel
theorem dX7_row_0 : decode cX7_row 0 = .ok (.aload_n 0, 1) := by decide +kernel
theorem dX7_row_1 : decode cX7_row 1 = .ok (.iload_n 1, 1) := by decide +kernel
theorem dX7_row_2 : decode cX7_row 2 = .ok (.invokevirtual 220, 3) := by decide +kernel
theorem dX7_row_5 : decode cX7_row 5 = .ok (.ifCond .eq 13, 3) := by decide +kernel
theorem dX7_row_8 : decode cX7_row 8 = .ok (.aload_n 0, 1) := by decide +kernel
theorem dX7_row_9 : decode cX7_row 9 = .ok (.iload_n 2, 1) := by decide +kernel
theorem dX7_row_10 : decode cX7_row 10 = .ok (.iconst 0, 1) := by decide +kernel
theorem dX7_row_11 : decode cX7_row 11 = .ok (.iconst 3, 1) := by decide +kernel
theorem dX7_row_12 : decode cX7_row 12 = .ok (.invokevirtual 212, 3) := by decide +kernel
theorem dX7_row_15 : decode cX7_row 15 = .ok (.ifCond .ne 5, 3) := by decide +kernel
theorem dX7_row_18 : decode cX7_row 18 = .ok (.iconst (-1), 1) := by decide +kernel
theorem dX7_row_19 : decode cX7_row 19 = .ok (.ireturn, 1) := by decide +kernel
theorem dX7_row_20 : decode cX7_row 20 = .ok (.aload_n 0, 1) := by decide +kernel
theorem dX7_row_21 : decode cX7_row 21 = .ok (.iload_n 3, 1) := by decide +kernel
theorem dX7_row_22 : decode cX7_row 22 = .ok (.iconst 0, 1) := by decide +kernel
theorem dX7_row_23 : decode cX7_row 23 = .ok (.bipush 9, 2) := by decide +kernel
theorem dX7_row_25 : decode cX7_row 25 = .ok (.invokevirtual 212, 3) := by decide +kernel
theorem dX7_row_28 : decode cX7_row 28 = .ok (.ifCond .ne 6, 3) := by decide +kernel
theorem dX7_row_31 : decode cX7_row 31 = .ok (.bipush (-2), 2) := by decide +kernel
theorem dX7_row_33 : decode cX7_row 33 = .ok (.ireturn, 1) := by decide +kernel
theorem dX7_row_34 : decode cX7_row 34 = .ok (.aload_n 0, 1) := by decide +kernel
theorem dX7_row_35 : decode cX7_row 35 = .ok (.getfield 22, 3) := by decide +kernel
theorem dX7_row_38 : decode cX7_row 38 = .ok (.iload_n 1, 1) := by decide +kernel
theorem dX7_row_39 : decode cX7_row 39 = .ok (.iaload, 1) := by decide +kernel
theorem dX7_row_40 : decode cX7_row 40 = .ok (.bipush 6, 2) := by decide +kernel
theorem dX7_row_42 : decode cX7_row 42 = .ok (.if_icmp .eq 6, 3) := by decide +kernel
theorem dX7_row_45 : decode cX7_row 45 = .ok (.bipush (-3), 2) := by decide +kernel
theorem dX7_row_47 : decode cX7_row 47 = .ok (.ireturn, 1) := by decide +kernel
theorem dX7_row_48 : decode cX7_row 48 = .ok (.aload_n 0, 1) := by decide +kernel
theorem dX7_row_49 : decode cX7_row 49 = .ok (.getfield 38, 3) := by decide +kernel
theorem dX7_row_52 : decode cX7_row 52 = .ok (.iconst 4, 1) := by decide +kernel
theorem dX7_row_53 : decode cX7_row 53 = .ok (.iload_n 1, 1) := by decide +kernel
theorem dX7_row_54 : decode cX7_row 54 = .ok (.imul, 1) := by decide +kernel
theorem dX7_row_55 : decode cX7_row 55 = .ok (.iload_n 2, 1) := by decide +kernel
theorem dX7_row_56 : decode cX7_row 56 = .ok (.iadd, 1) := by decide +kernel
theorem dX7_row_57 : decode cX7_row 57 = .ok (.iaload, 1) := by decide +kernel
theorem dX7_row_58 : decode cX7_row 58 = .ok (.istore 4, 2) := by decide +kernel
theorem dX7_row_60 : decode cX7_row 60 = .ok (.aload_n 0, 1) := by decide +kernel
theorem dX7_row_61 : decode cX7_row 61 = .ok (.getfield 38, 3) := by decide +kernel
theorem dX7_row_64 : decode cX7_row 64 = .ok (.iconst 4, 1) := by decide +kernel
theorem dX7_row_65 : decode cX7_row 65 = .ok (.iload_n 1, 1) := by decide +kernel
theorem dX7_row_66 : decode cX7_row 66 = .ok (.imul, 1) := by decide +kernel
theorem dX7_row_67 : decode cX7_row 67 = .ok (.iload_n 2, 1) := by decide +kernel
theorem dX7_row_68 : decode cX7_row 68 = .ok (.iadd, 1) := by decide +kernel
theorem dX7_row_69 : decode cX7_row 69 = .ok (.iload_n 3, 1) := by decide +kernel
theorem dX7_row_70 : decode cX7_row 70 = .ok (.iastore, 1) := by decide +kernel
theorem dX7_row_71 : decode cX7_row 71 = .ok (.iload 4, 2) := by decide +kernel
theorem dX7_row_73 : decode cX7_row 73 = .ok (.ireturn, 1) := by decide +kernel
theorem dX7_bin_0 : decode cX7_bin 0 = .ok (.aload_n 0, 1) := by decide +kernel
theorem dX7_bin_1 : decode cX7_bin 1 = .ok (.iload_n 1, 1) := by decide +kernel
theorem dX7_bin_2 : decode cX7_bin 2 = .ok (.iconst 0, 1) := by decide +kernel
theorem dX7_bin_3 : decode cX7_bin 3 = .ok (.bipush 99, 2) := by decide +kernel
theorem dX7_bin_5 : decode cX7_bin 5 = .ok (.invokevirtual 212, 3) := by decide +kernel
theorem dX7_bin_8 : decode cX7_bin 8 = .ok (.ifCond .ne 6, 3) := by decide +kernel
theorem dX7_bin_11 : decode cX7_bin 11 = .ok (.bipush (-2), 2) := by decide +kernel
theorem dX7_bin_13 : decode cX7_bin 13 = .ok (.ireturn, 1) := by decide +kernel
theorem dX7_bin_14 : decode cX7_bin 14 = .ok (.aload_n 0, 1) := by decide +kernel
theorem dX7_bin_15 : decode cX7_bin 15 = .ok (.getfield 13, 3) := by decide +kernel
theorem dX7_bin_18 : decode cX7_bin 18 = .ok (.istore_n 2, 1) := by decide +kernel
theorem dX7_bin_19 : decode cX7_bin 19 = .ok (.aload_n 0, 1) := by decide +kernel
theorem dX7_bin_20 : decode cX7_bin 20 = .ok (.iload_n 1, 1) := by decide +kernel
theorem dX7_bin_21 : decode cX7_bin 21 = .ok (.putfield 13, 3) := by decide +kernel
theorem dX7_bin_24 : decode cX7_bin 24 = .ok (.iload_n 2, 1) := by decide +kernel
theorem dX7_bin_25 : decode cX7_bin 25 = .ok (.ireturn, 1) := by decide +kernel
theorem dX7_feed_0 : decode cX7_feed 0 = .ok (.aload_n 0, 1) := by decide +kernel
theorem dX7_feed_1 : decode cX7_feed 1 = .ok (.iload_n 1, 1) := by decide +kernel
theorem dX7_feed_2 : decode cX7_feed 2 = .ok (.iconst 0, 1) := by decide +kernel
theorem dX7_feed_3 : decode cX7_feed 3 = .ok (.bipush 127, 2) := by decide +kernel
theorem dX7_feed_5 : decode cX7_feed 5 = .ok (.invokevirtual 212, 3) := by decide +kernel
theorem dX7_feed_8 : decode cX7_feed 8 = .ok (.ifCond .ne 6, 3) := by decide +kernel
theorem dX7_feed_11 : decode cX7_feed 11 = .ok (.bipush (-2), 2) := by decide +kernel
theorem dX7_feed_13 : decode cX7_feed 13 = .ok (.ireturn, 1) := by decide +kernel
theorem dX7_feed_14 : decode cX7_feed 14 = .ok (.aload_n 0, 1) := by decide +kernel
theorem dX7_feed_15 : decode cX7_feed 15 = .ok (.getfield 47, 3) := by decide +kernel
theorem dX7_feed_18 : decode cX7_feed 18 = .ok (.bipush 100, 2) := by decide +kernel
theorem dX7_feed_20 : decode cX7_feed 20 = .ok (.if_icmp .ne 6, 3) := by decide +kernel
theorem dX7_feed_23 : decode cX7_feed 23 = .ok (.bipush (-4), 2) := by decide +kernel
theorem dX7_feed_25 : decode cX7_feed 25 = .ok (.ireturn, 1) := by decide +kernel
theorem dX7_feed_26 : decode cX7_feed 26 = .ok (.aload_n 0, 1) := by decide +kernel
theorem dX7_feed_27 : decode cX7_feed 27 = .ok (.getfield 56, 3) := by decide +kernel
theorem dX7_feed_30 : decode cX7_feed 30 = .ok (.aload_n 0, 1) := by decide +kernel
theorem dX7_feed_31 : decode cX7_feed 31 = .ok (.getfield 47, 3) := by decide +kernel
theorem dX7_feed_34 : decode cX7_feed 34 = .ok (.iload_n 1, 1) := by decide +kernel
theorem dX7_feed_35 : decode cX7_feed 35 = .ok (.iastore, 1) := by decide +kernel
theorem dX7_feed_36 : decode cX7_feed 36 = .ok (.aload_n 0, 1) := by decide +kernel
theorem dX7_feed_37 : decode cX7_feed 37 = .ok (.dup, 1) := by decide +kernel
theorem dX7_feed_38 : decode cX7_feed 38 = .ok (.getfield 47, 3) := by decide +kernel
theorem dX7_feed_41 : decode cX7_feed 41 = .ok (.iconst 1, 1) := by decide +kernel
theorem dX7_feed_42 : decode cX7_feed 42 = .ok (.iadd, 1) := by decide +kernel
theorem dX7_feed_43 : decode cX7_feed 43 = .ok (.putfield 47, 3) := by decide +kernel
theorem dX7_feed_46 : decode cX7_feed 46 = .ok (.aload_n 0, 1) := by decide +kernel
theorem dX7_feed_47 : decode cX7_feed 47 = .ok (.getfield 47, 3) := by decide +kernel
theorem dX7_feed_50 : decode cX7_feed 50 = .ok (.ireturn, 1) := by decide +kernel
theorem dX7_next_0 : decode cX7_next 0 = .ok (.aload_n 0, 1) := by decide +kernel
theorem dX7_next_1 : decode cX7_next 1 = .ok (.getfield 50, 3) := by decide +kernel
theorem dX7_next_4 : decode cX7_next 4 = .ok (.aload_n 0, 1) := by decide +kernel
theorem dX7_next_5 : decode cX7_next 5 = .ok (.getfield 47, 3) := by decide +kernel
theorem dX7_next_8 : decode cX7_next 8 = .ok (.if_icmp .ge 15, 3) := by decide +kernel
theorem dX7_next_11 : decode cX7_next 11 = .ok (.aload_n 0, 1) := by decide +kernel
theorem dX7_next_12 : decode cX7_next 12 = .ok (.getfield 56, 3) := by decide +kernel
theorem dX7_next_15 : decode cX7_next 15 = .ok (.aload_n 0, 1) := by decide +kernel
theorem dX7_next_16 : decode cX7_next 16 = .ok (.getfield 50, 3) := by decide +kernel
theorem dX7_next_19 : decode cX7_next 19 = .ok (.iaload, 1) := by decide +kernel
theorem dX7_next_20 : decode cX7_next 20 = .ok (.goto 4, 3) := by decide +kernel
theorem dX7_next_23 : decode cX7_next 23 = .ok (.iconst (-1), 1) := by decide +kernel
theorem dX7_next_24 : decode cX7_next 24 = .ok (.ireturn, 1) := by decide +kernel
theorem dX7_second_0 : decode cX7_second 0 = .ok (.aload_n 0, 1) := by decide +kernel
theorem dX7_second_1 : decode cX7_second 1 = .ok (.getfield 50, 3) := by decide +kernel
theorem dX7_second_4 : decode cX7_second 4 = .ok (.iconst 1, 1) := by decide +kernel
theorem dX7_second_5 : decode cX7_second 5 = .ok (.iadd, 1) := by decide +kernel
theorem dX7_second_6 : decode cX7_second 6 = .ok (.aload_n 0, 1) := by decide +kernel
theorem dX7_second_7 : decode cX7_second 7 = .ok (.getfield 47, 3) := by decide +kernel
theorem dX7_second_10 : decode cX7_second 10 = .ok (.if_icmp .ge 17, 3) := by decide +kernel
theorem dX7_second_13 : decode cX7_second 13 = .ok (.aload_n 0, 1) := by decide +kernel
theorem dX7_second_14 : decode cX7_second 14 = .ok (.getfield 56, 3) := by decide +kernel
theorem dX7_second_17 : decode cX7_second 17 = .ok (.aload_n 0, 1) := by decide +kernel
theorem dX7_second_18 : decode cX7_second 18 = .ok (.getfield 50, 3) := by decide +kernel
theorem dX7_second_21 : decode cX7_second 21 = .ok (.iconst 1, 1) := by decide +kernel
theorem dX7_second_22 : decode cX7_second 22 = .ok (.iadd, 1) := by decide +kernel
theorem dX7_second_23 : decode cX7_second 23 = .ok (.iaload, 1) := by decide +kernel
theorem dX7_second_24 : decode cX7_second 24 = .ok (.goto 4, 3) := by decide +kernel
theorem dX7_second_27 : decode cX7_second 27 = .ok (.iconst (-1), 1) := by decide +kernel
theorem dX7_second_28 : decode cX7_second 28 = .ok (.ireturn, 1) := by decide +kernel
theorem dX7_takes_0 : decode cX7_takes 0 = .ok (.aload_n 0, 1) := by decide +kernel
theorem dX7_takes_1 : decode cX7_takes 1 = .ok (.invokevirtual 224, 3) := by decide +kernel
theorem dX7_takes_4 : decode cX7_takes 4 = .ok (.iload_n 1, 1) := by decide +kernel
theorem dX7_takes_5 : decode cX7_takes 5 = .ok (.if_icmp .eq 5, 3) := by decide +kernel
theorem dX7_takes_8 : decode cX7_takes 8 = .ok (.iconst 0, 1) := by decide +kernel
theorem dX7_takes_9 : decode cX7_takes 9 = .ok (.ireturn, 1) := by decide +kernel
theorem dX7_takes_10 : decode cX7_takes 10 = .ok (.aload_n 0, 1) := by decide +kernel
theorem dX7_takes_11 : decode cX7_takes 11 = .ok (.dup, 1) := by decide +kernel
theorem dX7_takes_12 : decode cX7_takes 12 = .ok (.getfield 50, 3) := by decide +kernel
theorem dX7_takes_15 : decode cX7_takes 15 = .ok (.iconst 1, 1) := by decide +kernel
theorem dX7_takes_16 : decode cX7_takes 16 = .ok (.iadd, 1) := by decide +kernel
theorem dX7_takes_17 : decode cX7_takes 17 = .ok (.putfield 50, 3) := by decide +kernel
theorem dX7_takes_20 : decode cX7_takes 20 = .ok (.iconst 1, 1) := by decide +kernel
theorem dX7_takes_21 : decode cX7_takes 21 = .ok (.ireturn, 1) := by decide +kernel
theorem dX7_takesWord_0 : decode cX7_takesWord 0 = .ok (.iconst 0, 1) := by decide +kernel
theorem dX7_takesWord_1 : decode cX7_takesWord 1 = .ok (.istore_n 3, 1) := by decide +kernel
theorem dX7_takesWord_2 : decode cX7_takesWord 2 = .ok (.iload_n 3, 1) := by decide +kernel
theorem dX7_takesWord_3 : decode cX7_takesWord 3 = .ok (.iload_n 2, 1) := by decide +kernel
theorem dX7_takesWord_4 : decode cX7_takesWord 4 = .ok (.if_icmp .ge 26, 3) := by decide +kernel
theorem dX7_takesWord_7 : decode cX7_takesWord 7 = .ok (.aload_n 0, 1) := by decide +kernel
theorem dX7_takesWord_8 : decode cX7_takesWord 8 = .ok (.aload_n 0, 1) := by decide +kernel
theorem dX7_takesWord_9 : decode cX7_takesWord 9 = .ok (.getfield 89, 3) := by decide +kernel
theorem dX7_takesWord_12 : decode cX7_takesWord 12 = .ok (.iload_n 1, 1) := by decide +kernel
theorem dX7_takesWord_13 : decode cX7_takesWord 13 = .ok (.iload_n 3, 1) := by decide +kernel
theorem dX7_takesWord_14 : decode cX7_takesWord 14 = .ok (.iadd, 1) := by decide +kernel
theorem dX7_takesWord_15 : decode cX7_takesWord 15 = .ok (.iaload, 1) := by decide +kernel
theorem dX7_takesWord_16 : decode cX7_takesWord 16 = .ok (.invokevirtual 228, 3) := by decide +kernel
theorem dX7_takesWord_19 : decode cX7_takesWord 19 = .ok (.ifCond .ne 5, 3) := by decide +kernel
theorem dX7_takesWord_22 : decode cX7_takesWord 22 = .ok (.iconst 0, 1) := by decide +kernel
theorem dX7_takesWord_23 : decode cX7_takesWord 23 = .ok (.ireturn, 1) := by decide +kernel
theorem dX7_takesWord_24 : decode cX7_takesWord 24 = .ok (.iinc 3 1, 3) := by decide +kernel
theorem dX7_takesWord_27 : decode cX7_takesWord 27 = .ok (.goto (-25), 3) := by decide +kernel
theorem dX7_takesWord_30 : decode cX7_takesWord 30 = .ok (.aload_n 0, 1) := by decide +kernel
theorem dX7_takesWord_31 : decode cX7_takesWord 31 = .ok (.bipush 32, 2) := by decide +kernel
theorem dX7_takesWord_33 : decode cX7_takesWord 33 = .ok (.invokevirtual 228, 3) := by decide +kernel
theorem dX7_takesWord_36 : decode cX7_takesWord 36 = .ok (.ireturn, 1) := by decide +kernel
theorem dX7_isDigit_0 : decode cX7_isDigit 0 = .ok (.aload_n 0, 1) := by decide +kernel
theorem dX7_isDigit_1 : decode cX7_isDigit 1 = .ok (.aload_n 0, 1) := by decide +kernel
theorem dX7_isDigit_2 : decode cX7_isDigit 2 = .ok (.invokevirtual 224, 3) := by decide +kernel
theorem dX7_isDigit_5 : decode cX7_isDigit 5 = .ok (.bipush 48, 2) := by decide +kernel
theorem dX7_isDigit_7 : decode cX7_isDigit 7 = .ok (.bipush 57, 2) := by decide +kernel
theorem dX7_isDigit_9 : decode cX7_isDigit 9 = .ok (.invokevirtual 212, 3) := by decide +kernel
theorem dX7_isDigit_12 : decode cX7_isDigit 12 = .ok (.ireturn, 1) := by decide +kernel
theorem dX7_takesNumber_0 : decode cX7_takesNumber 0 = .ok (.aload_n 0, 1) := by decide +kernel
theorem dX7_takesNumber_1 : decode cX7_takesNumber 1 = .ok (.invokevirtual 231, 3) := by decide +kernel
theorem dX7_takesNumber_4 : decode cX7_takesNumber 4 = .ok (.ifCond .ne 5, 3) := by decide +kernel
theorem dX7_takesNumber_7 : decode cX7_takesNumber 7 = .ok (.iconst 0, 1) := by decide +kernel
theorem dX7_takesNumber_8 : decode cX7_takesNumber 8 = .ok (.ireturn, 1) := by decide +kernel
theorem dX7_takesNumber_9 : decode cX7_takesNumber 9 = .ok (.aload_n 0, 1) := by decide +kernel
theorem dX7_takesNumber_10 : decode cX7_takesNumber 10 = .ok (.iconst 0, 1) := by decide +kernel
theorem dX7_takesNumber_11 : decode cX7_takesNumber 11 = .ok (.putfield 53, 3) := by decide +kernel
theorem dX7_takesNumber_14 : decode cX7_takesNumber 14 = .ok (.iconst 0, 1) := by decide +kernel
theorem dX7_takesNumber_15 : decode cX7_takesNumber 15 = .ok (.istore_n 1, 1) := by decide +kernel
theorem dX7_takesNumber_16 : decode cX7_takesNumber 16 = .ok (.iload_n 1, 1) := by decide +kernel
theorem dX7_takesNumber_17 : decode cX7_takesNumber 17 = .ok (.iconst 2, 1) := by decide +kernel
theorem dX7_takesNumber_18 : decode cX7_takesNumber 18 = .ok (.if_icmp .ge 45, 3) := by decide +kernel
theorem dX7_takesNumber_21 : decode cX7_takesNumber 21 = .ok (.aload_n 0, 1) := by decide +kernel
theorem dX7_takesNumber_22 : decode cX7_takesNumber 22 = .ok (.invokevirtual 231, 3) := by decide +kernel
theorem dX7_takesNumber_25 : decode cX7_takesNumber 25 = .ok (.ifCond .eq 38, 3) := by decide +kernel
theorem dX7_takesNumber_28 : decode cX7_takesNumber 28 = .ok (.aload_n 0, 1) := by decide +kernel
theorem dX7_takesNumber_29 : decode cX7_takesNumber 29 = .ok (.bipush 10, 2) := by decide +kernel
theorem dX7_takesNumber_31 : decode cX7_takesNumber 31 = .ok (.aload_n 0, 1) := by decide +kernel
theorem dX7_takesNumber_32 : decode cX7_takesNumber 32 = .ok (.getfield 53, 3) := by decide +kernel
theorem dX7_takesNumber_35 : decode cX7_takesNumber 35 = .ok (.imul, 1) := by decide +kernel
theorem dX7_takesNumber_36 : decode cX7_takesNumber 36 = .ok (.aload_n 0, 1) := by decide +kernel
theorem dX7_takesNumber_37 : decode cX7_takesNumber 37 = .ok (.invokevirtual 224, 3) := by decide +kernel
theorem dX7_takesNumber_40 : decode cX7_takesNumber 40 = .ok (.iadd, 1) := by decide +kernel
theorem dX7_takesNumber_41 : decode cX7_takesNumber 41 = .ok (.bipush 48, 2) := by decide +kernel
theorem dX7_takesNumber_43 : decode cX7_takesNumber 43 = .ok (.isub, 1) := by decide +kernel
theorem dX7_takesNumber_44 : decode cX7_takesNumber 44 = .ok (.putfield 53, 3) := by decide +kernel
theorem dX7_takesNumber_47 : decode cX7_takesNumber 47 = .ok (.aload_n 0, 1) := by decide +kernel
theorem dX7_takesNumber_48 : decode cX7_takesNumber 48 = .ok (.dup, 1) := by decide +kernel
theorem dX7_takesNumber_49 : decode cX7_takesNumber 49 = .ok (.getfield 50, 3) := by decide +kernel
theorem dX7_takesNumber_52 : decode cX7_takesNumber 52 = .ok (.iconst 1, 1) := by decide +kernel
theorem dX7_takesNumber_53 : decode cX7_takesNumber 53 = .ok (.iadd, 1) := by decide +kernel
theorem dX7_takesNumber_54 : decode cX7_takesNumber 54 = .ok (.putfield 50, 3) := by decide +kernel
theorem dX7_takesNumber_57 : decode cX7_takesNumber 57 = .ok (.iinc 1 1, 3) := by decide +kernel
theorem dX7_takesNumber_60 : decode cX7_takesNumber 60 = .ok (.goto (-44), 3) := by decide +kernel
theorem dX7_takesNumber_63 : decode cX7_takesNumber 63 = .ok (.iconst 1, 1) := by decide +kernel
theorem dX7_takesNumber_64 : decode cX7_takesNumber 64 = .ok (.ireturn, 1) := by decide +kernel
theorem dX7_put_0 : decode cX7_put 0 = .ok (.aload_n 0, 1) := by decide +kernel
theorem dX7_put_1 : decode cX7_put 1 = .ok (.getfield 74, 3) := by decide +kernel
theorem dX7_put_4 : decode cX7_put 4 = .ok (.aload_n 0, 1) := by decide +kernel
theorem dX7_put_5 : decode cX7_put 5 = .ok (.getfield 80, 3) := by decide +kernel
theorem dX7_put_8 : decode cX7_put 8 = .ok (.iload_n 1, 1) := by decide +kernel
theorem dX7_put_9 : decode cX7_put 9 = .ok (.iastore, 1) := by decide +kernel
theorem dX7_put_10 : decode cX7_put 10 = .ok (.aload_n 0, 1) := by decide +kernel
theorem dX7_put_11 : decode cX7_put 11 = .ok (.dup, 1) := by decide +kernel
theorem dX7_put_12 : decode cX7_put 12 = .ok (.getfield 80, 3) := by decide +kernel
theorem dX7_put_15 : decode cX7_put 15 = .ok (.iconst 1, 1) := by decide +kernel
theorem dX7_put_16 : decode cX7_put 16 = .ok (.iadd, 1) := by decide +kernel
theorem dX7_put_17 : decode cX7_put 17 = .ok (.putfield 80, 3) := by decide +kernel
theorem dX7_put_20 : decode cX7_put 20 = .ok (.return_, 1) := by decide +kernel
theorem dX7_whole_0 : decode cX7_whole 0 = .ok (.aload_n 0, 1) := by decide +kernel
theorem dX7_whole_1 : decode cX7_whole 1 = .ok (.getfield 83, 3) := by decide +kernel
theorem dX7_whole_4 : decode cX7_whole 4 = .ok (.ifCond .le 48, 3) := by decide +kernel
theorem dX7_whole_7 : decode cX7_whole 7 = .ok (.aload_n 0, 1) := by decide +kernel
theorem dX7_whole_8 : decode cX7_whole 8 = .ok (.getfield 77, 3) := by decide +kernel
theorem dX7_whole_11 : decode cX7_whole 11 = .ok (.aload_n 0, 1) := by decide +kernel
theorem dX7_whole_12 : decode cX7_whole 12 = .ok (.getfield 83, 3) := by decide +kernel
theorem dX7_whole_15 : decode cX7_whole 15 = .ok (.iconst 1, 1) := by decide +kernel
theorem dX7_whole_16 : decode cX7_whole 16 = .ok (.isub, 1) := by decide +kernel
end
section
theorem dX7_whole_17 : decode cX7_whole 17 = .ok (.iaload, 1) := by decide +kernel
theorem dX7_whole_18 : decode cX7_whole 18 = .ok (.bipush 33, 2) := by decide +kernel
theorem dX7_whole_20 : decode cX7_whole 20 = .ok (.if_icmp .ne 32, 3) := by decide +kernel
theorem dX7_whole_23 : decode cX7_whole 23 = .ok (.aload_n 0, 1) := by decide +kernel
theorem dX7_whole_24 : decode cX7_whole 24 = .ok (.bipush (-33), 2) := by decide +kernel
theorem dX7_whole_26 : decode cX7_whole 26 = .ok (.invokevirtual 235, 3) := by decide +kernel
theorem dX7_whole_29 : decode cX7_whole 29 = .ok (.aload_n 0, 1) := by decide +kernel
theorem dX7_whole_30 : decode cX7_whole 30 = .ok (.dup, 1) := by decide +kernel
theorem dX7_whole_31 : decode cX7_whole 31 = .ok (.getfield 83, 3) := by decide +kernel
theorem dX7_whole_34 : decode cX7_whole 34 = .ok (.iconst 1, 1) := by decide +kernel
theorem dX7_whole_35 : decode cX7_whole 35 = .ok (.isub, 1) := by decide +kernel
theorem dX7_whole_36 : decode cX7_whole 36 = .ok (.putfield 83, 3) := by decide +kernel
theorem dX7_whole_39 : decode cX7_whole 39 = .ok (.aload_n 0, 1) := by decide +kernel
theorem dX7_whole_40 : decode cX7_whole 40 = .ok (.dup, 1) := by decide +kernel
theorem dX7_whole_41 : decode cX7_whole 41 = .ok (.getfield 86, 3) := by decide +kernel
theorem dX7_whole_44 : decode cX7_whole 44 = .ok (.iconst 1, 1) := by decide +kernel
theorem dX7_whole_45 : decode cX7_whole 45 = .ok (.isub, 1) := by decide +kernel
theorem dX7_whole_46 : decode cX7_whole 46 = .ok (.putfield 86, 3) := by decide +kernel
theorem dX7_whole_49 : decode cX7_whole 49 = .ok (.goto (-49), 3) := by decide +kernel
theorem dX7_whole_52 : decode cX7_whole 52 = .ok (.return_, 1) := by decide +kernel
theorem dX7_settle_0 : decode cX7_settle 0 = .ok (.aload_n 0, 1) := by decide +kernel
theorem dX7_settle_1 : decode cX7_settle 1 = .ok (.getfield 83, 3) := by decide +kernel
theorem dX7_settle_4 : decode cX7_settle 4 = .ok (.ifCond .le 68, 3) := by decide +kernel
theorem dX7_settle_7 : decode cX7_settle 7 = .ok (.aload_n 0, 1) := by decide +kernel
theorem dX7_settle_8 : decode cX7_settle 8 = .ok (.getfield 77, 3) := by decide +kernel
theorem dX7_settle_11 : decode cX7_settle 11 = .ok (.aload_n 0, 1) := by decide +kernel
theorem dX7_settle_12 : decode cX7_settle 12 = .ok (.getfield 83, 3) := by decide +kernel
theorem dX7_settle_15 : decode cX7_settle 15 = .ok (.iconst 1, 1) := by decide +kernel
theorem dX7_settle_16 : decode cX7_settle 16 = .ok (.isub, 1) := by decide +kernel
theorem dX7_settle_17 : decode cX7_settle 17 = .ok (.iaload, 1) := by decide +kernel
theorem dX7_settle_18 : decode cX7_settle 18 = .ok (.bipush 38, 2) := by decide +kernel
theorem dX7_settle_20 : decode cX7_settle 20 = .ok (.if_icmp .eq 25, 3) := by decide +kernel
theorem dX7_settle_23 : decode cX7_settle 23 = .ok (.aload_n 0, 1) := by decide +kernel
theorem dX7_settle_24 : decode cX7_settle 24 = .ok (.getfield 77, 3) := by decide +kernel
theorem dX7_settle_27 : decode cX7_settle 27 = .ok (.aload_n 0, 1) := by decide +kernel
theorem dX7_settle_28 : decode cX7_settle 28 = .ok (.getfield 83, 3) := by decide +kernel
theorem dX7_settle_31 : decode cX7_settle 31 = .ok (.iconst 1, 1) := by decide +kernel
theorem dX7_settle_32 : decode cX7_settle 32 = .ok (.isub, 1) := by decide +kernel
theorem dX7_settle_33 : decode cX7_settle 33 = .ok (.iaload, 1) := by decide +kernel
theorem dX7_settle_34 : decode cX7_settle 34 = .ok (.bipush 124, 2) := by decide +kernel
theorem dX7_settle_36 : decode cX7_settle 36 = .ok (.if_icmp .ne 36, 3) := by decide +kernel
theorem dX7_settle_39 : decode cX7_settle 39 = .ok (.iload_n 1, 1) := by decide +kernel
theorem dX7_settle_40 : decode cX7_settle 40 = .ok (.bipush 38, 2) := by decide +kernel
theorem dX7_settle_42 : decode cX7_settle 42 = .ok (.if_icmp .eq 30, 3) := by decide +kernel
theorem dX7_settle_45 : decode cX7_settle 45 = .ok (.aload_n 0, 1) := by decide +kernel
theorem dX7_settle_46 : decode cX7_settle 46 = .ok (.dup, 1) := by decide +kernel
theorem dX7_settle_47 : decode cX7_settle 47 = .ok (.getfield 83, 3) := by decide +kernel
theorem dX7_settle_50 : decode cX7_settle 50 = .ok (.iconst 1, 1) := by decide +kernel
theorem dX7_settle_51 : decode cX7_settle 51 = .ok (.isub, 1) := by decide +kernel
theorem dX7_settle_52 : decode cX7_settle 52 = .ok (.putfield 83, 3) := by decide +kernel
theorem dX7_settle_55 : decode cX7_settle 55 = .ok (.aload_n 0, 1) := by decide +kernel
theorem dX7_settle_56 : decode cX7_settle 56 = .ok (.aload_n 0, 1) := by decide +kernel
theorem dX7_settle_57 : decode cX7_settle 57 = .ok (.getfield 77, 3) := by decide +kernel
theorem dX7_settle_60 : decode cX7_settle 60 = .ok (.aload_n 0, 1) := by decide +kernel
theorem dX7_settle_61 : decode cX7_settle 61 = .ok (.getfield 83, 3) := by decide +kernel
theorem dX7_settle_64 : decode cX7_settle 64 = .ok (.iaload, 1) := by decide +kernel
theorem dX7_settle_65 : decode cX7_settle 65 = .ok (.ineg, 1) := by decide +kernel
theorem dX7_settle_66 : decode cX7_settle 66 = .ok (.invokevirtual 235, 3) := by decide +kernel
theorem dX7_settle_69 : decode cX7_settle 69 = .ok (.goto (-69), 3) := by decide +kernel
theorem dX7_settle_72 : decode cX7_settle 72 = .ok (.return_, 1) := by decide +kernel
theorem dX7_place_0 : decode cX7_place 0 = .ok (.iload_n 1, 1) := by decide +kernel
theorem dX7_place_1 : decode cX7_place 1 = .ok (.tableswitch 71 97 107 #[65, 67, 71, 69, 71, 71, 71, 63, 59, 71, 61], 59) := by decide +kernel
theorem dX7_place_60 : decode cX7_place 60 = .ok (.iconst 0, 1) := by decide +kernel
theorem dX7_place_61 : decode cX7_place 61 = .ok (.ireturn, 1) := by decide +kernel
theorem dX7_place_62 : decode cX7_place 62 = .ok (.iconst 1, 1) := by decide +kernel
theorem dX7_place_63 : decode cX7_place 63 = .ok (.ireturn, 1) := by decide +kernel
theorem dX7_place_64 : decode cX7_place 64 = .ok (.iconst 2, 1) := by decide +kernel
theorem dX7_place_65 : decode cX7_place 65 = .ok (.ireturn, 1) := by decide +kernel
theorem dX7_place_66 : decode cX7_place 66 = .ok (.iconst 3, 1) := by decide +kernel
theorem dX7_place_67 : decode cX7_place 67 = .ok (.ireturn, 1) := by decide +kernel
theorem dX7_place_68 : decode cX7_place 68 = .ok (.iconst 4, 1) := by decide +kernel
theorem dX7_place_69 : decode cX7_place 69 = .ok (.ireturn, 1) := by decide +kernel
theorem dX7_place_70 : decode cX7_place 70 = .ok (.iconst 5, 1) := by decide +kernel
theorem dX7_place_71 : decode cX7_place 71 = .ok (.ireturn, 1) := by decide +kernel
theorem dX7_place_72 : decode cX7_place 72 = .ok (.iconst (-1), 1) := by decide +kernel
theorem dX7_place_73 : decode cX7_place 73 = .ok (.ireturn, 1) := by decide +kernel
theorem dX7_takesTest_0 : decode cX7_takesTest 0 = .ok (.aload_n 0, 1) := by decide +kernel
theorem dX7_takesTest_1 : decode cX7_takesTest 1 = .ok (.aload_n 0, 1) := by decide +kernel
theorem dX7_takesTest_2 : decode cX7_takesTest 2 = .ok (.invokevirtual 224, 3) := by decide +kernel
theorem dX7_takesTest_5 : decode cX7_takesTest 5 = .ok (.invokevirtual 239, 3) := by decide +kernel
theorem dX7_takesTest_8 : decode cX7_takesTest 8 = .ok (.istore_n 1, 1) := by decide +kernel
theorem dX7_takesTest_9 : decode cX7_takesTest 9 = .ok (.iload_n 1, 1) := by decide +kernel
theorem dX7_takesTest_10 : decode cX7_takesTest 10 = .ok (.ifCond .ge 5, 3) := by decide +kernel
theorem dX7_takesTest_13 : decode cX7_takesTest 13 = .ok (.iconst 0, 1) := by decide +kernel
theorem dX7_takesTest_14 : decode cX7_takesTest 14 = .ok (.ireturn, 1) := by decide +kernel
theorem dX7_takesTest_15 : decode cX7_takesTest 15 = .ok (.aload_n 0, 1) := by decide +kernel
theorem dX7_takesTest_16 : decode cX7_takesTest 16 = .ok (.dup, 1) := by decide +kernel
theorem dX7_takesTest_17 : decode cX7_takesTest 17 = .ok (.getfield 50, 3) := by decide +kernel
theorem dX7_takesTest_20 : decode cX7_takesTest 20 = .ok (.iconst 1, 1) := by decide +kernel
theorem dX7_takesTest_21 : decode cX7_takesTest 21 = .ok (.iadd, 1) := by decide +kernel
theorem dX7_takesTest_22 : decode cX7_takesTest 22 = .ok (.putfield 50, 3) := by decide +kernel
theorem dX7_takesTest_25 : decode cX7_takesTest 25 = .ok (.aload_n 0, 1) := by decide +kernel
theorem dX7_takesTest_26 : decode cX7_takesTest 26 = .ok (.invokevirtual 224, 3) := by decide +kernel
theorem dX7_takesTest_29 : decode cX7_takesTest 29 = .ok (.istore_n 2, 1) := by decide +kernel
theorem dX7_takesTest_30 : decode cX7_takesTest 30 = .ok (.aload_n 0, 1) := by decide +kernel
theorem dX7_takesTest_31 : decode cX7_takesTest 31 = .ok (.iload_n 2, 1) := by decide +kernel
theorem dX7_takesTest_32 : decode cX7_takesTest 32 = .ok (.bipush 60, 2) := by decide +kernel
theorem dX7_takesTest_34 : decode cX7_takesTest 34 = .ok (.bipush 62, 2) := by decide +kernel
theorem dX7_takesTest_36 : decode cX7_takesTest 36 = .ok (.invokevirtual 212, 3) := by decide +kernel
theorem dX7_takesTest_39 : decode cX7_takesTest 39 = .ok (.ifCond .ne 5, 3) := by decide +kernel
theorem dX7_takesTest_42 : decode cX7_takesTest 42 = .ok (.iconst 0, 1) := by decide +kernel
theorem dX7_takesTest_43 : decode cX7_takesTest 43 = .ok (.ireturn, 1) := by decide +kernel
theorem dX7_takesTest_44 : decode cX7_takesTest 44 = .ok (.aload_n 0, 1) := by decide +kernel
theorem dX7_takesTest_45 : decode cX7_takesTest 45 = .ok (.dup, 1) := by decide +kernel
theorem dX7_takesTest_46 : decode cX7_takesTest 46 = .ok (.getfield 50, 3) := by decide +kernel
theorem dX7_takesTest_49 : decode cX7_takesTest 49 = .ok (.iconst 1, 1) := by decide +kernel
theorem dX7_takesTest_50 : decode cX7_takesTest 50 = .ok (.iadd, 1) := by decide +kernel
theorem dX7_takesTest_51 : decode cX7_takesTest 51 = .ok (.putfield 50, 3) := by decide +kernel
theorem dX7_takesTest_54 : decode cX7_takesTest 54 = .ok (.aload_n 0, 1) := by decide +kernel
theorem dX7_takesTest_55 : decode cX7_takesTest 55 = .ok (.invokevirtual 243, 3) := by decide +kernel
theorem dX7_takesTest_58 : decode cX7_takesTest 58 = .ok (.ifCond .ne 5, 3) := by decide +kernel
theorem dX7_takesTest_61 : decode cX7_takesTest 61 = .ok (.iconst 0, 1) := by decide +kernel
theorem dX7_takesTest_62 : decode cX7_takesTest 62 = .ok (.ireturn, 1) := by decide +kernel
theorem dX7_takesTest_63 : decode cX7_takesTest 63 = .ok (.aload_n 0, 1) := by decide +kernel
theorem dX7_takesTest_64 : decode cX7_takesTest 64 = .ok (.sipush 1000, 3) := by decide +kernel
theorem dX7_takesTest_67 : decode cX7_takesTest 67 = .ok (.iload_n 1, 1) := by decide +kernel
theorem dX7_takesTest_68 : decode cX7_takesTest 68 = .ok (.imul, 1) := by decide +kernel
theorem dX7_takesTest_69 : decode cX7_takesTest 69 = .ok (.bipush 100, 2) := by decide +kernel
theorem dX7_takesTest_71 : decode cX7_takesTest 71 = .ok (.iload_n 2, 1) := by decide +kernel
theorem dX7_takesTest_72 : decode cX7_takesTest 72 = .ok (.bipush 60, 2) := by decide +kernel
theorem dX7_takesTest_74 : decode cX7_takesTest 74 = .ok (.isub, 1) := by decide +kernel
theorem dX7_takesTest_75 : decode cX7_takesTest 75 = .ok (.imul, 1) := by decide +kernel
theorem dX7_takesTest_76 : decode cX7_takesTest 76 = .ok (.iadd, 1) := by decide +kernel
theorem dX7_takesTest_77 : decode cX7_takesTest 77 = .ok (.aload_n 0, 1) := by decide +kernel
theorem dX7_takesTest_78 : decode cX7_takesTest 78 = .ok (.getfield 53, 3) := by decide +kernel
theorem dX7_takesTest_81 : decode cX7_takesTest 81 = .ok (.iadd, 1) := by decide +kernel
theorem dX7_takesTest_82 : decode cX7_takesTest 82 = .ok (.invokevirtual 235, 3) := by decide +kernel
theorem dX7_takesTest_85 : decode cX7_takesTest 85 = .ok (.aload_n 0, 1) := by decide +kernel
theorem dX7_takesTest_86 : decode cX7_takesTest 86 = .ok (.invokevirtual 246, 3) := by decide +kernel
theorem dX7_takesTest_89 : decode cX7_takesTest 89 = .ok (.iconst 1, 1) := by decide +kernel
theorem dX7_takesTest_90 : decode cX7_takesTest 90 = .ok (.ireturn, 1) := by decide +kernel
theorem dX7_takesE_0 : decode cX7_takesE 0 = .ok (.aload_n 0, 1) := by decide +kernel
theorem dX7_takesE_1 : decode cX7_takesE 1 = .ok (.iconst 0, 1) := by decide +kernel
theorem dX7_takesE_2 : decode cX7_takesE 2 = .ok (.putfield 83, 3) := by decide +kernel
theorem dX7_takesE_5 : decode cX7_takesE 5 = .ok (.aload_n 0, 1) := by decide +kernel
theorem dX7_takesE_6 : decode cX7_takesE 6 = .ok (.iconst 0, 1) := by decide +kernel
theorem dX7_takesE_7 : decode cX7_takesE 7 = .ok (.putfield 86, 3) := by decide +kernel
theorem dX7_takesE_10 : decode cX7_takesE 10 = .ok (.aload_n 0, 1) := by decide +kernel
theorem dX7_takesE_11 : decode cX7_takesE 11 = .ok (.getfield 68, 3) := by decide +kernel
theorem dX7_takesE_14 : decode cX7_takesE 14 = .ok (.iload_n 1, 1) := by decide +kernel
theorem dX7_takesE_15 : decode cX7_takesE 15 = .ok (.aload_n 0, 1) := by decide +kernel
theorem dX7_takesE_16 : decode cX7_takesE 16 = .ok (.getfield 80, 3) := by decide +kernel
theorem dX7_takesE_19 : decode cX7_takesE 19 = .ok (.iastore, 1) := by decide +kernel
theorem dX7_takesE_20 : decode cX7_takesE 20 = .ok (.iconst 1, 1) := by decide +kernel
theorem dX7_takesE_21 : decode cX7_takesE 21 = .ok (.istore_n 2, 1) := by decide +kernel
theorem dX7_takesE_22 : decode cX7_takesE 22 = .ok (.aload_n 0, 1) := by decide +kernel
theorem dX7_takesE_23 : decode cX7_takesE 23 = .ok (.invokevirtual 224, 3) := by decide +kernel
theorem dX7_takesE_26 : decode cX7_takesE 26 = .ok (.istore_n 3, 1) := by decide +kernel
theorem dX7_takesE_27 : decode cX7_takesE 27 = .ok (.iload_n 2, 1) := by decide +kernel
theorem dX7_takesE_28 : decode cX7_takesE 28 = .ok (.ifCond .eq 82, 3) := by decide +kernel
theorem dX7_takesE_31 : decode cX7_takesE 31 = .ok (.iload_n 3, 1) := by decide +kernel
theorem dX7_takesE_32 : decode cX7_takesE 32 = .ok (.bipush 33, 2) := by decide +kernel
theorem dX7_takesE_34 : decode cX7_takesE 34 = .ok (.if_icmp .eq 9, 3) := by decide +kernel
theorem dX7_takesE_37 : decode cX7_takesE 37 = .ok (.iload_n 3, 1) := by decide +kernel
theorem dX7_takesE_38 : decode cX7_takesE 38 = .ok (.bipush 40, 2) := by decide +kernel
theorem dX7_takesE_40 : decode cX7_takesE 40 = .ok (.if_icmp .ne 56, 3) := by decide +kernel
theorem dX7_takesE_43 : decode cX7_takesE 43 = .ok (.aload_n 0, 1) := by decide +kernel
theorem dX7_takesE_44 : decode cX7_takesE 44 = .ok (.getfield 86, 3) := by decide +kernel
theorem dX7_takesE_47 : decode cX7_takesE 47 = .ok (.iconst 4, 1) := by decide +kernel
theorem dX7_takesE_48 : decode cX7_takesE 48 = .ok (.if_icmp .ne 5, 3) := by decide +kernel
theorem dX7_takesE_51 : decode cX7_takesE 51 = .ok (.iconst 0, 1) := by decide +kernel
theorem dX7_takesE_52 : decode cX7_takesE 52 = .ok (.ireturn, 1) := by decide +kernel
theorem dX7_takesE_53 : decode cX7_takesE 53 = .ok (.aload_n 0, 1) := by decide +kernel
theorem dX7_takesE_54 : decode cX7_takesE 54 = .ok (.dup, 1) := by decide +kernel
theorem dX7_takesE_55 : decode cX7_takesE 55 = .ok (.getfield 86, 3) := by decide +kernel
theorem dX7_takesE_58 : decode cX7_takesE 58 = .ok (.iconst 1, 1) := by decide +kernel
theorem dX7_takesE_59 : decode cX7_takesE 59 = .ok (.iadd, 1) := by decide +kernel
theorem dX7_takesE_60 : decode cX7_takesE 60 = .ok (.putfield 86, 3) := by decide +kernel
theorem dX7_takesE_63 : decode cX7_takesE 63 = .ok (.aload_n 0, 1) := by decide +kernel
theorem dX7_takesE_64 : decode cX7_takesE 64 = .ok (.getfield 77, 3) := by decide +kernel
theorem dX7_takesE_67 : decode cX7_takesE 67 = .ok (.aload_n 0, 1) := by decide +kernel
theorem dX7_takesE_68 : decode cX7_takesE 68 = .ok (.getfield 83, 3) := by decide +kernel
theorem dX7_takesE_71 : decode cX7_takesE 71 = .ok (.iload_n 3, 1) := by decide +kernel
theorem dX7_takesE_72 : decode cX7_takesE 72 = .ok (.iastore, 1) := by decide +kernel
theorem dX7_takesE_73 : decode cX7_takesE 73 = .ok (.aload_n 0, 1) := by decide +kernel
theorem dX7_takesE_74 : decode cX7_takesE 74 = .ok (.dup, 1) := by decide +kernel
theorem dX7_takesE_75 : decode cX7_takesE 75 = .ok (.getfield 83, 3) := by decide +kernel
theorem dX7_takesE_78 : decode cX7_takesE 78 = .ok (.iconst 1, 1) := by decide +kernel
theorem dX7_takesE_79 : decode cX7_takesE 79 = .ok (.iadd, 1) := by decide +kernel
theorem dX7_takesE_80 : decode cX7_takesE 80 = .ok (.putfield 83, 3) := by decide +kernel
theorem dX7_takesE_83 : decode cX7_takesE 83 = .ok (.aload_n 0, 1) := by decide +kernel
theorem dX7_takesE_84 : decode cX7_takesE 84 = .ok (.dup, 1) := by decide +kernel
theorem dX7_takesE_85 : decode cX7_takesE 85 = .ok (.getfield 50, 3) := by decide +kernel
theorem dX7_takesE_88 : decode cX7_takesE 88 = .ok (.iconst 1, 1) := by decide +kernel
theorem dX7_takesE_89 : decode cX7_takesE 89 = .ok (.iadd, 1) := by decide +kernel
theorem dX7_takesE_90 : decode cX7_takesE 90 = .ok (.putfield 50, 3) := by decide +kernel
theorem dX7_takesE_93 : decode cX7_takesE 93 = .ok (.goto (-71), 3) := by decide +kernel
theorem dX7_takesE_96 : decode cX7_takesE 96 = .ok (.aload_n 0, 1) := by decide +kernel
theorem dX7_takesE_97 : decode cX7_takesE 97 = .ok (.invokevirtual 249, 3) := by decide +kernel
theorem dX7_takesE_100 : decode cX7_takesE 100 = .ok (.ifCond .eq 8, 3) := by decide +kernel
theorem dX7_takesE_103 : decode cX7_takesE 103 = .ok (.iconst 0, 1) := by decide +kernel
theorem dX7_takesE_104 : decode cX7_takesE 104 = .ok (.istore_n 2, 1) := by decide +kernel
theorem dX7_takesE_105 : decode cX7_takesE 105 = .ok (.goto (-83), 3) := by decide +kernel
theorem dX7_takesE_108 : decode cX7_takesE 108 = .ok (.iconst 0, 1) := by decide +kernel
theorem dX7_takesE_109 : decode cX7_takesE 109 = .ok (.ireturn, 1) := by decide +kernel
theorem dX7_takesE_110 : decode cX7_takesE 110 = .ok (.iload_n 3, 1) := by decide +kernel
theorem dX7_takesE_111 : decode cX7_takesE 111 = .ok (.bipush 38, 2) := by decide +kernel
theorem dX7_takesE_113 : decode cX7_takesE 113 = .ok (.if_icmp .eq 9, 3) := by decide +kernel
theorem dX7_takesE_116 : decode cX7_takesE 116 = .ok (.iload_n 3, 1) := by decide +kernel
theorem dX7_takesE_117 : decode cX7_takesE 117 = .ok (.bipush 124, 2) := by decide +kernel
theorem dX7_takesE_119 : decode cX7_takesE 119 = .ok (.if_icmp .ne 43, 3) := by decide +kernel
theorem dX7_takesE_122 : decode cX7_takesE 122 = .ok (.aload_n 0, 1) := by decide +kernel
theorem dX7_takesE_123 : decode cX7_takesE 123 = .ok (.iload_n 3, 1) := by decide +kernel
theorem dX7_takesE_124 : decode cX7_takesE 124 = .ok (.invokevirtual 252, 3) := by decide +kernel
theorem dX7_takesE_127 : decode cX7_takesE 127 = .ok (.aload_n 0, 1) := by decide +kernel
theorem dX7_takesE_128 : decode cX7_takesE 128 = .ok (.getfield 77, 3) := by decide +kernel
theorem dX7_takesE_131 : decode cX7_takesE 131 = .ok (.aload_n 0, 1) := by decide +kernel
theorem dX7_takesE_132 : decode cX7_takesE 132 = .ok (.getfield 83, 3) := by decide +kernel
theorem dX7_takesE_135 : decode cX7_takesE 135 = .ok (.iload_n 3, 1) := by decide +kernel
theorem dX7_takesE_136 : decode cX7_takesE 136 = .ok (.iastore, 1) := by decide +kernel
theorem dX7_takesE_137 : decode cX7_takesE 137 = .ok (.aload_n 0, 1) := by decide +kernel
theorem dX7_takesE_138 : decode cX7_takesE 138 = .ok (.dup, 1) := by decide +kernel
theorem dX7_takesE_139 : decode cX7_takesE 139 = .ok (.getfield 83, 3) := by decide +kernel
theorem dX7_takesE_142 : decode cX7_takesE 142 = .ok (.iconst 1, 1) := by decide +kernel
theorem dX7_takesE_143 : decode cX7_takesE 143 = .ok (.iadd, 1) := by decide +kernel
theorem dX7_takesE_144 : decode cX7_takesE 144 = .ok (.putfield 83, 3) := by decide +kernel
theorem dX7_takesE_147 : decode cX7_takesE 147 = .ok (.iconst 1, 1) := by decide +kernel
theorem dX7_takesE_148 : decode cX7_takesE 148 = .ok (.istore_n 2, 1) := by decide +kernel
theorem dX7_takesE_149 : decode cX7_takesE 149 = .ok (.aload_n 0, 1) := by decide +kernel
theorem dX7_takesE_150 : decode cX7_takesE 150 = .ok (.dup, 1) := by decide +kernel
theorem dX7_takesE_151 : decode cX7_takesE 151 = .ok (.getfield 50, 3) := by decide +kernel
theorem dX7_takesE_154 : decode cX7_takesE 154 = .ok (.iconst 1, 1) := by decide +kernel
theorem dX7_takesE_155 : decode cX7_takesE 155 = .ok (.iadd, 1) := by decide +kernel
theorem dX7_takesE_156 : decode cX7_takesE 156 = .ok (.putfield 50, 3) := by decide +kernel
theorem dX7_takesE_159 : decode cX7_takesE 159 = .ok (.goto (-137), 3) := by decide +kernel
theorem dX7_takesE_162 : decode cX7_takesE 162 = .ok (.aload_n 0, 1) := by decide +kernel
theorem dX7_takesE_163 : decode cX7_takesE 163 = .ok (.bipush 124, 2) := by decide +kernel
theorem dX7_takesE_165 : decode cX7_takesE 165 = .ok (.invokevirtual 252, 3) := by decide +kernel
theorem dX7_takesE_168 : decode cX7_takesE 168 = .ok (.aload_n 0, 1) := by decide +kernel
theorem dX7_takesE_169 : decode cX7_takesE 169 = .ok (.getfield 71, 3) := by decide +kernel
theorem dX7_takesE_172 : decode cX7_takesE 172 = .ok (.iload_n 1, 1) := by decide +kernel
theorem dX7_takesE_173 : decode cX7_takesE 173 = .ok (.aload_n 0, 1) := by decide +kernel
theorem dX7_takesE_174 : decode cX7_takesE 174 = .ok (.getfield 80, 3) := by decide +kernel
theorem dX7_takesE_177 : decode cX7_takesE 177 = .ok (.iastore, 1) := by decide +kernel
theorem dX7_takesE_178 : decode cX7_takesE 178 = .ok (.aload_n 0, 1) := by decide +kernel
theorem dX7_takesE_179 : decode cX7_takesE 179 = .ok (.getfield 83, 3) := by decide +kernel
theorem dX7_takesE_182 : decode cX7_takesE 182 = .ok (.ifCond .ne 5, 3) := by decide +kernel
theorem dX7_takesE_185 : decode cX7_takesE 185 = .ok (.iconst 1, 1) := by decide +kernel
theorem dX7_takesE_186 : decode cX7_takesE 186 = .ok (.ireturn, 1) := by decide +kernel
theorem dX7_takesE_187 : decode cX7_takesE 187 = .ok (.iload_n 3, 1) := by decide +kernel
theorem dX7_takesE_188 : decode cX7_takesE 188 = .ok (.bipush 41, 2) := by decide +kernel
theorem dX7_takesE_190 : decode cX7_takesE 190 = .ok (.if_icmp .eq 5, 3) := by decide +kernel
theorem dX7_takesE_193 : decode cX7_takesE 193 = .ok (.iconst 0, 1) := by decide +kernel
theorem dX7_takesE_194 : decode cX7_takesE 194 = .ok (.ireturn, 1) := by decide +kernel
theorem dX7_takesE_195 : decode cX7_takesE 195 = .ok (.aload_n 0, 1) := by decide +kernel
theorem dX7_takesE_196 : decode cX7_takesE 196 = .ok (.dup, 1) := by decide +kernel
theorem dX7_takesE_197 : decode cX7_takesE 197 = .ok (.getfield 83, 3) := by decide +kernel
theorem dX7_takesE_200 : decode cX7_takesE 200 = .ok (.iconst 1, 1) := by decide +kernel
theorem dX7_takesE_201 : decode cX7_takesE 201 = .ok (.isub, 1) := by decide +kernel
theorem dX7_takesE_202 : decode cX7_takesE 202 = .ok (.putfield 83, 3) := by decide +kernel
theorem dX7_takesE_205 : decode cX7_takesE 205 = .ok (.aload_n 0, 1) := by decide +kernel
theorem dX7_takesE_206 : decode cX7_takesE 206 = .ok (.dup, 1) := by decide +kernel
theorem dX7_takesE_207 : decode cX7_takesE 207 = .ok (.getfield 86, 3) := by decide +kernel
theorem dX7_takesE_210 : decode cX7_takesE 210 = .ok (.iconst 1, 1) := by decide +kernel
theorem dX7_takesE_211 : decode cX7_takesE 211 = .ok (.isub, 1) := by decide +kernel
theorem dX7_takesE_212 : decode cX7_takesE 212 = .ok (.putfield 86, 3) := by decide +kernel
theorem dX7_takesE_215 : decode cX7_takesE 215 = .ok (.aload_n 0, 1) := by decide +kernel
theorem dX7_takesE_216 : decode cX7_takesE 216 = .ok (.dup, 1) := by decide +kernel
theorem dX7_takesE_217 : decode cX7_takesE 217 = .ok (.getfield 50, 3) := by decide +kernel
theorem dX7_takesE_220 : decode cX7_takesE 220 = .ok (.iconst 1, 1) := by decide +kernel
theorem dX7_takesE_221 : decode cX7_takesE 221 = .ok (.iadd, 1) := by decide +kernel
theorem dX7_takesE_222 : decode cX7_takesE 222 = .ok (.putfield 50, 3) := by decide +kernel
theorem dX7_takesE_225 : decode cX7_takesE 225 = .ok (.aload_n 0, 1) := by decide +kernel
theorem dX7_takesE_226 : decode cX7_takesE 226 = .ok (.invokevirtual 246, 3) := by decide +kernel
theorem dX7_takesE_229 : decode cX7_takesE 229 = .ok (.goto (-207), 3) := by decide +kernel
theorem dX7_takesHead_0 : decode cX7_takesHead 0 = .ok (.aload_n 0, 1) := by decide +kernel
theorem dX7_takesHead_1 : decode cX7_takesHead 1 = .ok (.invokevirtual 255, 3) := by decide +kernel
theorem dX7_takesHead_4 : decode cX7_takesHead 4 = .ok (.istore_n 2, 1) := by decide +kernel
theorem dX7_takesHead_5 : decode cX7_takesHead 5 = .ok (.aload_n 0, 1) := by decide +kernel
theorem dX7_takesHead_6 : decode cX7_takesHead 6 = .ok (.invokevirtual 224, 3) := by decide +kernel
theorem dX7_takesHead_9 : decode cX7_takesHead 9 = .ok (.lookupswitch 104 #[(98, 49), (108, 63), (119, 35)], 35) := by decide +kernel
theorem dX7_takesHead_44 : decode cX7_takesHead 44 = .ok (.aload_n 0, 1) := by decide +kernel
theorem dX7_takesHead_45 : decode cX7_takesHead 45 = .ok (.getfield 62, 3) := by decide +kernel
theorem dX7_takesHead_48 : decode cX7_takesHead 48 = .ok (.iload_n 1, 1) := by decide +kernel
theorem dX7_takesHead_49 : decode cX7_takesHead 49 = .ok (.iconst 0, 1) := by decide +kernel
theorem dX7_takesHead_50 : decode cX7_takesHead 50 = .ok (.iastore, 1) := by decide +kernel
theorem dX7_takesHead_51 : decode cX7_takesHead 51 = .ok (.aload_n 0, 1) := by decide +kernel
theorem dX7_takesHead_52 : decode cX7_takesHead 52 = .ok (.iconst 0, 1) := by decide +kernel
theorem dX7_takesHead_53 : decode cX7_takesHead 53 = .ok (.iconst 5, 1) := by decide +kernel
theorem dX7_takesHead_54 : decode cX7_takesHead 54 = .ok (.invokevirtual 258, 3) := by decide +kernel
theorem dX7_takesHead_57 : decode cX7_takesHead 57 = .ok (.ireturn, 1) := by decide +kernel
theorem dX7_takesHead_58 : decode cX7_takesHead 58 = .ok (.aload_n 0, 1) := by decide +kernel
theorem dX7_takesHead_59 : decode cX7_takesHead 59 = .ok (.getfield 62, 3) := by decide +kernel
theorem dX7_takesHead_62 : decode cX7_takesHead 62 = .ok (.iload_n 1, 1) := by decide +kernel
theorem dX7_takesHead_63 : decode cX7_takesHead 63 = .ok (.iconst 1, 1) := by decide +kernel
theorem dX7_takesHead_64 : decode cX7_takesHead 64 = .ok (.iastore, 1) := by decide +kernel
theorem dX7_takesHead_65 : decode cX7_takesHead 65 = .ok (.aload_n 0, 1) := by decide +kernel
theorem dX7_takesHead_66 : decode cX7_takesHead 66 = .ok (.iconst 5, 1) := by decide +kernel
theorem dX7_takesHead_67 : decode cX7_takesHead 67 = .ok (.iconst 4, 1) := by decide +kernel
theorem dX7_takesHead_68 : decode cX7_takesHead 68 = .ok (.invokevirtual 258, 3) := by decide +kernel
theorem dX7_takesHead_71 : decode cX7_takesHead 71 = .ok (.ireturn, 1) := by decide +kernel
theorem dX7_takesHead_72 : decode cX7_takesHead 72 = .ok (.aload_n 0, 1) := by decide +kernel
theorem dX7_takesHead_73 : decode cX7_takesHead 73 = .ok (.getfield 62, 3) := by decide +kernel
theorem dX7_takesHead_76 : decode cX7_takesHead 76 = .ok (.iload_n 1, 1) := by decide +kernel
theorem dX7_takesHead_77 : decode cX7_takesHead 77 = .ok (.iload_n 2, 1) := by decide +kernel
theorem dX7_takesHead_78 : decode cX7_takesHead 78 = .ok (.bipush 97, 2) := by decide +kernel
theorem dX7_takesHead_80 : decode cX7_takesHead 80 = .ok (.if_icmp .ne 7, 3) := by decide +kernel
theorem dX7_takesHead_83 : decode cX7_takesHead 83 = .ok (.iconst 3, 1) := by decide +kernel
theorem dX7_takesHead_84 : decode cX7_takesHead 84 = .ok (.goto 4, 3) := by decide +kernel
theorem dX7_takesHead_87 : decode cX7_takesHead 87 = .ok (.iconst 2, 1) := by decide +kernel
theorem dX7_takesHead_88 : decode cX7_takesHead 88 = .ok (.iastore, 1) := by decide +kernel
theorem dX7_takesHead_89 : decode cX7_takesHead 89 = .ok (.iload_n 2, 1) := by decide +kernel
theorem dX7_takesHead_90 : decode cX7_takesHead 90 = .ok (.bipush 97, 2) := by decide +kernel
theorem dX7_takesHead_92 : decode cX7_takesHead 92 = .ok (.if_icmp .ne 13, 3) := by decide +kernel
theorem dX7_takesHead_95 : decode cX7_takesHead 95 = .ok (.aload_n 0, 1) := by decide +kernel
theorem dX7_takesHead_96 : decode cX7_takesHead 96 = .ok (.bipush 13, 2) := by decide +kernel
theorem dX7_takesHead_98 : decode cX7_takesHead 98 = .ok (.iconst 3, 1) := by decide +kernel
theorem dX7_takesHead_99 : decode cX7_takesHead 99 = .ok (.invokevirtual 258, 3) := by decide +kernel
theorem dX7_takesHead_102 : decode cX7_takesHead 102 = .ok (.goto 10, 3) := by decide +kernel
theorem dX7_takesHead_105 : decode cX7_takesHead 105 = .ok (.aload_n 0, 1) := by decide +kernel
theorem dX7_takesHead_106 : decode cX7_takesHead 106 = .ok (.bipush 9, 2) := by decide +kernel
theorem dX7_takesHead_108 : decode cX7_takesHead 108 = .ok (.iconst 4, 1) := by decide +kernel
theorem dX7_takesHead_109 : decode cX7_takesHead 109 = .ok (.invokevirtual 258, 3) := by decide +kernel
theorem dX7_takesHead_112 : decode cX7_takesHead 112 = .ok (.ireturn, 1) := by decide +kernel
theorem dX7_takesHead_113 : decode cX7_takesHead 113 = .ok (.aload_n 0, 1) := by decide +kernel
theorem dX7_takesHead_114 : decode cX7_takesHead 114 = .ok (.getfield 62, 3) := by decide +kernel
theorem dX7_takesHead_117 : decode cX7_takesHead 117 = .ok (.iload_n 1, 1) := by decide +kernel
theorem dX7_takesHead_118 : decode cX7_takesHead 118 = .ok (.iconst 4, 1) := by decide +kernel
theorem dX7_takesHead_119 : decode cX7_takesHead 119 = .ok (.iastore, 1) := by decide +kernel
theorem dX7_takesHead_120 : decode cX7_takesHead 120 = .ok (.aload_n 0, 1) := by decide +kernel
theorem dX7_takesHead_121 : decode cX7_takesHead 121 = .ok (.bipush 16, 2) := by decide +kernel
theorem dX7_takesHead_123 : decode cX7_takesHead 123 = .ok (.iconst 5, 1) := by decide +kernel
theorem dX7_takesHead_124 : decode cX7_takesHead 124 = .ok (.invokevirtual 258, 3) := by decide +kernel
theorem dX7_takesHead_127 : decode cX7_takesHead 127 = .ok (.ireturn, 1) := by decide +kernel
theorem dX7_takesClause_0 : decode cX7_takesClause 0 = .ok (.aload_n 0, 1) := by decide +kernel
theorem dX7_takesClause_1 : decode cX7_takesClause 1 = .ok (.iload_n 1, 1) := by decide +kernel
theorem dX7_takesClause_2 : decode cX7_takesClause 2 = .ok (.invokevirtual 262, 3) := by decide +kernel
theorem dX7_takesClause_5 : decode cX7_takesClause 5 = .ok (.ifCond .eq 10, 3) := by decide +kernel
theorem dX7_takesClause_8 : decode cX7_takesClause 8 = .ok (.aload_n 0, 1) := by decide +kernel
theorem dX7_takesClause_9 : decode cX7_takesClause 9 = .ok (.invokevirtual 243, 3) := by decide +kernel
theorem dX7_takesClause_12 : decode cX7_takesClause 12 = .ok (.ifCond .ne 5, 3) := by decide +kernel
theorem dX7_takesClause_15 : decode cX7_takesClause 15 = .ok (.iconst 0, 1) := by decide +kernel
theorem dX7_takesClause_16 : decode cX7_takesClause 16 = .ok (.ireturn, 1) := by decide +kernel
theorem dX7_takesClause_17 : decode cX7_takesClause 17 = .ok (.aload_n 0, 1) := by decide +kernel
theorem dX7_takesClause_18 : decode cX7_takesClause 18 = .ok (.getfield 65, 3) := by decide +kernel
theorem dX7_takesClause_21 : decode cX7_takesClause 21 = .ok (.iload_n 1, 1) := by decide +kernel
theorem dX7_takesClause_22 : decode cX7_takesClause 22 = .ok (.aload_n 0, 1) := by decide +kernel
theorem dX7_takesClause_23 : decode cX7_takesClause 23 = .ok (.getfield 53, 3) := by decide +kernel
theorem dX7_takesClause_26 : decode cX7_takesClause 26 = .ok (.iastore, 1) := by decide +kernel
theorem dX7_takesClause_27 : decode cX7_takesClause 27 = .ok (.aload_n 0, 1) := by decide +kernel
theorem dX7_takesClause_28 : decode cX7_takesClause 28 = .ok (.getfield 62, 3) := by decide +kernel
theorem dX7_takesClause_31 : decode cX7_takesClause 31 = .ok (.iload_n 1, 1) := by decide +kernel
theorem dX7_takesClause_32 : decode cX7_takesClause 32 = .ok (.iaload, 1) := by decide +kernel
theorem dX7_takesClause_33 : decode cX7_takesClause 33 = .ok (.iconst 1, 1) := by decide +kernel
theorem dX7_takesClause_34 : decode cX7_takesClause 34 = .ok (.if_icmp .gt 20, 3) := by decide +kernel
theorem dX7_takesClause_37 : decode cX7_takesClause 37 = .ok (.aload_n 0, 1) := by decide +kernel
theorem dX7_takesClause_38 : decode cX7_takesClause 38 = .ok (.bipush 32, 2) := by decide +kernel
theorem dX7_takesClause_40 : decode cX7_takesClause 40 = .ok (.invokevirtual 228, 3) := by decide +kernel
theorem dX7_takesClause_43 : decode cX7_takesClause 43 = .ok (.ifCond .eq 15, 3) := by decide +kernel
theorem dX7_takesClause_46 : decode cX7_takesClause 46 = .ok (.aload_n 0, 1) := by decide +kernel
theorem dX7_takesClause_47 : decode cX7_takesClause 47 = .ok (.iload_n 1, 1) := by decide +kernel
theorem dX7_takesClause_48 : decode cX7_takesClause 48 = .ok (.invokevirtual 265, 3) := by decide +kernel
theorem dX7_takesClause_51 : decode cX7_takesClause 51 = .ok (.ifCond .eq 7, 3) := by decide +kernel
theorem dX7_takesClause_54 : decode cX7_takesClause 54 = .ok (.iconst 1, 1) := by decide +kernel
theorem dX7_takesClause_55 : decode cX7_takesClause 55 = .ok (.goto 4, 3) := by decide +kernel
theorem dX7_takesClause_58 : decode cX7_takesClause 58 = .ok (.iconst 0, 1) := by decide +kernel
theorem dX7_takesClause_59 : decode cX7_takesClause 59 = .ok (.ireturn, 1) := by decide +kernel
theorem dX7_goesText_0 : decode cX7_goesText 0 = .ok (.aload_n 0, 1) := by decide +kernel
theorem dX7_goesText_1 : decode cX7_goesText 1 = .ok (.iconst 0, 1) := by decide +kernel
theorem dX7_goesText_2 : decode cX7_goesText 2 = .ok (.putfield 50, 3) := by decide +kernel
theorem dX7_goesText_5 : decode cX7_goesText 5 = .ok (.aload_n 0, 1) := by decide +kernel
theorem dX7_goesText_6 : decode cX7_goesText 6 = .ok (.bipush 100, 2) := by decide +kernel
theorem dX7_goesText_8 : decode cX7_goesText 8 = .ok (.iload_n 1, 1) := by decide +kernel
theorem dX7_goesText_9 : decode cX7_goesText 9 = .ok (.imul, 1) := by decide +kernel
theorem dX7_goesText_10 : decode cX7_goesText 10 = .ok (.putfield 80, 3) := by decide +kernel
theorem dX7_goesText_13 : decode cX7_goesText 13 = .ok (.iconst 0, 1) := by decide +kernel
theorem dX7_goesText_14 : decode cX7_goesText 14 = .ok (.istore_n 2, 1) := by decide +kernel
theorem dX7_goesText_15 : decode cX7_goesText 15 = .ok (.aload_n 0, 1) := by decide +kernel
theorem dX7_goesText_16 : decode cX7_goesText 16 = .ok (.bipush 10, 2) := by decide +kernel
theorem dX7_goesText_18 : decode cX7_goesText 18 = .ok (.iload_n 1, 1) := by decide +kernel
theorem dX7_goesText_19 : decode cX7_goesText 19 = .ok (.imul, 1) := by decide +kernel
theorem dX7_goesText_20 : decode cX7_goesText 20 = .ok (.iload_n 2, 1) := by decide +kernel
theorem dX7_goesText_21 : decode cX7_goesText 21 = .ok (.iadd, 1) := by decide +kernel
theorem dX7_goesText_22 : decode cX7_goesText 22 = .ok (.invokevirtual 268, 3) := by decide +kernel
theorem dX7_goesText_25 : decode cX7_goesText 25 = .ok (.ifCond .ne 5, 3) := by decide +kernel
theorem dX7_goesText_28 : decode cX7_goesText 28 = .ok (.iconst 0, 1) := by decide +kernel
theorem dX7_goesText_29 : decode cX7_goesText 29 = .ok (.ireturn, 1) := by decide +kernel
theorem dX7_goesText_30 : decode cX7_goesText 30 = .ok (.iinc 2 1, 3) := by decide +kernel
theorem dX7_goesText_33 : decode cX7_goesText 33 = .ok (.aload_n 0, 1) := by decide +kernel
theorem dX7_goesText_34 : decode cX7_goesText 34 = .ok (.getfield 59, 3) := by decide +kernel
theorem dX7_goesText_37 : decode cX7_goesText 37 = .ok (.iload_n 1, 1) := by decide +kernel
theorem dX7_goesText_38 : decode cX7_goesText 38 = .ok (.iload_n 2, 1) := by decide +kernel
theorem dX7_goesText_39 : decode cX7_goesText 39 = .ok (.iastore, 1) := by decide +kernel
theorem dX7_goesText_40 : decode cX7_goesText 40 = .ok (.aload_n 0, 1) := by decide +kernel
theorem dX7_goesText_41 : decode cX7_goesText 41 = .ok (.getfield 50, 3) := by decide +kernel
theorem dX7_goesText_44 : decode cX7_goesText 44 = .ok (.aload_n 0, 1) := by decide +kernel
theorem dX7_goesText_45 : decode cX7_goesText 45 = .ok (.getfield 47, 3) := by decide +kernel
theorem dX7_goesText_48 : decode cX7_goesText 48 = .ok (.if_icmp .ne 5, 3) := by decide +kernel
theorem dX7_goesText_51 : decode cX7_goesText 51 = .ok (.iconst 1, 1) := by decide +kernel
theorem dX7_goesText_52 : decode cX7_goesText 52 = .ok (.ireturn, 1) := by decide +kernel
theorem dX7_goesText_53 : decode cX7_goesText 53 = .ok (.iload_n 2, 1) := by decide +kernel
theorem dX7_goesText_54 : decode cX7_goesText 54 = .ok (.bipush 10, 2) := by decide +kernel
theorem dX7_goesText_56 : decode cX7_goesText 56 = .ok (.if_icmp .eq 12, 3) := by decide +kernel
theorem dX7_goesText_59 : decode cX7_goesText 59 = .ok (.aload_n 0, 1) := by decide +kernel
theorem dX7_goesText_60 : decode cX7_goesText 60 = .ok (.bipush 59, 2) := by decide +kernel
theorem dX7_goesText_62 : decode cX7_goesText 62 = .ok (.invokevirtual 228, 3) := by decide +kernel
theorem dX7_goesText_65 : decode cX7_goesText 65 = .ok (.ifCond .ne (-50), 3) := by decide +kernel
theorem dX7_goesText_68 : decode cX7_goesText 68 = .ok (.iconst 0, 1) := by decide +kernel
theorem dX7_goesText_69 : decode cX7_goesText 69 = .ok (.ireturn, 1) := by decide +kernel
theorem dX7_house_0 : decode cX7_house 0 = .ok (.aload_n 0, 1) := by decide +kernel
theorem dX7_house_1 : decode cX7_house 1 = .ok (.getfield 41, 3) := by decide +kernel
theorem dX7_house_4 : decode cX7_house 4 = .ok (.bipush 6, 2) := by decide +kernel
theorem dX7_house_6 : decode cX7_house 6 = .ok (.if_icmp .ne 6, 3) := by decide +kernel
theorem dX7_house_9 : decode cX7_house 9 = .ok (.bipush (-4), 2) := by decide +kernel
theorem dX7_house_11 : decode cX7_house 11 = .ok (.ireturn, 1) := by decide +kernel
theorem dX7_house_12 : decode cX7_house 12 = .ok (.aload_n 0, 1) := by decide +kernel
theorem dX7_house_13 : decode cX7_house 13 = .ok (.aload_n 0, 1) := by decide +kernel
theorem dX7_house_14 : decode cX7_house 14 = .ok (.getfield 41, 3) := by decide +kernel
theorem dX7_house_17 : decode cX7_house 17 = .ok (.invokevirtual 271, 3) := by decide +kernel
theorem dX7_house_20 : decode cX7_house 20 = .ok (.istore_n 1, 1) := by decide +kernel
theorem dX7_house_21 : decode cX7_house 21 = .ok (.aload_n 0, 1) := by decide +kernel
theorem dX7_house_22 : decode cX7_house 22 = .ok (.iconst 0, 1) := by decide +kernel
theorem dX7_house_23 : decode cX7_house 23 = .ok (.putfield 47, 3) := by decide +kernel
theorem dX7_house_26 : decode cX7_house 26 = .ok (.iload_n 1, 1) := by decide +kernel
theorem dX7_house_27 : decode cX7_house 27 = .ok (.ifCond .ne 11, 3) := by decide +kernel
theorem dX7_house_30 : decode cX7_house 30 = .ok (.bipush (-10), 2) := by decide +kernel
theorem dX7_house_32 : decode cX7_house 32 = .ok (.aload_n 0, 1) := by decide +kernel
theorem dX7_house_33 : decode cX7_house 33 = .ok (.getfield 50, 3) := by decide +kernel
theorem dX7_house_36 : decode cX7_house 36 = .ok (.isub, 1) := by decide +kernel
theorem dX7_house_37 : decode cX7_house 37 = .ok (.ireturn, 1) := by decide +kernel
theorem dX7_house_38 : decode cX7_house 38 = .ok (.aload_n 0, 1) := by decide +kernel
theorem dX7_house_39 : decode cX7_house 39 = .ok (.aload_n 0, 1) := by decide +kernel
theorem dX7_house_40 : decode cX7_house 40 = .ok (.getfield 41, 3) := by decide +kernel
theorem dX7_house_43 : decode cX7_house 43 = .ok (.putfield 44, 3) := by decide +kernel
theorem dX7_house_46 : decode cX7_house 46 = .ok (.aload_n 0, 1) := by decide +kernel
theorem dX7_house_47 : decode cX7_house 47 = .ok (.dup, 1) := by decide +kernel
theorem dX7_house_48 : decode cX7_house 48 = .ok (.getfield 41, 3) := by decide +kernel
theorem dX7_house_51 : decode cX7_house 51 = .ok (.iconst 1, 1) := by decide +kernel
theorem dX7_house_52 : decode cX7_house 52 = .ok (.iadd, 1) := by decide +kernel
theorem dX7_house_53 : decode cX7_house 53 = .ok (.putfield 41, 3) := by decide +kernel
theorem dX7_house_56 : decode cX7_house 56 = .ok (.aload_n 0, 1) := by decide +kernel
theorem dX7_house_57 : decode cX7_house 57 = .ok (.getfield 44, 3) := by decide +kernel
theorem dX7_house_60 : decode cX7_house 60 = .ok (.ireturn, 1) := by decide +kernel
theorem dX7_begin_0 : decode cX7_begin 0 = .ok (.aload_n 0, 1) := by decide +kernel
theorem dX7_begin_1 : decode cX7_begin 1 = .ok (.getfield 44, 3) := by decide +kernel
theorem dX7_begin_4 : decode cX7_begin 4 = .ok (.ifCond .ge 7, 3) := by decide +kernel
theorem dX7_begin_7 : decode cX7_begin 7 = .ok (.iconst 0, 1) := by decide +kernel
theorem dX7_begin_8 : decode cX7_begin 8 = .ok (.goto 10, 3) := by decide +kernel
theorem dX7_begin_11 : decode cX7_begin 11 = .ok (.bipush 10, 2) := by decide +kernel
theorem dX7_begin_13 : decode cX7_begin 13 = .ok (.aload_n 0, 1) := by decide +kernel
theorem dX7_begin_14 : decode cX7_begin 14 = .ok (.getfield 44, 3) := by decide +kernel
theorem dX7_begin_17 : decode cX7_begin 17 = .ok (.imul, 1) := by decide +kernel
theorem dX7_begin_18 : decode cX7_begin 18 = .ok (.ireturn, 1) := by decide +kernel
theorem dX7_behind_0 : decode cX7_behind 0 = .ok (.aload_n 0, 1) := by decide +kernel
theorem dX7_behind_1 : decode cX7_behind 1 = .ok (.getfield 44, 3) := by decide +kernel
theorem dX7_behind_4 : decode cX7_behind 4 = .ok (.ifCond .ge 7, 3) := by decide +kernel
theorem dX7_behind_7 : decode cX7_behind 7 = .ok (.iconst 0, 1) := by decide +kernel
theorem dX7_behind_8 : decode cX7_behind 8 = .ok (.goto 20, 3) := by decide +kernel
theorem dX7_behind_11 : decode cX7_behind 11 = .ok (.bipush 10, 2) := by decide +kernel
theorem dX7_behind_13 : decode cX7_behind 13 = .ok (.aload_n 0, 1) := by decide +kernel
theorem dX7_behind_14 : decode cX7_behind 14 = .ok (.getfield 44, 3) := by decide +kernel
theorem dX7_behind_17 : decode cX7_behind 17 = .ok (.imul, 1) := by decide +kernel
theorem dX7_behind_18 : decode cX7_behind 18 = .ok (.aload_n 0, 1) := by decide +kernel
theorem dX7_behind_19 : decode cX7_behind 19 = .ok (.getfield 59, 3) := by decide +kernel
theorem dX7_behind_22 : decode cX7_behind 22 = .ok (.aload_n 0, 1) := by decide +kernel
theorem dX7_behind_23 : decode cX7_behind 23 = .ok (.getfield 44, 3) := by decide +kernel
theorem dX7_behind_26 : decode cX7_behind 26 = .ok (.iaload, 1) := by decide +kernel
theorem dX7_behind_27 : decode cX7_behind 27 = .ok (.iadd, 1) := by decide +kernel
theorem dX7_behind_28 : decode cX7_behind 28 = .ok (.ireturn, 1) := by decide +kernel
theorem dX7_lastOf_0 : decode cX7_lastOf 0 = .ok (.iload_n 2, 1) := by decide +kernel
theorem dX7_lastOf_1 : decode cX7_lastOf 1 = .ok (.istore_n 3, 1) := by decide +kernel
theorem dX7_lastOf_2 : decode cX7_lastOf 2 = .ok (.aload_n 0, 1) := by decide +kernel
theorem dX7_lastOf_3 : decode cX7_lastOf 3 = .ok (.invokevirtual 274, 3) := by decide +kernel
theorem dX7_lastOf_6 : decode cX7_lastOf 6 = .ok (.istore 4, 2) := by decide +kernel
theorem dX7_lastOf_8 : decode cX7_lastOf 8 = .ok (.iload 4, 2) := by decide +kernel
theorem dX7_lastOf_10 : decode cX7_lastOf 10 = .ok (.aload_n 0, 1) := by decide +kernel
theorem dX7_lastOf_11 : decode cX7_lastOf 11 = .ok (.invokevirtual 277, 3) := by decide +kernel
theorem dX7_lastOf_14 : decode cX7_lastOf 14 = .ok (.if_icmp .ge 32, 3) := by decide +kernel
theorem dX7_lastOf_17 : decode cX7_lastOf 17 = .ok (.aload_n 0, 1) := by decide +kernel
theorem dX7_lastOf_18 : decode cX7_lastOf 18 = .ok (.getfield 62, 3) := by decide +kernel
theorem dX7_lastOf_21 : decode cX7_lastOf 21 = .ok (.iload 4, 2) := by decide +kernel
theorem dX7_lastOf_23 : decode cX7_lastOf 23 = .ok (.iaload, 1) := by decide +kernel
theorem dX7_lastOf_24 : decode cX7_lastOf 24 = .ok (.iload_n 1, 1) := by decide +kernel
theorem dX7_lastOf_25 : decode cX7_lastOf 25 = .ok (.if_icmp .ne 13, 3) := by decide +kernel
theorem dX7_lastOf_28 : decode cX7_lastOf 28 = .ok (.aload_n 0, 1) := by decide +kernel
theorem dX7_lastOf_29 : decode cX7_lastOf 29 = .ok (.getfield 65, 3) := by decide +kernel
theorem dX7_lastOf_32 : decode cX7_lastOf 32 = .ok (.iload 4, 2) := by decide +kernel
theorem dX7_lastOf_34 : decode cX7_lastOf 34 = .ok (.iaload, 1) := by decide +kernel
theorem dX7_lastOf_35 : decode cX7_lastOf 35 = .ok (.goto 4, 3) := by decide +kernel
theorem dX7_lastOf_38 : decode cX7_lastOf 38 = .ok (.iload_n 3, 1) := by decide +kernel
theorem dX7_lastOf_39 : decode cX7_lastOf 39 = .ok (.istore_n 3, 1) := by decide +kernel
theorem dX7_lastOf_40 : decode cX7_lastOf 40 = .ok (.iinc 4 1, 3) := by decide +kernel
theorem dX7_lastOf_43 : decode cX7_lastOf 43 = .ok (.goto (-35), 3) := by decide +kernel
theorem dX7_lastOf_46 : decode cX7_lastOf 46 = .ok (.iload_n 3, 1) := by decide +kernel
theorem dX7_lastOf_47 : decode cX7_lastOf 47 = .ok (.ireturn, 1) := by decide +kernel
theorem dX7_hasOf_0 : decode cX7_hasOf 0 = .ok (.aload_n 0, 1) := by decide +kernel
theorem dX7_hasOf_1 : decode cX7_hasOf 1 = .ok (.invokevirtual 274, 3) := by decide +kernel
theorem dX7_hasOf_4 : decode cX7_hasOf 4 = .ok (.istore_n 2, 1) := by decide +kernel
theorem dX7_hasOf_5 : decode cX7_hasOf 5 = .ok (.iload_n 2, 1) := by decide +kernel
theorem dX7_hasOf_6 : decode cX7_hasOf 6 = .ok (.aload_n 0, 1) := by decide +kernel
theorem dX7_hasOf_7 : decode cX7_hasOf 7 = .ok (.invokevirtual 277, 3) := by decide +kernel
theorem dX7_hasOf_10 : decode cX7_hasOf 10 = .ok (.if_icmp .ge 21, 3) := by decide +kernel
theorem dX7_hasOf_13 : decode cX7_hasOf 13 = .ok (.aload_n 0, 1) := by decide +kernel
theorem dX7_hasOf_14 : decode cX7_hasOf 14 = .ok (.getfield 62, 3) := by decide +kernel
theorem dX7_hasOf_17 : decode cX7_hasOf 17 = .ok (.iload_n 2, 1) := by decide +kernel
theorem dX7_hasOf_18 : decode cX7_hasOf 18 = .ok (.iaload, 1) := by decide +kernel
theorem dX7_hasOf_19 : decode cX7_hasOf 19 = .ok (.iload_n 1, 1) := by decide +kernel
theorem dX7_hasOf_20 : decode cX7_hasOf 20 = .ok (.if_icmp .ne 5, 3) := by decide +kernel
theorem dX7_hasOf_23 : decode cX7_hasOf 23 = .ok (.iconst 1, 1) := by decide +kernel
theorem dX7_hasOf_24 : decode cX7_hasOf 24 = .ok (.ireturn, 1) := by decide +kernel
theorem dX7_hasOf_25 : decode cX7_hasOf 25 = .ok (.iinc 2 1, 3) := by decide +kernel
theorem dX7_hasOf_28 : decode cX7_hasOf 28 = .ok (.goto (-23), 3) := by decide +kernel
theorem dX7_hasOf_31 : decode cX7_hasOf 31 = .ok (.iconst 0, 1) := by decide +kernel
theorem dX7_hasOf_32 : decode cX7_hasOf 32 = .ok (.ireturn, 1) := by decide +kernel
theorem dX7_factOf_0 : decode cX7_factOf 0 = .ok (.iload_n 1, 1) := by decide +kernel
theorem dX7_factOf_1 : decode cX7_factOf 1 = .ok (.tableswitch 61 0 4 #[35, 37, 44, 51, 53], 35) := by decide +kernel
theorem dX7_factOf_36 : decode cX7_factOf 36 = .ok (.iload_n 2, 1) := by decide +kernel
theorem dX7_factOf_37 : decode cX7_factOf 37 = .ok (.ireturn, 1) := by decide +kernel
theorem dX7_factOf_38 : decode cX7_factOf 38 = .ok (.aload_n 0, 1) := by decide +kernel
theorem dX7_factOf_39 : decode cX7_factOf 39 = .ok (.getfield 22, 3) := by decide +kernel
theorem dX7_factOf_42 : decode cX7_factOf 42 = .ok (.iload_n 2, 1) := by decide +kernel
theorem dX7_factOf_43 : decode cX7_factOf 43 = .ok (.iaload, 1) := by decide +kernel
theorem dX7_factOf_44 : decode cX7_factOf 44 = .ok (.ireturn, 1) := by decide +kernel
theorem dX7_factOf_45 : decode cX7_factOf 45 = .ok (.aload_n 0, 1) := by decide +kernel
theorem dX7_factOf_46 : decode cX7_factOf 46 = .ok (.getfield 29, 3) := by decide +kernel
theorem dX7_factOf_49 : decode cX7_factOf 49 = .ok (.iload_n 2, 1) := by decide +kernel
theorem dX7_factOf_50 : decode cX7_factOf 50 = .ok (.iaload, 1) := by decide +kernel
theorem dX7_factOf_51 : decode cX7_factOf 51 = .ok (.ireturn, 1) := by decide +kernel
theorem dX7_factOf_52 : decode cX7_factOf 52 = .ok (.iload_n 3, 1) := by decide +kernel
theorem dX7_factOf_53 : decode cX7_factOf 53 = .ok (.ireturn, 1) := by decide +kernel
theorem dX7_factOf_54 : decode cX7_factOf 54 = .ok (.aload_n 0, 1) := by decide +kernel
theorem dX7_factOf_55 : decode cX7_factOf 55 = .ok (.getfield 13, 3) := by decide +kernel
theorem dX7_factOf_58 : decode cX7_factOf 58 = .ok (.bipush 10, 2) := by decide +kernel
theorem dX7_factOf_60 : decode cX7_factOf 60 = .ok (.idiv, 1) := by decide +kernel
theorem dX7_factOf_61 : decode cX7_factOf 61 = .ok (.ireturn, 1) := by decide +kernel
theorem dX7_factOf_62 : decode cX7_factOf 62 = .ok (.aload_n 0, 1) := by decide +kernel
theorem dX7_factOf_63 : decode cX7_factOf 63 = .ok (.getfield 16, 3) := by decide +kernel
theorem dX7_factOf_66 : decode cX7_factOf 66 = .ok (.bipush 7, 2) := by decide +kernel
theorem dX7_factOf_68 : decode cX7_factOf 68 = .ok (.irem, 1) := by decide +kernel
theorem dX7_factOf_69 : decode cX7_factOf 69 = .ok (.ireturn, 1) := by decide +kernel
theorem dX7_holds_0 : decode cX7_holds 0 = .ok (.iconst 0, 1) := by decide +kernel
theorem dX7_holds_1 : decode cX7_holds 1 = .ok (.istore 4, 2) := by decide +kernel
theorem dX7_holds_3 : decode cX7_holds 3 = .ok (.aload_n 0, 1) := by decide +kernel
theorem dX7_holds_4 : decode cX7_holds 4 = .ok (.getfield 68, 3) := by decide +kernel
theorem dX7_holds_7 : decode cX7_holds 7 = .ok (.iload_n 1, 1) := by decide +kernel
theorem dX7_holds_8 : decode cX7_holds 8 = .ok (.iaload, 1) := by decide +kernel
theorem dX7_holds_9 : decode cX7_holds 9 = .ok (.istore 5, 2) := by decide +kernel
theorem dX7_holds_11 : decode cX7_holds 11 = .ok (.iload 5, 2) := by decide +kernel
theorem dX7_holds_13 : decode cX7_holds 13 = .ok (.aload_n 0, 1) := by decide +kernel
theorem dX7_holds_14 : decode cX7_holds 14 = .ok (.getfield 71, 3) := by decide +kernel
theorem dX7_holds_17 : decode cX7_holds 17 = .ok (.iload_n 1, 1) := by decide +kernel
theorem dX7_holds_18 : decode cX7_holds 18 = .ok (.iaload, 1) := by decide +kernel
theorem dX7_holds_19 : decode cX7_holds 19 = .ok (.if_icmp .ge 234, 3) := by decide +kernel
theorem dX7_holds_22 : decode cX7_holds 22 = .ok (.aload_n 0, 1) := by decide +kernel
theorem dX7_holds_23 : decode cX7_holds 23 = .ok (.getfield 74, 3) := by decide +kernel
theorem dX7_holds_26 : decode cX7_holds 26 = .ok (.iload 5, 2) := by decide +kernel
theorem dX7_holds_28 : decode cX7_holds 28 = .ok (.iaload, 1) := by decide +kernel
theorem dX7_holds_29 : decode cX7_holds 29 = .ok (.istore 6, 2) := by decide +kernel
theorem dX7_holds_31 : decode cX7_holds 31 = .ok (.iload 6, 2) := by decide +kernel
theorem dX7_holds_33 : decode cX7_holds 33 = .ok (.bipush (-33), 2) := by decide +kernel
theorem dX7_holds_35 : decode cX7_holds 35 = .ok (.if_icmp .ne 32, 3) := by decide +kernel
theorem dX7_holds_38 : decode cX7_holds 38 = .ok (.aload_n 0, 1) := by decide +kernel
theorem dX7_holds_39 : decode cX7_holds 39 = .ok (.getfield 92, 3) := by decide +kernel
theorem dX7_holds_42 : decode cX7_holds 42 = .ok (.iload 4, 2) := by decide +kernel
theorem dX7_holds_44 : decode cX7_holds 44 = .ok (.iconst 1, 1) := by decide +kernel
theorem dX7_holds_45 : decode cX7_holds 45 = .ok (.isub, 1) := by decide +kernel
theorem dX7_holds_46 : decode cX7_holds 46 = .ok (.aload_n 0, 1) := by decide +kernel
theorem dX7_holds_47 : decode cX7_holds 47 = .ok (.getfield 92, 3) := by decide +kernel
theorem dX7_holds_50 : decode cX7_holds 50 = .ok (.iload 4, 2) := by decide +kernel
theorem dX7_holds_52 : decode cX7_holds 52 = .ok (.iconst 1, 1) := by decide +kernel
theorem dX7_holds_53 : decode cX7_holds 53 = .ok (.isub, 1) := by decide +kernel
theorem dX7_holds_54 : decode cX7_holds 54 = .ok (.baload, 1) := by decide +kernel
theorem dX7_holds_55 : decode cX7_holds 55 = .ok (.ifCond .ne 7, 3) := by decide +kernel
theorem dX7_holds_58 : decode cX7_holds 58 = .ok (.iconst 1, 1) := by decide +kernel
theorem dX7_holds_59 : decode cX7_holds 59 = .ok (.goto 4, 3) := by decide +kernel
theorem dX7_holds_62 : decode cX7_holds 62 = .ok (.iconst 0, 1) := by decide +kernel
theorem dX7_holds_63 : decode cX7_holds 63 = .ok (.bastore, 1) := by decide +kernel
theorem dX7_holds_64 : decode cX7_holds 64 = .ok (.goto 183, 3) := by decide +kernel
theorem dX7_holds_67 : decode cX7_holds 67 = .ok (.iload 6, 2) := by decide +kernel
theorem dX7_holds_69 : decode cX7_holds 69 = .ok (.ifCond .ge 82, 3) := by decide +kernel
theorem dX7_holds_72 : decode cX7_holds 72 = .ok (.iinc 4 (-1), 3) := by decide +kernel
theorem dX7_holds_75 : decode cX7_holds 75 = .ok (.aload_n 0, 1) := by decide +kernel
theorem dX7_holds_76 : decode cX7_holds 76 = .ok (.getfield 92, 3) := by decide +kernel
theorem dX7_holds_79 : decode cX7_holds 79 = .ok (.iload 4, 2) := by decide +kernel
theorem dX7_holds_81 : decode cX7_holds 81 = .ok (.iconst 1, 1) := by decide +kernel
theorem dX7_holds_82 : decode cX7_holds 82 = .ok (.isub, 1) := by decide +kernel
theorem dX7_holds_83 : decode cX7_holds 83 = .ok (.iload 6, 2) := by decide +kernel
theorem dX7_holds_85 : decode cX7_holds 85 = .ok (.bipush (-38), 2) := by decide +kernel
theorem dX7_holds_87 : decode cX7_holds 87 = .ok (.if_icmp .ne 33, 3) := by decide +kernel
theorem dX7_holds_90 : decode cX7_holds 90 = .ok (.aload_n 0, 1) := by decide +kernel
theorem dX7_holds_91 : decode cX7_holds 91 = .ok (.getfield 92, 3) := by decide +kernel
theorem dX7_holds_94 : decode cX7_holds 94 = .ok (.iload 4, 2) := by decide +kernel
theorem dX7_holds_96 : decode cX7_holds 96 = .ok (.iconst 1, 1) := by decide +kernel
theorem dX7_holds_97 : decode cX7_holds 97 = .ok (.isub, 1) := by decide +kernel
theorem dX7_holds_98 : decode cX7_holds 98 = .ok (.baload, 1) := by decide +kernel
theorem dX7_holds_99 : decode cX7_holds 99 = .ok (.ifCond .eq 17, 3) := by decide +kernel
theorem dX7_holds_102 : decode cX7_holds 102 = .ok (.aload_n 0, 1) := by decide +kernel
theorem dX7_holds_103 : decode cX7_holds 103 = .ok (.getfield 92, 3) := by decide +kernel
theorem dX7_holds_106 : decode cX7_holds 106 = .ok (.iload 4, 2) := by decide +kernel
theorem dX7_holds_108 : decode cX7_holds 108 = .ok (.baload, 1) := by decide +kernel
theorem dX7_holds_109 : decode cX7_holds 109 = .ok (.ifCond .eq 7, 3) := by decide +kernel
theorem dX7_holds_112 : decode cX7_holds 112 = .ok (.iconst 1, 1) := by decide +kernel
theorem dX7_holds_113 : decode cX7_holds 113 = .ok (.goto 34, 3) := by decide +kernel
theorem dX7_holds_116 : decode cX7_holds 116 = .ok (.iconst 0, 1) := by decide +kernel
theorem dX7_holds_117 : decode cX7_holds 117 = .ok (.goto 30, 3) := by decide +kernel
theorem dX7_holds_120 : decode cX7_holds 120 = .ok (.aload_n 0, 1) := by decide +kernel
theorem dX7_holds_121 : decode cX7_holds 121 = .ok (.getfield 92, 3) := by decide +kernel
theorem dX7_holds_124 : decode cX7_holds 124 = .ok (.iload 4, 2) := by decide +kernel
theorem dX7_holds_126 : decode cX7_holds 126 = .ok (.iconst 1, 1) := by decide +kernel
theorem dX7_holds_127 : decode cX7_holds 127 = .ok (.isub, 1) := by decide +kernel
theorem dX7_holds_128 : decode cX7_holds 128 = .ok (.baload, 1) := by decide +kernel
theorem dX7_holds_129 : decode cX7_holds 129 = .ok (.ifCond .ne 13, 3) := by decide +kernel
theorem dX7_holds_132 : decode cX7_holds 132 = .ok (.aload_n 0, 1) := by decide +kernel
theorem dX7_holds_133 : decode cX7_holds 133 = .ok (.getfield 92, 3) := by decide +kernel
theorem dX7_holds_136 : decode cX7_holds 136 = .ok (.iload 4, 2) := by decide +kernel
theorem dX7_holds_138 : decode cX7_holds 138 = .ok (.baload, 1) := by decide +kernel
theorem dX7_holds_139 : decode cX7_holds 139 = .ok (.ifCond .eq 7, 3) := by decide +kernel
theorem dX7_holds_142 : decode cX7_holds 142 = .ok (.iconst 1, 1) := by decide +kernel
theorem dX7_holds_143 : decode cX7_holds 143 = .ok (.goto 4, 3) := by decide +kernel
theorem dX7_holds_146 : decode cX7_holds 146 = .ok (.iconst 0, 1) := by decide +kernel
theorem dX7_holds_147 : decode cX7_holds 147 = .ok (.bastore, 1) := by decide +kernel
theorem dX7_holds_148 : decode cX7_holds 148 = .ok (.goto 99, 3) := by decide +kernel
theorem dX7_holds_151 : decode cX7_holds 151 = .ok (.aload_n 0, 1) := by decide +kernel
theorem dX7_holds_152 : decode cX7_holds 152 = .ok (.iload 6, 2) := by decide +kernel
theorem dX7_holds_154 : decode cX7_holds 154 = .ok (.sipush 1000, 3) := by decide +kernel
theorem dX7_holds_157 : decode cX7_holds 157 = .ok (.idiv, 1) := by decide +kernel
theorem dX7_holds_158 : decode cX7_holds 158 = .ok (.iload_n 2, 1) := by decide +kernel
theorem dX7_holds_159 : decode cX7_holds 159 = .ok (.iload_n 3, 1) := by decide +kernel
theorem dX7_holds_160 : decode cX7_holds 160 = .ok (.invokevirtual 280, 3) := by decide +kernel
theorem dX7_holds_163 : decode cX7_holds 163 = .ok (.istore 7, 2) := by decide +kernel
theorem dX7_holds_165 : decode cX7_holds 165 = .ok (.iload 6, 2) := by decide +kernel
theorem dX7_holds_167 : decode cX7_holds 167 = .ok (.bipush 100, 2) := by decide +kernel
theorem dX7_holds_169 : decode cX7_holds 169 = .ok (.idiv, 1) := by decide +kernel
theorem dX7_holds_170 : decode cX7_holds 170 = .ok (.bipush 10, 2) := by decide +kernel
theorem dX7_holds_172 : decode cX7_holds 172 = .ok (.irem, 1) := by decide +kernel
theorem dX7_holds_173 : decode cX7_holds 173 = .ok (.istore 8, 2) := by decide +kernel
theorem dX7_holds_175 : decode cX7_holds 175 = .ok (.aload_n 0, 1) := by decide +kernel
theorem dX7_holds_176 : decode cX7_holds 176 = .ok (.getfield 92, 3) := by decide +kernel
theorem dX7_holds_179 : decode cX7_holds 179 = .ok (.iload 4, 2) := by decide +kernel
theorem dX7_holds_181 : decode cX7_holds 181 = .ok (.iload 8, 2) := by decide +kernel
theorem dX7_holds_183 : decode cX7_holds 183 = .ok (.ifCond .ne 21, 3) := by decide +kernel
theorem dX7_holds_186 : decode cX7_holds 186 = .ok (.iload 7, 2) := by decide +kernel
theorem dX7_holds_188 : decode cX7_holds 188 = .ok (.iload 6, 2) := by decide +kernel
theorem dX7_holds_190 : decode cX7_holds 190 = .ok (.bipush 100, 2) := by decide +kernel
theorem dX7_holds_192 : decode cX7_holds 192 = .ok (.irem, 1) := by decide +kernel
theorem dX7_holds_193 : decode cX7_holds 193 = .ok (.if_icmp .ge 7, 3) := by decide +kernel
theorem dX7_holds_196 : decode cX7_holds 196 = .ok (.iconst 1, 1) := by decide +kernel
theorem dX7_holds_197 : decode cX7_holds 197 = .ok (.goto 46, 3) := by decide +kernel
theorem dX7_holds_200 : decode cX7_holds 200 = .ok (.iconst 0, 1) := by decide +kernel
theorem dX7_holds_201 : decode cX7_holds 201 = .ok (.goto 42, 3) := by decide +kernel
theorem dX7_holds_204 : decode cX7_holds 204 = .ok (.iload 8, 2) := by decide +kernel
theorem dX7_holds_206 : decode cX7_holds 206 = .ok (.iconst 1, 1) := by decide +kernel
theorem dX7_holds_207 : decode cX7_holds 207 = .ok (.if_icmp .ne 21, 3) := by decide +kernel
theorem dX7_holds_210 : decode cX7_holds 210 = .ok (.iload 7, 2) := by decide +kernel
theorem dX7_holds_212 : decode cX7_holds 212 = .ok (.iload 6, 2) := by decide +kernel
theorem dX7_holds_214 : decode cX7_holds 214 = .ok (.bipush 100, 2) := by decide +kernel
theorem dX7_holds_216 : decode cX7_holds 216 = .ok (.irem, 1) := by decide +kernel
theorem dX7_holds_217 : decode cX7_holds 217 = .ok (.if_icmp .ne 7, 3) := by decide +kernel
theorem dX7_holds_220 : decode cX7_holds 220 = .ok (.iconst 1, 1) := by decide +kernel
theorem dX7_holds_221 : decode cX7_holds 221 = .ok (.goto 22, 3) := by decide +kernel
theorem dX7_holds_224 : decode cX7_holds 224 = .ok (.iconst 0, 1) := by decide +kernel
theorem dX7_holds_225 : decode cX7_holds 225 = .ok (.goto 18, 3) := by decide +kernel
theorem dX7_holds_228 : decode cX7_holds 228 = .ok (.iload 7, 2) := by decide +kernel
theorem dX7_holds_230 : decode cX7_holds 230 = .ok (.iload 6, 2) := by decide +kernel
theorem dX7_holds_232 : decode cX7_holds 232 = .ok (.bipush 100, 2) := by decide +kernel
theorem dX7_holds_234 : decode cX7_holds 234 = .ok (.irem, 1) := by decide +kernel
theorem dX7_holds_235 : decode cX7_holds 235 = .ok (.if_icmp .le 7, 3) := by decide +kernel
theorem dX7_holds_238 : decode cX7_holds 238 = .ok (.iconst 1, 1) := by decide +kernel
theorem dX7_holds_239 : decode cX7_holds 239 = .ok (.goto 4, 3) := by decide +kernel
theorem dX7_holds_242 : decode cX7_holds 242 = .ok (.iconst 0, 1) := by decide +kernel
theorem dX7_holds_243 : decode cX7_holds 243 = .ok (.bastore, 1) := by decide +kernel
theorem dX7_holds_244 : decode cX7_holds 244 = .ok (.iinc 4 1, 3) := by decide +kernel
theorem dX7_holds_247 : decode cX7_holds 247 = .ok (.iinc 5 1, 3) := by decide +kernel
theorem dX7_holds_250 : decode cX7_holds 250 = .ok (.goto (-239), 3) := by decide +kernel
theorem dX7_holds_253 : decode cX7_holds 253 = .ok (.aload_n 0, 1) := by decide +kernel
theorem dX7_holds_254 : decode cX7_holds 254 = .ok (.getfield 92, 3) := by decide +kernel
theorem dX7_holds_257 : decode cX7_holds 257 = .ok (.iconst 0, 1) := by decide +kernel
theorem dX7_holds_258 : decode cX7_holds 258 = .ok (.baload, 1) := by decide +kernel
theorem dX7_holds_259 : decode cX7_holds 259 = .ok (.ireturn, 1) := by decide +kernel
theorem dX7_sumOf_0 : decode cX7_sumOf 0 = .ok (.iconst 0, 1) := by decide +kernel
theorem dX7_sumOf_1 : decode cX7_sumOf 1 = .ok (.istore 4, 2) := by decide +kernel
theorem dX7_sumOf_3 : decode cX7_sumOf 3 = .ok (.aload_n 0, 1) := by decide +kernel
theorem dX7_sumOf_4 : decode cX7_sumOf 4 = .ok (.invokevirtual 274, 3) := by decide +kernel
theorem dX7_sumOf_7 : decode cX7_sumOf 7 = .ok (.istore 5, 2) := by decide +kernel
theorem dX7_sumOf_9 : decode cX7_sumOf 9 = .ok (.iload 5, 2) := by decide +kernel
theorem dX7_sumOf_11 : decode cX7_sumOf 11 = .ok (.aload_n 0, 1) := by decide +kernel
theorem dX7_sumOf_12 : decode cX7_sumOf 12 = .ok (.invokevirtual 277, 3) := by decide +kernel
theorem dX7_sumOf_15 : decode cX7_sumOf 15 = .ok (.if_icmp .ge 47, 3) := by decide +kernel
theorem dX7_sumOf_18 : decode cX7_sumOf 18 = .ok (.iload 4, 2) := by decide +kernel
theorem dX7_sumOf_20 : decode cX7_sumOf 20 = .ok (.aload_n 0, 1) := by decide +kernel
theorem dX7_sumOf_21 : decode cX7_sumOf 21 = .ok (.getfield 62, 3) := by decide +kernel
theorem dX7_sumOf_24 : decode cX7_sumOf 24 = .ok (.iload 5, 2) := by decide +kernel
theorem dX7_sumOf_26 : decode cX7_sumOf 26 = .ok (.iaload, 1) := by decide +kernel
theorem dX7_sumOf_27 : decode cX7_sumOf 27 = .ok (.iload_n 1, 1) := by decide +kernel
theorem dX7_sumOf_28 : decode cX7_sumOf 28 = .ok (.if_icmp .ne 24, 3) := by decide +kernel
theorem dX7_sumOf_31 : decode cX7_sumOf 31 = .ok (.aload_n 0, 1) := by decide +kernel
theorem dX7_sumOf_32 : decode cX7_sumOf 32 = .ok (.iload 5, 2) := by decide +kernel
theorem dX7_sumOf_34 : decode cX7_sumOf 34 = .ok (.iload_n 2, 1) := by decide +kernel
theorem dX7_sumOf_35 : decode cX7_sumOf 35 = .ok (.iload_n 3, 1) := by decide +kernel
theorem dX7_sumOf_36 : decode cX7_sumOf 36 = .ok (.invokevirtual 284, 3) := by decide +kernel
theorem dX7_sumOf_39 : decode cX7_sumOf 39 = .ok (.ifCond .eq 13, 3) := by decide +kernel
theorem dX7_sumOf_42 : decode cX7_sumOf 42 = .ok (.aload_n 0, 1) := by decide +kernel
theorem dX7_sumOf_43 : decode cX7_sumOf 43 = .ok (.getfield 65, 3) := by decide +kernel
theorem dX7_sumOf_46 : decode cX7_sumOf 46 = .ok (.iload 5, 2) := by decide +kernel
theorem dX7_sumOf_48 : decode cX7_sumOf 48 = .ok (.iaload, 1) := by decide +kernel
theorem dX7_sumOf_49 : decode cX7_sumOf 49 = .ok (.goto 4, 3) := by decide +kernel
theorem dX7_sumOf_52 : decode cX7_sumOf 52 = .ok (.iconst 0, 1) := by decide +kernel
theorem dX7_sumOf_53 : decode cX7_sumOf 53 = .ok (.iadd, 1) := by decide +kernel
theorem dX7_sumOf_54 : decode cX7_sumOf 54 = .ok (.istore 4, 2) := by decide +kernel
theorem dX7_sumOf_56 : decode cX7_sumOf 56 = .ok (.iinc 5 1, 3) := by decide +kernel
theorem dX7_sumOf_59 : decode cX7_sumOf 59 = .ok (.goto (-50), 3) := by decide +kernel
theorem dX7_sumOf_62 : decode cX7_sumOf 62 = .ok (.iload 4, 2) := by decide +kernel
theorem dX7_sumOf_64 : decode cX7_sumOf 64 = .ok (.ireturn, 1) := by decide +kernel
theorem dX7_worthOf_0 : decode cX7_worthOf 0 = .ok (.aload_n 0, 1) := by decide +kernel
theorem dX7_worthOf_1 : decode cX7_worthOf 1 = .ok (.iconst 0, 1) := by decide +kernel
theorem dX7_worthOf_2 : decode cX7_worthOf 2 = .ok (.invokevirtual 287, 3) := by decide +kernel
theorem dX7_worthOf_5 : decode cX7_worthOf 5 = .ok (.ifCond .eq 13, 3) := by decide +kernel
theorem dX7_worthOf_8 : decode cX7_worthOf 8 = .ok (.aload_n 0, 1) := by decide +kernel
theorem dX7_worthOf_9 : decode cX7_worthOf 9 = .ok (.iconst 0, 1) := by decide +kernel
theorem dX7_worthOf_10 : decode cX7_worthOf 10 = .ok (.iload_n 1, 1) := by decide +kernel
theorem dX7_worthOf_11 : decode cX7_worthOf 11 = .ok (.iload_n 2, 1) := by decide +kernel
theorem dX7_worthOf_12 : decode cX7_worthOf 12 = .ok (.invokevirtual 290, 3) := by decide +kernel
theorem dX7_worthOf_15 : decode cX7_worthOf 15 = .ok (.goto 4, 3) := by decide +kernel
theorem dX7_worthOf_18 : decode cX7_worthOf 18 = .ok (.iconst 1, 1) := by decide +kernel
theorem dX7_worthOf_19 : decode cX7_worthOf 19 = .ok (.ireturn, 1) := by decide +kernel
theorem dX7_costOf_0 : decode cX7_costOf 0 = .ok (.aload_n 0, 1) := by decide +kernel
theorem dX7_costOf_1 : decode cX7_costOf 1 = .ok (.getfield 96, 3) := by decide +kernel
theorem dX7_costOf_4 : decode cX7_costOf 4 = .ok (.ifCond .eq 7, 3) := by decide +kernel
theorem dX7_costOf_7 : decode cX7_costOf 7 = .ok (.iconst 0, 1) := by decide +kernel
theorem dX7_costOf_8 : decode cX7_costOf 8 = .ok (.goto 22, 3) := by decide +kernel
theorem dX7_costOf_11 : decode cX7_costOf 11 = .ok (.aload_n 0, 1) := by decide +kernel
theorem dX7_costOf_12 : decode cX7_costOf 12 = .ok (.iconst 1, 1) := by decide +kernel
theorem dX7_costOf_13 : decode cX7_costOf 13 = .ok (.invokevirtual 287, 3) := by decide +kernel
theorem dX7_costOf_16 : decode cX7_costOf 16 = .ok (.ifCond .eq 13, 3) := by decide +kernel
theorem dX7_costOf_19 : decode cX7_costOf 19 = .ok (.aload_n 0, 1) := by decide +kernel
theorem dX7_costOf_20 : decode cX7_costOf 20 = .ok (.iconst 1, 1) := by decide +kernel
theorem dX7_costOf_21 : decode cX7_costOf 21 = .ok (.iload_n 1, 1) := by decide +kernel
theorem dX7_costOf_22 : decode cX7_costOf 22 = .ok (.iload_n 2, 1) := by decide +kernel
theorem dX7_costOf_23 : decode cX7_costOf 23 = .ok (.invokevirtual 290, 3) := by decide +kernel
theorem dX7_costOf_26 : decode cX7_costOf 26 = .ok (.goto 4, 3) := by decide +kernel
theorem dX7_costOf_29 : decode cX7_costOf 29 = .ok (.iconst 5, 1) := by decide +kernel
theorem dX7_costOf_30 : decode cX7_costOf 30 = .ok (.ireturn, 1) := by decide +kernel
theorem dX7_lawNow_0 : decode cX7_lawNow 0 = .ok (.aload_n 0, 1) := by decide +kernel
theorem dX7_lawNow_1 : decode cX7_lawNow 1 = .ok (.getfield 100, 3) := by decide +kernel
theorem dX7_lawNow_4 : decode cX7_lawNow 4 = .ok (.ifCond .ge 14, 3) := by decide +kernel
theorem dX7_lawNow_7 : decode cX7_lawNow 7 = .ok (.aload_n 0, 1) := by decide +kernel
theorem dX7_lawNow_8 : decode cX7_lawNow 8 = .ok (.iconst 3, 1) := by decide +kernel
theorem dX7_lawNow_9 : decode cX7_lawNow 9 = .ok (.iconst 0, 1) := by decide +kernel
theorem dX7_lawNow_10 : decode cX7_lawNow 10 = .ok (.invokevirtual 293, 3) := by decide +kernel
theorem dX7_lawNow_13 : decode cX7_lawNow 13 = .ok (.iconst 3, 1) := by decide +kernel
theorem dX7_lawNow_14 : decode cX7_lawNow 14 = .ok (.irem, 1) := by decide +kernel
theorem dX7_lawNow_15 : decode cX7_lawNow 15 = .ok (.goto 7, 3) := by decide +kernel
theorem dX7_lawNow_18 : decode cX7_lawNow 18 = .ok (.aload_n 0, 1) := by decide +kernel
theorem dX7_lawNow_19 : decode cX7_lawNow 19 = .ok (.getfield 100, 3) := by decide +kernel
theorem dX7_lawNow_22 : decode cX7_lawNow 22 = .ok (.ireturn, 1) := by decide +kernel
theorem dX7_scaleNow_0 : decode cX7_scaleNow 0 = .ok (.aload_n 0, 1) := by decide +kernel
theorem dX7_scaleNow_1 : decode cX7_scaleNow 1 = .ok (.iconst 4, 1) := by decide +kernel
theorem dX7_scaleNow_2 : decode cX7_scaleNow 2 = .ok (.iconst 1, 1) := by decide +kernel
theorem dX7_scaleNow_3 : decode cX7_scaleNow 3 = .ok (.invokevirtual 293, 3) := by decide +kernel
theorem dX7_scaleNow_6 : decode cX7_scaleNow 6 = .ok (.istore_n 1, 1) := by decide +kernel
theorem dX7_scaleNow_7 : decode cX7_scaleNow 7 = .ok (.iload_n 1, 1) := by decide +kernel
theorem dX7_scaleNow_8 : decode cX7_scaleNow 8 = .ok (.ifCond .ne 7, 3) := by decide +kernel
theorem dX7_scaleNow_11 : decode cX7_scaleNow 11 = .ok (.iconst 1, 1) := by decide +kernel
theorem dX7_scaleNow_12 : decode cX7_scaleNow 12 = .ok (.goto 4, 3) := by decide +kernel
theorem dX7_scaleNow_15 : decode cX7_scaleNow 15 = .ok (.iload_n 1, 1) := by decide +kernel
theorem dX7_scaleNow_16 : decode cX7_scaleNow 16 = .ok (.ireturn, 1) := by decide +kernel
theorem dX7_isAhead_0 : decode cX7_isAhead 0 = .ok (.aload_n 0, 1) := by decide +kernel
theorem dX7_isAhead_1 : decode cX7_isAhead 1 = .ok (.getfield 106, 3) := by decide +kernel
theorem dX7_isAhead_4 : decode cX7_isAhead 4 = .ok (.iload_n 1, 1) := by decide +kernel
theorem dX7_isAhead_5 : decode cX7_isAhead 5 = .ok (.iaload, 1) := by decide +kernel
theorem dX7_isAhead_6 : decode cX7_isAhead 6 = .ok (.iload_n 3, 1) := by decide +kernel
theorem dX7_isAhead_7 : decode cX7_isAhead 7 = .ok (.idiv, 1) := by decide +kernel
theorem dX7_isAhead_8 : decode cX7_isAhead 8 = .ok (.aload_n 0, 1) := by decide +kernel
theorem dX7_isAhead_9 : decode cX7_isAhead 9 = .ok (.getfield 106, 3) := by decide +kernel
theorem dX7_isAhead_12 : decode cX7_isAhead 12 = .ok (.iload_n 2, 1) := by decide +kernel
theorem dX7_isAhead_13 : decode cX7_isAhead 13 = .ok (.iaload, 1) := by decide +kernel
theorem dX7_isAhead_14 : decode cX7_isAhead 14 = .ok (.iload_n 3, 1) := by decide +kernel
theorem dX7_isAhead_15 : decode cX7_isAhead 15 = .ok (.idiv, 1) := by decide +kernel
theorem dX7_isAhead_16 : decode cX7_isAhead 16 = .ok (.if_icmp .lt 27, 3) := by decide +kernel
theorem dX7_isAhead_19 : decode cX7_isAhead 19 = .ok (.aload_n 0, 1) := by decide +kernel
theorem dX7_isAhead_20 : decode cX7_isAhead 20 = .ok (.getfield 106, 3) := by decide +kernel
theorem dX7_isAhead_23 : decode cX7_isAhead 23 = .ok (.iload_n 1, 1) := by decide +kernel
theorem dX7_isAhead_24 : decode cX7_isAhead 24 = .ok (.iaload, 1) := by decide +kernel
theorem dX7_isAhead_25 : decode cX7_isAhead 25 = .ok (.iload_n 3, 1) := by decide +kernel
theorem dX7_isAhead_26 : decode cX7_isAhead 26 = .ok (.idiv, 1) := by decide +kernel
theorem dX7_isAhead_27 : decode cX7_isAhead 27 = .ok (.aload_n 0, 1) := by decide +kernel
theorem dX7_isAhead_28 : decode cX7_isAhead 28 = .ok (.getfield 106, 3) := by decide +kernel
theorem dX7_isAhead_31 : decode cX7_isAhead 31 = .ok (.iload_n 2, 1) := by decide +kernel
theorem dX7_isAhead_32 : decode cX7_isAhead 32 = .ok (.iaload, 1) := by decide +kernel
theorem dX7_isAhead_33 : decode cX7_isAhead 33 = .ok (.iload_n 3, 1) := by decide +kernel
theorem dX7_isAhead_34 : decode cX7_isAhead 34 = .ok (.idiv, 1) := by decide +kernel
theorem dX7_isAhead_35 : decode cX7_isAhead 35 = .ok (.if_icmp .ne 12, 3) := by decide +kernel
theorem dX7_isAhead_38 : decode cX7_isAhead 38 = .ok (.iload_n 1, 1) := by decide +kernel
theorem dX7_isAhead_39 : decode cX7_isAhead 39 = .ok (.iload_n 2, 1) := by decide +kernel
theorem dX7_isAhead_40 : decode cX7_isAhead 40 = .ok (.if_icmp .ge 7, 3) := by decide +kernel
theorem dX7_isAhead_43 : decode cX7_isAhead 43 = .ok (.iconst 1, 1) := by decide +kernel
theorem dX7_isAhead_44 : decode cX7_isAhead 44 = .ok (.goto 4, 3) := by decide +kernel
theorem dX7_isAhead_47 : decode cX7_isAhead 47 = .ok (.iconst 0, 1) := by decide +kernel
theorem dX7_isAhead_48 : decode cX7_isAhead 48 = .ok (.ireturn, 1) := by decide +kernel
theorem dX7_bakerNow_0 : decode cX7_bakerNow 0 = .ok (.aload_n 0, 1) := by decide +kernel
theorem dX7_bakerNow_1 : decode cX7_bakerNow 1 = .ok (.invokevirtual 297, 3) := by decide +kernel
theorem dX7_bakerNow_4 : decode cX7_bakerNow 4 = .ok (.istore_n 1, 1) := by decide +kernel
theorem dX7_bakerNow_5 : decode cX7_bakerNow 5 = .ok (.aload_n 0, 1) := by decide +kernel
theorem dX7_bakerNow_6 : decode cX7_bakerNow 6 = .ok (.invokevirtual 300, 3) := by decide +kernel
theorem dX7_bakerNow_9 : decode cX7_bakerNow 9 = .ok (.istore_n 2, 1) := by decide +kernel
theorem dX7_bakerNow_10 : decode cX7_bakerNow 10 = .ok (.iconst (-1), 1) := by decide +kernel
theorem dX7_bakerNow_11 : decode cX7_bakerNow 11 = .ok (.istore_n 3, 1) := by decide +kernel
theorem dX7_bakerNow_12 : decode cX7_bakerNow 12 = .ok (.iconst 0, 1) := by decide +kernel
theorem dX7_bakerNow_13 : decode cX7_bakerNow 13 = .ok (.istore 4, 2) := by decide +kernel
theorem dX7_bakerNow_15 : decode cX7_bakerNow 15 = .ok (.iload 4, 2) := by decide +kernel
theorem dX7_bakerNow_17 : decode cX7_bakerNow 17 = .ok (.aload_n 0, 1) := by decide +kernel
theorem dX7_bakerNow_18 : decode cX7_bakerNow 18 = .ok (.getfield 7, 3) := by decide +kernel
theorem dX7_bakerNow_21 : decode cX7_bakerNow 21 = .ok (.if_icmp .ge 137, 3) := by decide +kernel
theorem dX7_bakerNow_24 : decode cX7_bakerNow 24 = .ok (.iload_n 2, 1) := by decide +kernel
theorem dX7_bakerNow_25 : decode cX7_bakerNow 25 = .ok (.iconst 2, 1) := by decide +kernel
theorem dX7_bakerNow_26 : decode cX7_bakerNow 26 = .ok (.if_icmp .ne 70, 3) := by decide +kernel
theorem dX7_bakerNow_29 : decode cX7_bakerNow 29 = .ok (.iconst 0, 1) := by decide +kernel
theorem dX7_bakerNow_30 : decode cX7_bakerNow 30 = .ok (.istore 5, 2) := by decide +kernel
theorem dX7_bakerNow_32 : decode cX7_bakerNow 32 = .ok (.iconst 0, 1) := by decide +kernel
theorem dX7_bakerNow_33 : decode cX7_bakerNow 33 = .ok (.istore 6, 2) := by decide +kernel
theorem dX7_bakerNow_35 : decode cX7_bakerNow 35 = .ok (.iload 6, 2) := by decide +kernel
theorem dX7_bakerNow_37 : decode cX7_bakerNow 37 = .ok (.aload_n 0, 1) := by decide +kernel
theorem dX7_bakerNow_38 : decode cX7_bakerNow 38 = .ok (.getfield 7, 3) := by decide +kernel
theorem dX7_bakerNow_41 : decode cX7_bakerNow 41 = .ok (.if_icmp .ge 38, 3) := by decide +kernel
theorem dX7_bakerNow_44 : decode cX7_bakerNow 44 = .ok (.iload 5, 2) := by decide +kernel
theorem dX7_bakerNow_46 : decode cX7_bakerNow 46 = .ok (.iload 6, 2) := by decide +kernel
theorem dX7_bakerNow_48 : decode cX7_bakerNow 48 = .ok (.iload 4, 2) := by decide +kernel
theorem dX7_bakerNow_50 : decode cX7_bakerNow 50 = .ok (.if_icmp .eq 19, 3) := by decide +kernel
theorem dX7_bakerNow_53 : decode cX7_bakerNow 53 = .ok (.aload_n 0, 1) := by decide +kernel
theorem dX7_bakerNow_54 : decode cX7_bakerNow 54 = .ok (.iload 6, 2) := by decide +kernel
theorem dX7_bakerNow_56 : decode cX7_bakerNow 56 = .ok (.iload 4, 2) := by decide +kernel
theorem dX7_bakerNow_58 : decode cX7_bakerNow 58 = .ok (.iload_n 1, 1) := by decide +kernel
theorem dX7_bakerNow_59 : decode cX7_bakerNow 59 = .ok (.invokevirtual 303, 3) := by decide +kernel
theorem dX7_bakerNow_62 : decode cX7_bakerNow 62 = .ok (.ifCond .eq 7, 3) := by decide +kernel
theorem dX7_bakerNow_65 : decode cX7_bakerNow 65 = .ok (.iconst 1, 1) := by decide +kernel
theorem dX7_bakerNow_66 : decode cX7_bakerNow 66 = .ok (.goto 4, 3) := by decide +kernel
theorem dX7_bakerNow_69 : decode cX7_bakerNow 69 = .ok (.iconst 0, 1) := by decide +kernel
theorem dX7_bakerNow_70 : decode cX7_bakerNow 70 = .ok (.iadd, 1) := by decide +kernel
theorem dX7_bakerNow_71 : decode cX7_bakerNow 71 = .ok (.istore 5, 2) := by decide +kernel
theorem dX7_bakerNow_73 : decode cX7_bakerNow 73 = .ok (.iinc 6 1, 3) := by decide +kernel
theorem dX7_bakerNow_76 : decode cX7_bakerNow 76 = .ok (.goto (-41), 3) := by decide +kernel
theorem dX7_bakerNow_79 : decode cX7_bakerNow 79 = .ok (.iload 5, 2) := by decide +kernel
theorem dX7_bakerNow_81 : decode cX7_bakerNow 81 = .ok (.aload_n 0, 1) := by decide +kernel
theorem dX7_bakerNow_82 : decode cX7_bakerNow 82 = .ok (.getfield 7, 3) := by decide +kernel
theorem dX7_bakerNow_85 : decode cX7_bakerNow 85 = .ok (.iconst 2, 1) := by decide +kernel
theorem dX7_bakerNow_86 : decode cX7_bakerNow 86 = .ok (.idiv, 1) := by decide +kernel
theorem dX7_bakerNow_87 : decode cX7_bakerNow 87 = .ok (.if_icmp .ne 6, 3) := by decide +kernel
theorem dX7_bakerNow_90 : decode cX7_bakerNow 90 = .ok (.iload 4, 2) := by decide +kernel
theorem dX7_bakerNow_92 : decode cX7_bakerNow 92 = .ok (.ireturn, 1) := by decide +kernel
theorem dX7_bakerNow_93 : decode cX7_bakerNow 93 = .ok (.goto 59, 3) := by decide +kernel
theorem dX7_bakerNow_96 : decode cX7_bakerNow 96 = .ok (.iload_n 3, 1) := by decide +kernel
theorem dX7_bakerNow_97 : decode cX7_bakerNow 97 = .ok (.ifCond .lt 52, 3) := by decide +kernel
theorem dX7_bakerNow_100 : decode cX7_bakerNow 100 = .ok (.iload_n 2, 1) := by decide +kernel
theorem dX7_bakerNow_101 : decode cX7_bakerNow 101 = .ok (.ifCond .ne 23, 3) := by decide +kernel
theorem dX7_bakerNow_104 : decode cX7_bakerNow 104 = .ok (.aload_n 0, 1) := by decide +kernel
theorem dX7_bakerNow_105 : decode cX7_bakerNow 105 = .ok (.getfield 106, 3) := by decide +kernel
theorem dX7_bakerNow_108 : decode cX7_bakerNow 108 = .ok (.iload 4, 2) := by decide +kernel
theorem dX7_bakerNow_110 : decode cX7_bakerNow 110 = .ok (.iaload, 1) := by decide +kernel
theorem dX7_bakerNow_111 : decode cX7_bakerNow 111 = .ok (.iload_n 1, 1) := by decide +kernel
theorem dX7_bakerNow_112 : decode cX7_bakerNow 112 = .ok (.idiv, 1) := by decide +kernel
theorem dX7_bakerNow_113 : decode cX7_bakerNow 113 = .ok (.aload_n 0, 1) := by decide +kernel
theorem dX7_bakerNow_114 : decode cX7_bakerNow 114 = .ok (.getfield 106, 3) := by decide +kernel
theorem dX7_bakerNow_117 : decode cX7_bakerNow 117 = .ok (.iload_n 3, 1) := by decide +kernel
theorem dX7_bakerNow_118 : decode cX7_bakerNow 118 = .ok (.iaload, 1) := by decide +kernel
theorem dX7_bakerNow_119 : decode cX7_bakerNow 119 = .ok (.iload_n 1, 1) := by decide +kernel
theorem dX7_bakerNow_120 : decode cX7_bakerNow 120 = .ok (.idiv, 1) := by decide +kernel
theorem dX7_bakerNow_121 : decode cX7_bakerNow 121 = .ok (.if_icmp .lt 28, 3) := by decide +kernel
theorem dX7_bakerNow_124 : decode cX7_bakerNow 124 = .ok (.iload_n 2, 1) := by decide +kernel
theorem dX7_bakerNow_125 : decode cX7_bakerNow 125 = .ok (.iconst 1, 1) := by decide +kernel
theorem dX7_bakerNow_126 : decode cX7_bakerNow 126 = .ok (.if_icmp .ne 26, 3) := by decide +kernel
theorem dX7_bakerNow_129 : decode cX7_bakerNow 129 = .ok (.aload_n 0, 1) := by decide +kernel
theorem dX7_bakerNow_130 : decode cX7_bakerNow 130 = .ok (.getfield 106, 3) := by decide +kernel
theorem dX7_bakerNow_133 : decode cX7_bakerNow 133 = .ok (.iload 4, 2) := by decide +kernel
theorem dX7_bakerNow_135 : decode cX7_bakerNow 135 = .ok (.iaload, 1) := by decide +kernel
theorem dX7_bakerNow_136 : decode cX7_bakerNow 136 = .ok (.iload_n 1, 1) := by decide +kernel
theorem dX7_bakerNow_137 : decode cX7_bakerNow 137 = .ok (.idiv, 1) := by decide +kernel
theorem dX7_bakerNow_138 : decode cX7_bakerNow 138 = .ok (.aload_n 0, 1) := by decide +kernel
theorem dX7_bakerNow_139 : decode cX7_bakerNow 139 = .ok (.getfield 106, 3) := by decide +kernel
theorem dX7_bakerNow_142 : decode cX7_bakerNow 142 = .ok (.iload_n 3, 1) := by decide +kernel
theorem dX7_bakerNow_143 : decode cX7_bakerNow 143 = .ok (.iaload, 1) := by decide +kernel
theorem dX7_bakerNow_144 : decode cX7_bakerNow 144 = .ok (.iload_n 1, 1) := by decide +kernel
theorem dX7_bakerNow_145 : decode cX7_bakerNow 145 = .ok (.idiv, 1) := by decide +kernel
theorem dX7_bakerNow_146 : decode cX7_bakerNow 146 = .ok (.if_icmp .le 6, 3) := by decide +kernel
theorem dX7_bakerNow_149 : decode cX7_bakerNow 149 = .ok (.iload 4, 2) := by decide +kernel
theorem dX7_bakerNow_151 : decode cX7_bakerNow 151 = .ok (.istore_n 3, 1) := by decide +kernel
theorem dX7_bakerNow_152 : decode cX7_bakerNow 152 = .ok (.iinc 4 1, 3) := by decide +kernel
theorem dX7_bakerNow_155 : decode cX7_bakerNow 155 = .ok (.goto (-140), 3) := by decide +kernel
theorem dX7_bakerNow_158 : decode cX7_bakerNow 158 = .ok (.iload_n 3, 1) := by decide +kernel
theorem dX7_bakerNow_159 : decode cX7_bakerNow 159 = .ok (.ireturn, 1) := by decide +kernel
theorem dX7_laySupper_0 : decode cX7_laySupper 0 = .ok (.aload_n 0, 1) := by decide +kernel
theorem dX7_laySupper_1 : decode cX7_laySupper 1 = .ok (.getfield 13, 3) := by decide +kernel
theorem dX7_laySupper_4 : decode cX7_laySupper 4 = .ok (.istore_n 1, 1) := by decide +kernel
theorem dX7_laySupper_5 : decode cX7_laySupper 5 = .ok (.iconst 0, 1) := by decide +kernel
theorem dX7_laySupper_6 : decode cX7_laySupper 6 = .ok (.istore_n 2, 1) := by decide +kernel
theorem dX7_laySupper_7 : decode cX7_laySupper 7 = .ok (.iload_n 2, 1) := by decide +kernel
theorem dX7_laySupper_8 : decode cX7_laySupper 8 = .ok (.aload_n 0, 1) := by decide +kernel
theorem dX7_laySupper_9 : decode cX7_laySupper 9 = .ok (.getfield 7, 3) := by decide +kernel
theorem dX7_laySupper_12 : decode cX7_laySupper 12 = .ok (.if_icmp .ge 44, 3) := by decide +kernel
theorem dX7_laySupper_15 : decode cX7_laySupper 15 = .ok (.aload_n 0, 1) := by decide +kernel
theorem dX7_laySupper_16 : decode cX7_laySupper 16 = .ok (.getfield 106, 3) := by decide +kernel
theorem dX7_laySupper_19 : decode cX7_laySupper 19 = .ok (.iload_n 2, 1) := by decide +kernel
theorem dX7_laySupper_20 : decode cX7_laySupper 20 = .ok (.aload_n 0, 1) := by decide +kernel
theorem dX7_laySupper_21 : decode cX7_laySupper 21 = .ok (.getfield 103, 3) := by decide +kernel
theorem dX7_laySupper_24 : decode cX7_laySupper 24 = .ok (.iload_n 2, 1) := by decide +kernel
theorem dX7_laySupper_25 : decode cX7_laySupper 25 = .ok (.iaload, 1) := by decide +kernel
theorem dX7_laySupper_26 : decode cX7_laySupper 26 = .ok (.iload_n 1, 1) := by decide +kernel
theorem dX7_laySupper_27 : decode cX7_laySupper 27 = .ok (.if_icmp .ge 12, 3) := by decide +kernel
theorem dX7_laySupper_30 : decode cX7_laySupper 30 = .ok (.aload_n 0, 1) := by decide +kernel
theorem dX7_laySupper_31 : decode cX7_laySupper 31 = .ok (.getfield 103, 3) := by decide +kernel
theorem dX7_laySupper_34 : decode cX7_laySupper 34 = .ok (.iload_n 2, 1) := by decide +kernel
theorem dX7_laySupper_35 : decode cX7_laySupper 35 = .ok (.iaload, 1) := by decide +kernel
theorem dX7_laySupper_36 : decode cX7_laySupper 36 = .ok (.goto 4, 3) := by decide +kernel
theorem dX7_laySupper_39 : decode cX7_laySupper 39 = .ok (.iload_n 1, 1) := by decide +kernel
theorem dX7_laySupper_40 : decode cX7_laySupper 40 = .ok (.iastore, 1) := by decide +kernel
theorem dX7_laySupper_41 : decode cX7_laySupper 41 = .ok (.iload_n 1, 1) := by decide +kernel
theorem dX7_laySupper_42 : decode cX7_laySupper 42 = .ok (.aload_n 0, 1) := by decide +kernel
theorem dX7_laySupper_43 : decode cX7_laySupper 43 = .ok (.getfield 106, 3) := by decide +kernel
theorem dX7_laySupper_46 : decode cX7_laySupper 46 = .ok (.iload_n 2, 1) := by decide +kernel
theorem dX7_laySupper_47 : decode cX7_laySupper 47 = .ok (.iaload, 1) := by decide +kernel
theorem dX7_laySupper_48 : decode cX7_laySupper 48 = .ok (.isub, 1) := by decide +kernel
theorem dX7_laySupper_49 : decode cX7_laySupper 49 = .ok (.istore_n 1, 1) := by decide +kernel
theorem dX7_laySupper_50 : decode cX7_laySupper 50 = .ok (.iinc 2 1, 3) := by decide +kernel
theorem dX7_laySupper_53 : decode cX7_laySupper 53 = .ok (.goto (-46), 3) := by decide +kernel
theorem dX7_laySupper_56 : decode cX7_laySupper 56 = .ok (.aload_n 0, 1) := by decide +kernel
theorem dX7_laySupper_57 : decode cX7_laySupper 57 = .ok (.aload_n 0, 1) := by decide +kernel
theorem dX7_laySupper_58 : decode cX7_laySupper 58 = .ok (.invokevirtual 306, 3) := by decide +kernel
theorem dX7_laySupper_61 : decode cX7_laySupper 61 = .ok (.putfield 112, 3) := by decide +kernel
theorem dX7_laySupper_64 : decode cX7_laySupper 64 = .ok (.iconst 0, 1) := by decide +kernel
theorem dX7_laySupper_65 : decode cX7_laySupper 65 = .ok (.istore_n 2, 1) := by decide +kernel
theorem dX7_laySupper_66 : decode cX7_laySupper 66 = .ok (.iload_n 2, 1) := by decide +kernel
theorem dX7_laySupper_67 : decode cX7_laySupper 67 = .ok (.aload_n 0, 1) := by decide +kernel
theorem dX7_laySupper_68 : decode cX7_laySupper 68 = .ok (.getfield 7, 3) := by decide +kernel
theorem dX7_laySupper_71 : decode cX7_laySupper 71 = .ok (.if_icmp .ge 72, 3) := by decide +kernel
theorem dX7_laySupper_74 : decode cX7_laySupper 74 = .ok (.aload_n 0, 1) := by decide +kernel
theorem dX7_laySupper_75 : decode cX7_laySupper 75 = .ok (.getfield 109, 3) := by decide +kernel
theorem dX7_laySupper_78 : decode cX7_laySupper 78 = .ok (.iload_n 2, 1) := by decide +kernel
theorem dX7_laySupper_79 : decode cX7_laySupper 79 = .ok (.iload_n 2, 1) := by decide +kernel
theorem dX7_laySupper_80 : decode cX7_laySupper 80 = .ok (.aload_n 0, 1) := by decide +kernel
theorem dX7_laySupper_81 : decode cX7_laySupper 81 = .ok (.getfield 112, 3) := by decide +kernel
theorem dX7_laySupper_84 : decode cX7_laySupper 84 = .ok (.if_icmp .ne 18, 3) := by decide +kernel
theorem dX7_laySupper_87 : decode cX7_laySupper 87 = .ok (.aload_n 0, 1) := by decide +kernel
theorem dX7_laySupper_88 : decode cX7_laySupper 88 = .ok (.iload_n 2, 1) := by decide +kernel
theorem dX7_laySupper_89 : decode cX7_laySupper 89 = .ok (.aload_n 0, 1) := by decide +kernel
theorem dX7_laySupper_90 : decode cX7_laySupper 90 = .ok (.getfield 106, 3) := by decide +kernel
theorem dX7_laySupper_93 : decode cX7_laySupper 93 = .ok (.iload_n 2, 1) := by decide +kernel
theorem dX7_laySupper_94 : decode cX7_laySupper 94 = .ok (.iaload, 1) := by decide +kernel
theorem dX7_laySupper_95 : decode cX7_laySupper 95 = .ok (.invokevirtual 309, 3) := by decide +kernel
theorem dX7_laySupper_98 : decode cX7_laySupper 98 = .ok (.ineg, 1) := by decide +kernel
theorem dX7_laySupper_99 : decode cX7_laySupper 99 = .ok (.goto 4, 3) := by decide +kernel
theorem dX7_laySupper_102 : decode cX7_laySupper 102 = .ok (.iconst 0, 1) := by decide +kernel
theorem dX7_laySupper_103 : decode cX7_laySupper 103 = .ok (.iastore, 1) := by decide +kernel
theorem dX7_laySupper_104 : decode cX7_laySupper 104 = .ok (.iconst 1, 1) := by decide +kernel
theorem dX7_laySupper_105 : decode cX7_laySupper 105 = .ok (.istore_n 3, 1) := by decide +kernel
theorem dX7_laySupper_106 : decode cX7_laySupper 106 = .ok (.iload_n 3, 1) := by decide +kernel
theorem dX7_laySupper_107 : decode cX7_laySupper 107 = .ok (.aload_n 0, 1) := by decide +kernel
theorem dX7_laySupper_108 : decode cX7_laySupper 108 = .ok (.getfield 106, 3) := by decide +kernel
theorem dX7_laySupper_111 : decode cX7_laySupper 111 = .ok (.iload_n 2, 1) := by decide +kernel
theorem dX7_laySupper_112 : decode cX7_laySupper 112 = .ok (.iaload, 1) := by decide +kernel
theorem dX7_laySupper_113 : decode cX7_laySupper 113 = .ok (.if_icmp .gt 24, 3) := by decide +kernel
theorem dX7_laySupper_116 : decode cX7_laySupper 116 = .ok (.aload_n 0, 1) := by decide +kernel
theorem dX7_laySupper_117 : decode cX7_laySupper 117 = .ok (.getfield 109, 3) := by decide +kernel
theorem dX7_laySupper_120 : decode cX7_laySupper 120 = .ok (.iload_n 2, 1) := by decide +kernel
theorem dX7_laySupper_121 : decode cX7_laySupper 121 = .ok (.dup2, 1) := by decide +kernel
theorem dX7_laySupper_122 : decode cX7_laySupper 122 = .ok (.iaload, 1) := by decide +kernel
theorem dX7_laySupper_123 : decode cX7_laySupper 123 = .ok (.aload_n 0, 1) := by decide +kernel
theorem dX7_laySupper_124 : decode cX7_laySupper 124 = .ok (.iload_n 2, 1) := by decide +kernel
theorem dX7_laySupper_125 : decode cX7_laySupper 125 = .ok (.iload_n 3, 1) := by decide +kernel
theorem dX7_laySupper_126 : decode cX7_laySupper 126 = .ok (.invokevirtual 312, 3) := by decide +kernel
theorem dX7_laySupper_129 : decode cX7_laySupper 129 = .ok (.iadd, 1) := by decide +kernel
theorem dX7_laySupper_130 : decode cX7_laySupper 130 = .ok (.iastore, 1) := by decide +kernel
theorem dX7_laySupper_131 : decode cX7_laySupper 131 = .ok (.iinc 3 1, 3) := by decide +kernel
theorem dX7_laySupper_134 : decode cX7_laySupper 134 = .ok (.goto (-28), 3) := by decide +kernel
theorem dX7_laySupper_137 : decode cX7_laySupper 137 = .ok (.iinc 2 1, 3) := by decide +kernel
theorem dX7_laySupper_140 : decode cX7_laySupper 140 = .ok (.goto (-74), 3) := by decide +kernel
theorem dX7_laySupper_143 : decode cX7_laySupper 143 = .ok (.return_, 1) := by decide +kernel
theorem dX7_least_0 : decode cX7_least 0 = .ok (.iload_n 1, 1) := by decide +kernel
theorem dX7_least_1 : decode cX7_least 1 = .ok (.iload_n 2, 1) := by decide +kernel
theorem dX7_least_2 : decode cX7_least 2 = .ok (.if_icmp .ge 7, 3) := by decide +kernel
theorem dX7_least_5 : decode cX7_least 5 = .ok (.iload_n 1, 1) := by decide +kernel
theorem dX7_least_6 : decode cX7_least 6 = .ok (.goto 4, 3) := by decide +kernel
theorem dX7_least_9 : decode cX7_least 9 = .ok (.iload_n 2, 1) := by decide +kernel
theorem dX7_least_10 : decode cX7_least 10 = .ok (.ireturn, 1) := by decide +kernel
theorem dX7_crumb_0 : decode cX7_crumb 0 = .ok (.aload_n 0, 1) := by decide +kernel
theorem dX7_crumb_1 : decode cX7_crumb 1 = .ok (.getfield 32, 3) := by decide +kernel
theorem dX7_crumb_4 : decode cX7_crumb 4 = .ok (.iload_n 1, 1) := by decide +kernel
theorem dX7_crumb_5 : decode cX7_crumb 5 = .ok (.ifCond .ne 12, 3) := by decide +kernel
theorem dX7_crumb_8 : decode cX7_crumb 8 = .ok (.aload_n 0, 1) := by decide +kernel
theorem dX7_crumb_9 : decode cX7_crumb 9 = .ok (.getfield 7, 3) := by decide +kernel
theorem dX7_crumb_12 : decode cX7_crumb 12 = .ok (.iconst 1, 1) := by decide +kernel
theorem dX7_crumb_13 : decode cX7_crumb 13 = .ok (.isub, 1) := by decide +kernel
theorem dX7_crumb_14 : decode cX7_crumb 14 = .ok (.goto 6, 3) := by decide +kernel
theorem dX7_crumb_17 : decode cX7_crumb 17 = .ok (.iload_n 1, 1) := by decide +kernel
theorem dX7_crumb_18 : decode cX7_crumb 18 = .ok (.iconst 1, 1) := by decide +kernel
theorem dX7_crumb_19 : decode cX7_crumb 19 = .ok (.isub, 1) := by decide +kernel
theorem dX7_crumb_20 : decode cX7_crumb 20 = .ok (.iaload, 1) := by decide +kernel
theorem dX7_crumb_21 : decode cX7_crumb 21 = .ok (.iconst 1, 1) := by decide +kernel
theorem dX7_crumb_22 : decode cX7_crumb 22 = .ok (.iadd, 1) := by decide +kernel
theorem dX7_crumb_23 : decode cX7_crumb 23 = .ok (.ireturn, 1) := by decide +kernel
theorem dX7_plainWish_0 : decode cX7_plainWish 0 = .ok (.aload_n 0, 1) := by decide +kernel
theorem dX7_plainWish_1 : decode cX7_plainWish 1 = .ok (.getfield 22, 3) := by decide +kernel
theorem dX7_plainWish_4 : decode cX7_plainWish 4 = .ok (.iload_n 1, 1) := by decide +kernel
theorem dX7_plainWish_5 : decode cX7_plainWish 5 = .ok (.iaload, 1) := by decide +kernel
theorem dX7_plainWish_6 : decode cX7_plainWish 6 = .ok (.tableswitch 136 1 6 #[38, 58, 70, 38, 94, 120], 38) := by decide +kernel
theorem dX7_plainWish_44 : decode cX7_plainWish 44 = .ok (.aload_n 0, 1) := by decide +kernel
theorem dX7_plainWish_45 : decode cX7_plainWish 45 = .ok (.bipush 9, 2) := by decide +kernel
theorem dX7_plainWish_47 : decode cX7_plainWish 47 = .ok (.aload_n 0, 1) := by decide +kernel
theorem dX7_plainWish_48 : decode cX7_plainWish 48 = .ok (.getfield 29, 3) := by decide +kernel
theorem dX7_plainWish_51 : decode cX7_plainWish 51 = .ok (.iload_n 1, 1) := by decide +kernel
theorem dX7_plainWish_52 : decode cX7_plainWish 52 = .ok (.iaload, 1) := by decide +kernel
theorem dX7_plainWish_53 : decode cX7_plainWish 53 = .ok (.aload_n 0, 1) := by decide +kernel
theorem dX7_plainWish_54 : decode cX7_plainWish 54 = .ok (.getfield 26, 3) := by decide +kernel
theorem dX7_plainWish_57 : decode cX7_plainWish 57 = .ok (.iload_n 1, 1) := by decide +kernel
theorem dX7_plainWish_58 : decode cX7_plainWish 58 = .ok (.iaload, 1) := by decide +kernel
theorem dX7_plainWish_59 : decode cX7_plainWish 59 = .ok (.iadd, 1) := by decide +kernel
theorem dX7_plainWish_60 : decode cX7_plainWish 60 = .ok (.invokevirtual 315, 3) := by decide +kernel
theorem dX7_plainWish_63 : decode cX7_plainWish 63 = .ok (.ireturn, 1) := by decide +kernel
theorem dX7_plainWish_64 : decode cX7_plainWish 64 = .ok (.aload_n 0, 1) := by decide +kernel
theorem dX7_plainWish_65 : decode cX7_plainWish 65 = .ok (.bipush 9, 2) := by decide +kernel
theorem dX7_plainWish_67 : decode cX7_plainWish 67 = .ok (.aload_n 0, 1) := by decide +kernel
theorem dX7_plainWish_68 : decode cX7_plainWish 68 = .ok (.iload_n 1, 1) := by decide +kernel
theorem dX7_plainWish_69 : decode cX7_plainWish 69 = .ok (.invokevirtual 318, 3) := by decide +kernel
theorem dX7_plainWish_72 : decode cX7_plainWish 72 = .ok (.invokevirtual 315, 3) := by decide +kernel
theorem dX7_plainWish_75 : decode cX7_plainWish 75 = .ok (.ireturn, 1) := by decide +kernel
theorem dX7_plainWish_76 : decode cX7_plainWish 76 = .ok (.aload_n 0, 1) := by decide +kernel
theorem dX7_plainWish_77 : decode cX7_plainWish 77 = .ok (.getfield 16, 3) := by decide +kernel
theorem dX7_plainWish_80 : decode cX7_plainWish 80 = .ok (.aload_n 0, 1) := by decide +kernel
theorem dX7_plainWish_81 : decode cX7_plainWish 81 = .ok (.getfield 7, 3) := by decide +kernel
theorem dX7_plainWish_84 : decode cX7_plainWish 84 = .ok (.irem, 1) := by decide +kernel
theorem dX7_plainWish_85 : decode cX7_plainWish 85 = .ok (.iload_n 1, 1) := by decide +kernel
theorem dX7_plainWish_86 : decode cX7_plainWish 86 = .ok (.if_icmp .ne 7, 3) := by decide +kernel
theorem dX7_plainWish_89 : decode cX7_plainWish 89 = .ok (.iconst 0, 1) := by decide +kernel
theorem dX7_plainWish_90 : decode cX7_plainWish 90 = .ok (.goto 9, 3) := by decide +kernel
theorem dX7_plainWish_93 : decode cX7_plainWish 93 = .ok (.aload_n 0, 1) := by decide +kernel
theorem dX7_plainWish_94 : decode cX7_plainWish 94 = .ok (.getfield 29, 3) := by decide +kernel
theorem dX7_plainWish_97 : decode cX7_plainWish 97 = .ok (.iload_n 1, 1) := by decide +kernel
theorem dX7_plainWish_98 : decode cX7_plainWish 98 = .ok (.iaload, 1) := by decide +kernel
theorem dX7_plainWish_99 : decode cX7_plainWish 99 = .ok (.ireturn, 1) := by decide +kernel
theorem dX7_plainWish_100 : decode cX7_plainWish 100 = .ok (.aload_n 0, 1) := by decide +kernel
theorem dX7_plainWish_101 : decode cX7_plainWish 101 = .ok (.getfield 26, 3) := by decide +kernel
theorem dX7_plainWish_104 : decode cX7_plainWish 104 = .ok (.iload_n 1, 1) := by decide +kernel
theorem dX7_plainWish_105 : decode cX7_plainWish 105 = .ok (.iaload, 1) := by decide +kernel
theorem dX7_plainWish_106 : decode cX7_plainWish 106 = .ok (.iconst 5, 1) := by decide +kernel
theorem dX7_plainWish_107 : decode cX7_plainWish 107 = .ok (.if_icmp .ge 7, 3) := by decide +kernel
theorem dX7_plainWish_110 : decode cX7_plainWish 110 = .ok (.iconst 0, 1) := by decide +kernel
theorem dX7_plainWish_111 : decode cX7_plainWish 111 = .ok (.goto 14, 3) := by decide +kernel
theorem dX7_plainWish_114 : decode cX7_plainWish 114 = .ok (.aload_n 0, 1) := by decide +kernel
theorem dX7_plainWish_115 : decode cX7_plainWish 115 = .ok (.bipush 9, 2) := by decide +kernel
theorem dX7_plainWish_117 : decode cX7_plainWish 117 = .ok (.aload_n 0, 1) := by decide +kernel
theorem dX7_plainWish_118 : decode cX7_plainWish 118 = .ok (.iload_n 1, 1) := by decide +kernel
theorem dX7_plainWish_119 : decode cX7_plainWish 119 = .ok (.invokevirtual 318, 3) := by decide +kernel
theorem dX7_plainWish_122 : decode cX7_plainWish 122 = .ok (.invokevirtual 315, 3) := by decide +kernel
theorem dX7_plainWish_125 : decode cX7_plainWish 125 = .ok (.ireturn, 1) := by decide +kernel
theorem dX7_plainWish_126 : decode cX7_plainWish 126 = .ok (.aload_n 0, 1) := by decide +kernel
theorem dX7_plainWish_127 : decode cX7_plainWish 127 = .ok (.getfield 38, 3) := by decide +kernel
theorem dX7_plainWish_130 : decode cX7_plainWish 130 = .ok (.iconst 4, 1) := by decide +kernel
theorem dX7_plainWish_131 : decode cX7_plainWish 131 = .ok (.iload_n 1, 1) := by decide +kernel
theorem dX7_plainWish_132 : decode cX7_plainWish 132 = .ok (.imul, 1) := by decide +kernel
theorem dX7_plainWish_133 : decode cX7_plainWish 133 = .ok (.aload_n 0, 1) := by decide +kernel
theorem dX7_plainWish_134 : decode cX7_plainWish 134 = .ok (.getfield 16, 3) := by decide +kernel
theorem dX7_plainWish_137 : decode cX7_plainWish 137 = .ok (.iconst 4, 1) := by decide +kernel
theorem dX7_plainWish_138 : decode cX7_plainWish 138 = .ok (.irem, 1) := by decide +kernel
theorem dX7_plainWish_139 : decode cX7_plainWish 139 = .ok (.iadd, 1) := by decide +kernel
theorem dX7_plainWish_140 : decode cX7_plainWish 140 = .ok (.iaload, 1) := by decide +kernel
theorem dX7_plainWish_141 : decode cX7_plainWish 141 = .ok (.ireturn, 1) := by decide +kernel
theorem dX7_plainWish_142 : decode cX7_plainWish 142 = .ok (.aload_n 0, 1) := by decide +kernel
theorem dX7_plainWish_143 : decode cX7_plainWish 143 = .ok (.getfield 29, 3) := by decide +kernel
theorem dX7_plainWish_146 : decode cX7_plainWish 146 = .ok (.iload_n 1, 1) := by decide +kernel
theorem dX7_plainWish_147 : decode cX7_plainWish 147 = .ok (.iaload, 1) := by decide +kernel
theorem dX7_plainWish_148 : decode cX7_plainWish 148 = .ok (.ireturn, 1) := by decide +kernel
theorem dX7_bestWish_0 : decode cX7_bestWish 0 = .ok (.iconst 0, 1) := by decide +kernel
theorem dX7_bestWish_1 : decode cX7_bestWish 1 = .ok (.istore_n 2, 1) := by decide +kernel
theorem dX7_bestWish_2 : decode cX7_bestWish 2 = .ok (.iconst 0, 1) := by decide +kernel
theorem dX7_bestWish_3 : decode cX7_bestWish 3 = .ok (.istore_n 3, 1) := by decide +kernel
theorem dX7_bestWish_4 : decode cX7_bestWish 4 = .ok (.iconst 0, 1) := by decide +kernel
theorem dX7_bestWish_5 : decode cX7_bestWish 5 = .ok (.istore 4, 2) := by decide +kernel
theorem dX7_bestWish_7 : decode cX7_bestWish 7 = .ok (.iload 4, 2) := by decide +kernel
theorem dX7_bestWish_9 : decode cX7_bestWish 9 = .ok (.bipush 10, 2) := by decide +kernel
theorem dX7_bestWish_11 : decode cX7_bestWish 11 = .ok (.if_icmp .ge 83, 3) := by decide +kernel
theorem dX7_bestWish_14 : decode cX7_bestWish 14 = .ok (.iconst 0, 1) := by decide +kernel
theorem dX7_bestWish_15 : decode cX7_bestWish 15 = .ok (.istore 5, 2) := by decide +kernel
theorem dX7_bestWish_17 : decode cX7_bestWish 17 = .ok (.iload 5, 2) := by decide +kernel
theorem dX7_bestWish_19 : decode cX7_bestWish 19 = .ok (.aload_n 0, 1) := by decide +kernel
theorem dX7_bestWish_20 : decode cX7_bestWish 20 = .ok (.getfield 7, 3) := by decide +kernel
theorem dX7_bestWish_23 : decode cX7_bestWish 23 = .ok (.if_icmp .ge 33, 3) := by decide +kernel
theorem dX7_bestWish_26 : decode cX7_bestWish 26 = .ok (.aload_n 0, 1) := by decide +kernel
theorem dX7_bestWish_27 : decode cX7_bestWish 27 = .ok (.getfield 103, 3) := by decide +kernel
theorem dX7_bestWish_30 : decode cX7_bestWish 30 = .ok (.iload 5, 2) := by decide +kernel
theorem dX7_bestWish_32 : decode cX7_bestWish 32 = .ok (.iload 5, 2) := by decide +kernel
theorem dX7_bestWish_34 : decode cX7_bestWish 34 = .ok (.iload_n 1, 1) := by decide +kernel
theorem dX7_bestWish_35 : decode cX7_bestWish 35 = .ok (.if_icmp .ne 8, 3) := by decide +kernel
theorem dX7_bestWish_38 : decode cX7_bestWish 38 = .ok (.iload 4, 2) := by decide +kernel
theorem dX7_bestWish_40 : decode cX7_bestWish 40 = .ok (.goto 9, 3) := by decide +kernel
theorem dX7_bestWish_43 : decode cX7_bestWish 43 = .ok (.aload_n 0, 1) := by decide +kernel
theorem dX7_bestWish_44 : decode cX7_bestWish 44 = .ok (.iload 5, 2) := by decide +kernel
theorem dX7_bestWish_46 : decode cX7_bestWish 46 = .ok (.invokevirtual 321, 3) := by decide +kernel
theorem dX7_bestWish_49 : decode cX7_bestWish 49 = .ok (.iastore, 1) := by decide +kernel
theorem dX7_bestWish_50 : decode cX7_bestWish 50 = .ok (.iinc 5 1, 3) := by decide +kernel
theorem dX7_bestWish_53 : decode cX7_bestWish 53 = .ok (.goto (-36), 3) := by decide +kernel
theorem dX7_bestWish_56 : decode cX7_bestWish 56 = .ok (.aload_n 0, 1) := by decide +kernel
theorem dX7_bestWish_57 : decode cX7_bestWish 57 = .ok (.invokevirtual 324, 3) := by decide +kernel
theorem dX7_bestWish_60 : decode cX7_bestWish 60 = .ok (.iload 4, 2) := by decide +kernel
theorem dX7_bestWish_62 : decode cX7_bestWish 62 = .ok (.ifCond .le 16, 3) := by decide +kernel
theorem dX7_bestWish_65 : decode cX7_bestWish 65 = .ok (.aload_n 0, 1) := by decide +kernel
theorem dX7_bestWish_66 : decode cX7_bestWish 66 = .ok (.getfield 109, 3) := by decide +kernel
theorem dX7_bestWish_69 : decode cX7_bestWish 69 = .ok (.iload_n 1, 1) := by decide +kernel
theorem dX7_bestWish_70 : decode cX7_bestWish 70 = .ok (.iaload, 1) := by decide +kernel
theorem dX7_bestWish_71 : decode cX7_bestWish 71 = .ok (.iload_n 3, 1) := by decide +kernel
theorem dX7_bestWish_72 : decode cX7_bestWish 72 = .ok (.if_icmp .gt 6, 3) := by decide +kernel
theorem dX7_bestWish_75 : decode cX7_bestWish 75 = .ok (.goto 13, 3) := by decide +kernel
theorem dX7_bestWish_78 : decode cX7_bestWish 78 = .ok (.iload 4, 2) := by decide +kernel
theorem dX7_bestWish_80 : decode cX7_bestWish 80 = .ok (.istore_n 2, 1) := by decide +kernel
theorem dX7_bestWish_81 : decode cX7_bestWish 81 = .ok (.aload_n 0, 1) := by decide +kernel
theorem dX7_bestWish_82 : decode cX7_bestWish 82 = .ok (.getfield 109, 3) := by decide +kernel
theorem dX7_bestWish_85 : decode cX7_bestWish 85 = .ok (.iload_n 1, 1) := by decide +kernel
theorem dX7_bestWish_86 : decode cX7_bestWish 86 = .ok (.iaload, 1) := by decide +kernel
theorem dX7_bestWish_87 : decode cX7_bestWish 87 = .ok (.istore_n 3, 1) := by decide +kernel
theorem dX7_bestWish_88 : decode cX7_bestWish 88 = .ok (.iinc 4 1, 3) := by decide +kernel
theorem dX7_bestWish_91 : decode cX7_bestWish 91 = .ok (.goto (-84), 3) := by decide +kernel
theorem dX7_bestWish_94 : decode cX7_bestWish 94 = .ok (.iload_n 2, 1) := by decide +kernel
theorem dX7_bestWish_95 : decode cX7_bestWish 95 = .ok (.ireturn, 1) := by decide +kernel
theorem dX7_wishOf_0 : decode cX7_wishOf 0 = .ok (.aload_n 0, 1) := by decide +kernel
theorem dX7_wishOf_1 : decode cX7_wishOf 1 = .ok (.getfield 22, 3) := by decide +kernel
theorem dX7_wishOf_4 : decode cX7_wishOf 4 = .ok (.iload_n 1, 1) := by decide +kernel
theorem dX7_wishOf_5 : decode cX7_wishOf 5 = .ok (.iaload, 1) := by decide +kernel
theorem dX7_wishOf_6 : decode cX7_wishOf 6 = .ok (.iconst 4, 1) := by decide +kernel
theorem dX7_wishOf_7 : decode cX7_wishOf 7 = .ok (.if_icmp .ne 11, 3) := by decide +kernel
theorem dX7_wishOf_10 : decode cX7_wishOf 10 = .ok (.aload_n 0, 1) := by decide +kernel
theorem dX7_wishOf_11 : decode cX7_wishOf 11 = .ok (.iload_n 1, 1) := by decide +kernel
theorem dX7_wishOf_12 : decode cX7_wishOf 12 = .ok (.invokevirtual 327, 3) := by decide +kernel
theorem dX7_wishOf_15 : decode cX7_wishOf 15 = .ok (.goto 8, 3) := by decide +kernel
theorem dX7_wishOf_18 : decode cX7_wishOf 18 = .ok (.aload_n 0, 1) := by decide +kernel
theorem dX7_wishOf_19 : decode cX7_wishOf 19 = .ok (.iload_n 1, 1) := by decide +kernel
theorem dX7_wishOf_20 : decode cX7_wishOf 20 = .ok (.invokevirtual 321, 3) := by decide +kernel
theorem dX7_wishOf_23 : decode cX7_wishOf 23 = .ok (.ireturn, 1) := by decide +kernel
theorem dX7_layWishes_0 : decode cX7_layWishes 0 = .ok (.iconst 0, 1) := by decide +kernel
theorem dX7_layWishes_1 : decode cX7_layWishes 1 = .ok (.istore_n 1, 1) := by decide +kernel
theorem dX7_layWishes_2 : decode cX7_layWishes 2 = .ok (.iload_n 1, 1) := by decide +kernel
theorem dX7_layWishes_3 : decode cX7_layWishes 3 = .ok (.aload_n 0, 1) := by decide +kernel
theorem dX7_layWishes_4 : decode cX7_layWishes 4 = .ok (.getfield 7, 3) := by decide +kernel
theorem dX7_layWishes_7 : decode cX7_layWishes 7 = .ok (.if_icmp .ge 20, 3) := by decide +kernel
theorem dX7_layWishes_10 : decode cX7_layWishes 10 = .ok (.aload_n 0, 1) := by decide +kernel
theorem dX7_layWishes_11 : decode cX7_layWishes 11 = .ok (.getfield 115, 3) := by decide +kernel
theorem dX7_layWishes_14 : decode cX7_layWishes 14 = .ok (.iload_n 1, 1) := by decide +kernel
theorem dX7_layWishes_15 : decode cX7_layWishes 15 = .ok (.aload_n 0, 1) := by decide +kernel
theorem dX7_layWishes_16 : decode cX7_layWishes 16 = .ok (.iload_n 1, 1) := by decide +kernel
theorem dX7_layWishes_17 : decode cX7_layWishes 17 = .ok (.invokevirtual 330, 3) := by decide +kernel
theorem dX7_layWishes_20 : decode cX7_layWishes 20 = .ok (.iastore, 1) := by decide +kernel
theorem dX7_layWishes_21 : decode cX7_layWishes 21 = .ok (.iinc 1 1, 3) := by decide +kernel
theorem dX7_layWishes_24 : decode cX7_layWishes 24 = .ok (.goto (-22), 3) := by decide +kernel
theorem dX7_layWishes_27 : decode cX7_layWishes 27 = .ok (.iconst 0, 1) := by decide +kernel
theorem dX7_layWishes_28 : decode cX7_layWishes 28 = .ok (.istore_n 1, 1) := by decide +kernel
theorem dX7_layWishes_29 : decode cX7_layWishes 29 = .ok (.iload_n 1, 1) := by decide +kernel
theorem dX7_layWishes_30 : decode cX7_layWishes 30 = .ok (.aload_n 0, 1) := by decide +kernel
theorem dX7_layWishes_31 : decode cX7_layWishes 31 = .ok (.getfield 7, 3) := by decide +kernel
theorem dX7_layWishes_34 : decode cX7_layWishes 34 = .ok (.if_icmp .ge 21, 3) := by decide +kernel
theorem dX7_layWishes_37 : decode cX7_layWishes 37 = .ok (.aload_n 0, 1) := by decide +kernel
theorem dX7_layWishes_38 : decode cX7_layWishes 38 = .ok (.getfield 103, 3) := by decide +kernel
theorem dX7_layWishes_41 : decode cX7_layWishes 41 = .ok (.iload_n 1, 1) := by decide +kernel
theorem dX7_layWishes_42 : decode cX7_layWishes 42 = .ok (.aload_n 0, 1) := by decide +kernel
theorem dX7_layWishes_43 : decode cX7_layWishes 43 = .ok (.getfield 115, 3) := by decide +kernel
theorem dX7_layWishes_46 : decode cX7_layWishes 46 = .ok (.iload_n 1, 1) := by decide +kernel
theorem dX7_layWishes_47 : decode cX7_layWishes 47 = .ok (.iaload, 1) := by decide +kernel
theorem dX7_layWishes_48 : decode cX7_layWishes 48 = .ok (.iastore, 1) := by decide +kernel
theorem dX7_layWishes_49 : decode cX7_layWishes 49 = .ok (.iinc 1 1, 3) := by decide +kernel
theorem dX7_layWishes_52 : decode cX7_layWishes 52 = .ok (.goto (-23), 3) := by decide +kernel
theorem dX7_layWishes_55 : decode cX7_layWishes 55 = .ok (.return_, 1) := by decide +kernel
theorem dX7_goSupper_0 : decode cX7_goSupper 0 = .ok (.aload_n 0, 1) := by decide +kernel
theorem dX7_goSupper_1 : decode cX7_goSupper 1 = .ok (.getfield 7, 3) := by decide +kernel
theorem dX7_goSupper_4 : decode cX7_goSupper 4 = .ok (.ifCond .ne 4, 3) := by decide +kernel
theorem dX7_goSupper_7 : decode cX7_goSupper 7 = .ok (.return_, 1) := by decide +kernel
theorem dX7_goSupper_8 : decode cX7_goSupper 8 = .ok (.aload_n 0, 1) := by decide +kernel
theorem dX7_goSupper_9 : decode cX7_goSupper 9 = .ok (.invokevirtual 333, 3) := by decide +kernel
theorem dX7_goSupper_12 : decode cX7_goSupper 12 = .ok (.aload_n 0, 1) := by decide +kernel
theorem dX7_goSupper_13 : decode cX7_goSupper 13 = .ok (.getfield 118, 3) := by decide +kernel
theorem dX7_goSupper_16 : decode cX7_goSupper 16 = .ok (.ifCond .lt 48, 3) := by decide +kernel
theorem dX7_goSupper_19 : decode cX7_goSupper 19 = .ok (.aload_n 0, 1) := by decide +kernel
theorem dX7_goSupper_20 : decode cX7_goSupper 20 = .ok (.getfield 103, 3) := by decide +kernel
theorem dX7_goSupper_23 : decode cX7_goSupper 23 = .ok (.aload_n 0, 1) := by decide +kernel
theorem dX7_goSupper_24 : decode cX7_goSupper 24 = .ok (.getfield 118, 3) := by decide +kernel
theorem dX7_goSupper_27 : decode cX7_goSupper 27 = .ok (.aload_n 0, 1) := by decide +kernel
theorem dX7_goSupper_28 : decode cX7_goSupper 28 = .ok (.getfield 16, 3) := by decide +kernel
theorem dX7_goSupper_31 : decode cX7_goSupper 31 = .ok (.iconst 2, 1) := by decide +kernel
theorem dX7_goSupper_32 : decode cX7_goSupper 32 = .ok (.irem, 1) := by decide +kernel
theorem dX7_goSupper_33 : decode cX7_goSupper 33 = .ok (.ifCond .ne 7, 3) := by decide +kernel
theorem dX7_goSupper_36 : decode cX7_goSupper 36 = .ok (.iconst 0, 1) := by decide +kernel
theorem dX7_goSupper_37 : decode cX7_goSupper 37 = .ok (.goto 5, 3) := by decide +kernel
theorem dX7_goSupper_40 : decode cX7_goSupper 40 = .ok (.bipush 9, 2) := by decide +kernel
theorem dX7_goSupper_42 : decode cX7_goSupper 42 = .ok (.iastore, 1) := by decide +kernel
theorem dX7_goSupper_43 : decode cX7_goSupper 43 = .ok (.aload_n 0, 1) := by decide +kernel
theorem dX7_goSupper_44 : decode cX7_goSupper 44 = .ok (.getfield 103, 3) := by decide +kernel
theorem dX7_goSupper_47 : decode cX7_goSupper 47 = .ok (.aload_n 0, 1) := by decide +kernel
theorem dX7_goSupper_48 : decode cX7_goSupper 48 = .ok (.getfield 121, 3) := by decide +kernel
theorem dX7_goSupper_51 : decode cX7_goSupper 51 = .ok (.bipush 9, 2) := by decide +kernel
theorem dX7_goSupper_53 : decode cX7_goSupper 53 = .ok (.aload_n 0, 1) := by decide +kernel
theorem dX7_goSupper_54 : decode cX7_goSupper 54 = .ok (.getfield 103, 3) := by decide +kernel
theorem dX7_goSupper_57 : decode cX7_goSupper 57 = .ok (.aload_n 0, 1) := by decide +kernel
theorem dX7_goSupper_58 : decode cX7_goSupper 58 = .ok (.getfield 118, 3) := by decide +kernel
theorem dX7_goSupper_61 : decode cX7_goSupper 61 = .ok (.iaload, 1) := by decide +kernel
theorem dX7_goSupper_62 : decode cX7_goSupper 62 = .ok (.isub, 1) := by decide +kernel
theorem dX7_goSupper_63 : decode cX7_goSupper 63 = .ok (.iastore, 1) := by decide +kernel
theorem dX7_goSupper_64 : decode cX7_goSupper 64 = .ok (.aload_n 0, 1) := by decide +kernel
theorem dX7_goSupper_65 : decode cX7_goSupper 65 = .ok (.invokevirtual 324, 3) := by decide +kernel
theorem dX7_goSupper_68 : decode cX7_goSupper 68 = .ok (.aload_n 0, 1) := by decide +kernel
theorem dX7_goSupper_69 : decode cX7_goSupper 69 = .ok (.aload_n 0, 1) := by decide +kernel
theorem dX7_goSupper_70 : decode cX7_goSupper 70 = .ok (.getfield 112, 3) := by decide +kernel
theorem dX7_goSupper_73 : decode cX7_goSupper 73 = .ok (.putfield 19, 3) := by decide +kernel
theorem dX7_goSupper_76 : decode cX7_goSupper 76 = .ok (.aload_n 0, 1) := by decide +kernel
theorem dX7_goSupper_77 : decode cX7_goSupper 77 = .ok (.getfield 124, 3) := by decide +kernel
theorem dX7_goSupper_80 : decode cX7_goSupper 80 = .ok (.aload_n 0, 1) := by decide +kernel
theorem dX7_goSupper_81 : decode cX7_goSupper 81 = .ok (.getfield 19, 3) := by decide +kernel
theorem dX7_goSupper_84 : decode cX7_goSupper 84 = .ok (.dup2, 1) := by decide +kernel
theorem dX7_goSupper_85 : decode cX7_goSupper 85 = .ok (.iaload, 1) := by decide +kernel
theorem dX7_goSupper_86 : decode cX7_goSupper 86 = .ok (.iconst 1, 1) := by decide +kernel
theorem dX7_goSupper_87 : decode cX7_goSupper 87 = .ok (.iadd, 1) := by decide +kernel
theorem dX7_goSupper_88 : decode cX7_goSupper 88 = .ok (.iastore, 1) := by decide +kernel
theorem dX7_goSupper_89 : decode cX7_goSupper 89 = .ok (.iconst 0, 1) := by decide +kernel
theorem dX7_goSupper_90 : decode cX7_goSupper 90 = .ok (.istore_n 1, 1) := by decide +kernel
theorem dX7_goSupper_91 : decode cX7_goSupper 91 = .ok (.iconst 0, 1) := by decide +kernel
theorem dX7_goSupper_92 : decode cX7_goSupper 92 = .ok (.istore_n 2, 1) := by decide +kernel
theorem dX7_goSupper_93 : decode cX7_goSupper 93 = .ok (.iload_n 2, 1) := by decide +kernel
theorem dX7_goSupper_94 : decode cX7_goSupper 94 = .ok (.aload_n 0, 1) := by decide +kernel
theorem dX7_goSupper_95 : decode cX7_goSupper 95 = .ok (.getfield 7, 3) := by decide +kernel
theorem dX7_goSupper_98 : decode cX7_goSupper 98 = .ok (.if_icmp .ge 45, 3) := by decide +kernel
theorem dX7_goSupper_101 : decode cX7_goSupper 101 = .ok (.aload_n 0, 1) := by decide +kernel
theorem dX7_goSupper_102 : decode cX7_goSupper 102 = .ok (.getfield 32, 3) := by decide +kernel
theorem dX7_goSupper_105 : decode cX7_goSupper 105 = .ok (.iload_n 2, 1) := by decide +kernel
theorem dX7_goSupper_106 : decode cX7_goSupper 106 = .ok (.aload_n 0, 1) := by decide +kernel
theorem dX7_goSupper_107 : decode cX7_goSupper 107 = .ok (.getfield 106, 3) := by decide +kernel
theorem dX7_goSupper_110 : decode cX7_goSupper 110 = .ok (.iload_n 2, 1) := by decide +kernel
theorem dX7_goSupper_111 : decode cX7_goSupper 111 = .ok (.iaload, 1) := by decide +kernel
theorem dX7_goSupper_112 : decode cX7_goSupper 112 = .ok (.iastore, 1) := by decide +kernel
theorem dX7_goSupper_113 : decode cX7_goSupper 113 = .ok (.aload_n 0, 1) := by decide +kernel
theorem dX7_goSupper_114 : decode cX7_goSupper 114 = .ok (.getfield 35, 3) := by decide +kernel
theorem dX7_goSupper_117 : decode cX7_goSupper 117 = .ok (.iload_n 2, 1) := by decide +kernel
theorem dX7_goSupper_118 : decode cX7_goSupper 118 = .ok (.dup2, 1) := by decide +kernel
theorem dX7_goSupper_119 : decode cX7_goSupper 119 = .ok (.iaload, 1) := by decide +kernel
theorem dX7_goSupper_120 : decode cX7_goSupper 120 = .ok (.aload_n 0, 1) := by decide +kernel
theorem dX7_goSupper_121 : decode cX7_goSupper 121 = .ok (.getfield 109, 3) := by decide +kernel
theorem dX7_goSupper_124 : decode cX7_goSupper 124 = .ok (.iload_n 2, 1) := by decide +kernel
theorem dX7_goSupper_125 : decode cX7_goSupper 125 = .ok (.iaload, 1) := by decide +kernel
theorem dX7_goSupper_126 : decode cX7_goSupper 126 = .ok (.iadd, 1) := by decide +kernel
theorem dX7_goSupper_127 : decode cX7_goSupper 127 = .ok (.iastore, 1) := by decide +kernel
theorem dX7_goSupper_128 : decode cX7_goSupper 128 = .ok (.iload_n 1, 1) := by decide +kernel
theorem dX7_goSupper_129 : decode cX7_goSupper 129 = .ok (.aload_n 0, 1) := by decide +kernel
theorem dX7_goSupper_130 : decode cX7_goSupper 130 = .ok (.getfield 106, 3) := by decide +kernel
theorem dX7_goSupper_133 : decode cX7_goSupper 133 = .ok (.iload_n 2, 1) := by decide +kernel
theorem dX7_goSupper_134 : decode cX7_goSupper 134 = .ok (.iaload, 1) := by decide +kernel
theorem dX7_goSupper_135 : decode cX7_goSupper 135 = .ok (.iadd, 1) := by decide +kernel
theorem dX7_goSupper_136 : decode cX7_goSupper 136 = .ok (.istore_n 1, 1) := by decide +kernel
theorem dX7_goSupper_137 : decode cX7_goSupper 137 = .ok (.iinc 2 1, 3) := by decide +kernel
theorem dX7_goSupper_140 : decode cX7_goSupper 140 = .ok (.goto (-47), 3) := by decide +kernel
theorem dX7_goSupper_143 : decode cX7_goSupper 143 = .ok (.aload_n 0, 1) := by decide +kernel
theorem dX7_goSupper_144 : decode cX7_goSupper 144 = .ok (.aload_n 0, 1) := by decide +kernel
theorem dX7_goSupper_145 : decode cX7_goSupper 145 = .ok (.bipush 99, 2) := by decide +kernel
theorem dX7_goSupper_147 : decode cX7_goSupper 147 = .ok (.aload_n 0, 1) := by decide +kernel
theorem dX7_goSupper_148 : decode cX7_goSupper 148 = .ok (.getfield 13, 3) := by decide +kernel
theorem dX7_goSupper_151 : decode cX7_goSupper 151 = .ok (.iload_n 1, 1) := by decide +kernel
theorem dX7_goSupper_152 : decode cX7_goSupper 152 = .ok (.isub, 1) := by decide +kernel
theorem dX7_goSupper_153 : decode cX7_goSupper 153 = .ok (.aload_n 0, 1) := by decide +kernel
theorem dX7_goSupper_154 : decode cX7_goSupper 154 = .ok (.iconst 2, 1) := by decide +kernel
theorem dX7_goSupper_155 : decode cX7_goSupper 155 = .ok (.bipush 8, 2) := by decide +kernel
theorem dX7_goSupper_157 : decode cX7_goSupper 157 = .ok (.invokevirtual 293, 3) := by decide +kernel
theorem dX7_goSupper_160 : decode cX7_goSupper 160 = .ok (.iadd, 1) := by decide +kernel
theorem dX7_goSupper_161 : decode cX7_goSupper 161 = .ok (.invokevirtual 315, 3) := by decide +kernel
theorem dX7_goSupper_164 : decode cX7_goSupper 164 = .ok (.putfield 13, 3) := by decide +kernel
theorem dX7_goSupper_167 : decode cX7_goSupper 167 = .ok (.aload_n 0, 1) := by decide +kernel
theorem dX7_goSupper_168 : decode cX7_goSupper 168 = .ok (.dup, 1) := by decide +kernel
theorem dX7_goSupper_169 : decode cX7_goSupper 169 = .ok (.getfield 16, 3) := by decide +kernel
theorem dX7_goSupper_172 : decode cX7_goSupper 172 = .ok (.iconst 1, 1) := by decide +kernel
theorem dX7_goSupper_173 : decode cX7_goSupper 173 = .ok (.iadd, 1) := by decide +kernel
theorem dX7_goSupper_174 : decode cX7_goSupper 174 = .ok (.putfield 16, 3) := by decide +kernel
theorem dX7_goSupper_177 : decode cX7_goSupper 177 = .ok (.return_, 1) := by decide +kernel
theorem dX7_supper_0 : decode cX7_supper 0 = .ok (.aload_n 0, 1) := by decide +kernel
theorem dX7_supper_1 : decode cX7_supper 1 = .ok (.getfield 16, 3) := by decide +kernel
theorem dX7_supper_4 : decode cX7_supper 4 = .ok (.sipush 9999, 3) := by decide +kernel
theorem dX7_supper_7 : decode cX7_supper 7 = .ok (.if_icmp .ne 6, 3) := by decide +kernel
theorem dX7_supper_10 : decode cX7_supper 10 = .ok (.bipush (-3), 2) := by decide +kernel
theorem dX7_supper_12 : decode cX7_supper 12 = .ok (.ireturn, 1) := by decide +kernel
theorem dX7_supper_13 : decode cX7_supper 13 = .ok (.aload_n 0, 1) := by decide +kernel
theorem dX7_supper_14 : decode cX7_supper 14 = .ok (.invokevirtual 336, 3) := by decide +kernel
theorem dX7_supper_17 : decode cX7_supper 17 = .ok (.aload_n 0, 1) := by decide +kernel
theorem dX7_supper_18 : decode cX7_supper 18 = .ok (.getfield 7, 3) := by decide +kernel
theorem dX7_supper_21 : decode cX7_supper 21 = .ok (.ifCond .ne 8, 3) := by decide +kernel
theorem dX7_supper_24 : decode cX7_supper 24 = .ok (.bipush (-5), 2) := by decide +kernel
theorem dX7_supper_26 : decode cX7_supper 26 = .ok (.goto 7, 3) := by decide +kernel
theorem dX7_supper_29 : decode cX7_supper 29 = .ok (.aload_n 0, 1) := by decide +kernel
theorem dX7_supper_30 : decode cX7_supper 30 = .ok (.getfield 19, 3) := by decide +kernel
theorem dX7_supper_33 : decode cX7_supper 33 = .ok (.ireturn, 1) := by decide +kernel
theorem dX7_of_0 : decode cX7_of 0 = .ok (.aload_n 0, 1) := by decide +kernel
theorem dX7_of_1 : decode cX7_of 1 = .ok (.iload_n 1, 1) := by decide +kernel
theorem dX7_of_2 : decode cX7_of 2 = .ok (.invokevirtual 220, 3) := by decide +kernel
theorem dX7_of_5 : decode cX7_of 5 = .ok (.ifCond .ne 7, 3) := by decide +kernel
theorem dX7_of_8 : decode cX7_of 8 = .ok (.ldc_w 339, 3) := by decide +kernel
theorem dX7_of_11 : decode cX7_of 11 = .ok (.ireturn, 1) := by decide +kernel
theorem dX7_of_12 : decode cX7_of 12 = .ok (.aload_n 0, 1) := by decide +kernel
theorem dX7_of_13 : decode cX7_of 13 = .ok (.iload_n 2, 1) := by decide +kernel
theorem dX7_of_14 : decode cX7_of 14 = .ok (.bipush 11, 2) := by decide +kernel
theorem dX7_of_16 : decode cX7_of 16 = .ok (.bipush 19, 2) := by decide +kernel
theorem dX7_of_18 : decode cX7_of 18 = .ok (.invokevirtual 212, 3) := by decide +kernel
theorem dX7_of_21 : decode cX7_of 21 = .ok (.ifCond .eq 13, 3) := by decide +kernel
theorem dX7_of_24 : decode cX7_of 24 = .ok (.aload_n 0, 1) := by decide +kernel
theorem dX7_of_25 : decode cX7_of 25 = .ok (.iload_n 1, 1) := by decide +kernel
theorem dX7_of_26 : decode cX7_of 26 = .ok (.iload_n 2, 1) := by decide +kernel
theorem dX7_of_27 : decode cX7_of 27 = .ok (.bipush 10, 2) := by decide +kernel
theorem dX7_of_29 : decode cX7_of 29 = .ok (.isub, 1) := by decide +kernel
theorem dX7_of_30 : decode cX7_of 30 = .ok (.invokevirtual 312, 3) := by decide +kernel
theorem dX7_of_33 : decode cX7_of 33 = .ok (.ireturn, 1) := by decide +kernel
theorem dX7_of_34 : decode cX7_of 34 = .ok (.iload_n 2, 1) := by decide +kernel
theorem dX7_of_35 : decode cX7_of 35 = .ok (.tableswitch 94 0 6 #[41, 48, 55, 62, 69, 76, 82], 41) := by decide +kernel
theorem dX7_of_76 : decode cX7_of 76 = .ok (.aload_n 0, 1) := by decide +kernel
theorem dX7_of_77 : decode cX7_of 77 = .ok (.getfield 22, 3) := by decide +kernel
theorem dX7_of_80 : decode cX7_of 80 = .ok (.iload_n 1, 1) := by decide +kernel
theorem dX7_of_81 : decode cX7_of 81 = .ok (.iaload, 1) := by decide +kernel
theorem dX7_of_82 : decode cX7_of 82 = .ok (.ireturn, 1) := by decide +kernel
theorem dX7_of_83 : decode cX7_of 83 = .ok (.aload_n 0, 1) := by decide +kernel
theorem dX7_of_84 : decode cX7_of 84 = .ok (.getfield 26, 3) := by decide +kernel
theorem dX7_of_87 : decode cX7_of 87 = .ok (.iload_n 1, 1) := by decide +kernel
theorem dX7_of_88 : decode cX7_of 88 = .ok (.iaload, 1) := by decide +kernel
theorem dX7_of_89 : decode cX7_of 89 = .ok (.ireturn, 1) := by decide +kernel
theorem dX7_of_90 : decode cX7_of 90 = .ok (.aload_n 0, 1) := by decide +kernel
theorem dX7_of_91 : decode cX7_of 91 = .ok (.getfield 29, 3) := by decide +kernel
theorem dX7_of_94 : decode cX7_of 94 = .ok (.iload_n 1, 1) := by decide +kernel
theorem dX7_of_95 : decode cX7_of 95 = .ok (.iaload, 1) := by decide +kernel
theorem dX7_of_96 : decode cX7_of 96 = .ok (.ireturn, 1) := by decide +kernel
theorem dX7_of_97 : decode cX7_of 97 = .ok (.aload_n 0, 1) := by decide +kernel
theorem dX7_of_98 : decode cX7_of 98 = .ok (.getfield 32, 3) := by decide +kernel
theorem dX7_of_101 : decode cX7_of 101 = .ok (.iload_n 1, 1) := by decide +kernel
theorem dX7_of_102 : decode cX7_of 102 = .ok (.iaload, 1) := by decide +kernel
theorem dX7_of_103 : decode cX7_of 103 = .ok (.ireturn, 1) := by decide +kernel
theorem dX7_of_104 : decode cX7_of 104 = .ok (.aload_n 0, 1) := by decide +kernel
theorem dX7_of_105 : decode cX7_of 105 = .ok (.getfield 35, 3) := by decide +kernel
theorem dX7_of_108 : decode cX7_of 108 = .ok (.iload_n 1, 1) := by decide +kernel
theorem dX7_of_109 : decode cX7_of 109 = .ok (.iaload, 1) := by decide +kernel
theorem dX7_of_110 : decode cX7_of 110 = .ok (.ireturn, 1) := by decide +kernel
theorem dX7_of_111 : decode cX7_of 111 = .ok (.aload_n 0, 1) := by decide +kernel
theorem dX7_of_112 : decode cX7_of 112 = .ok (.iload_n 1, 1) := by decide +kernel
theorem dX7_of_113 : decode cX7_of 113 = .ok (.invokevirtual 330, 3) := by decide +kernel
theorem dX7_of_116 : decode cX7_of 116 = .ok (.ireturn, 1) := by decide +kernel
theorem dX7_of_117 : decode cX7_of 117 = .ok (.aload_n 0, 1) := by decide +kernel
theorem dX7_of_118 : decode cX7_of 118 = .ok (.iload_n 1, 1) := by decide +kernel
theorem dX7_of_119 : decode cX7_of 119 = .ok (.aload_n 0, 1) := by decide +kernel
theorem dX7_of_120 : decode cX7_of 120 = .ok (.getfield 32, 3) := by decide +kernel
theorem dX7_of_123 : decode cX7_of 123 = .ok (.iload_n 1, 1) := by decide +kernel
theorem dX7_of_124 : decode cX7_of 124 = .ok (.iaload, 1) := by decide +kernel
theorem dX7_of_125 : decode cX7_of 125 = .ok (.invokevirtual 309, 3) := by decide +kernel
theorem dX7_of_128 : decode cX7_of 128 = .ok (.ireturn, 1) := by decide +kernel
theorem dX7_of_129 : decode cX7_of 129 = .ok (.ldc_w 339, 3) := by decide +kernel
theorem dX7_of_132 : decode cX7_of 132 = .ok (.ireturn, 1) := by decide +kernel
theorem dX7_told_0 : decode cX7_told 0 = .ok (.iload_n 1, 1) := by decide +kernel
theorem dX7_told_1 : decode cX7_told 1 = .ok (.tableswitch 84 0 5 #[39, 47, 52, 57, 62, 67], 39) := by decide +kernel
theorem dX7_told_40 : decode cX7_told 40 = .ok (.aload_n 0, 1) := by decide +kernel
theorem dX7_told_41 : decode cX7_told 41 = .ok (.iconst 2, 1) := by decide +kernel
theorem dX7_told_42 : decode cX7_told 42 = .ok (.bipush 8, 2) := by decide +kernel
theorem dX7_told_44 : decode cX7_told 44 = .ok (.invokevirtual 293, 3) := by decide +kernel
theorem dX7_told_47 : decode cX7_told 47 = .ok (.ireturn, 1) := by decide +kernel
theorem dX7_told_48 : decode cX7_told 48 = .ok (.aload_n 0, 1) := by decide +kernel
theorem dX7_told_49 : decode cX7_told 49 = .ok (.invokevirtual 300, 3) := by decide +kernel
theorem dX7_told_52 : decode cX7_told 52 = .ok (.ireturn, 1) := by decide +kernel
theorem dX7_told_53 : decode cX7_told 53 = .ok (.aload_n 0, 1) := by decide +kernel
theorem dX7_told_54 : decode cX7_told 54 = .ok (.invokevirtual 297, 3) := by decide +kernel
theorem dX7_told_57 : decode cX7_told 57 = .ok (.ireturn, 1) := by decide +kernel
theorem dX7_told_58 : decode cX7_told 58 = .ok (.aload_n 0, 1) := by decide +kernel
theorem dX7_told_59 : decode cX7_told 59 = .ok (.getfield 13, 3) := by decide +kernel
theorem dX7_told_62 : decode cX7_told 62 = .ok (.ireturn, 1) := by decide +kernel
theorem dX7_told_63 : decode cX7_told 63 = .ok (.aload_n 0, 1) := by decide +kernel
theorem dX7_told_64 : decode cX7_told 64 = .ok (.getfield 16, 3) := by decide +kernel
theorem dX7_told_67 : decode cX7_told 67 = .ok (.ireturn, 1) := by decide +kernel
theorem dX7_told_68 : decode cX7_told 68 = .ok (.aload_n 0, 1) := by decide +kernel
theorem dX7_told_69 : decode cX7_told 69 = .ok (.getfield 19, 3) := by decide +kernel
theorem dX7_told_72 : decode cX7_told 72 = .ok (.ifCond .ge 8, 3) := by decide +kernel
theorem dX7_told_75 : decode cX7_told 75 = .ok (.bipush (-5), 2) := by decide +kernel
theorem dX7_told_77 : decode cX7_told 77 = .ok (.goto 7, 3) := by decide +kernel
theorem dX7_told_80 : decode cX7_told 80 = .ok (.aload_n 0, 1) := by decide +kernel
theorem dX7_told_81 : decode cX7_told 81 = .ok (.getfield 19, 3) := by decide +kernel
theorem dX7_told_84 : decode cX7_told 84 = .ok (.ireturn, 1) := by decide +kernel
theorem dX7_told_85 : decode cX7_told 85 = .ok (.iconst (-1), 1) := by decide +kernel
theorem dX7_told_86 : decode cX7_told 86 = .ok (.ireturn, 1) := by decide +kernel
theorem dX7_keep_0 : decode cX7_keep 0 = .ok (.iconst 0, 1) := by decide +kernel
theorem dX7_keep_1 : decode cX7_keep 1 = .ok (.istore_n 1, 1) := by decide +kernel
theorem dX7_keep_2 : decode cX7_keep 2 = .ok (.iload_n 1, 1) := by decide +kernel
theorem dX7_keep_3 : decode cX7_keep 3 = .ok (.bipush 6, 2) := by decide +kernel
theorem dX7_keep_5 : decode cX7_keep 5 = .ok (.if_icmp .ge 40, 3) := by decide +kernel
theorem dX7_keep_8 : decode cX7_keep 8 = .ok (.aload_n 0, 1) := by decide +kernel
theorem dX7_keep_9 : decode cX7_keep 9 = .ok (.getfield 127, 3) := by decide +kernel
theorem dX7_keep_12 : decode cX7_keep 12 = .ok (.iload_n 1, 1) := by decide +kernel
theorem dX7_keep_13 : decode cX7_keep 13 = .ok (.aload_n 0, 1) := by decide +kernel
theorem dX7_keep_14 : decode cX7_keep 14 = .ok (.getfield 32, 3) := by decide +kernel
theorem dX7_keep_17 : decode cX7_keep 17 = .ok (.iload_n 1, 1) := by decide +kernel
theorem dX7_keep_18 : decode cX7_keep 18 = .ok (.iaload, 1) := by decide +kernel
theorem dX7_keep_19 : decode cX7_keep 19 = .ok (.iastore, 1) := by decide +kernel
theorem dX7_keep_20 : decode cX7_keep 20 = .ok (.aload_n 0, 1) := by decide +kernel
theorem dX7_keep_21 : decode cX7_keep 21 = .ok (.getfield 130, 3) := by decide +kernel
theorem dX7_keep_24 : decode cX7_keep 24 = .ok (.iload_n 1, 1) := by decide +kernel
theorem dX7_keep_25 : decode cX7_keep 25 = .ok (.aload_n 0, 1) := by decide +kernel
theorem dX7_keep_26 : decode cX7_keep 26 = .ok (.getfield 35, 3) := by decide +kernel
theorem dX7_keep_29 : decode cX7_keep 29 = .ok (.iload_n 1, 1) := by decide +kernel
theorem dX7_keep_30 : decode cX7_keep 30 = .ok (.iaload, 1) := by decide +kernel
theorem dX7_keep_31 : decode cX7_keep 31 = .ok (.iastore, 1) := by decide +kernel
theorem dX7_keep_32 : decode cX7_keep 32 = .ok (.aload_n 0, 1) := by decide +kernel
theorem dX7_keep_33 : decode cX7_keep 33 = .ok (.getfield 124, 3) := by decide +kernel
theorem dX7_keep_36 : decode cX7_keep 36 = .ok (.iload_n 1, 1) := by decide +kernel
theorem dX7_keep_37 : decode cX7_keep 37 = .ok (.iconst 0, 1) := by decide +kernel
theorem dX7_keep_38 : decode cX7_keep 38 = .ok (.iastore, 1) := by decide +kernel
theorem dX7_keep_39 : decode cX7_keep 39 = .ok (.iinc 1 1, 3) := by decide +kernel
theorem dX7_keep_42 : decode cX7_keep 42 = .ok (.goto (-40), 3) := by decide +kernel
theorem dX7_keep_45 : decode cX7_keep 45 = .ok (.aload_n 0, 1) := by decide +kernel
theorem dX7_keep_46 : decode cX7_keep 46 = .ok (.aload_n 0, 1) := by decide +kernel
theorem dX7_keep_47 : decode cX7_keep 47 = .ok (.getfield 13, 3) := by decide +kernel
theorem dX7_keep_50 : decode cX7_keep 50 = .ok (.putfield 133, 3) := by decide +kernel
theorem dX7_keep_53 : decode cX7_keep 53 = .ok (.aload_n 0, 1) := by decide +kernel
theorem dX7_keep_54 : decode cX7_keep 54 = .ok (.aload_n 0, 1) := by decide +kernel
theorem dX7_keep_55 : decode cX7_keep 55 = .ok (.getfield 16, 3) := by decide +kernel
theorem dX7_keep_58 : decode cX7_keep 58 = .ok (.putfield 136, 3) := by decide +kernel
theorem dX7_keep_61 : decode cX7_keep 61 = .ok (.aload_n 0, 1) := by decide +kernel
theorem dX7_keep_62 : decode cX7_keep 62 = .ok (.aload_n 0, 1) := by decide +kernel
theorem dX7_keep_63 : decode cX7_keep 63 = .ok (.getfield 19, 3) := by decide +kernel
theorem dX7_keep_66 : decode cX7_keep 66 = .ok (.putfield 139, 3) := by decide +kernel
theorem dX7_keep_69 : decode cX7_keep 69 = .ok (.return_, 1) := by decide +kernel
theorem dX7_putBack_0 : decode cX7_putBack 0 = .ok (.iconst 0, 1) := by decide +kernel
theorem dX7_putBack_1 : decode cX7_putBack 1 = .ok (.istore_n 1, 1) := by decide +kernel
theorem dX7_putBack_2 : decode cX7_putBack 2 = .ok (.iload_n 1, 1) := by decide +kernel
theorem dX7_putBack_3 : decode cX7_putBack 3 = .ok (.bipush 6, 2) := by decide +kernel
theorem dX7_putBack_5 : decode cX7_putBack 5 = .ok (.if_icmp .ge 33, 3) := by decide +kernel
theorem dX7_putBack_8 : decode cX7_putBack 8 = .ok (.aload_n 0, 1) := by decide +kernel
theorem dX7_putBack_9 : decode cX7_putBack 9 = .ok (.getfield 32, 3) := by decide +kernel
theorem dX7_putBack_12 : decode cX7_putBack 12 = .ok (.iload_n 1, 1) := by decide +kernel
theorem dX7_putBack_13 : decode cX7_putBack 13 = .ok (.aload_n 0, 1) := by decide +kernel
theorem dX7_putBack_14 : decode cX7_putBack 14 = .ok (.getfield 127, 3) := by decide +kernel
theorem dX7_putBack_17 : decode cX7_putBack 17 = .ok (.iload_n 1, 1) := by decide +kernel
theorem dX7_putBack_18 : decode cX7_putBack 18 = .ok (.iaload, 1) := by decide +kernel
theorem dX7_putBack_19 : decode cX7_putBack 19 = .ok (.iastore, 1) := by decide +kernel
theorem dX7_putBack_20 : decode cX7_putBack 20 = .ok (.aload_n 0, 1) := by decide +kernel
theorem dX7_putBack_21 : decode cX7_putBack 21 = .ok (.getfield 35, 3) := by decide +kernel
theorem dX7_putBack_24 : decode cX7_putBack 24 = .ok (.iload_n 1, 1) := by decide +kernel
theorem dX7_putBack_25 : decode cX7_putBack 25 = .ok (.aload_n 0, 1) := by decide +kernel
theorem dX7_putBack_26 : decode cX7_putBack 26 = .ok (.getfield 130, 3) := by decide +kernel
theorem dX7_putBack_29 : decode cX7_putBack 29 = .ok (.iload_n 1, 1) := by decide +kernel
theorem dX7_putBack_30 : decode cX7_putBack 30 = .ok (.iaload, 1) := by decide +kernel
theorem dX7_putBack_31 : decode cX7_putBack 31 = .ok (.iastore, 1) := by decide +kernel
theorem dX7_putBack_32 : decode cX7_putBack 32 = .ok (.iinc 1 1, 3) := by decide +kernel
theorem dX7_putBack_35 : decode cX7_putBack 35 = .ok (.goto (-33), 3) := by decide +kernel
theorem dX7_putBack_38 : decode cX7_putBack 38 = .ok (.aload_n 0, 1) := by decide +kernel
theorem dX7_putBack_39 : decode cX7_putBack 39 = .ok (.aload_n 0, 1) := by decide +kernel
theorem dX7_putBack_40 : decode cX7_putBack 40 = .ok (.getfield 133, 3) := by decide +kernel
theorem dX7_putBack_43 : decode cX7_putBack 43 = .ok (.putfield 13, 3) := by decide +kernel
theorem dX7_putBack_46 : decode cX7_putBack 46 = .ok (.aload_n 0, 1) := by decide +kernel
theorem dX7_putBack_47 : decode cX7_putBack 47 = .ok (.aload_n 0, 1) := by decide +kernel
theorem dX7_putBack_48 : decode cX7_putBack 48 = .ok (.getfield 136, 3) := by decide +kernel
theorem dX7_putBack_51 : decode cX7_putBack 51 = .ok (.putfield 16, 3) := by decide +kernel
theorem dX7_putBack_54 : decode cX7_putBack 54 = .ok (.aload_n 0, 1) := by decide +kernel
theorem dX7_putBack_55 : decode cX7_putBack 55 = .ok (.aload_n 0, 1) := by decide +kernel
theorem dX7_putBack_56 : decode cX7_putBack 56 = .ok (.getfield 139, 3) := by decide +kernel
theorem dX7_putBack_59 : decode cX7_putBack 59 = .ok (.putfield 19, 3) := by decide +kernel
theorem dX7_putBack_62 : decode cX7_putBack 62 = .ok (.return_, 1) := by decide +kernel
theorem dX7_goOn_0 : decode cX7_goOn 0 = .ok (.iconst 0, 1) := by decide +kernel
theorem dX7_goOn_1 : decode cX7_goOn 1 = .ok (.istore_n 2, 1) := by decide +kernel
theorem dX7_goOn_2 : decode cX7_goOn 2 = .ok (.iload_n 2, 1) := by decide +kernel
theorem dX7_goOn_3 : decode cX7_goOn 3 = .ok (.iload_n 1, 1) := by decide +kernel
theorem dX7_goOn_4 : decode cX7_goOn 4 = .ok (.if_icmp .ge 13, 3) := by decide +kernel
theorem dX7_goOn_7 : decode cX7_goOn 7 = .ok (.aload_n 0, 1) := by decide +kernel
theorem dX7_goOn_8 : decode cX7_goOn 8 = .ok (.invokevirtual 336, 3) := by decide +kernel
theorem dX7_goOn_11 : decode cX7_goOn 11 = .ok (.iinc 2 1, 3) := by decide +kernel
theorem dX7_goOn_14 : decode cX7_goOn 14 = .ok (.goto (-12), 3) := by decide +kernel
theorem dX7_goOn_17 : decode cX7_goOn 17 = .ok (.return_, 1) := by decide +kernel
theorem dX7_run_0 : decode cX7_run 0 = .ok (.aload_n 0, 1) := by decide +kernel
theorem dX7_run_1 : decode cX7_run 1 = .ok (.iload_n 2, 1) := by decide +kernel
theorem dX7_run_2 : decode cX7_run 2 = .ok (.iconst 0, 1) := by decide +kernel
theorem dX7_run_3 : decode cX7_run 3 = .ok (.iconst 1, 1) := by decide +kernel
theorem dX7_run_4 : decode cX7_run 4 = .ok (.invokevirtual 212, 3) := by decide +kernel
theorem dX7_run_7 : decode cX7_run 7 = .ok (.ifCond .ne 41, 3) := by decide +kernel
theorem dX7_run_10 : decode cX7_run 10 = .ok (.aload_n 0, 1) := by decide +kernel
theorem dX7_run_11 : decode cX7_run 11 = .ok (.iload_n 2, 1) := by decide +kernel
theorem dX7_run_12 : decode cX7_run 12 = .ok (.bipush 10, 2) := by decide +kernel
theorem dX7_run_14 : decode cX7_run 14 = .ok (.bipush 9, 2) := by decide +kernel
theorem dX7_run_16 : decode cX7_run 16 = .ok (.aload_n 0, 1) := by decide +kernel
theorem dX7_run_17 : decode cX7_run 17 = .ok (.getfield 7, 3) := by decide +kernel
theorem dX7_run_20 : decode cX7_run 20 = .ok (.iadd, 1) := by decide +kernel
theorem dX7_run_21 : decode cX7_run 21 = .ok (.invokevirtual 212, 3) := by decide +kernel
theorem dX7_run_24 : decode cX7_run 24 = .ok (.ifCond .ne 24, 3) := by decide +kernel
theorem dX7_run_27 : decode cX7_run 27 = .ok (.aload_n 0, 1) := by decide +kernel
theorem dX7_run_28 : decode cX7_run 28 = .ok (.iload_n 2, 1) := by decide +kernel
theorem dX7_run_29 : decode cX7_run 29 = .ok (.bipush 20, 2) := by decide +kernel
theorem dX7_run_31 : decode cX7_run 31 = .ok (.bipush 19, 2) := by decide +kernel
theorem dX7_run_33 : decode cX7_run 33 = .ok (.aload_n 0, 1) := by decide +kernel
theorem dX7_run_34 : decode cX7_run 34 = .ok (.getfield 7, 3) := by decide +kernel
theorem dX7_run_37 : decode cX7_run 37 = .ok (.iadd, 1) := by decide +kernel
theorem dX7_run_38 : decode cX7_run 38 = .ok (.invokevirtual 212, 3) := by decide +kernel
theorem dX7_run_41 : decode cX7_run 41 = .ok (.ifCond .ne 7, 3) := by decide +kernel
theorem dX7_run_44 : decode cX7_run 44 = .ok (.ldc_w 339, 3) := by decide +kernel
theorem dX7_run_47 : decode cX7_run 47 = .ok (.ireturn, 1) := by decide +kernel
theorem dX7_run_48 : decode cX7_run 48 = .ok (.aload_n 0, 1) := by decide +kernel
theorem dX7_run_49 : decode cX7_run 49 = .ok (.iload_n 1, 1) := by decide +kernel
theorem dX7_run_50 : decode cX7_run 50 = .ok (.iconst 0, 1) := by decide +kernel
theorem dX7_run_51 : decode cX7_run 51 = .ok (.bipush 60, 2) := by decide +kernel
theorem dX7_run_53 : decode cX7_run 53 = .ok (.invokevirtual 212, 3) := by decide +kernel
theorem dX7_run_56 : decode cX7_run 56 = .ok (.ifCond .ne 7, 3) := by decide +kernel
theorem dX7_run_59 : decode cX7_run 59 = .ok (.ldc_w 340, 3) := by decide +kernel
theorem dX7_run_62 : decode cX7_run 62 = .ok (.ireturn, 1) := by decide +kernel
theorem dX7_run_63 : decode cX7_run 63 = .ok (.aload_n 0, 1) := by decide +kernel
theorem dX7_run_64 : decode cX7_run 64 = .ok (.invokevirtual 341, 3) := by decide +kernel
theorem dX7_run_67 : decode cX7_run 67 = .ok (.aload_n 0, 1) := by decide +kernel
theorem dX7_run_68 : decode cX7_run 68 = .ok (.iload_n 1, 1) := by decide +kernel
theorem dX7_run_69 : decode cX7_run 69 = .ok (.invokevirtual 344, 3) := by decide +kernel
theorem dX7_run_72 : decode cX7_run 72 = .ok (.iload_n 2, 1) := by decide +kernel
theorem dX7_run_73 : decode cX7_run 73 = .ok (.ifCond .ne 10, 3) := by decide +kernel
theorem dX7_run_76 : decode cX7_run 76 = .ok (.aload_n 0, 1) := by decide +kernel
theorem dX7_run_77 : decode cX7_run 77 = .ok (.getfield 13, 3) := by decide +kernel
theorem dX7_run_80 : decode cX7_run 80 = .ok (.goto 54, 3) := by decide +kernel
theorem dX7_run_83 : decode cX7_run 83 = .ok (.iload_n 2, 1) := by decide +kernel
theorem dX7_run_84 : decode cX7_run 84 = .ok (.iconst 1, 1) := by decide +kernel
theorem dX7_run_85 : decode cX7_run 85 = .ok (.if_icmp .ne 22, 3) := by decide +kernel
theorem dX7_run_88 : decode cX7_run 88 = .ok (.aload_n 0, 1) := by decide +kernel
theorem dX7_run_89 : decode cX7_run 89 = .ok (.getfield 19, 3) := by decide +kernel
theorem dX7_run_92 : decode cX7_run 92 = .ok (.ifCond .ge 8, 3) := by decide +kernel
theorem dX7_run_95 : decode cX7_run 95 = .ok (.bipush (-5), 2) := by decide +kernel
theorem dX7_run_97 : decode cX7_run 97 = .ok (.goto 37, 3) := by decide +kernel
theorem dX7_run_100 : decode cX7_run 100 = .ok (.aload_n 0, 1) := by decide +kernel
theorem dX7_run_101 : decode cX7_run 101 = .ok (.getfield 19, 3) := by decide +kernel
theorem dX7_run_104 : decode cX7_run 104 = .ok (.goto 30, 3) := by decide +kernel
theorem dX7_run_107 : decode cX7_run 107 = .ok (.iload_n 2, 1) := by decide +kernel
theorem dX7_run_108 : decode cX7_run 108 = .ok (.bipush 20, 2) := by decide +kernel
theorem dX7_run_110 : decode cX7_run 110 = .ok (.if_icmp .ge 15, 3) := by decide +kernel
theorem dX7_run_113 : decode cX7_run 113 = .ok (.aload_n 0, 1) := by decide +kernel
theorem dX7_run_114 : decode cX7_run 114 = .ok (.getfield 35, 3) := by decide +kernel
theorem dX7_run_117 : decode cX7_run 117 = .ok (.iload_n 2, 1) := by decide +kernel
theorem dX7_run_118 : decode cX7_run 118 = .ok (.bipush 10, 2) := by decide +kernel
theorem dX7_run_120 : decode cX7_run 120 = .ok (.isub, 1) := by decide +kernel
theorem dX7_run_121 : decode cX7_run 121 = .ok (.iaload, 1) := by decide +kernel
theorem dX7_run_122 : decode cX7_run 122 = .ok (.goto 12, 3) := by decide +kernel
theorem dX7_run_125 : decode cX7_run 125 = .ok (.aload_n 0, 1) := by decide +kernel
theorem dX7_run_126 : decode cX7_run 126 = .ok (.getfield 124, 3) := by decide +kernel
theorem dX7_run_129 : decode cX7_run 129 = .ok (.iload_n 2, 1) := by decide +kernel
theorem dX7_run_130 : decode cX7_run 130 = .ok (.bipush 20, 2) := by decide +kernel
theorem dX7_run_132 : decode cX7_run 132 = .ok (.isub, 1) := by decide +kernel
theorem dX7_run_133 : decode cX7_run 133 = .ok (.iaload, 1) := by decide +kernel
theorem dX7_run_134 : decode cX7_run 134 = .ok (.istore_n 3, 1) := by decide +kernel
theorem dX7_run_135 : decode cX7_run 135 = .ok (.aload_n 0, 1) := by decide +kernel
theorem dX7_run_136 : decode cX7_run 136 = .ok (.invokevirtual 347, 3) := by decide +kernel
theorem dX7_run_139 : decode cX7_run 139 = .ok (.iload_n 3, 1) := by decide +kernel
theorem dX7_run_140 : decode cX7_run 140 = .ok (.ireturn, 1) := by decide +kernel
theorem dX7_isAsKept_0 : decode cX7_isAsKept 0 = .ok (.iconst 0, 1) := by decide +kernel
theorem dX7_isAsKept_1 : decode cX7_isAsKept 1 = .ok (.istore_n 1, 1) := by decide +kernel
theorem dX7_isAsKept_2 : decode cX7_isAsKept 2 = .ok (.iload_n 1, 1) := by decide +kernel
theorem dX7_isAsKept_3 : decode cX7_isAsKept 3 = .ok (.aload_n 0, 1) := by decide +kernel
theorem dX7_isAsKept_4 : decode cX7_isAsKept 4 = .ok (.getfield 7, 3) := by decide +kernel
theorem dX7_isAsKept_7 : decode cX7_isAsKept 7 = .ok (.if_icmp .ge 26, 3) := by decide +kernel
theorem dX7_isAsKept_10 : decode cX7_isAsKept 10 = .ok (.aload_n 0, 1) := by decide +kernel
theorem dX7_isAsKept_11 : decode cX7_isAsKept 11 = .ok (.getfield 32, 3) := by decide +kernel
theorem dX7_isAsKept_14 : decode cX7_isAsKept 14 = .ok (.iload_n 1, 1) := by decide +kernel
theorem dX7_isAsKept_15 : decode cX7_isAsKept 15 = .ok (.iaload, 1) := by decide +kernel
theorem dX7_isAsKept_16 : decode cX7_isAsKept 16 = .ok (.aload_n 0, 1) := by decide +kernel
theorem dX7_isAsKept_17 : decode cX7_isAsKept 17 = .ok (.getfield 127, 3) := by decide +kernel
theorem dX7_isAsKept_20 : decode cX7_isAsKept 20 = .ok (.iload_n 1, 1) := by decide +kernel
theorem dX7_isAsKept_21 : decode cX7_isAsKept 21 = .ok (.iaload, 1) := by decide +kernel
theorem dX7_isAsKept_22 : decode cX7_isAsKept 22 = .ok (.if_icmp .eq 5, 3) := by decide +kernel
theorem dX7_isAsKept_25 : decode cX7_isAsKept 25 = .ok (.iconst 0, 1) := by decide +kernel
theorem dX7_isAsKept_26 : decode cX7_isAsKept 26 = .ok (.ireturn, 1) := by decide +kernel
theorem dX7_isAsKept_27 : decode cX7_isAsKept 27 = .ok (.iinc 1 1, 3) := by decide +kernel
theorem dX7_isAsKept_30 : decode cX7_isAsKept 30 = .ok (.goto (-28), 3) := by decide +kernel
theorem dX7_isAsKept_33 : decode cX7_isAsKept 33 = .ok (.aload_n 0, 1) := by decide +kernel
theorem dX7_isAsKept_34 : decode cX7_isAsKept 34 = .ok (.getfield 13, 3) := by decide +kernel
theorem dX7_isAsKept_37 : decode cX7_isAsKept 37 = .ok (.aload_n 0, 1) := by decide +kernel
theorem dX7_isAsKept_38 : decode cX7_isAsKept 38 = .ok (.getfield 133, 3) := by decide +kernel
theorem dX7_isAsKept_41 : decode cX7_isAsKept 41 = .ok (.if_icmp .ne 7, 3) := by decide +kernel
theorem dX7_isAsKept_44 : decode cX7_isAsKept 44 = .ok (.iconst 1, 1) := by decide +kernel
theorem dX7_isAsKept_45 : decode cX7_isAsKept 45 = .ok (.goto 4, 3) := by decide +kernel
theorem dX7_isAsKept_48 : decode cX7_isAsKept 48 = .ok (.iconst 0, 1) := by decide +kernel
theorem dX7_isAsKept_49 : decode cX7_isAsKept 49 = .ok (.ireturn, 1) := by decide +kernel
theorem dX7_round_0 : decode cX7_round 0 = .ok (.aload_n 0, 1) := by decide +kernel
theorem dX7_round_1 : decode cX7_round 1 = .ok (.invokevirtual 341, 3) := by decide +kernel
theorem dX7_round_4 : decode cX7_round 4 = .ok (.bipush (-5), 2) := by decide +kernel
theorem dX7_round_6 : decode cX7_round 6 = .ok (.istore_n 1, 1) := by decide +kernel
theorem dX7_round_7 : decode cX7_round 7 = .ok (.iconst 1, 1) := by decide +kernel
theorem dX7_round_8 : decode cX7_round 8 = .ok (.istore_n 2, 1) := by decide +kernel
theorem dX7_round_9 : decode cX7_round 9 = .ok (.iload_n 2, 1) := by decide +kernel
theorem dX7_round_10 : decode cX7_round 10 = .ok (.bipush 61, 2) := by decide +kernel
theorem dX7_round_12 : decode cX7_round 12 = .ok (.if_icmp .ge 31, 3) := by decide +kernel
theorem dX7_round_15 : decode cX7_round 15 = .ok (.iload_n 1, 1) := by decide +kernel
theorem dX7_round_16 : decode cX7_round 16 = .ok (.ifCond .ge 27, 3) := by decide +kernel
theorem dX7_round_19 : decode cX7_round 19 = .ok (.aload_n 0, 1) := by decide +kernel
theorem dX7_round_20 : decode cX7_round 20 = .ok (.invokevirtual 336, 3) := by decide +kernel
theorem dX7_round_23 : decode cX7_round 23 = .ok (.aload_n 0, 1) := by decide +kernel
theorem dX7_round_24 : decode cX7_round 24 = .ok (.invokevirtual 350, 3) := by decide +kernel
theorem dX7_round_27 : decode cX7_round 27 = .ok (.ifCond .eq 7, 3) := by decide +kernel
theorem dX7_round_30 : decode cX7_round 30 = .ok (.iload_n 2, 1) := by decide +kernel
theorem dX7_round_31 : decode cX7_round 31 = .ok (.goto 5, 3) := by decide +kernel
theorem dX7_round_34 : decode cX7_round 34 = .ok (.bipush (-5), 2) := by decide +kernel
theorem dX7_round_36 : decode cX7_round 36 = .ok (.istore_n 1, 1) := by decide +kernel
theorem dX7_round_37 : decode cX7_round 37 = .ok (.iinc 2 1, 3) := by decide +kernel
theorem dX7_round_40 : decode cX7_round 40 = .ok (.goto (-31), 3) := by decide +kernel
theorem dX7_round_43 : decode cX7_round 43 = .ok (.aload_n 0, 1) := by decide +kernel
theorem dX7_round_44 : decode cX7_round 44 = .ok (.invokevirtual 347, 3) := by decide +kernel
theorem dX7_round_47 : decode cX7_round 47 = .ok (.iload_n 1, 1) := by decide +kernel
theorem dX7_round_48 : decode cX7_round 48 = .ok (.ireturn, 1) := by decide +kernel
theorem dX7_layRow_0 : decode cX7_layRow 0 = .ok (.iload_n 1, 1) := by decide +kernel
theorem dX7_layRow_1 : decode cX7_layRow 1 = .ok (.istore_n 2, 1) := by decide +kernel
theorem dX7_layRow_2 : decode cX7_layRow 2 = .ok (.aload_n 0, 1) := by decide +kernel
theorem dX7_layRow_3 : decode cX7_layRow 3 = .ok (.getfield 7, 3) := by decide +kernel
theorem dX7_layRow_6 : decode cX7_layRow 6 = .ok (.iconst 1, 1) := by decide +kernel
theorem dX7_layRow_7 : decode cX7_layRow 7 = .ok (.isub, 1) := by decide +kernel
theorem dX7_layRow_8 : decode cX7_layRow 8 = .ok (.istore_n 3, 1) := by decide +kernel
theorem dX7_layRow_9 : decode cX7_layRow 9 = .ok (.iload_n 3, 1) := by decide +kernel
theorem dX7_layRow_10 : decode cX7_layRow 10 = .ok (.ifCond .lt 22, 3) := by decide +kernel
theorem dX7_layRow_13 : decode cX7_layRow 13 = .ok (.aload_n 0, 1) := by decide +kernel
theorem dX7_layRow_14 : decode cX7_layRow 14 = .ok (.getfield 103, 3) := by decide +kernel
theorem dX7_layRow_17 : decode cX7_layRow 17 = .ok (.iload_n 3, 1) := by decide +kernel
theorem dX7_layRow_18 : decode cX7_layRow 18 = .ok (.iload_n 2, 1) := by decide +kernel
theorem dX7_layRow_19 : decode cX7_layRow 19 = .ok (.iconst 4, 1) := by decide +kernel
theorem dX7_layRow_20 : decode cX7_layRow 20 = .ok (.irem, 1) := by decide +kernel
theorem dX7_layRow_21 : decode cX7_layRow 21 = .ok (.iastore, 1) := by decide +kernel
theorem dX7_layRow_22 : decode cX7_layRow 22 = .ok (.iload_n 2, 1) := by decide +kernel
theorem dX7_layRow_23 : decode cX7_layRow 23 = .ok (.iconst 4, 1) := by decide +kernel
theorem dX7_layRow_24 : decode cX7_layRow 24 = .ok (.idiv, 1) := by decide +kernel
theorem dX7_layRow_25 : decode cX7_layRow 25 = .ok (.istore_n 2, 1) := by decide +kernel
theorem dX7_layRow_26 : decode cX7_layRow 26 = .ok (.iinc 3 (-1), 3) := by decide +kernel
theorem dX7_layRow_29 : decode cX7_layRow 29 = .ok (.goto (-20), 3) := by decide +kernel
theorem dX7_layRow_32 : decode cX7_layRow 32 = .ok (.return_, 1) := by decide +kernel
theorem dX7_rowsNow_0 : decode cX7_rowsNow 0 = .ok (.iconst 1, 1) := by decide +kernel
theorem dX7_rowsNow_1 : decode cX7_rowsNow 1 = .ok (.istore_n 1, 1) := by decide +kernel
theorem dX7_rowsNow_2 : decode cX7_rowsNow 2 = .ok (.iconst 0, 1) := by decide +kernel
theorem dX7_rowsNow_3 : decode cX7_rowsNow 3 = .ok (.istore_n 2, 1) := by decide +kernel
theorem dX7_rowsNow_4 : decode cX7_rowsNow 4 = .ok (.iload_n 2, 1) := by decide +kernel
theorem dX7_rowsNow_5 : decode cX7_rowsNow 5 = .ok (.aload_n 0, 1) := by decide +kernel
theorem dX7_rowsNow_6 : decode cX7_rowsNow 6 = .ok (.getfield 7, 3) := by decide +kernel
theorem dX7_rowsNow_9 : decode cX7_rowsNow 9 = .ok (.if_icmp .ge 13, 3) := by decide +kernel
theorem dX7_rowsNow_12 : decode cX7_rowsNow 12 = .ok (.iload_n 1, 1) := by decide +kernel
theorem dX7_rowsNow_13 : decode cX7_rowsNow 13 = .ok (.iconst 4, 1) := by decide +kernel
theorem dX7_rowsNow_14 : decode cX7_rowsNow 14 = .ok (.imul, 1) := by decide +kernel
theorem dX7_rowsNow_15 : decode cX7_rowsNow 15 = .ok (.istore_n 1, 1) := by decide +kernel
theorem dX7_rowsNow_16 : decode cX7_rowsNow 16 = .ok (.iinc 2 1, 3) := by decide +kernel
theorem dX7_rowsNow_19 : decode cX7_rowsNow 19 = .ok (.goto (-15), 3) := by decide +kernel
theorem dX7_rowsNow_22 : decode cX7_rowsNow 22 = .ok (.iload_n 1, 1) := by decide +kernel
theorem dX7_rowsNow_23 : decode cX7_rowsNow 23 = .ok (.ireturn, 1) := by decide +kernel
theorem dX7_isStill_0 : decode cX7_isStill 0 = .ok (.aload_n 0, 1) := by decide +kernel
theorem dX7_isStill_1 : decode cX7_isStill 1 = .ok (.iload_n 1, 1) := by decide +kernel
theorem dX7_isStill_2 : decode cX7_isStill 2 = .ok (.invokevirtual 353, 3) := by decide +kernel
theorem dX7_isStill_5 : decode cX7_isStill 5 = .ok (.aload_n 0, 1) := by decide +kernel
theorem dX7_isStill_6 : decode cX7_isStill 6 = .ok (.invokevirtual 324, 3) := by decide +kernel
theorem dX7_isStill_9 : decode cX7_isStill 9 = .ok (.iconst 0, 1) := by decide +kernel
theorem dX7_isStill_10 : decode cX7_isStill 10 = .ok (.istore_n 2, 1) := by decide +kernel
theorem dX7_isStill_11 : decode cX7_isStill 11 = .ok (.iload_n 2, 1) := by decide +kernel
theorem dX7_isStill_12 : decode cX7_isStill 12 = .ok (.aload_n 0, 1) := by decide +kernel
theorem dX7_isStill_13 : decode cX7_isStill 13 = .ok (.getfield 7, 3) := by decide +kernel
theorem dX7_isStill_16 : decode cX7_isStill 16 = .ok (.if_icmp .ge 21, 3) := by decide +kernel
theorem dX7_isStill_19 : decode cX7_isStill 19 = .ok (.aload_n 0, 1) := by decide +kernel
theorem dX7_isStill_20 : decode cX7_isStill 20 = .ok (.getfield 142, 3) := by decide +kernel
theorem dX7_isStill_23 : decode cX7_isStill 23 = .ok (.iload_n 2, 1) := by decide +kernel
theorem dX7_isStill_24 : decode cX7_isStill 24 = .ok (.aload_n 0, 1) := by decide +kernel
theorem dX7_isStill_25 : decode cX7_isStill 25 = .ok (.getfield 109, 3) := by decide +kernel
theorem dX7_isStill_28 : decode cX7_isStill 28 = .ok (.iload_n 2, 1) := by decide +kernel
theorem dX7_isStill_29 : decode cX7_isStill 29 = .ok (.iaload, 1) := by decide +kernel
theorem dX7_isStill_30 : decode cX7_isStill 30 = .ok (.iastore, 1) := by decide +kernel
theorem dX7_isStill_31 : decode cX7_isStill 31 = .ok (.iinc 2 1, 3) := by decide +kernel
theorem dX7_isStill_34 : decode cX7_isStill 34 = .ok (.goto (-23), 3) := by decide +kernel
theorem dX7_isStill_37 : decode cX7_isStill 37 = .ok (.iconst 0, 1) := by decide +kernel
theorem dX7_isStill_38 : decode cX7_isStill 38 = .ok (.istore_n 2, 1) := by decide +kernel
theorem dX7_isStill_39 : decode cX7_isStill 39 = .ok (.iload_n 2, 1) := by decide +kernel
theorem dX7_isStill_40 : decode cX7_isStill 40 = .ok (.aload_n 0, 1) := by decide +kernel
theorem dX7_isStill_41 : decode cX7_isStill 41 = .ok (.getfield 7, 3) := by decide +kernel
theorem dX7_isStill_44 : decode cX7_isStill 44 = .ok (.if_icmp .ge 67, 3) := by decide +kernel
theorem dX7_isStill_47 : decode cX7_isStill 47 = .ok (.aload_n 0, 1) := by decide +kernel
theorem dX7_isStill_48 : decode cX7_isStill 48 = .ok (.getfield 103, 3) := by decide +kernel
theorem dX7_isStill_51 : decode cX7_isStill 51 = .ok (.iload_n 2, 1) := by decide +kernel
theorem dX7_isStill_52 : decode cX7_isStill 52 = .ok (.iaload, 1) := by decide +kernel
theorem dX7_isStill_53 : decode cX7_isStill 53 = .ok (.istore_n 3, 1) := by decide +kernel
theorem dX7_isStill_54 : decode cX7_isStill 54 = .ok (.iconst 0, 1) := by decide +kernel
theorem dX7_isStill_55 : decode cX7_isStill 55 = .ok (.istore 4, 2) := by decide +kernel
theorem dX7_isStill_57 : decode cX7_isStill 57 = .ok (.iload 4, 2) := by decide +kernel
theorem dX7_isStill_59 : decode cX7_isStill 59 = .ok (.iconst 4, 1) := by decide +kernel
theorem dX7_isStill_60 : decode cX7_isStill 60 = .ok (.if_icmp .ge 38, 3) := by decide +kernel
theorem dX7_isStill_63 : decode cX7_isStill 63 = .ok (.aload_n 0, 1) := by decide +kernel
theorem dX7_isStill_64 : decode cX7_isStill 64 = .ok (.getfield 103, 3) := by decide +kernel
theorem dX7_isStill_67 : decode cX7_isStill 67 = .ok (.iload_n 2, 1) := by decide +kernel
theorem dX7_isStill_68 : decode cX7_isStill 68 = .ok (.iload 4, 2) := by decide +kernel
theorem dX7_isStill_70 : decode cX7_isStill 70 = .ok (.iastore, 1) := by decide +kernel
theorem dX7_isStill_71 : decode cX7_isStill 71 = .ok (.aload_n 0, 1) := by decide +kernel
theorem dX7_isStill_72 : decode cX7_isStill 72 = .ok (.invokevirtual 324, 3) := by decide +kernel
theorem dX7_isStill_75 : decode cX7_isStill 75 = .ok (.aload_n 0, 1) := by decide +kernel
theorem dX7_isStill_76 : decode cX7_isStill 76 = .ok (.getfield 109, 3) := by decide +kernel
theorem dX7_isStill_79 : decode cX7_isStill 79 = .ok (.iload_n 2, 1) := by decide +kernel
theorem dX7_isStill_80 : decode cX7_isStill 80 = .ok (.iaload, 1) := by decide +kernel
theorem dX7_isStill_81 : decode cX7_isStill 81 = .ok (.aload_n 0, 1) := by decide +kernel
theorem dX7_isStill_82 : decode cX7_isStill 82 = .ok (.getfield 142, 3) := by decide +kernel
theorem dX7_isStill_85 : decode cX7_isStill 85 = .ok (.iload_n 2, 1) := by decide +kernel
theorem dX7_isStill_86 : decode cX7_isStill 86 = .ok (.iaload, 1) := by decide +kernel
theorem dX7_isStill_87 : decode cX7_isStill 87 = .ok (.if_icmp .le 5, 3) := by decide +kernel
theorem dX7_isStill_90 : decode cX7_isStill 90 = .ok (.iconst 0, 1) := by decide +kernel
theorem dX7_isStill_91 : decode cX7_isStill 91 = .ok (.ireturn, 1) := by decide +kernel
theorem dX7_isStill_92 : decode cX7_isStill 92 = .ok (.iinc 4 1, 3) := by decide +kernel
theorem dX7_isStill_95 : decode cX7_isStill 95 = .ok (.goto (-38), 3) := by decide +kernel
theorem dX7_isStill_98 : decode cX7_isStill 98 = .ok (.aload_n 0, 1) := by decide +kernel
theorem dX7_isStill_99 : decode cX7_isStill 99 = .ok (.getfield 103, 3) := by decide +kernel
theorem dX7_isStill_102 : decode cX7_isStill 102 = .ok (.iload_n 2, 1) := by decide +kernel
theorem dX7_isStill_103 : decode cX7_isStill 103 = .ok (.iload_n 3, 1) := by decide +kernel
theorem dX7_isStill_104 : decode cX7_isStill 104 = .ok (.iastore, 1) := by decide +kernel
theorem dX7_isStill_105 : decode cX7_isStill 105 = .ok (.iinc 2 1, 3) := by decide +kernel
theorem dX7_isStill_108 : decode cX7_isStill 108 = .ok (.goto (-69), 3) := by decide +kernel
theorem dX7_isStill_111 : decode cX7_isStill 111 = .ok (.iconst 1, 1) := by decide +kernel
theorem dX7_isStill_112 : decode cX7_isStill 112 = .ok (.ireturn, 1) := by decide +kernel
theorem dX7_digit_0 : decode cX7_digit 0 = .ok (.iload_n 1, 1) := by decide +kernel
theorem dX7_digit_1 : decode cX7_digit 1 = .ok (.istore_n 3, 1) := by decide +kernel
theorem dX7_digit_2 : decode cX7_digit 2 = .ok (.aload_n 0, 1) := by decide +kernel
theorem dX7_digit_3 : decode cX7_digit 3 = .ok (.getfield 7, 3) := by decide +kernel
theorem dX7_digit_6 : decode cX7_digit 6 = .ok (.iconst 1, 1) := by decide +kernel
theorem dX7_digit_7 : decode cX7_digit 7 = .ok (.isub, 1) := by decide +kernel
theorem dX7_digit_8 : decode cX7_digit 8 = .ok (.istore 4, 2) := by decide +kernel
theorem dX7_digit_10 : decode cX7_digit 10 = .ok (.iload 4, 2) := by decide +kernel
theorem dX7_digit_12 : decode cX7_digit 12 = .ok (.iload_n 2, 1) := by decide +kernel
theorem dX7_digit_13 : decode cX7_digit 13 = .ok (.if_icmp .le 13, 3) := by decide +kernel
theorem dX7_digit_16 : decode cX7_digit 16 = .ok (.iload_n 3, 1) := by decide +kernel
theorem dX7_digit_17 : decode cX7_digit 17 = .ok (.iconst 4, 1) := by decide +kernel
theorem dX7_digit_18 : decode cX7_digit 18 = .ok (.idiv, 1) := by decide +kernel
theorem dX7_digit_19 : decode cX7_digit 19 = .ok (.istore_n 3, 1) := by decide +kernel
theorem dX7_digit_20 : decode cX7_digit 20 = .ok (.iinc 4 (-1), 3) := by decide +kernel
theorem dX7_digit_23 : decode cX7_digit 23 = .ok (.goto (-13), 3) := by decide +kernel
theorem dX7_digit_26 : decode cX7_digit 26 = .ok (.iload_n 3, 1) := by decide +kernel
theorem dX7_digit_27 : decode cX7_digit 27 = .ok (.iconst 4, 1) := by decide +kernel
theorem dX7_digit_28 : decode cX7_digit 28 = .ok (.irem, 1) := by decide +kernel
theorem dX7_digit_29 : decode cX7_digit 29 = .ok (.ireturn, 1) := by decide +kernel
theorem dX7_still_0 : decode cX7_still 0 = .ok (.iload_n 1, 1) := by decide +kernel
theorem dX7_still_1 : decode cX7_still 1 = .ok (.ifCond .eq 24, 3) := by decide +kernel
theorem dX7_still_4 : decode cX7_still 4 = .ok (.aload_n 0, 1) := by decide +kernel
theorem dX7_still_5 : decode cX7_still 5 = .ok (.iload_n 1, 1) := by decide +kernel
theorem dX7_still_6 : decode cX7_still 6 = .ok (.bipush 10, 2) := by decide +kernel
theorem dX7_still_8 : decode cX7_still 8 = .ok (.bipush 9, 2) := by decide +kernel
theorem dX7_still_10 : decode cX7_still 10 = .ok (.aload_n 0, 1) := by decide +kernel
theorem dX7_still_11 : decode cX7_still 11 = .ok (.getfield 7, 3) := by decide +kernel
theorem dX7_still_14 : decode cX7_still 14 = .ok (.iadd, 1) := by decide +kernel
theorem dX7_still_15 : decode cX7_still 15 = .ok (.invokevirtual 212, 3) := by decide +kernel
theorem dX7_still_18 : decode cX7_still 18 = .ok (.ifCond .ne 7, 3) := by decide +kernel
theorem dX7_still_21 : decode cX7_still 21 = .ok (.ldc_w 339, 3) := by decide +kernel
theorem dX7_still_24 : decode cX7_still 24 = .ok (.ireturn, 1) := by decide +kernel
theorem dX7_still_25 : decode cX7_still 25 = .ok (.aload_n 0, 1) := by decide +kernel
theorem dX7_still_26 : decode cX7_still 26 = .ok (.getfield 7, 3) := by decide +kernel
theorem dX7_still_29 : decode cX7_still 29 = .ok (.iconst 4, 1) := by decide +kernel
theorem dX7_still_30 : decode cX7_still 30 = .ok (.if_icmp .le 6, 3) := by decide +kernel
theorem dX7_still_33 : decode cX7_still 33 = .ok (.bipush (-9), 2) := by decide +kernel
theorem dX7_still_35 : decode cX7_still 35 = .ok (.ireturn, 1) := by decide +kernel
theorem dX7_still_36 : decode cX7_still 36 = .ok (.iconst 0, 1) := by decide +kernel
theorem dX7_still_37 : decode cX7_still 37 = .ok (.istore_n 2, 1) := by decide +kernel
theorem dX7_still_38 : decode cX7_still 38 = .ok (.iconst (-1), 1) := by decide +kernel
theorem dX7_still_39 : decode cX7_still 39 = .ok (.istore_n 3, 1) := by decide +kernel
theorem dX7_still_40 : decode cX7_still 40 = .ok (.iconst 0, 1) := by decide +kernel
theorem dX7_still_41 : decode cX7_still 41 = .ok (.istore 4, 2) := by decide +kernel
theorem dX7_still_43 : decode cX7_still 43 = .ok (.iload 4, 2) := by decide +kernel
theorem dX7_still_45 : decode cX7_still 45 = .ok (.aload_n 0, 1) := by decide +kernel
theorem dX7_still_46 : decode cX7_still 46 = .ok (.invokevirtual 356, 3) := by decide +kernel
theorem dX7_still_49 : decode cX7_still 49 = .ok (.if_icmp .ge 31, 3) := by decide +kernel
theorem dX7_still_52 : decode cX7_still 52 = .ok (.aload_n 0, 1) := by decide +kernel
theorem dX7_still_53 : decode cX7_still 53 = .ok (.iload 4, 2) := by decide +kernel
theorem dX7_still_55 : decode cX7_still 55 = .ok (.invokevirtual 359, 3) := by decide +kernel
theorem dX7_still_58 : decode cX7_still 58 = .ok (.ifCond .ne 6, 3) := by decide +kernel
theorem dX7_still_61 : decode cX7_still 61 = .ok (.goto 13, 3) := by decide +kernel
theorem dX7_still_64 : decode cX7_still 64 = .ok (.iload_n 2, 1) := by decide +kernel
theorem dX7_still_65 : decode cX7_still 65 = .ok (.ifCond .ne 6, 3) := by decide +kernel
theorem dX7_still_68 : decode cX7_still 68 = .ok (.iload 4, 2) := by decide +kernel
theorem dX7_still_70 : decode cX7_still 70 = .ok (.istore_n 3, 1) := by decide +kernel
theorem dX7_still_71 : decode cX7_still 71 = .ok (.iinc 2 1, 3) := by decide +kernel
theorem dX7_still_74 : decode cX7_still 74 = .ok (.iinc 4 1, 3) := by decide +kernel
theorem dX7_still_77 : decode cX7_still 77 = .ok (.goto (-34), 3) := by decide +kernel
theorem dX7_still_80 : decode cX7_still 80 = .ok (.iload_n 1, 1) := by decide +kernel
theorem dX7_still_81 : decode cX7_still 81 = .ok (.ifCond .ne 7, 3) := by decide +kernel
theorem dX7_still_84 : decode cX7_still 84 = .ok (.iload_n 2, 1) := by decide +kernel
theorem dX7_still_85 : decode cX7_still 85 = .ok (.goto 21, 3) := by decide +kernel
theorem dX7_still_88 : decode cX7_still 88 = .ok (.iload_n 3, 1) := by decide +kernel
theorem dX7_still_89 : decode cX7_still 89 = .ok (.ifCond .ge 8, 3) := by decide +kernel
theorem dX7_still_92 : decode cX7_still 92 = .ok (.bipush (-5), 2) := by decide +kernel
theorem dX7_still_94 : decode cX7_still 94 = .ok (.goto 12, 3) := by decide +kernel
theorem dX7_still_97 : decode cX7_still 97 = .ok (.aload_n 0, 1) := by decide +kernel
theorem dX7_still_98 : decode cX7_still 98 = .ok (.iload_n 3, 1) := by decide +kernel
theorem dX7_still_99 : decode cX7_still 99 = .ok (.iload_n 1, 1) := by decide +kernel
theorem dX7_still_100 : decode cX7_still 100 = .ok (.bipush 10, 2) := by decide +kernel
theorem dX7_still_102 : decode cX7_still 102 = .ok (.isub, 1) := by decide +kernel
theorem dX7_still_103 : decode cX7_still 103 = .ok (.invokevirtual 362, 3) := by decide +kernel
theorem dX7_still_106 : decode cX7_still 106 = .ok (.ireturn, 1) := by decide +kernel
theorem dX7_allBest_0 : decode cX7_allBest 0 = .ok (.iload_n 1, 1) := by decide +kernel
theorem dX7_allBest_1 : decode cX7_allBest 1 = .ok (.ifCond .eq 24, 3) := by decide +kernel
theorem dX7_allBest_4 : decode cX7_allBest 4 = .ok (.aload_n 0, 1) := by decide +kernel
theorem dX7_allBest_5 : decode cX7_allBest 5 = .ok (.iload_n 1, 1) := by decide +kernel
theorem dX7_allBest_6 : decode cX7_allBest 6 = .ok (.bipush 10, 2) := by decide +kernel
theorem dX7_allBest_8 : decode cX7_allBest 8 = .ok (.bipush 9, 2) := by decide +kernel
theorem dX7_allBest_10 : decode cX7_allBest 10 = .ok (.aload_n 0, 1) := by decide +kernel
theorem dX7_allBest_11 : decode cX7_allBest 11 = .ok (.getfield 7, 3) := by decide +kernel
theorem dX7_allBest_14 : decode cX7_allBest 14 = .ok (.iadd, 1) := by decide +kernel
theorem dX7_allBest_15 : decode cX7_allBest 15 = .ok (.invokevirtual 212, 3) := by decide +kernel
theorem dX7_allBest_18 : decode cX7_allBest 18 = .ok (.ifCond .ne 7, 3) := by decide +kernel
theorem dX7_allBest_21 : decode cX7_allBest 21 = .ok (.ldc_w 339, 3) := by decide +kernel
theorem dX7_allBest_24 : decode cX7_allBest 24 = .ok (.ireturn, 1) := by decide +kernel
theorem dX7_allBest_25 : decode cX7_allBest 25 = .ok (.aload_n 0, 1) := by decide +kernel
theorem dX7_allBest_26 : decode cX7_allBest 26 = .ok (.getfield 7, 3) := by decide +kernel
theorem dX7_allBest_29 : decode cX7_allBest 29 = .ok (.iconst 4, 1) := by decide +kernel
theorem dX7_allBest_30 : decode cX7_allBest 30 = .ok (.if_icmp .le 6, 3) := by decide +kernel
theorem dX7_allBest_33 : decode cX7_allBest 33 = .ok (.bipush (-9), 2) := by decide +kernel
theorem dX7_allBest_35 : decode cX7_allBest 35 = .ok (.ireturn, 1) := by decide +kernel
theorem dX7_allBest_36 : decode cX7_allBest 36 = .ok (.iconst (-1), 1) := by decide +kernel
theorem dX7_allBest_37 : decode cX7_allBest 37 = .ok (.istore_n 2, 1) := by decide +kernel
theorem dX7_allBest_38 : decode cX7_allBest 38 = .ok (.iconst 0, 1) := by decide +kernel
theorem dX7_allBest_39 : decode cX7_allBest 39 = .ok (.istore_n 3, 1) := by decide +kernel
theorem dX7_allBest_40 : decode cX7_allBest 40 = .ok (.iconst 0, 1) := by decide +kernel
theorem dX7_allBest_41 : decode cX7_allBest 41 = .ok (.istore 4, 2) := by decide +kernel
theorem dX7_allBest_43 : decode cX7_allBest 43 = .ok (.iload 4, 2) := by decide +kernel
theorem dX7_allBest_45 : decode cX7_allBest 45 = .ok (.aload_n 0, 1) := by decide +kernel
theorem dX7_allBest_46 : decode cX7_allBest 46 = .ok (.invokevirtual 356, 3) := by decide +kernel
theorem dX7_allBest_49 : decode cX7_allBest 49 = .ok (.if_icmp .ge 71, 3) := by decide +kernel
theorem dX7_allBest_52 : decode cX7_allBest 52 = .ok (.aload_n 0, 1) := by decide +kernel
theorem dX7_allBest_53 : decode cX7_allBest 53 = .ok (.iload 4, 2) := by decide +kernel
theorem dX7_allBest_55 : decode cX7_allBest 55 = .ok (.invokevirtual 353, 3) := by decide +kernel
theorem dX7_allBest_58 : decode cX7_allBest 58 = .ok (.aload_n 0, 1) := by decide +kernel
theorem dX7_allBest_59 : decode cX7_allBest 59 = .ok (.invokevirtual 324, 3) := by decide +kernel
theorem dX7_allBest_62 : decode cX7_allBest 62 = .ok (.iconst 0, 1) := by decide +kernel
theorem dX7_allBest_63 : decode cX7_allBest 63 = .ok (.istore 5, 2) := by decide +kernel
theorem dX7_allBest_65 : decode cX7_allBest 65 = .ok (.iconst 0, 1) := by decide +kernel
theorem dX7_allBest_66 : decode cX7_allBest 66 = .ok (.istore 6, 2) := by decide +kernel
theorem dX7_allBest_68 : decode cX7_allBest 68 = .ok (.iload 6, 2) := by decide +kernel
theorem dX7_allBest_70 : decode cX7_allBest 70 = .ok (.aload_n 0, 1) := by decide +kernel
theorem dX7_allBest_71 : decode cX7_allBest 71 = .ok (.getfield 7, 3) := by decide +kernel
theorem dX7_allBest_74 : decode cX7_allBest 74 = .ok (.if_icmp .ge 21, 3) := by decide +kernel
theorem dX7_allBest_77 : decode cX7_allBest 77 = .ok (.iload 5, 2) := by decide +kernel
theorem dX7_allBest_79 : decode cX7_allBest 79 = .ok (.aload_n 0, 1) := by decide +kernel
theorem dX7_allBest_80 : decode cX7_allBest 80 = .ok (.getfield 109, 3) := by decide +kernel
theorem dX7_allBest_83 : decode cX7_allBest 83 = .ok (.iload 6, 2) := by decide +kernel
theorem dX7_allBest_85 : decode cX7_allBest 85 = .ok (.iaload, 1) := by decide +kernel
theorem dX7_allBest_86 : decode cX7_allBest 86 = .ok (.iadd, 1) := by decide +kernel
theorem dX7_allBest_87 : decode cX7_allBest 87 = .ok (.istore 5, 2) := by decide +kernel
theorem dX7_allBest_89 : decode cX7_allBest 89 = .ok (.iinc 6 1, 3) := by decide +kernel
theorem dX7_allBest_92 : decode cX7_allBest 92 = .ok (.goto (-24), 3) := by decide +kernel
theorem dX7_allBest_95 : decode cX7_allBest 95 = .ok (.iload_n 2, 1) := by decide +kernel
theorem dX7_allBest_96 : decode cX7_allBest 96 = .ok (.ifCond .lt 12, 3) := by decide +kernel
theorem dX7_allBest_99 : decode cX7_allBest 99 = .ok (.iload 5, 2) := by decide +kernel
theorem dX7_allBest_101 : decode cX7_allBest 101 = .ok (.iload_n 3, 1) := by decide +kernel
theorem dX7_allBest_102 : decode cX7_allBest 102 = .ok (.if_icmp .gt 6, 3) := by decide +kernel
theorem dX7_allBest_105 : decode cX7_allBest 105 = .ok (.goto 9, 3) := by decide +kernel
theorem dX7_allBest_108 : decode cX7_allBest 108 = .ok (.iload 4, 2) := by decide +kernel
theorem dX7_allBest_110 : decode cX7_allBest 110 = .ok (.istore_n 2, 1) := by decide +kernel
theorem dX7_allBest_111 : decode cX7_allBest 111 = .ok (.iload 5, 2) := by decide +kernel
theorem dX7_allBest_113 : decode cX7_allBest 113 = .ok (.istore_n 3, 1) := by decide +kernel
theorem dX7_allBest_114 : decode cX7_allBest 114 = .ok (.iinc 4 1, 3) := by decide +kernel
theorem dX7_allBest_117 : decode cX7_allBest 117 = .ok (.goto (-74), 3) := by decide +kernel
theorem dX7_allBest_120 : decode cX7_allBest 120 = .ok (.iload_n 1, 1) := by decide +kernel
theorem dX7_allBest_121 : decode cX7_allBest 121 = .ok (.ifCond .ne 7, 3) := by decide +kernel
theorem dX7_allBest_124 : decode cX7_allBest 124 = .ok (.iload_n 3, 1) := by decide +kernel
theorem dX7_allBest_125 : decode cX7_allBest 125 = .ok (.goto 12, 3) := by decide +kernel
theorem dX7_allBest_128 : decode cX7_allBest 128 = .ok (.aload_n 0, 1) := by decide +kernel
theorem dX7_allBest_129 : decode cX7_allBest 129 = .ok (.iload_n 2, 1) := by decide +kernel
theorem dX7_allBest_130 : decode cX7_allBest 130 = .ok (.iload_n 1, 1) := by decide +kernel
theorem dX7_allBest_131 : decode cX7_allBest 131 = .ok (.bipush 10, 2) := by decide +kernel
theorem dX7_allBest_133 : decode cX7_allBest 133 = .ok (.isub, 1) := by decide +kernel
theorem dX7_allBest_134 : decode cX7_allBest 134 = .ok (.invokevirtual 362, 3) := by decide +kernel
theorem dX7_allBest_137 : decode cX7_allBest 137 = .ok (.ireturn, 1) := by decide +kernel
theorem dX7_allGlad_0 : decode cX7_allGlad 0 = .ok (.iconst 0, 1) := by decide +kernel
theorem dX7_allGlad_1 : decode cX7_allGlad 1 = .ok (.istore_n 1, 1) := by decide +kernel
theorem dX7_allGlad_2 : decode cX7_allGlad 2 = .ok (.iconst 0, 1) := by decide +kernel
theorem dX7_allGlad_3 : decode cX7_allGlad 3 = .ok (.istore_n 2, 1) := by decide +kernel
theorem dX7_allGlad_4 : decode cX7_allGlad 4 = .ok (.iload_n 2, 1) := by decide +kernel
theorem dX7_allGlad_5 : decode cX7_allGlad 5 = .ok (.aload_n 0, 1) := by decide +kernel
theorem dX7_allGlad_6 : decode cX7_allGlad 6 = .ok (.getfield 7, 3) := by decide +kernel
theorem dX7_allGlad_9 : decode cX7_allGlad 9 = .ok (.if_icmp .ge 18, 3) := by decide +kernel
theorem dX7_allGlad_12 : decode cX7_allGlad 12 = .ok (.iload_n 1, 1) := by decide +kernel
theorem dX7_allGlad_13 : decode cX7_allGlad 13 = .ok (.aload_n 0, 1) := by decide +kernel
theorem dX7_allGlad_14 : decode cX7_allGlad 14 = .ok (.getfield 35, 3) := by decide +kernel
theorem dX7_allGlad_17 : decode cX7_allGlad 17 = .ok (.iload_n 2, 1) := by decide +kernel
theorem dX7_allGlad_18 : decode cX7_allGlad 18 = .ok (.iaload, 1) := by decide +kernel
theorem dX7_allGlad_19 : decode cX7_allGlad 19 = .ok (.iadd, 1) := by decide +kernel
theorem dX7_allGlad_20 : decode cX7_allGlad 20 = .ok (.istore_n 1, 1) := by decide +kernel
theorem dX7_allGlad_21 : decode cX7_allGlad 21 = .ok (.iinc 2 1, 3) := by decide +kernel
theorem dX7_allGlad_24 : decode cX7_allGlad 24 = .ok (.goto (-20), 3) := by decide +kernel
theorem dX7_allGlad_27 : decode cX7_allGlad 27 = .ok (.iload_n 1, 1) := by decide +kernel
theorem dX7_allGlad_28 : decode cX7_allGlad 28 = .ok (.ireturn, 1) := by decide +kernel
theorem dX7_laws_0 : decode cX7_laws 0 = .ok (.aload_n 0, 1) := by decide +kernel
theorem dX7_laws_1 : decode cX7_laws 1 = .ok (.iload_n 1, 1) := by decide +kernel
theorem dX7_laws_2 : decode cX7_laws 2 = .ok (.iconst 0, 1) := by decide +kernel
theorem dX7_laws_3 : decode cX7_laws 3 = .ok (.bipush 60, 2) := by decide +kernel
theorem dX7_laws_5 : decode cX7_laws 5 = .ok (.invokevirtual 212, 3) := by decide +kernel
theorem dX7_laws_8 : decode cX7_laws 8 = .ok (.ifCond .ne 6, 3) := by decide +kernel
theorem dX7_laws_11 : decode cX7_laws 11 = .ok (.bipush (-2), 2) := by decide +kernel
theorem dX7_laws_13 : decode cX7_laws 13 = .ok (.ireturn, 1) := by decide +kernel
theorem dX7_laws_14 : decode cX7_laws 14 = .ok (.iconst (-1), 1) := by decide +kernel
theorem dX7_laws_15 : decode cX7_laws 15 = .ok (.istore_n 2, 1) := by decide +kernel
theorem dX7_laws_16 : decode cX7_laws 16 = .ok (.iconst 0, 1) := by decide +kernel
theorem dX7_laws_17 : decode cX7_laws 17 = .ok (.istore_n 3, 1) := by decide +kernel
theorem dX7_laws_18 : decode cX7_laws 18 = .ok (.iconst 0, 1) := by decide +kernel
theorem dX7_laws_19 : decode cX7_laws 19 = .ok (.istore 4, 2) := by decide +kernel
theorem dX7_laws_21 : decode cX7_laws 21 = .ok (.iload 4, 2) := by decide +kernel
theorem dX7_laws_23 : decode cX7_laws 23 = .ok (.iconst 3, 1) := by decide +kernel
theorem dX7_laws_24 : decode cX7_laws 24 = .ok (.if_icmp .ge 53, 3) := by decide +kernel
theorem dX7_laws_27 : decode cX7_laws 27 = .ok (.aload_n 0, 1) := by decide +kernel
theorem dX7_laws_28 : decode cX7_laws 28 = .ok (.iload 4, 2) := by decide +kernel
theorem dX7_laws_30 : decode cX7_laws 30 = .ok (.putfield 100, 3) := by decide +kernel
theorem dX7_laws_33 : decode cX7_laws 33 = .ok (.aload_n 0, 1) := by decide +kernel
theorem dX7_laws_34 : decode cX7_laws 34 = .ok (.invokevirtual 341, 3) := by decide +kernel
theorem dX7_laws_37 : decode cX7_laws 37 = .ok (.aload_n 0, 1) := by decide +kernel
theorem dX7_laws_38 : decode cX7_laws 38 = .ok (.iload_n 1, 1) := by decide +kernel
theorem dX7_laws_39 : decode cX7_laws 39 = .ok (.invokevirtual 344, 3) := by decide +kernel
theorem dX7_laws_42 : decode cX7_laws 42 = .ok (.aload_n 0, 1) := by decide +kernel
theorem dX7_laws_43 : decode cX7_laws 43 = .ok (.invokevirtual 365, 3) := by decide +kernel
theorem dX7_laws_46 : decode cX7_laws 46 = .ok (.istore 5, 2) := by decide +kernel
theorem dX7_laws_48 : decode cX7_laws 48 = .ok (.aload_n 0, 1) := by decide +kernel
theorem dX7_laws_49 : decode cX7_laws 49 = .ok (.invokevirtual 347, 3) := by decide +kernel
theorem dX7_laws_52 : decode cX7_laws 52 = .ok (.iload_n 2, 1) := by decide +kernel
theorem dX7_laws_53 : decode cX7_laws 53 = .ok (.ifCond .lt 12, 3) := by decide +kernel
theorem dX7_laws_56 : decode cX7_laws 56 = .ok (.iload 5, 2) := by decide +kernel
theorem dX7_laws_58 : decode cX7_laws 58 = .ok (.iload_n 3, 1) := by decide +kernel
theorem dX7_laws_59 : decode cX7_laws 59 = .ok (.if_icmp .gt 6, 3) := by decide +kernel
theorem dX7_laws_62 : decode cX7_laws 62 = .ok (.goto 9, 3) := by decide +kernel
theorem dX7_laws_65 : decode cX7_laws 65 = .ok (.iload 4, 2) := by decide +kernel
theorem dX7_laws_67 : decode cX7_laws 67 = .ok (.istore_n 2, 1) := by decide +kernel
theorem dX7_laws_68 : decode cX7_laws 68 = .ok (.iload 5, 2) := by decide +kernel
theorem dX7_laws_70 : decode cX7_laws 70 = .ok (.istore_n 3, 1) := by decide +kernel
theorem dX7_laws_71 : decode cX7_laws 71 = .ok (.iinc 4 1, 3) := by decide +kernel
theorem dX7_laws_74 : decode cX7_laws 74 = .ok (.goto (-53), 3) := by decide +kernel
theorem dX7_laws_77 : decode cX7_laws 77 = .ok (.aload_n 0, 1) := by decide +kernel
theorem dX7_laws_78 : decode cX7_laws 78 = .ok (.iconst (-1), 1) := by decide +kernel
theorem dX7_laws_79 : decode cX7_laws 79 = .ok (.putfield 100, 3) := by decide +kernel
theorem dX7_laws_82 : decode cX7_laws 82 = .ok (.iload_n 2, 1) := by decide +kernel
theorem dX7_laws_83 : decode cX7_laws 83 = .ok (.ireturn, 1) := by decide +kernel
theorem dX7_gladBehind_0 : decode cX7_gladBehind 0 = .ok (.aload_n 0, 1) := by decide +kernel
theorem dX7_gladBehind_1 : decode cX7_gladBehind 1 = .ok (.invokevirtual 341, 3) := by decide +kernel
theorem dX7_gladBehind_4 : decode cX7_gladBehind 4 = .ok (.aload_n 0, 1) := by decide +kernel
theorem dX7_gladBehind_5 : decode cX7_gladBehind 5 = .ok (.iload_n 2, 1) := by decide +kernel
theorem dX7_gladBehind_6 : decode cX7_gladBehind 6 = .ok (.invokevirtual 344, 3) := by decide +kernel
theorem dX7_gladBehind_9 : decode cX7_gladBehind 9 = .ok (.aload_n 0, 1) := by decide +kernel
theorem dX7_gladBehind_10 : decode cX7_gladBehind 10 = .ok (.getfield 35, 3) := by decide +kernel
theorem dX7_gladBehind_13 : decode cX7_gladBehind 13 = .ok (.iload_n 1, 1) := by decide +kernel
theorem dX7_gladBehind_14 : decode cX7_gladBehind 14 = .ok (.iaload, 1) := by decide +kernel
theorem dX7_gladBehind_15 : decode cX7_gladBehind 15 = .ok (.istore_n 3, 1) := by decide +kernel
theorem dX7_gladBehind_16 : decode cX7_gladBehind 16 = .ok (.aload_n 0, 1) := by decide +kernel
theorem dX7_gladBehind_17 : decode cX7_gladBehind 17 = .ok (.invokevirtual 347, 3) := by decide +kernel
theorem dX7_gladBehind_20 : decode cX7_gladBehind 20 = .ok (.iload_n 3, 1) := by decide +kernel
theorem dX7_gladBehind_21 : decode cX7_gladBehind 21 = .ok (.ireturn, 1) := by decide +kernel
theorem dX7_cook_0 : decode cX7_cook 0 = .ok (.aload_n 0, 1) := by decide +kernel
theorem dX7_cook_1 : decode cX7_cook 1 = .ok (.iload_n 1, 1) := by decide +kernel
theorem dX7_cook_2 : decode cX7_cook 2 = .ok (.invokevirtual 220, 3) := by decide +kernel
theorem dX7_cook_5 : decode cX7_cook 5 = .ok (.ifCond .ne 7, 3) := by decide +kernel
theorem dX7_cook_8 : decode cX7_cook 8 = .ok (.ldc_w 339, 3) := by decide +kernel
theorem dX7_cook_11 : decode cX7_cook 11 = .ok (.ireturn, 1) := by decide +kernel
theorem dX7_cook_12 : decode cX7_cook 12 = .ok (.aload_n 0, 1) := by decide +kernel
theorem dX7_cook_13 : decode cX7_cook 13 = .ok (.iload_n 2, 1) := by decide +kernel
theorem dX7_cook_14 : decode cX7_cook 14 = .ok (.iconst 0, 1) := by decide +kernel
theorem dX7_cook_15 : decode cX7_cook 15 = .ok (.bipush 60, 2) := by decide +kernel
theorem dX7_cook_17 : decode cX7_cook 17 = .ok (.invokevirtual 212, 3) := by decide +kernel
theorem dX7_cook_20 : decode cX7_cook 20 = .ok (.ifCond .ne 7, 3) := by decide +kernel
theorem dX7_cook_23 : decode cX7_cook 23 = .ok (.ldc_w 340, 3) := by decide +kernel
theorem dX7_cook_26 : decode cX7_cook 26 = .ok (.ireturn, 1) := by decide +kernel
theorem dX7_cook_27 : decode cX7_cook 27 = .ok (.aload_n 0, 1) := by decide +kernel
theorem dX7_cook_28 : decode cX7_cook 28 = .ok (.iload_n 1, 1) := by decide +kernel
theorem dX7_cook_29 : decode cX7_cook 29 = .ok (.iload_n 2, 1) := by decide +kernel
theorem dX7_cook_30 : decode cX7_cook 30 = .ok (.invokevirtual 368, 3) := by decide +kernel
theorem dX7_cook_33 : decode cX7_cook 33 = .ok (.istore_n 3, 1) := by decide +kernel
theorem dX7_cook_34 : decode cX7_cook 34 = .ok (.aload_n 0, 1) := by decide +kernel
theorem dX7_cook_35 : decode cX7_cook 35 = .ok (.iconst 1, 1) := by decide +kernel
theorem dX7_cook_36 : decode cX7_cook 36 = .ok (.putfield 96, 3) := by decide +kernel
theorem dX7_cook_39 : decode cX7_cook 39 = .ok (.aload_n 0, 1) := by decide +kernel
theorem dX7_cook_40 : decode cX7_cook 40 = .ok (.iload_n 1, 1) := by decide +kernel
theorem dX7_cook_41 : decode cX7_cook 41 = .ok (.iload_n 2, 1) := by decide +kernel
theorem dX7_cook_42 : decode cX7_cook 42 = .ok (.invokevirtual 368, 3) := by decide +kernel
theorem dX7_cook_45 : decode cX7_cook 45 = .ok (.istore 4, 2) := by decide +kernel
theorem dX7_cook_47 : decode cX7_cook 47 = .ok (.aload_n 0, 1) := by decide +kernel
theorem dX7_cook_48 : decode cX7_cook 48 = .ok (.iconst 0, 1) := by decide +kernel
theorem dX7_cook_49 : decode cX7_cook 49 = .ok (.putfield 96, 3) := by decide +kernel
theorem dX7_cook_52 : decode cX7_cook 52 = .ok (.iload 4, 2) := by decide +kernel
theorem dX7_cook_54 : decode cX7_cook 54 = .ok (.iload_n 3, 1) := by decide +kernel
theorem dX7_cook_55 : decode cX7_cook 55 = .ok (.isub, 1) := by decide +kernel
theorem dX7_cook_56 : decode cX7_cook 56 = .ok (.ireturn, 1) := by decide +kernel
theorem dX7_isEnough_0 : decode cX7_isEnough 0 = .ok (.aload_n 0, 1) := by decide +kernel
theorem dX7_isEnough_1 : decode cX7_isEnough 1 = .ok (.invokevirtual 341, 3) := by decide +kernel
theorem dX7_isEnough_4 : decode cX7_isEnough 4 = .ok (.aload_n 0, 1) := by decide +kernel
theorem dX7_isEnough_5 : decode cX7_isEnough 5 = .ok (.iload_n 1, 1) := by decide +kernel
theorem dX7_isEnough_6 : decode cX7_isEnough 6 = .ok (.putfield 13, 3) := by decide +kernel
theorem dX7_isEnough_9 : decode cX7_isEnough 9 = .ok (.iconst 1, 1) := by decide +kernel
theorem dX7_isEnough_10 : decode cX7_isEnough 10 = .ok (.istore_n 3, 1) := by decide +kernel
theorem dX7_isEnough_11 : decode cX7_isEnough 11 = .ok (.iconst 0, 1) := by decide +kernel
theorem dX7_isEnough_12 : decode cX7_isEnough 12 = .ok (.istore 4, 2) := by decide +kernel
theorem dX7_isEnough_14 : decode cX7_isEnough 14 = .ok (.iload 4, 2) := by decide +kernel
theorem dX7_isEnough_16 : decode cX7_isEnough 16 = .ok (.iload_n 2, 1) := by decide +kernel
theorem dX7_isEnough_17 : decode cX7_isEnough 17 = .ok (.if_icmp .ge 70, 3) := by decide +kernel
theorem dX7_isEnough_20 : decode cX7_isEnough 20 = .ok (.iload_n 3, 1) := by decide +kernel
theorem dX7_isEnough_21 : decode cX7_isEnough 21 = .ok (.ifCond .eq 66, 3) := by decide +kernel
theorem dX7_isEnough_24 : decode cX7_isEnough 24 = .ok (.aload_n 0, 1) := by decide +kernel
theorem dX7_isEnough_25 : decode cX7_isEnough 25 = .ok (.invokevirtual 333, 3) := by decide +kernel
theorem dX7_isEnough_28 : decode cX7_isEnough 28 = .ok (.aload_n 0, 1) := by decide +kernel
theorem dX7_isEnough_29 : decode cX7_isEnough 29 = .ok (.invokevirtual 324, 3) := by decide +kernel
theorem dX7_isEnough_32 : decode cX7_isEnough 32 = .ok (.iconst 0, 1) := by decide +kernel
theorem dX7_isEnough_33 : decode cX7_isEnough 33 = .ok (.istore 5, 2) := by decide +kernel
theorem dX7_isEnough_35 : decode cX7_isEnough 35 = .ok (.iload 5, 2) := by decide +kernel
theorem dX7_isEnough_37 : decode cX7_isEnough 37 = .ok (.aload_n 0, 1) := by decide +kernel
theorem dX7_isEnough_38 : decode cX7_isEnough 38 = .ok (.getfield 7, 3) := by decide +kernel
theorem dX7_isEnough_41 : decode cX7_isEnough 41 = .ok (.if_icmp .ge 36, 3) := by decide +kernel
theorem dX7_isEnough_44 : decode cX7_isEnough 44 = .ok (.iload_n 3, 1) := by decide +kernel
theorem dX7_isEnough_45 : decode cX7_isEnough 45 = .ok (.ifCond .eq 24, 3) := by decide +kernel
theorem dX7_isEnough_48 : decode cX7_isEnough 48 = .ok (.aload_n 0, 1) := by decide +kernel
theorem dX7_isEnough_49 : decode cX7_isEnough 49 = .ok (.getfield 106, 3) := by decide +kernel
theorem dX7_isEnough_52 : decode cX7_isEnough 52 = .ok (.iload 5, 2) := by decide +kernel
theorem dX7_isEnough_54 : decode cX7_isEnough 54 = .ok (.iaload, 1) := by decide +kernel
theorem dX7_isEnough_55 : decode cX7_isEnough 55 = .ok (.aload_n 0, 1) := by decide +kernel
theorem dX7_isEnough_56 : decode cX7_isEnough 56 = .ok (.getfield 103, 3) := by decide +kernel
theorem dX7_isEnough_59 : decode cX7_isEnough 59 = .ok (.iload 5, 2) := by decide +kernel
theorem dX7_isEnough_61 : decode cX7_isEnough 61 = .ok (.iaload, 1) := by decide +kernel
theorem dX7_isEnough_62 : decode cX7_isEnough 62 = .ok (.if_icmp .ne 7, 3) := by decide +kernel
theorem dX7_isEnough_65 : decode cX7_isEnough 65 = .ok (.iconst 1, 1) := by decide +kernel
theorem dX7_isEnough_66 : decode cX7_isEnough 66 = .ok (.goto 4, 3) := by decide +kernel
theorem dX7_isEnough_69 : decode cX7_isEnough 69 = .ok (.iconst 0, 1) := by decide +kernel
theorem dX7_isEnough_70 : decode cX7_isEnough 70 = .ok (.istore_n 3, 1) := by decide +kernel
theorem dX7_isEnough_71 : decode cX7_isEnough 71 = .ok (.iinc 5 1, 3) := by decide +kernel
theorem dX7_isEnough_74 : decode cX7_isEnough 74 = .ok (.goto (-39), 3) := by decide +kernel
theorem dX7_isEnough_77 : decode cX7_isEnough 77 = .ok (.aload_n 0, 1) := by decide +kernel
theorem dX7_isEnough_78 : decode cX7_isEnough 78 = .ok (.invokevirtual 336, 3) := by decide +kernel
theorem dX7_isEnough_81 : decode cX7_isEnough 81 = .ok (.iinc 4 1, 3) := by decide +kernel
theorem dX7_isEnough_84 : decode cX7_isEnough 84 = .ok (.goto (-70), 3) := by decide +kernel
theorem dX7_isEnough_87 : decode cX7_isEnough 87 = .ok (.aload_n 0, 1) := by decide +kernel
theorem dX7_isEnough_88 : decode cX7_isEnough 88 = .ok (.invokevirtual 347, 3) := by decide +kernel
theorem dX7_isEnough_91 : decode cX7_isEnough 91 = .ok (.iload_n 3, 1) := by decide +kernel
theorem dX7_isEnough_92 : decode cX7_isEnough 92 = .ok (.ireturn, 1) := by decide +kernel
theorem dX7_thin_0 : decode cX7_thin 0 = .ok (.aload_n 0, 1) := by decide +kernel
theorem dX7_thin_1 : decode cX7_thin 1 = .ok (.iload_n 1, 1) := by decide +kernel
theorem dX7_thin_2 : decode cX7_thin 2 = .ok (.iconst 0, 1) := by decide +kernel
theorem dX7_thin_3 : decode cX7_thin 3 = .ok (.bipush 8, 2) := by decide +kernel
theorem dX7_thin_5 : decode cX7_thin 5 = .ok (.invokevirtual 212, 3) := by decide +kernel
theorem dX7_thin_8 : decode cX7_thin 8 = .ok (.ifCond .ne 6, 3) := by decide +kernel
theorem dX7_thin_11 : decode cX7_thin 11 = .ok (.bipush (-2), 2) := by decide +kernel
theorem dX7_thin_13 : decode cX7_thin 13 = .ok (.ireturn, 1) := by decide +kernel
theorem dX7_thin_14 : decode cX7_thin 14 = .ok (.iconst 0, 1) := by decide +kernel
theorem dX7_thin_15 : decode cX7_thin 15 = .ok (.istore_n 2, 1) := by decide +kernel
theorem dX7_thin_16 : decode cX7_thin 16 = .ok (.iload_n 2, 1) := by decide +kernel
theorem dX7_thin_17 : decode cX7_thin 17 = .ok (.bipush 100, 2) := by decide +kernel
theorem dX7_thin_19 : decode cX7_thin 19 = .ok (.if_icmp .ge 20, 3) := by decide +kernel
theorem dX7_thin_22 : decode cX7_thin 22 = .ok (.aload_n 0, 1) := by decide +kernel
theorem dX7_thin_23 : decode cX7_thin 23 = .ok (.iload_n 2, 1) := by decide +kernel
theorem dX7_thin_24 : decode cX7_thin 24 = .ok (.iload_n 1, 1) := by decide +kernel
theorem dX7_thin_25 : decode cX7_thin 25 = .ok (.invokevirtual 371, 3) := by decide +kernel
theorem dX7_thin_28 : decode cX7_thin 28 = .ok (.ifCond .eq 5, 3) := by decide +kernel
theorem dX7_thin_31 : decode cX7_thin 31 = .ok (.iload_n 2, 1) := by decide +kernel
theorem dX7_thin_32 : decode cX7_thin 32 = .ok (.ireturn, 1) := by decide +kernel
theorem dX7_thin_33 : decode cX7_thin 33 = .ok (.iinc 2 1, 3) := by decide +kernel
theorem dX7_thin_36 : decode cX7_thin 36 = .ok (.goto (-20), 3) := by decide +kernel
theorem dX7_thin_39 : decode cX7_thin 39 = .ok (.bipush (-5), 2) := by decide +kernel
theorem dX7_thin_41 : decode cX7_thin 41 = .ok (.ireturn, 1) := by decide +kernel
theorem dX7_pact_0 : decode cX7_pact 0 = .ok (.aload_n 0, 1) := by decide +kernel
theorem dX7_pact_1 : decode cX7_pact 1 = .ok (.iload_n 1, 1) := by decide +kernel
theorem dX7_pact_2 : decode cX7_pact 2 = .ok (.invokevirtual 220, 3) := by decide +kernel
theorem dX7_pact_5 : decode cX7_pact 5 = .ok (.ifCond .eq 11, 3) := by decide +kernel
theorem dX7_pact_8 : decode cX7_pact 8 = .ok (.aload_n 0, 1) := by decide +kernel
theorem dX7_pact_9 : decode cX7_pact 9 = .ok (.iload_n 2, 1) := by decide +kernel
theorem dX7_pact_10 : decode cX7_pact 10 = .ok (.invokevirtual 220, 3) := by decide +kernel
theorem dX7_pact_13 : decode cX7_pact 13 = .ok (.ifCond .ne 7, 3) := by decide +kernel
theorem dX7_pact_16 : decode cX7_pact 16 = .ok (.ldc_w 339, 3) := by decide +kernel
theorem dX7_pact_19 : decode cX7_pact 19 = .ok (.ireturn, 1) := by decide +kernel
theorem dX7_pact_20 : decode cX7_pact 20 = .ok (.iload_n 1, 1) := by decide +kernel
theorem dX7_pact_21 : decode cX7_pact 21 = .ok (.iload_n 2, 1) := by decide +kernel
theorem dX7_pact_22 : decode cX7_pact 22 = .ok (.if_icmp .eq 14, 3) := by decide +kernel
theorem dX7_pact_25 : decode cX7_pact 25 = .ok (.aload_n 0, 1) := by decide +kernel
theorem dX7_pact_26 : decode cX7_pact 26 = .ok (.iload_n 3, 1) := by decide +kernel
theorem dX7_pact_27 : decode cX7_pact 27 = .ok (.iconst 0, 1) := by decide +kernel
theorem dX7_pact_28 : decode cX7_pact 28 = .ok (.bipush 60, 2) := by decide +kernel
theorem dX7_pact_30 : decode cX7_pact 30 = .ok (.invokevirtual 212, 3) := by decide +kernel
theorem dX7_pact_33 : decode cX7_pact 33 = .ok (.ifCond .ne 7, 3) := by decide +kernel
theorem dX7_pact_36 : decode cX7_pact 36 = .ok (.ldc_w 340, 3) := by decide +kernel
theorem dX7_pact_39 : decode cX7_pact 39 = .ok (.ireturn, 1) := by decide +kernel
theorem dX7_pact_40 : decode cX7_pact 40 = .ok (.aload_n 0, 1) := by decide +kernel
theorem dX7_pact_41 : decode cX7_pact 41 = .ok (.iload_n 1, 1) := by decide +kernel
theorem dX7_pact_42 : decode cX7_pact 42 = .ok (.iload_n 3, 1) := by decide +kernel
theorem dX7_pact_43 : decode cX7_pact 43 = .ok (.invokevirtual 368, 3) := by decide +kernel
theorem dX7_pact_46 : decode cX7_pact 46 = .ok (.aload_n 0, 1) := by decide +kernel
theorem dX7_pact_47 : decode cX7_pact 47 = .ok (.iload_n 2, 1) := by decide +kernel
theorem dX7_pact_48 : decode cX7_pact 48 = .ok (.iload_n 3, 1) := by decide +kernel
theorem dX7_pact_49 : decode cX7_pact 49 = .ok (.invokevirtual 368, 3) := by decide +kernel
theorem dX7_pact_52 : decode cX7_pact 52 = .ok (.iadd, 1) := by decide +kernel
theorem dX7_pact_53 : decode cX7_pact 53 = .ok (.istore 4, 2) := by decide +kernel
theorem dX7_pact_55 : decode cX7_pact 55 = .ok (.aload_n 0, 1) := by decide +kernel
theorem dX7_pact_56 : decode cX7_pact 56 = .ok (.aload_n 0, 1) := by decide +kernel
theorem dX7_pact_57 : decode cX7_pact 57 = .ok (.iload_n 1, 1) := by decide +kernel
theorem dX7_pact_58 : decode cX7_pact 58 = .ok (.iload_n 2, 1) := by decide +kernel
theorem dX7_pact_59 : decode cX7_pact 59 = .ok (.invokevirtual 315, 3) := by decide +kernel
theorem dX7_pact_62 : decode cX7_pact 62 = .ok (.putfield 118, 3) := by decide +kernel
theorem dX7_pact_65 : decode cX7_pact 65 = .ok (.aload_n 0, 1) := by decide +kernel
theorem dX7_pact_66 : decode cX7_pact 66 = .ok (.iload_n 1, 1) := by decide +kernel
theorem dX7_pact_67 : decode cX7_pact 67 = .ok (.iload_n 2, 1) := by decide +kernel
theorem dX7_pact_68 : decode cX7_pact 68 = .ok (.iadd, 1) := by decide +kernel
theorem dX7_pact_69 : decode cX7_pact 69 = .ok (.aload_n 0, 1) := by decide +kernel
theorem dX7_pact_70 : decode cX7_pact 70 = .ok (.getfield 118, 3) := by decide +kernel
theorem dX7_pact_73 : decode cX7_pact 73 = .ok (.isub, 1) := by decide +kernel
theorem dX7_pact_74 : decode cX7_pact 74 = .ok (.putfield 121, 3) := by decide +kernel
theorem dX7_pact_77 : decode cX7_pact 77 = .ok (.aload_n 0, 1) := by decide +kernel
theorem dX7_pact_78 : decode cX7_pact 78 = .ok (.iload_n 1, 1) := by decide +kernel
theorem dX7_pact_79 : decode cX7_pact 79 = .ok (.iload_n 3, 1) := by decide +kernel
theorem dX7_pact_80 : decode cX7_pact 80 = .ok (.invokevirtual 368, 3) := by decide +kernel
theorem dX7_pact_83 : decode cX7_pact 83 = .ok (.aload_n 0, 1) := by decide +kernel
theorem dX7_pact_84 : decode cX7_pact 84 = .ok (.iload_n 2, 1) := by decide +kernel
theorem dX7_pact_85 : decode cX7_pact 85 = .ok (.iload_n 3, 1) := by decide +kernel
theorem dX7_pact_86 : decode cX7_pact 86 = .ok (.invokevirtual 368, 3) := by decide +kernel
theorem dX7_pact_89 : decode cX7_pact 89 = .ok (.iadd, 1) := by decide +kernel
theorem dX7_pact_90 : decode cX7_pact 90 = .ok (.istore 5, 2) := by decide +kernel
theorem dX7_pact_92 : decode cX7_pact 92 = .ok (.aload_n 0, 1) := by decide +kernel
theorem dX7_pact_93 : decode cX7_pact 93 = .ok (.iconst (-1), 1) := by decide +kernel
theorem dX7_pact_94 : decode cX7_pact 94 = .ok (.putfield 118, 3) := by decide +kernel
theorem dX7_pact_97 : decode cX7_pact 97 = .ok (.aload_n 0, 1) := by decide +kernel
theorem dX7_pact_98 : decode cX7_pact 98 = .ok (.iconst (-1), 1) := by decide +kernel
theorem dX7_pact_99 : decode cX7_pact 99 = .ok (.putfield 121, 3) := by decide +kernel
theorem dX7_pact_102 : decode cX7_pact 102 = .ok (.iload 5, 2) := by decide +kernel
theorem dX7_pact_104 : decode cX7_pact 104 = .ok (.iload 4, 2) := by decide +kernel
theorem dX7_pact_106 : decode cX7_pact 106 = .ok (.isub, 1) := by decide +kernel
theorem dX7_pact_107 : decode cX7_pact 107 = .ok (.ireturn, 1) := by decide +kernel
theorem dX7_guest_0 : decode cX7_guest 0 = .ok (.aload_n 0, 1) := by decide +kernel
theorem dX7_guest_1 : decode cX7_guest 1 = .ok (.iload_n 1, 1) := by decide +kernel
theorem dX7_guest_2 : decode cX7_guest 2 = .ok (.iconst 0, 1) := by decide +kernel
theorem dX7_guest_3 : decode cX7_guest 3 = .ok (.bipush 9, 2) := by decide +kernel
theorem dX7_guest_5 : decode cX7_guest 5 = .ok (.invokevirtual 212, 3) := by decide +kernel
theorem dX7_guest_8 : decode cX7_guest 8 = .ok (.ifCond .ne 6, 3) := by decide +kernel
theorem dX7_guest_11 : decode cX7_guest 11 = .ok (.bipush (-2), 2) := by decide +kernel
theorem dX7_guest_13 : decode cX7_guest 13 = .ok (.ireturn, 1) := by decide +kernel
theorem dX7_guest_14 : decode cX7_guest 14 = .ok (.aload_n 0, 1) := by decide +kernel
theorem dX7_guest_15 : decode cX7_guest 15 = .ok (.getfield 7, 3) := by decide +kernel
theorem dX7_guest_18 : decode cX7_guest 18 = .ok (.iconst 5, 1) := by decide +kernel
theorem dX7_guest_19 : decode cX7_guest 19 = .ok (.if_icmp .ne 6, 3) := by decide +kernel
theorem dX7_guest_22 : decode cX7_guest 22 = .ok (.bipush (-3), 2) := by decide +kernel
theorem dX7_guest_24 : decode cX7_guest 24 = .ok (.ireturn, 1) := by decide +kernel
theorem dX7_guest_25 : decode cX7_guest 25 = .ok (.aload_n 0, 1) := by decide +kernel
theorem dX7_guest_26 : decode cX7_guest 26 = .ok (.aload_n 0, 1) := by decide +kernel
theorem dX7_guest_27 : decode cX7_guest 27 = .ok (.getfield 7, 3) := by decide +kernel
theorem dX7_guest_30 : decode cX7_guest 30 = .ok (.iconst 0, 1) := by decide +kernel
theorem dX7_guest_31 : decode cX7_guest 31 = .ok (.iconst 0, 1) := by decide +kernel
theorem dX7_guest_32 : decode cX7_guest 32 = .ok (.iload_n 1, 1) := by decide +kernel
theorem dX7_guest_33 : decode cX7_guest 33 = .ok (.invokevirtual 216, 3) := by decide +kernel
theorem dX7_guest_36 : decode cX7_guest 36 = .ok (.aload_n 0, 1) := by decide +kernel
theorem dX7_guest_37 : decode cX7_guest 37 = .ok (.dup, 1) := by decide +kernel
theorem dX7_guest_38 : decode cX7_guest 38 = .ok (.getfield 7, 3) := by decide +kernel
theorem dX7_guest_41 : decode cX7_guest 41 = .ok (.iconst 1, 1) := by decide +kernel
theorem dX7_guest_42 : decode cX7_guest 42 = .ok (.iadd, 1) := by decide +kernel
theorem dX7_guest_43 : decode cX7_guest 43 = .ok (.putfield 7, 3) := by decide +kernel
theorem dX7_guest_46 : decode cX7_guest 46 = .ok (.aload_n 0, 1) := by decide +kernel
theorem dX7_guest_47 : decode cX7_guest 47 = .ok (.invokevirtual 333, 3) := by decide +kernel
theorem dX7_guest_50 : decode cX7_guest 50 = .ok (.aload_n 0, 1) := by decide +kernel
theorem dX7_guest_51 : decode cX7_guest 51 = .ok (.invokevirtual 324, 3) := by decide +kernel
theorem dX7_guest_54 : decode cX7_guest 54 = .ok (.aload_n 0, 1) := by decide +kernel
theorem dX7_guest_55 : decode cX7_guest 55 = .ok (.dup, 1) := by decide +kernel
theorem dX7_guest_56 : decode cX7_guest 56 = .ok (.getfield 7, 3) := by decide +kernel
theorem dX7_guest_59 : decode cX7_guest 59 = .ok (.iconst 1, 1) := by decide +kernel
theorem dX7_guest_60 : decode cX7_guest 60 = .ok (.isub, 1) := by decide +kernel
theorem dX7_guest_61 : decode cX7_guest 61 = .ok (.putfield 7, 3) := by decide +kernel
theorem dX7_guest_64 : decode cX7_guest 64 = .ok (.aload_n 0, 1) := by decide +kernel
theorem dX7_guest_65 : decode cX7_guest 65 = .ok (.getfield 112, 3) := by decide +kernel
theorem dX7_guest_68 : decode cX7_guest 68 = .ok (.ireturn, 1) := by decide +kernel
theorem dX7_divisor_0 : decode cX7_divisor 0 = .ok (.lload_n 1, 1) := by decide +kernel
theorem dX7_divisor_1 : decode cX7_divisor 1 = .ok (.lconst 0, 1) := by decide +kernel
theorem dX7_divisor_2 : decode cX7_divisor 2 = .ok (.lcmp, 1) := by decide +kernel
theorem dX7_divisor_3 : decode cX7_divisor 3 = .ok (.ifCond .ge 8, 3) := by decide +kernel
theorem dX7_divisor_6 : decode cX7_divisor 6 = .ok (.lload_n 1, 1) := by decide +kernel
theorem dX7_divisor_7 : decode cX7_divisor 7 = .ok (.lneg, 1) := by decide +kernel
theorem dX7_divisor_8 : decode cX7_divisor 8 = .ok (.goto 4, 3) := by decide +kernel
theorem dX7_divisor_11 : decode cX7_divisor 11 = .ok (.lload_n 1, 1) := by decide +kernel
theorem dX7_divisor_12 : decode cX7_divisor 12 = .ok (.lstore 5, 2) := by decide +kernel
theorem dX7_divisor_14 : decode cX7_divisor 14 = .ok (.lload_n 3, 1) := by decide +kernel
theorem dX7_divisor_15 : decode cX7_divisor 15 = .ok (.lstore 7, 2) := by decide +kernel
theorem dX7_divisor_17 : decode cX7_divisor 17 = .ok (.lload 7, 2) := by decide +kernel
theorem dX7_divisor_19 : decode cX7_divisor 19 = .ok (.lconst 0, 1) := by decide +kernel
theorem dX7_divisor_20 : decode cX7_divisor 20 = .ok (.lcmp, 1) := by decide +kernel
theorem dX7_divisor_21 : decode cX7_divisor 21 = .ok (.ifCond .eq 21, 3) := by decide +kernel
theorem dX7_divisor_24 : decode cX7_divisor 24 = .ok (.lload 5, 2) := by decide +kernel
theorem dX7_divisor_26 : decode cX7_divisor 26 = .ok (.lload 7, 2) := by decide +kernel
theorem dX7_divisor_28 : decode cX7_divisor 28 = .ok (.lrem, 1) := by decide +kernel
theorem dX7_divisor_29 : decode cX7_divisor 29 = .ok (.lstore 9, 2) := by decide +kernel
theorem dX7_divisor_31 : decode cX7_divisor 31 = .ok (.lload 7, 2) := by decide +kernel
theorem dX7_divisor_33 : decode cX7_divisor 33 = .ok (.lstore 5, 2) := by decide +kernel
theorem dX7_divisor_35 : decode cX7_divisor 35 = .ok (.lload 9, 2) := by decide +kernel
theorem dX7_divisor_37 : decode cX7_divisor 37 = .ok (.lstore 7, 2) := by decide +kernel
theorem dX7_divisor_39 : decode cX7_divisor 39 = .ok (.goto (-22), 3) := by decide +kernel
theorem dX7_divisor_42 : decode cX7_divisor 42 = .ok (.lload 5, 2) := by decide +kernel
theorem dX7_divisor_44 : decode cX7_divisor 44 = .ok (.lreturn, 1) := by decide +kernel
theorem dX7_lowest_0 : decode cX7_lowest 0 = .ok (.aload_n 0, 1) := by decide +kernel
theorem dX7_lowest_1 : decode cX7_lowest 1 = .ok (.lload_n 1, 1) := by decide +kernel
theorem dX7_lowest_2 : decode cX7_lowest 2 = .ok (.lload_n 3, 1) := by decide +kernel
theorem dX7_lowest_3 : decode cX7_lowest 3 = .ok (.invokevirtual 374, 3) := by decide +kernel
theorem dX7_lowest_6 : decode cX7_lowest 6 = .ok (.lstore 6, 2) := by decide +kernel
theorem dX7_lowest_8 : decode cX7_lowest 8 = .ok (.iload 5, 2) := by decide +kernel
theorem dX7_lowest_10 : decode cX7_lowest 10 = .ok (.ifCond .ne 10, 3) := by decide +kernel
theorem dX7_lowest_13 : decode cX7_lowest 13 = .ok (.lload_n 1, 1) := by decide +kernel
theorem dX7_lowest_14 : decode cX7_lowest 14 = .ok (.lload 6, 2) := by decide +kernel
theorem dX7_lowest_16 : decode cX7_lowest 16 = .ok (.ldiv, 1) := by decide +kernel
theorem dX7_lowest_17 : decode cX7_lowest 17 = .ok (.goto 7, 3) := by decide +kernel
theorem dX7_lowest_20 : decode cX7_lowest 20 = .ok (.lload_n 3, 1) := by decide +kernel
theorem dX7_lowest_21 : decode cX7_lowest 21 = .ok (.lload 6, 2) := by decide +kernel
theorem dX7_lowest_23 : decode cX7_lowest 23 = .ok (.ldiv, 1) := by decide +kernel
theorem dX7_lowest_24 : decode cX7_lowest 24 = .ok (.lreturn, 1) := by decide +kernel
theorem dX7_odds_0 : decode cX7_odds 0 = .ok (.aload_n 0, 1) := by decide +kernel
theorem dX7_odds_1 : decode cX7_odds 1 = .ok (.iload_n 1, 1) := by decide +kernel
theorem dX7_odds_2 : decode cX7_odds 2 = .ok (.invokevirtual 220, 3) := by decide +kernel
theorem dX7_odds_5 : decode cX7_odds 5 = .ok (.ifCond .eq 13, 3) := by decide +kernel
theorem dX7_odds_8 : decode cX7_odds 8 = .ok (.aload_n 0, 1) := by decide +kernel
theorem dX7_odds_9 : decode cX7_odds 9 = .ok (.iload_n 2, 1) := by decide +kernel
theorem dX7_odds_10 : decode cX7_odds 10 = .ok (.iconst 0, 1) := by decide +kernel
theorem dX7_odds_11 : decode cX7_odds 11 = .ok (.iconst 1, 1) := by decide +kernel
theorem dX7_odds_12 : decode cX7_odds 12 = .ok (.invokevirtual 212, 3) := by decide +kernel
theorem dX7_odds_15 : decode cX7_odds 15 = .ok (.ifCond .ne 7, 3) := by decide +kernel
theorem dX7_odds_18 : decode cX7_odds 18 = .ok (.ldc2_w 378, 3) := by decide +kernel
theorem dX7_odds_21 : decode cX7_odds 21 = .ok (.lreturn, 1) := by decide +kernel
theorem dX7_odds_22 : decode cX7_odds 22 = .ok (.aload_n 0, 1) := by decide +kernel
theorem dX7_odds_23 : decode cX7_odds 23 = .ok (.invokevirtual 333, 3) := by decide +kernel
theorem dX7_odds_26 : decode cX7_odds 26 = .ok (.aload_n 0, 1) := by decide +kernel
theorem dX7_odds_27 : decode cX7_odds 27 = .ok (.invokevirtual 324, 3) := by decide +kernel
theorem dX7_odds_30 : decode cX7_odds 30 = .ok (.aload_n 0, 1) := by decide +kernel
theorem dX7_odds_31 : decode cX7_odds 31 = .ok (.invokevirtual 297, 3) := by decide +kernel
theorem dX7_odds_34 : decode cX7_odds 34 = .ok (.istore_n 3, 1) := by decide +kernel
theorem dX7_odds_35 : decode cX7_odds 35 = .ok (.iconst 0, 1) := by decide +kernel
theorem dX7_odds_36 : decode cX7_odds 36 = .ok (.istore 4, 2) := by decide +kernel
theorem dX7_odds_38 : decode cX7_odds 38 = .ok (.iconst 0, 1) := by decide +kernel
theorem dX7_odds_39 : decode cX7_odds 39 = .ok (.istore 5, 2) := by decide +kernel
theorem dX7_odds_41 : decode cX7_odds 41 = .ok (.iload 5, 2) := by decide +kernel
theorem dX7_odds_43 : decode cX7_odds 43 = .ok (.aload_n 0, 1) := by decide +kernel
theorem dX7_odds_44 : decode cX7_odds 44 = .ok (.getfield 7, 3) := by decide +kernel
theorem dX7_odds_47 : decode cX7_odds 47 = .ok (.if_icmp .ge 42, 3) := by decide +kernel
theorem dX7_odds_50 : decode cX7_odds 50 = .ok (.iload 4, 2) := by decide +kernel
theorem dX7_odds_52 : decode cX7_odds 52 = .ok (.aload_n 0, 1) := by decide +kernel
theorem dX7_odds_53 : decode cX7_odds 53 = .ok (.getfield 106, 3) := by decide +kernel
theorem dX7_odds_56 : decode cX7_odds 56 = .ok (.iload 5, 2) := by decide +kernel
theorem dX7_odds_58 : decode cX7_odds 58 = .ok (.iaload, 1) := by decide +kernel
theorem dX7_odds_59 : decode cX7_odds 59 = .ok (.iload_n 3, 1) := by decide +kernel
theorem dX7_odds_60 : decode cX7_odds 60 = .ok (.idiv, 1) := by decide +kernel
end
section
theorem dX7_odds_61 : decode cX7_odds 61 = .ok (.aload_n 0, 1) := by decide +kernel
theorem dX7_odds_62 : decode cX7_odds 62 = .ok (.getfield 106, 3) := by decide +kernel
theorem dX7_odds_65 : decode cX7_odds 65 = .ok (.aload_n 0, 1) := by decide +kernel
theorem dX7_odds_66 : decode cX7_odds 66 = .ok (.getfield 112, 3) := by decide +kernel
theorem dX7_odds_69 : decode cX7_odds 69 = .ok (.iaload, 1) := by decide +kernel
theorem dX7_odds_70 : decode cX7_odds 70 = .ok (.iload_n 3, 1) := by decide +kernel
theorem dX7_odds_71 : decode cX7_odds 71 = .ok (.idiv, 1) := by decide +kernel
theorem dX7_odds_72 : decode cX7_odds 72 = .ok (.if_icmp .ne 7, 3) := by decide +kernel
theorem dX7_odds_75 : decode cX7_odds 75 = .ok (.iconst 1, 1) := by decide +kernel
theorem dX7_odds_76 : decode cX7_odds 76 = .ok (.goto 4, 3) := by decide +kernel
theorem dX7_odds_79 : decode cX7_odds 79 = .ok (.iconst 0, 1) := by decide +kernel
theorem dX7_odds_80 : decode cX7_odds 80 = .ok (.iadd, 1) := by decide +kernel
theorem dX7_odds_81 : decode cX7_odds 81 = .ok (.istore 4, 2) := by decide +kernel
theorem dX7_odds_83 : decode cX7_odds 83 = .ok (.iinc 5 1, 3) := by decide +kernel
theorem dX7_odds_86 : decode cX7_odds 86 = .ok (.goto (-45), 3) := by decide +kernel
theorem dX7_odds_89 : decode cX7_odds 89 = .ok (.aload_n 0, 1) := by decide +kernel
theorem dX7_odds_90 : decode cX7_odds 90 = .ok (.getfield 106, 3) := by decide +kernel
theorem dX7_odds_93 : decode cX7_odds 93 = .ok (.iload_n 1, 1) := by decide +kernel
theorem dX7_odds_94 : decode cX7_odds 94 = .ok (.iaload, 1) := by decide +kernel
theorem dX7_odds_95 : decode cX7_odds 95 = .ok (.iload_n 3, 1) := by decide +kernel
theorem dX7_odds_96 : decode cX7_odds 96 = .ok (.idiv, 1) := by decide +kernel
theorem dX7_odds_97 : decode cX7_odds 97 = .ok (.aload_n 0, 1) := by decide +kernel
theorem dX7_odds_98 : decode cX7_odds 98 = .ok (.getfield 106, 3) := by decide +kernel
theorem dX7_odds_101 : decode cX7_odds 101 = .ok (.aload_n 0, 1) := by decide +kernel
theorem dX7_odds_102 : decode cX7_odds 102 = .ok (.getfield 112, 3) := by decide +kernel
theorem dX7_odds_105 : decode cX7_odds 105 = .ok (.iaload, 1) := by decide +kernel
theorem dX7_odds_106 : decode cX7_odds 106 = .ok (.iload_n 3, 1) := by decide +kernel
theorem dX7_odds_107 : decode cX7_odds 107 = .ok (.idiv, 1) := by decide +kernel
theorem dX7_odds_108 : decode cX7_odds 108 = .ok (.if_icmp .ne 15, 3) := by decide +kernel
theorem dX7_odds_111 : decode cX7_odds 111 = .ok (.aload_n 0, 1) := by decide +kernel
theorem dX7_odds_112 : decode cX7_odds 112 = .ok (.lconst 1, 1) := by decide +kernel
theorem dX7_odds_113 : decode cX7_odds 113 = .ok (.iload 4, 2) := by decide +kernel
theorem dX7_odds_115 : decode cX7_odds 115 = .ok (.i2l, 1) := by decide +kernel
theorem dX7_odds_116 : decode cX7_odds 116 = .ok (.iload_n 2, 1) := by decide +kernel
theorem dX7_odds_117 : decode cX7_odds 117 = .ok (.invokevirtual 380, 3) := by decide +kernel
theorem dX7_odds_120 : decode cX7_odds 120 = .ok (.goto 5, 3) := by decide +kernel
theorem dX7_odds_123 : decode cX7_odds 123 = .ok (.iload_n 2, 1) := by decide +kernel
theorem dX7_odds_124 : decode cX7_odds 124 = .ok (.i2l, 1) := by decide +kernel
theorem dX7_odds_125 : decode cX7_odds 125 = .ok (.lreturn, 1) := by decide +kernel
theorem dX7_mean_0 : decode cX7_mean 0 = .ok (.aload_n 0, 1) := by decide +kernel
theorem dX7_mean_1 : decode cX7_mean 1 = .ok (.iload_n 1, 1) := by decide +kernel
theorem dX7_mean_2 : decode cX7_mean 2 = .ok (.iconst 1, 1) := by decide +kernel
theorem dX7_mean_3 : decode cX7_mean 3 = .ok (.bipush 60, 2) := by decide +kernel
theorem dX7_mean_5 : decode cX7_mean 5 = .ok (.invokevirtual 212, 3) := by decide +kernel
theorem dX7_mean_8 : decode cX7_mean 8 = .ok (.ifCond .eq 20, 3) := by decide +kernel
theorem dX7_mean_11 : decode cX7_mean 11 = .ok (.aload_n 0, 1) := by decide +kernel
theorem dX7_mean_12 : decode cX7_mean 12 = .ok (.getfield 7, 3) := by decide +kernel
theorem dX7_mean_15 : decode cX7_mean 15 = .ok (.ifCond .eq 13, 3) := by decide +kernel
theorem dX7_mean_18 : decode cX7_mean 18 = .ok (.aload_n 0, 1) := by decide +kernel
theorem dX7_mean_19 : decode cX7_mean 19 = .ok (.iload_n 2, 1) := by decide +kernel
theorem dX7_mean_20 : decode cX7_mean 20 = .ok (.iconst 0, 1) := by decide +kernel
theorem dX7_mean_21 : decode cX7_mean 21 = .ok (.iconst 1, 1) := by decide +kernel
theorem dX7_mean_22 : decode cX7_mean 22 = .ok (.invokevirtual 212, 3) := by decide +kernel
theorem dX7_mean_25 : decode cX7_mean 25 = .ok (.ifCond .ne 7, 3) := by decide +kernel
theorem dX7_mean_28 : decode cX7_mean 28 = .ok (.ldc2_w 378, 3) := by decide +kernel
theorem dX7_mean_31 : decode cX7_mean 31 = .ok (.lreturn, 1) := by decide +kernel
theorem dX7_mean_32 : decode cX7_mean 32 = .ok (.aload_n 0, 1) := by decide +kernel
theorem dX7_mean_33 : decode cX7_mean 33 = .ok (.invokevirtual 365, 3) := by decide +kernel
theorem dX7_mean_36 : decode cX7_mean 36 = .ok (.istore_n 3, 1) := by decide +kernel
theorem dX7_mean_37 : decode cX7_mean 37 = .ok (.aload_n 0, 1) := by decide +kernel
theorem dX7_mean_38 : decode cX7_mean 38 = .ok (.invokevirtual 341, 3) := by decide +kernel
theorem dX7_mean_41 : decode cX7_mean 41 = .ok (.aload_n 0, 1) := by decide +kernel
theorem dX7_mean_42 : decode cX7_mean 42 = .ok (.iload_n 1, 1) := by decide +kernel
theorem dX7_mean_43 : decode cX7_mean 43 = .ok (.invokevirtual 344, 3) := by decide +kernel
theorem dX7_mean_46 : decode cX7_mean 46 = .ok (.aload_n 0, 1) := by decide +kernel
theorem dX7_mean_47 : decode cX7_mean 47 = .ok (.invokevirtual 365, 3) := by decide +kernel
theorem dX7_mean_50 : decode cX7_mean 50 = .ok (.istore 4, 2) := by decide +kernel
theorem dX7_mean_52 : decode cX7_mean 52 = .ok (.aload_n 0, 1) := by decide +kernel
theorem dX7_mean_53 : decode cX7_mean 53 = .ok (.invokevirtual 347, 3) := by decide +kernel
theorem dX7_mean_56 : decode cX7_mean 56 = .ok (.aload_n 0, 1) := by decide +kernel
theorem dX7_mean_57 : decode cX7_mean 57 = .ok (.iload 4, 2) := by decide +kernel
theorem dX7_mean_59 : decode cX7_mean 59 = .ok (.iload_n 3, 1) := by decide +kernel
theorem dX7_mean_60 : decode cX7_mean 60 = .ok (.isub, 1) := by decide +kernel
theorem dX7_mean_61 : decode cX7_mean 61 = .ok (.i2l, 1) := by decide +kernel
theorem dX7_mean_62 : decode cX7_mean 62 = .ok (.iload_n 1, 1) := by decide +kernel
theorem dX7_mean_63 : decode cX7_mean 63 = .ok (.aload_n 0, 1) := by decide +kernel
theorem dX7_mean_64 : decode cX7_mean 64 = .ok (.getfield 7, 3) := by decide +kernel
theorem dX7_mean_67 : decode cX7_mean 67 = .ok (.imul, 1) := by decide +kernel
theorem dX7_mean_68 : decode cX7_mean 68 = .ok (.i2l, 1) := by decide +kernel
theorem dX7_mean_69 : decode cX7_mean 69 = .ok (.iload_n 2, 1) := by decide +kernel
theorem dX7_mean_70 : decode cX7_mean 70 = .ok (.invokevirtual 380, 3) := by decide +kernel
theorem dX7_mean_73 : decode cX7_mean 73 = .ok (.lreturn, 1) := by decide +kernel
theorem dX7_book_0 : decode cX7_book 0 = .ok (.iload_n 1, 1) := by decide +kernel
theorem dX7_book_1 : decode cX7_book 1 = .ok (.iconst (-1), 1) := by decide +kernel
theorem dX7_book_2 : decode cX7_book 2 = .ok (.if_icmp .ne 10, 3) := by decide +kernel
theorem dX7_book_5 : decode cX7_book 5 = .ok (.aload_n 0, 1) := by decide +kernel
theorem dX7_book_6 : decode cX7_book 6 = .ok (.iconst 0, 1) := by decide +kernel
theorem dX7_book_7 : decode cX7_book 7 = .ok (.putfield 145, 3) := by decide +kernel
theorem dX7_book_10 : decode cX7_book 10 = .ok (.iconst 0, 1) := by decide +kernel
theorem dX7_book_11 : decode cX7_book 11 = .ok (.ireturn, 1) := by decide +kernel
theorem dX7_book_12 : decode cX7_book 12 = .ok (.aload_n 0, 1) := by decide +kernel
theorem dX7_book_13 : decode cX7_book 13 = .ok (.iload_n 1, 1) := by decide +kernel
theorem dX7_book_14 : decode cX7_book 14 = .ok (.iconst 0, 1) := by decide +kernel
theorem dX7_book_15 : decode cX7_book 15 = .ok (.bipush 99, 2) := by decide +kernel
theorem dX7_book_17 : decode cX7_book 17 = .ok (.invokevirtual 212, 3) := by decide +kernel
theorem dX7_book_20 : decode cX7_book 20 = .ok (.ifCond .ne 6, 3) := by decide +kernel
theorem dX7_book_23 : decode cX7_book 23 = .ok (.bipush (-2), 2) := by decide +kernel
theorem dX7_book_25 : decode cX7_book 25 = .ok (.ireturn, 1) := by decide +kernel
theorem dX7_book_26 : decode cX7_book 26 = .ok (.aload_n 0, 1) := by decide +kernel
theorem dX7_book_27 : decode cX7_book 27 = .ok (.getfield 145, 3) := by decide +kernel
theorem dX7_book_30 : decode cX7_book 30 = .ok (.bipush 12, 2) := by decide +kernel
theorem dX7_book_32 : decode cX7_book 32 = .ok (.if_icmp .ne 6, 3) := by decide +kernel
theorem dX7_book_35 : decode cX7_book 35 = .ok (.bipush (-4), 2) := by decide +kernel
theorem dX7_book_37 : decode cX7_book 37 = .ok (.ireturn, 1) := by decide +kernel
theorem dX7_book_38 : decode cX7_book 38 = .ok (.aload_n 0, 1) := by decide +kernel
theorem dX7_book_39 : decode cX7_book 39 = .ok (.getfield 148, 3) := by decide +kernel
theorem dX7_book_42 : decode cX7_book 42 = .ok (.aload_n 0, 1) := by decide +kernel
theorem dX7_book_43 : decode cX7_book 43 = .ok (.getfield 145, 3) := by decide +kernel
theorem dX7_book_46 : decode cX7_book 46 = .ok (.iload_n 1, 1) := by decide +kernel
theorem dX7_book_47 : decode cX7_book 47 = .ok (.iastore, 1) := by decide +kernel
theorem dX7_book_48 : decode cX7_book 48 = .ok (.aload_n 0, 1) := by decide +kernel
theorem dX7_book_49 : decode cX7_book 49 = .ok (.dup, 1) := by decide +kernel
theorem dX7_book_50 : decode cX7_book 50 = .ok (.getfield 145, 3) := by decide +kernel
theorem dX7_book_53 : decode cX7_book 53 = .ok (.iconst 1, 1) := by decide +kernel
theorem dX7_book_54 : decode cX7_book 54 = .ok (.iadd, 1) := by decide +kernel
theorem dX7_book_55 : decode cX7_book 55 = .ok (.putfield 145, 3) := by decide +kernel
theorem dX7_book_58 : decode cX7_book 58 = .ok (.aload_n 0, 1) := by decide +kernel
theorem dX7_book_59 : decode cX7_book 59 = .ok (.getfield 145, 3) := by decide +kernel
theorem dX7_book_62 : decode cX7_book 62 = .ok (.ireturn, 1) := by decide +kernel
theorem dX7_looked_0 : decode cX7_looked 0 = .ok (.aload_n 0, 1) := by decide +kernel
theorem dX7_looked_1 : decode cX7_looked 1 = .ok (.invokevirtual 341, 3) := by decide +kernel
theorem dX7_looked_4 : decode cX7_looked 4 = .ok (.bipush (-5), 2) := by decide +kernel
theorem dX7_looked_6 : decode cX7_looked 6 = .ok (.istore_n 1, 1) := by decide +kernel
theorem dX7_looked_7 : decode cX7_looked 7 = .ok (.iconst 0, 1) := by decide +kernel
theorem dX7_looked_8 : decode cX7_looked 8 = .ok (.istore_n 2, 1) := by decide +kernel
theorem dX7_looked_9 : decode cX7_looked 9 = .ok (.iload_n 2, 1) := by decide +kernel
theorem dX7_looked_10 : decode cX7_looked 10 = .ok (.aload_n 0, 1) := by decide +kernel
theorem dX7_looked_11 : decode cX7_looked 11 = .ok (.getfield 145, 3) := by decide +kernel
theorem dX7_looked_14 : decode cX7_looked 14 = .ok (.if_icmp .ge 37, 3) := by decide +kernel
theorem dX7_looked_17 : decode cX7_looked 17 = .ok (.iload_n 1, 1) := by decide +kernel
theorem dX7_looked_18 : decode cX7_looked 18 = .ok (.ifCond .ge 33, 3) := by decide +kernel
theorem dX7_looked_21 : decode cX7_looked 21 = .ok (.aload_n 0, 1) := by decide +kernel
theorem dX7_looked_22 : decode cX7_looked 22 = .ok (.invokevirtual 336, 3) := by decide +kernel
theorem dX7_looked_25 : decode cX7_looked 25 = .ok (.aload_n 0, 1) := by decide +kernel
theorem dX7_looked_26 : decode cX7_looked 26 = .ok (.getfield 13, 3) := by decide +kernel
theorem dX7_looked_29 : decode cX7_looked 29 = .ok (.aload_n 0, 1) := by decide +kernel
theorem dX7_looked_30 : decode cX7_looked 30 = .ok (.getfield 148, 3) := by decide +kernel
theorem dX7_looked_33 : decode cX7_looked 33 = .ok (.iload_n 2, 1) := by decide +kernel
theorem dX7_looked_34 : decode cX7_looked 34 = .ok (.iaload, 1) := by decide +kernel
theorem dX7_looked_35 : decode cX7_looked 35 = .ok (.if_icmp .ne 8, 3) := by decide +kernel
theorem dX7_looked_38 : decode cX7_looked 38 = .ok (.bipush (-5), 2) := by decide +kernel
theorem dX7_looked_40 : decode cX7_looked 40 = .ok (.goto 4, 3) := by decide +kernel
theorem dX7_looked_43 : decode cX7_looked 43 = .ok (.iload_n 2, 1) := by decide +kernel
theorem dX7_looked_44 : decode cX7_looked 44 = .ok (.istore_n 1, 1) := by decide +kernel
theorem dX7_looked_45 : decode cX7_looked 45 = .ok (.iinc 2 1, 3) := by decide +kernel
theorem dX7_looked_48 : decode cX7_looked 48 = .ok (.goto (-39), 3) := by decide +kernel
theorem dX7_looked_51 : decode cX7_looked 51 = .ok (.aload_n 0, 1) := by decide +kernel
theorem dX7_looked_52 : decode cX7_looked 52 = .ok (.invokevirtual 347, 3) := by decide +kernel
theorem dX7_looked_55 : decode cX7_looked 55 = .ok (.iload_n 1, 1) := by decide +kernel
theorem dX7_looked_56 : decode cX7_looked 56 = .ok (.ireturn, 1) := by decide +kernel
theorem dX7_judge_0 : decode cX7_judge 0 = .ok (.aload_n 0, 1) := by decide +kernel
theorem dX7_judge_1 : decode cX7_judge 1 = .ok (.iload_n 1, 1) := by decide +kernel
theorem dX7_judge_2 : decode cX7_judge 2 = .ok (.invokevirtual 384, 3) := by decide +kernel
theorem dX7_judge_5 : decode cX7_judge 5 = .ok (.ifCond .ne 5, 3) := by decide +kernel
theorem dX7_judge_8 : decode cX7_judge 8 = .ok (.iconst (-1), 1) := by decide +kernel
theorem dX7_judge_9 : decode cX7_judge 9 = .ok (.ireturn, 1) := by decide +kernel
theorem dX7_judge_10 : decode cX7_judge 10 = .ok (.aload_n 0, 1) := by decide +kernel
theorem dX7_judge_11 : decode cX7_judge 11 = .ok (.getfield 199, 3) := by decide +kernel
theorem dX7_judge_14 : decode cX7_judge 14 = .ok (.iload_n 1, 1) := by decide +kernel
theorem dX7_judge_15 : decode cX7_judge 15 = .ok (.iaload, 1) := by decide +kernel
theorem dX7_judge_16 : decode cX7_judge 16 = .ok (.ifCond .lt 16, 3) := by decide +kernel
theorem dX7_judge_19 : decode cX7_judge 19 = .ok (.aload_n 0, 1) := by decide +kernel
theorem dX7_judge_20 : decode cX7_judge 20 = .ok (.getfield 199, 3) := by decide +kernel
theorem dX7_judge_23 : decode cX7_judge 23 = .ok (.iload_n 1, 1) := by decide +kernel
theorem dX7_judge_24 : decode cX7_judge 24 = .ok (.iaload, 1) := by decide +kernel
theorem dX7_judge_25 : decode cX7_judge 25 = .ok (.iconst 2, 1) := by decide +kernel
theorem dX7_judge_26 : decode cX7_judge 26 = .ok (.if_icmp .eq 6, 3) := by decide +kernel
theorem dX7_judge_29 : decode cX7_judge 29 = .ok (.bipush (-12), 2) := by decide +kernel
theorem dX7_judge_31 : decode cX7_judge 31 = .ok (.ireturn, 1) := by decide +kernel
theorem dX7_judge_32 : decode cX7_judge 32 = .ok (.iconst 0, 1) := by decide +kernel
theorem dX7_judge_33 : decode cX7_judge 33 = .ok (.istore_n 3, 1) := by decide +kernel
theorem dX7_judge_34 : decode cX7_judge 34 = .ok (.iload_n 3, 1) := by decide +kernel
theorem dX7_judge_35 : decode cX7_judge 35 = .ok (.aload_n 0, 1) := by decide +kernel
theorem dX7_judge_36 : decode cX7_judge 36 = .ok (.getfield 7, 3) := by decide +kernel
theorem dX7_judge_39 : decode cX7_judge 39 = .ok (.if_icmp .ge 67, 3) := by decide +kernel
theorem dX7_judge_42 : decode cX7_judge 42 = .ok (.aload_n 0, 1) := by decide +kernel
theorem dX7_judge_43 : decode cX7_judge 43 = .ok (.getfield 199, 3) := by decide +kernel
theorem dX7_judge_46 : decode cX7_judge 46 = .ok (.iload_n 1, 1) := by decide +kernel
theorem dX7_judge_47 : decode cX7_judge 47 = .ok (.iaload, 1) := by decide +kernel
theorem dX7_judge_48 : decode cX7_judge 48 = .ok (.ifCond .lt 21, 3) := by decide +kernel
theorem dX7_judge_51 : decode cX7_judge 51 = .ok (.iload_n 2, 1) := by decide +kernel
theorem dX7_judge_52 : decode cX7_judge 52 = .ok (.ifCond .lt 17, 3) := by decide +kernel
theorem dX7_judge_55 : decode cX7_judge 55 = .ok (.iload_n 2, 1) := by decide +kernel
theorem dX7_judge_56 : decode cX7_judge 56 = .ok (.aload_n 0, 1) := by decide +kernel
theorem dX7_judge_57 : decode cX7_judge 57 = .ok (.getfield 202, 3) := by decide +kernel
theorem dX7_judge_60 : decode cX7_judge 60 = .ok (.iload_n 1, 1) := by decide +kernel
theorem dX7_judge_61 : decode cX7_judge 61 = .ok (.iaload, 1) := by decide +kernel
theorem dX7_judge_62 : decode cX7_judge 62 = .ok (.iload_n 3, 1) := by decide +kernel
theorem dX7_judge_63 : decode cX7_judge 63 = .ok (.isub, 1) := by decide +kernel
theorem dX7_judge_64 : decode cX7_judge 64 = .ok (.iconst 1, 1) := by decide +kernel
theorem dX7_judge_65 : decode cX7_judge 65 = .ok (.isub, 1) := by decide +kernel
theorem dX7_judge_66 : decode cX7_judge 66 = .ok (.if_icmp .le 8, 3) := by decide +kernel
theorem dX7_judge_69 : decode cX7_judge 69 = .ok (.bipush 100, 2) := by decide +kernel
theorem dX7_judge_71 : decode cX7_judge 71 = .ok (.iload_n 3, 1) := by decide +kernel
theorem dX7_judge_72 : decode cX7_judge 72 = .ok (.iadd, 1) := by decide +kernel
theorem dX7_judge_73 : decode cX7_judge 73 = .ok (.ireturn, 1) := by decide +kernel
theorem dX7_judge_74 : decode cX7_judge 74 = .ok (.aload_n 0, 1) := by decide +kernel
theorem dX7_judge_75 : decode cX7_judge 75 = .ok (.getfield 205, 3) := by decide +kernel
theorem dX7_judge_78 : decode cX7_judge 78 = .ok (.bipush 60, 2) := by decide +kernel
theorem dX7_judge_80 : decode cX7_judge 80 = .ok (.iload_n 1, 1) := by decide +kernel
theorem dX7_judge_81 : decode cX7_judge 81 = .ok (.imul, 1) := by decide +kernel
theorem dX7_judge_82 : decode cX7_judge 82 = .ok (.iload_n 2, 1) := by decide +kernel
theorem dX7_judge_83 : decode cX7_judge 83 = .ok (.iadd, 1) := by decide +kernel
theorem dX7_judge_84 : decode cX7_judge 84 = .ok (.iload_n 3, 1) := by decide +kernel
theorem dX7_judge_85 : decode cX7_judge 85 = .ok (.iadd, 1) := by decide +kernel
theorem dX7_judge_86 : decode cX7_judge 86 = .ok (.laload, 1) := by decide +kernel
theorem dX7_judge_87 : decode cX7_judge 87 = .ok (.aload_n 0, 1) := by decide +kernel
theorem dX7_judge_88 : decode cX7_judge 88 = .ok (.getfield 35, 3) := by decide +kernel
theorem dX7_judge_91 : decode cX7_judge 91 = .ok (.iload_n 3, 1) := by decide +kernel
theorem dX7_judge_92 : decode cX7_judge 92 = .ok (.iaload, 1) := by decide +kernel
theorem dX7_judge_93 : decode cX7_judge 93 = .ok (.i2l, 1) := by decide +kernel
theorem dX7_judge_94 : decode cX7_judge 94 = .ok (.lcmp, 1) := by decide +kernel
theorem dX7_judge_95 : decode cX7_judge 95 = .ok (.ifCond .eq 5, 3) := by decide +kernel
theorem dX7_judge_98 : decode cX7_judge 98 = .ok (.iload_n 3, 1) := by decide +kernel
theorem dX7_judge_99 : decode cX7_judge 99 = .ok (.ireturn, 1) := by decide +kernel
theorem dX7_judge_100 : decode cX7_judge 100 = .ok (.iinc 3 1, 3) := by decide +kernel
theorem dX7_judge_103 : decode cX7_judge 103 = .ok (.goto (-69), 3) := by decide +kernel
theorem dX7_judge_106 : decode cX7_judge 106 = .ok (.bipush (-5), 2) := by decide +kernel
theorem dX7_judge_108 : decode cX7_judge 108 = .ok (.ireturn, 1) := by decide +kernel
theorem dX7_image_0 : decode cX7_image 0 = .ok (.aload_n 0, 1) := by decide +kernel
theorem dX7_image_1 : decode cX7_image 1 = .ok (.iconst 1, 1) := by decide +kernel
theorem dX7_image_2 : decode cX7_image 2 = .ok (.putfield 151, 3) := by decide +kernel
theorem dX7_image_5 : decode cX7_image 5 = .ok (.aload_n 0, 1) := by decide +kernel
theorem dX7_image_6 : decode cX7_image 6 = .ok (.aload_n 0, 1) := by decide +kernel
theorem dX7_image_7 : decode cX7_image 7 = .ok (.getfield 44, 3) := by decide +kernel
theorem dX7_image_10 : decode cX7_image 10 = .ok (.putfield 154, 3) := by decide +kernel
theorem dX7_image_13 : decode cX7_image 13 = .ok (.aload_n 0, 1) := by decide +kernel
theorem dX7_image_14 : decode cX7_image 14 = .ok (.aload_n 0, 1) := by decide +kernel
theorem dX7_image_15 : decode cX7_image 15 = .ok (.getfield 7, 3) := by decide +kernel
theorem dX7_image_18 : decode cX7_image 18 = .ok (.putfield 157, 3) := by decide +kernel
theorem dX7_image_21 : decode cX7_image 21 = .ok (.aload_n 0, 1) := by decide +kernel
theorem dX7_image_22 : decode cX7_image 22 = .ok (.aload_n 0, 1) := by decide +kernel
theorem dX7_image_23 : decode cX7_image 23 = .ok (.getfield 13, 3) := by decide +kernel
theorem dX7_image_26 : decode cX7_image 26 = .ok (.putfield 160, 3) := by decide +kernel
theorem dX7_image_29 : decode cX7_image 29 = .ok (.aload_n 0, 1) := by decide +kernel
theorem dX7_image_30 : decode cX7_image 30 = .ok (.aload_n 0, 1) := by decide +kernel
theorem dX7_image_31 : decode cX7_image 31 = .ok (.getfield 16, 3) := by decide +kernel
theorem dX7_image_34 : decode cX7_image 34 = .ok (.putfield 163, 3) := by decide +kernel
theorem dX7_image_37 : decode cX7_image 37 = .ok (.aload_n 0, 1) := by decide +kernel
theorem dX7_image_38 : decode cX7_image 38 = .ok (.aload_n 0, 1) := by decide +kernel
theorem dX7_image_39 : decode cX7_image 39 = .ok (.getfield 19, 3) := by decide +kernel
theorem dX7_image_42 : decode cX7_image 42 = .ok (.putfield 166, 3) := by decide +kernel
theorem dX7_image_45 : decode cX7_image 45 = .ok (.aload_n 0, 1) := by decide +kernel
theorem dX7_image_46 : decode cX7_image 46 = .ok (.aload_n 0, 1) := by decide +kernel
theorem dX7_image_47 : decode cX7_image 47 = .ok (.getfield 145, 3) := by decide +kernel
theorem dX7_image_50 : decode cX7_image 50 = .ok (.putfield 169, 3) := by decide +kernel
theorem dX7_image_53 : decode cX7_image 53 = .ok (.iconst 0, 1) := by decide +kernel
theorem dX7_image_54 : decode cX7_image 54 = .ok (.istore_n 1, 1) := by decide +kernel
theorem dX7_image_55 : decode cX7_image 55 = .ok (.iload_n 1, 1) := by decide +kernel
theorem dX7_image_56 : decode cX7_image 56 = .ok (.bipush 6, 2) := by decide +kernel
theorem dX7_image_58 : decode cX7_image 58 = .ok (.if_icmp .ge 69, 3) := by decide +kernel
theorem dX7_image_61 : decode cX7_image 61 = .ok (.aload_n 0, 1) := by decide +kernel
theorem dX7_image_62 : decode cX7_image 62 = .ok (.getfield 172, 3) := by decide +kernel
theorem dX7_image_65 : decode cX7_image 65 = .ok (.iload_n 1, 1) := by decide +kernel
theorem dX7_image_66 : decode cX7_image 66 = .ok (.aload_n 0, 1) := by decide +kernel
theorem dX7_image_67 : decode cX7_image 67 = .ok (.getfield 22, 3) := by decide +kernel
theorem dX7_image_70 : decode cX7_image 70 = .ok (.iload_n 1, 1) := by decide +kernel
theorem dX7_image_71 : decode cX7_image 71 = .ok (.iaload, 1) := by decide +kernel
theorem dX7_image_72 : decode cX7_image 72 = .ok (.iastore, 1) := by decide +kernel
theorem dX7_image_73 : decode cX7_image 73 = .ok (.aload_n 0, 1) := by decide +kernel
theorem dX7_image_74 : decode cX7_image 74 = .ok (.getfield 175, 3) := by decide +kernel
theorem dX7_image_77 : decode cX7_image 77 = .ok (.iload_n 1, 1) := by decide +kernel
theorem dX7_image_78 : decode cX7_image 78 = .ok (.aload_n 0, 1) := by decide +kernel
theorem dX7_image_79 : decode cX7_image 79 = .ok (.getfield 26, 3) := by decide +kernel
theorem dX7_image_82 : decode cX7_image 82 = .ok (.iload_n 1, 1) := by decide +kernel
theorem dX7_image_83 : decode cX7_image 83 = .ok (.iaload, 1) := by decide +kernel
theorem dX7_image_84 : decode cX7_image 84 = .ok (.iastore, 1) := by decide +kernel
theorem dX7_image_85 : decode cX7_image 85 = .ok (.aload_n 0, 1) := by decide +kernel
theorem dX7_image_86 : decode cX7_image 86 = .ok (.getfield 178, 3) := by decide +kernel
theorem dX7_image_89 : decode cX7_image 89 = .ok (.iload_n 1, 1) := by decide +kernel
theorem dX7_image_90 : decode cX7_image 90 = .ok (.aload_n 0, 1) := by decide +kernel
theorem dX7_image_91 : decode cX7_image 91 = .ok (.getfield 29, 3) := by decide +kernel
theorem dX7_image_94 : decode cX7_image 94 = .ok (.iload_n 1, 1) := by decide +kernel
theorem dX7_image_95 : decode cX7_image 95 = .ok (.iaload, 1) := by decide +kernel
theorem dX7_image_96 : decode cX7_image 96 = .ok (.iastore, 1) := by decide +kernel
theorem dX7_image_97 : decode cX7_image 97 = .ok (.aload_n 0, 1) := by decide +kernel
theorem dX7_image_98 : decode cX7_image 98 = .ok (.getfield 181, 3) := by decide +kernel
theorem dX7_image_101 : decode cX7_image 101 = .ok (.iload_n 1, 1) := by decide +kernel
theorem dX7_image_102 : decode cX7_image 102 = .ok (.aload_n 0, 1) := by decide +kernel
theorem dX7_image_103 : decode cX7_image 103 = .ok (.getfield 32, 3) := by decide +kernel
theorem dX7_image_106 : decode cX7_image 106 = .ok (.iload_n 1, 1) := by decide +kernel
theorem dX7_image_107 : decode cX7_image 107 = .ok (.iaload, 1) := by decide +kernel
theorem dX7_image_108 : decode cX7_image 108 = .ok (.iastore, 1) := by decide +kernel
theorem dX7_image_109 : decode cX7_image 109 = .ok (.aload_n 0, 1) := by decide +kernel
theorem dX7_image_110 : decode cX7_image 110 = .ok (.getfield 184, 3) := by decide +kernel
theorem dX7_image_113 : decode cX7_image 113 = .ok (.iload_n 1, 1) := by decide +kernel
theorem dX7_image_114 : decode cX7_image 114 = .ok (.aload_n 0, 1) := by decide +kernel
theorem dX7_image_115 : decode cX7_image 115 = .ok (.getfield 35, 3) := by decide +kernel
theorem dX7_image_118 : decode cX7_image 118 = .ok (.iload_n 1, 1) := by decide +kernel
theorem dX7_image_119 : decode cX7_image 119 = .ok (.iaload, 1) := by decide +kernel
theorem dX7_image_120 : decode cX7_image 120 = .ok (.iastore, 1) := by decide +kernel
theorem dX7_image_121 : decode cX7_image 121 = .ok (.iinc 1 1, 3) := by decide +kernel
theorem dX7_image_124 : decode cX7_image 124 = .ok (.goto (-69), 3) := by decide +kernel
theorem dX7_image_127 : decode cX7_image 127 = .ok (.iconst 0, 1) := by decide +kernel
theorem dX7_image_128 : decode cX7_image 128 = .ok (.istore_n 1, 1) := by decide +kernel
theorem dX7_image_129 : decode cX7_image 129 = .ok (.iload_n 1, 1) := by decide +kernel
theorem dX7_image_130 : decode cX7_image 130 = .ok (.bipush 24, 2) := by decide +kernel
theorem dX7_image_132 : decode cX7_image 132 = .ok (.if_icmp .ge 21, 3) := by decide +kernel
theorem dX7_image_135 : decode cX7_image 135 = .ok (.aload_n 0, 1) := by decide +kernel
theorem dX7_image_136 : decode cX7_image 136 = .ok (.getfield 187, 3) := by decide +kernel
theorem dX7_image_139 : decode cX7_image 139 = .ok (.iload_n 1, 1) := by decide +kernel
theorem dX7_image_140 : decode cX7_image 140 = .ok (.aload_n 0, 1) := by decide +kernel
theorem dX7_image_141 : decode cX7_image 141 = .ok (.getfield 38, 3) := by decide +kernel
theorem dX7_image_144 : decode cX7_image 144 = .ok (.iload_n 1, 1) := by decide +kernel
theorem dX7_image_145 : decode cX7_image 145 = .ok (.iaload, 1) := by decide +kernel
theorem dX7_image_146 : decode cX7_image 146 = .ok (.iastore, 1) := by decide +kernel
theorem dX7_image_147 : decode cX7_image 147 = .ok (.iinc 1 1, 3) := by decide +kernel
theorem dX7_image_150 : decode cX7_image 150 = .ok (.goto (-21), 3) := by decide +kernel
theorem dX7_image_153 : decode cX7_image 153 = .ok (.iconst 0, 1) := by decide +kernel
theorem dX7_image_154 : decode cX7_image 154 = .ok (.istore_n 1, 1) := by decide +kernel
theorem dX7_image_155 : decode cX7_image 155 = .ok (.iload_n 1, 1) := by decide +kernel
theorem dX7_image_156 : decode cX7_image 156 = .ok (.bipush 12, 2) := by decide +kernel
theorem dX7_image_158 : decode cX7_image 158 = .ok (.if_icmp .ge 21, 3) := by decide +kernel
theorem dX7_image_161 : decode cX7_image 161 = .ok (.aload_n 0, 1) := by decide +kernel
theorem dX7_image_162 : decode cX7_image 162 = .ok (.getfield 190, 3) := by decide +kernel
theorem dX7_image_165 : decode cX7_image 165 = .ok (.iload_n 1, 1) := by decide +kernel
theorem dX7_image_166 : decode cX7_image 166 = .ok (.aload_n 0, 1) := by decide +kernel
theorem dX7_image_167 : decode cX7_image 167 = .ok (.getfield 148, 3) := by decide +kernel
theorem dX7_image_170 : decode cX7_image 170 = .ok (.iload_n 1, 1) := by decide +kernel
theorem dX7_image_171 : decode cX7_image 171 = .ok (.iaload, 1) := by decide +kernel
theorem dX7_image_172 : decode cX7_image 172 = .ok (.iastore, 1) := by decide +kernel
theorem dX7_image_173 : decode cX7_image 173 = .ok (.iinc 1 1, 3) := by decide +kernel
theorem dX7_image_176 : decode cX7_image 176 = .ok (.goto (-21), 3) := by decide +kernel
theorem dX7_image_179 : decode cX7_image 179 = .ok (.aload_n 0, 1) := by decide +kernel
theorem dX7_image_180 : decode cX7_image 180 = .ok (.getfield 7, 3) := by decide +kernel
theorem dX7_image_183 : decode cX7_image 183 = .ok (.ireturn, 1) := by decide +kernel
theorem dX7_undo_0 : decode cX7_undo 0 = .ok (.aload_n 0, 1) := by decide +kernel
theorem dX7_undo_1 : decode cX7_undo 1 = .ok (.getfield 151, 3) := by decide +kernel
theorem dX7_undo_4 : decode cX7_undo 4 = .ok (.ifCond .ne 6, 3) := by decide +kernel
theorem dX7_undo_7 : decode cX7_undo 7 = .ok (.bipush (-3), 2) := by decide +kernel
theorem dX7_undo_9 : decode cX7_undo 9 = .ok (.ireturn, 1) := by decide +kernel
theorem dX7_undo_10 : decode cX7_undo 10 = .ok (.aload_n 0, 1) := by decide +kernel
theorem dX7_undo_11 : decode cX7_undo 11 = .ok (.aload_n 0, 1) := by decide +kernel
theorem dX7_undo_12 : decode cX7_undo 12 = .ok (.getfield 154, 3) := by decide +kernel
theorem dX7_undo_15 : decode cX7_undo 15 = .ok (.putfield 44, 3) := by decide +kernel
theorem dX7_undo_18 : decode cX7_undo 18 = .ok (.aload_n 0, 1) := by decide +kernel
theorem dX7_undo_19 : decode cX7_undo 19 = .ok (.aload_n 0, 1) := by decide +kernel
theorem dX7_undo_20 : decode cX7_undo 20 = .ok (.getfield 157, 3) := by decide +kernel
theorem dX7_undo_23 : decode cX7_undo 23 = .ok (.putfield 7, 3) := by decide +kernel
theorem dX7_undo_26 : decode cX7_undo 26 = .ok (.aload_n 0, 1) := by decide +kernel
theorem dX7_undo_27 : decode cX7_undo 27 = .ok (.aload_n 0, 1) := by decide +kernel
theorem dX7_undo_28 : decode cX7_undo 28 = .ok (.getfield 160, 3) := by decide +kernel
theorem dX7_undo_31 : decode cX7_undo 31 = .ok (.putfield 13, 3) := by decide +kernel
theorem dX7_undo_34 : decode cX7_undo 34 = .ok (.aload_n 0, 1) := by decide +kernel
theorem dX7_undo_35 : decode cX7_undo 35 = .ok (.aload_n 0, 1) := by decide +kernel
theorem dX7_undo_36 : decode cX7_undo 36 = .ok (.getfield 163, 3) := by decide +kernel
theorem dX7_undo_39 : decode cX7_undo 39 = .ok (.putfield 16, 3) := by decide +kernel
theorem dX7_undo_42 : decode cX7_undo 42 = .ok (.aload_n 0, 1) := by decide +kernel
theorem dX7_undo_43 : decode cX7_undo 43 = .ok (.aload_n 0, 1) := by decide +kernel
theorem dX7_undo_44 : decode cX7_undo 44 = .ok (.getfield 166, 3) := by decide +kernel
theorem dX7_undo_47 : decode cX7_undo 47 = .ok (.putfield 19, 3) := by decide +kernel
theorem dX7_undo_50 : decode cX7_undo 50 = .ok (.aload_n 0, 1) := by decide +kernel
theorem dX7_undo_51 : decode cX7_undo 51 = .ok (.aload_n 0, 1) := by decide +kernel
theorem dX7_undo_52 : decode cX7_undo 52 = .ok (.getfield 169, 3) := by decide +kernel
theorem dX7_undo_55 : decode cX7_undo 55 = .ok (.putfield 145, 3) := by decide +kernel
theorem dX7_undo_58 : decode cX7_undo 58 = .ok (.iconst 0, 1) := by decide +kernel
theorem dX7_undo_59 : decode cX7_undo 59 = .ok (.istore_n 1, 1) := by decide +kernel
theorem dX7_undo_60 : decode cX7_undo 60 = .ok (.iload_n 1, 1) := by decide +kernel
theorem dX7_undo_61 : decode cX7_undo 61 = .ok (.bipush 6, 2) := by decide +kernel
theorem dX7_undo_63 : decode cX7_undo 63 = .ok (.if_icmp .ge 69, 3) := by decide +kernel
theorem dX7_undo_66 : decode cX7_undo 66 = .ok (.aload_n 0, 1) := by decide +kernel
theorem dX7_undo_67 : decode cX7_undo 67 = .ok (.getfield 22, 3) := by decide +kernel
theorem dX7_undo_70 : decode cX7_undo 70 = .ok (.iload_n 1, 1) := by decide +kernel
theorem dX7_undo_71 : decode cX7_undo 71 = .ok (.aload_n 0, 1) := by decide +kernel
theorem dX7_undo_72 : decode cX7_undo 72 = .ok (.getfield 172, 3) := by decide +kernel
theorem dX7_undo_75 : decode cX7_undo 75 = .ok (.iload_n 1, 1) := by decide +kernel
theorem dX7_undo_76 : decode cX7_undo 76 = .ok (.iaload, 1) := by decide +kernel
theorem dX7_undo_77 : decode cX7_undo 77 = .ok (.iastore, 1) := by decide +kernel
theorem dX7_undo_78 : decode cX7_undo 78 = .ok (.aload_n 0, 1) := by decide +kernel
theorem dX7_undo_79 : decode cX7_undo 79 = .ok (.getfield 26, 3) := by decide +kernel
theorem dX7_undo_82 : decode cX7_undo 82 = .ok (.iload_n 1, 1) := by decide +kernel
theorem dX7_undo_83 : decode cX7_undo 83 = .ok (.aload_n 0, 1) := by decide +kernel
theorem dX7_undo_84 : decode cX7_undo 84 = .ok (.getfield 175, 3) := by decide +kernel
theorem dX7_undo_87 : decode cX7_undo 87 = .ok (.iload_n 1, 1) := by decide +kernel
theorem dX7_undo_88 : decode cX7_undo 88 = .ok (.iaload, 1) := by decide +kernel
theorem dX7_undo_89 : decode cX7_undo 89 = .ok (.iastore, 1) := by decide +kernel
theorem dX7_undo_90 : decode cX7_undo 90 = .ok (.aload_n 0, 1) := by decide +kernel
theorem dX7_undo_91 : decode cX7_undo 91 = .ok (.getfield 29, 3) := by decide +kernel
theorem dX7_undo_94 : decode cX7_undo 94 = .ok (.iload_n 1, 1) := by decide +kernel
theorem dX7_undo_95 : decode cX7_undo 95 = .ok (.aload_n 0, 1) := by decide +kernel
theorem dX7_undo_96 : decode cX7_undo 96 = .ok (.getfield 178, 3) := by decide +kernel
theorem dX7_undo_99 : decode cX7_undo 99 = .ok (.iload_n 1, 1) := by decide +kernel
theorem dX7_undo_100 : decode cX7_undo 100 = .ok (.iaload, 1) := by decide +kernel
theorem dX7_undo_101 : decode cX7_undo 101 = .ok (.iastore, 1) := by decide +kernel
theorem dX7_undo_102 : decode cX7_undo 102 = .ok (.aload_n 0, 1) := by decide +kernel
theorem dX7_undo_103 : decode cX7_undo 103 = .ok (.getfield 32, 3) := by decide +kernel
theorem dX7_undo_106 : decode cX7_undo 106 = .ok (.iload_n 1, 1) := by decide +kernel
theorem dX7_undo_107 : decode cX7_undo 107 = .ok (.aload_n 0, 1) := by decide +kernel
theorem dX7_undo_108 : decode cX7_undo 108 = .ok (.getfield 181, 3) := by decide +kernel
theorem dX7_undo_111 : decode cX7_undo 111 = .ok (.iload_n 1, 1) := by decide +kernel
theorem dX7_undo_112 : decode cX7_undo 112 = .ok (.iaload, 1) := by decide +kernel
theorem dX7_undo_113 : decode cX7_undo 113 = .ok (.iastore, 1) := by decide +kernel
theorem dX7_undo_114 : decode cX7_undo 114 = .ok (.aload_n 0, 1) := by decide +kernel
theorem dX7_undo_115 : decode cX7_undo 115 = .ok (.getfield 35, 3) := by decide +kernel
theorem dX7_undo_118 : decode cX7_undo 118 = .ok (.iload_n 1, 1) := by decide +kernel
theorem dX7_undo_119 : decode cX7_undo 119 = .ok (.aload_n 0, 1) := by decide +kernel
theorem dX7_undo_120 : decode cX7_undo 120 = .ok (.getfield 184, 3) := by decide +kernel
theorem dX7_undo_123 : decode cX7_undo 123 = .ok (.iload_n 1, 1) := by decide +kernel
theorem dX7_undo_124 : decode cX7_undo 124 = .ok (.iaload, 1) := by decide +kernel
theorem dX7_undo_125 : decode cX7_undo 125 = .ok (.iastore, 1) := by decide +kernel
theorem dX7_undo_126 : decode cX7_undo 126 = .ok (.iinc 1 1, 3) := by decide +kernel
theorem dX7_undo_129 : decode cX7_undo 129 = .ok (.goto (-69), 3) := by decide +kernel
theorem dX7_undo_132 : decode cX7_undo 132 = .ok (.iconst 0, 1) := by decide +kernel
theorem dX7_undo_133 : decode cX7_undo 133 = .ok (.istore_n 1, 1) := by decide +kernel
theorem dX7_undo_134 : decode cX7_undo 134 = .ok (.iload_n 1, 1) := by decide +kernel
theorem dX7_undo_135 : decode cX7_undo 135 = .ok (.bipush 24, 2) := by decide +kernel
theorem dX7_undo_137 : decode cX7_undo 137 = .ok (.if_icmp .ge 21, 3) := by decide +kernel
theorem dX7_undo_140 : decode cX7_undo 140 = .ok (.aload_n 0, 1) := by decide +kernel
theorem dX7_undo_141 : decode cX7_undo 141 = .ok (.getfield 38, 3) := by decide +kernel
theorem dX7_undo_144 : decode cX7_undo 144 = .ok (.iload_n 1, 1) := by decide +kernel
theorem dX7_undo_145 : decode cX7_undo 145 = .ok (.aload_n 0, 1) := by decide +kernel
theorem dX7_undo_146 : decode cX7_undo 146 = .ok (.getfield 187, 3) := by decide +kernel
theorem dX7_undo_149 : decode cX7_undo 149 = .ok (.iload_n 1, 1) := by decide +kernel
theorem dX7_undo_150 : decode cX7_undo 150 = .ok (.iaload, 1) := by decide +kernel
theorem dX7_undo_151 : decode cX7_undo 151 = .ok (.iastore, 1) := by decide +kernel
theorem dX7_undo_152 : decode cX7_undo 152 = .ok (.iinc 1 1, 3) := by decide +kernel
theorem dX7_undo_155 : decode cX7_undo 155 = .ok (.goto (-21), 3) := by decide +kernel
theorem dX7_undo_158 : decode cX7_undo 158 = .ok (.iconst 0, 1) := by decide +kernel
theorem dX7_undo_159 : decode cX7_undo 159 = .ok (.istore_n 1, 1) := by decide +kernel
theorem dX7_undo_160 : decode cX7_undo 160 = .ok (.iload_n 1, 1) := by decide +kernel
theorem dX7_undo_161 : decode cX7_undo 161 = .ok (.bipush 12, 2) := by decide +kernel
theorem dX7_undo_163 : decode cX7_undo 163 = .ok (.if_icmp .ge 21, 3) := by decide +kernel
theorem dX7_undo_166 : decode cX7_undo 166 = .ok (.aload_n 0, 1) := by decide +kernel
theorem dX7_undo_167 : decode cX7_undo 167 = .ok (.getfield 148, 3) := by decide +kernel
theorem dX7_undo_170 : decode cX7_undo 170 = .ok (.iload_n 1, 1) := by decide +kernel
theorem dX7_undo_171 : decode cX7_undo 171 = .ok (.aload_n 0, 1) := by decide +kernel
theorem dX7_undo_172 : decode cX7_undo 172 = .ok (.getfield 190, 3) := by decide +kernel
theorem dX7_undo_175 : decode cX7_undo 175 = .ok (.iload_n 1, 1) := by decide +kernel
theorem dX7_undo_176 : decode cX7_undo 176 = .ok (.iaload, 1) := by decide +kernel
theorem dX7_undo_177 : decode cX7_undo 177 = .ok (.iastore, 1) := by decide +kernel
theorem dX7_undo_178 : decode cX7_undo 178 = .ok (.iinc 1 1, 3) := by decide +kernel
theorem dX7_undo_181 : decode cX7_undo 181 = .ok (.goto (-21), 3) := by decide +kernel
theorem dX7_undo_184 : decode cX7_undo 184 = .ok (.aload_n 0, 1) := by decide +kernel
theorem dX7_undo_185 : decode cX7_undo 185 = .ok (.getfield 7, 3) := by decide +kernel
theorem dX7_undo_188 : decode cX7_undo 188 = .ok (.ireturn, 1) := by decide +kernel
theorem dX7_body_0 : decode cX7_body 0 = .ok (.aload_n 0, 1) := by decide +kernel
theorem dX7_body_1 : decode cX7_body 1 = .ok (.getfield 193, 3) := by decide +kernel
theorem dX7_body_4 : decode cX7_body 4 = .ok (.bipush 20, 2) := by decide +kernel
theorem dX7_body_6 : decode cX7_body 6 = .ok (.if_icmp .ge 13, 3) := by decide +kernel
theorem dX7_body_9 : decode cX7_body 9 = .ok (.aload_n 0, 1) := by decide +kernel
theorem dX7_body_10 : decode cX7_body 10 = .ok (.getfield 196, 3) := by decide +kernel
theorem dX7_body_13 : decode cX7_body 13 = .ok (.aload_n 0, 1) := by decide +kernel
theorem dX7_body_14 : decode cX7_body 14 = .ok (.getfield 193, 3) := by decide +kernel
theorem dX7_body_17 : decode cX7_body 17 = .ok (.iload_n 1, 1) := by decide +kernel
theorem dX7_body_18 : decode cX7_body 18 = .ok (.iastore, 1) := by decide +kernel
theorem dX7_body_19 : decode cX7_body 19 = .ok (.aload_n 0, 1) := by decide +kernel
theorem dX7_body_20 : decode cX7_body 20 = .ok (.dup, 1) := by decide +kernel
theorem dX7_body_21 : decode cX7_body 21 = .ok (.getfield 193, 3) := by decide +kernel
theorem dX7_body_24 : decode cX7_body 24 = .ok (.iconst 1, 1) := by decide +kernel
theorem dX7_body_25 : decode cX7_body 25 = .ok (.iadd, 1) := by decide +kernel
theorem dX7_body_26 : decode cX7_body 26 = .ok (.putfield 193, 3) := by decide +kernel
theorem dX7_body_29 : decode cX7_body 29 = .ok (.return_, 1) := by decide +kernel
theorem dX7_eaterEats_0 : decode cX7_eaterEats 0 = .ok (.aload_n 0, 1) := by decide +kernel
theorem dX7_eaterEats_1 : decode cX7_eaterEats 1 = .ok (.bipush 10, 2) := by decide +kernel
theorem dX7_eaterEats_3 : decode cX7_eaterEats 3 = .ok (.invokevirtual 387, 3) := by decide +kernel
theorem dX7_eaterEats_6 : decode cX7_eaterEats 6 = .ok (.iload_n 2, 1) := by decide +kernel
theorem dX7_eaterEats_7 : decode cX7_eaterEats 7 = .ok (.iload_n 1, 1) := by decide +kernel
theorem dX7_eaterEats_8 : decode cX7_eaterEats 8 = .ok (.iadd, 1) := by decide +kernel
theorem dX7_eaterEats_9 : decode cX7_eaterEats 9 = .ok (.ireturn, 1) := by decide +kernel
theorem dX7_eatsAct_0 : decode cX7_eatsAct 0 = .ok (.aload_n 0, 1) := by decide +kernel
theorem dX7_eatsAct_1 : decode cX7_eatsAct 1 = .ok (.getfield 22, 3) := by decide +kernel
theorem dX7_eatsAct_4 : decode cX7_eatsAct 4 = .ok (.iload_n 1, 1) := by decide +kernel
theorem dX7_eatsAct_5 : decode cX7_eatsAct 5 = .ok (.iaload, 1) := by decide +kernel
theorem dX7_eatsAct_6 : decode cX7_eatsAct 6 = .ok (.tableswitch 83 2 6 #[34, 83, 49, 34, 63], 34) := by decide +kernel
theorem dX7_eatsAct_40 : decode cX7_eatsAct 40 = .ok (.aload_n 0, 1) := by decide +kernel
theorem dX7_eatsAct_41 : decode cX7_eatsAct 41 = .ok (.bipush 30, 2) := by decide +kernel
theorem dX7_eatsAct_43 : decode cX7_eatsAct 43 = .ok (.invokevirtual 387, 3) := by decide +kernel
theorem dX7_eatsAct_46 : decode cX7_eatsAct 46 = .ok (.aload_n 0, 1) := by decide +kernel
theorem dX7_eatsAct_47 : decode cX7_eatsAct 47 = .ok (.iload_n 1, 1) := by decide +kernel
theorem dX7_eatsAct_48 : decode cX7_eatsAct 48 = .ok (.iload_n 2, 1) := by decide +kernel
theorem dX7_eatsAct_49 : decode cX7_eatsAct 49 = .ok (.iconst 3, 1) := by decide +kernel
theorem dX7_eatsAct_50 : decode cX7_eatsAct 50 = .ok (.imul, 1) := by decide +kernel
theorem dX7_eatsAct_51 : decode cX7_eatsAct 51 = .ok (.invokevirtual 390, 3) := by decide +kernel
theorem dX7_eatsAct_54 : decode cX7_eatsAct 54 = .ok (.ireturn, 1) := by decide +kernel
theorem dX7_eatsAct_55 : decode cX7_eatsAct 55 = .ok (.aload_n 0, 1) := by decide +kernel
theorem dX7_eatsAct_56 : decode cX7_eatsAct 56 = .ok (.bipush 50, 2) := by decide +kernel
theorem dX7_eatsAct_58 : decode cX7_eatsAct 58 = .ok (.invokevirtual 387, 3) := by decide +kernel
theorem dX7_eatsAct_61 : decode cX7_eatsAct 61 = .ok (.aload_n 0, 1) := by decide +kernel
theorem dX7_eatsAct_62 : decode cX7_eatsAct 62 = .ok (.iload_n 1, 1) := by decide +kernel
theorem dX7_eatsAct_63 : decode cX7_eatsAct 63 = .ok (.iload_n 2, 1) := by decide +kernel
theorem dX7_eatsAct_64 : decode cX7_eatsAct 64 = .ok (.invokevirtual 390, 3) := by decide +kernel
theorem dX7_eatsAct_67 : decode cX7_eatsAct 67 = .ok (.ineg, 1) := by decide +kernel
theorem dX7_eatsAct_68 : decode cX7_eatsAct 68 = .ok (.ireturn, 1) := by decide +kernel
theorem dX7_eatsAct_69 : decode cX7_eatsAct 69 = .ok (.aload_n 0, 1) := by decide +kernel
theorem dX7_eatsAct_70 : decode cX7_eatsAct 70 = .ok (.bipush 71, 2) := by decide +kernel
theorem dX7_eatsAct_72 : decode cX7_eatsAct 72 = .ok (.invokevirtual 387, 3) := by decide +kernel
theorem dX7_eatsAct_75 : decode cX7_eatsAct 75 = .ok (.aload_n 0, 1) := by decide +kernel
theorem dX7_eatsAct_76 : decode cX7_eatsAct 76 = .ok (.iload_n 1, 1) := by decide +kernel
theorem dX7_eatsAct_77 : decode cX7_eatsAct 77 = .ok (.iload_n 2, 1) := by decide +kernel
theorem dX7_eatsAct_78 : decode cX7_eatsAct 78 = .ok (.invokevirtual 390, 3) := by decide +kernel
theorem dX7_eatsAct_81 : decode cX7_eatsAct 81 = .ok (.aload_n 0, 1) := by decide +kernel
theorem dX7_eatsAct_82 : decode cX7_eatsAct 82 = .ok (.getfield 26, 3) := by decide +kernel
theorem dX7_eatsAct_85 : decode cX7_eatsAct 85 = .ok (.iload_n 1, 1) := by decide +kernel
theorem dX7_eatsAct_86 : decode cX7_eatsAct 86 = .ok (.iaload, 1) := by decide +kernel
theorem dX7_eatsAct_87 : decode cX7_eatsAct 87 = .ok (.ixor, 1) := by decide +kernel
theorem dX7_eatsAct_88 : decode cX7_eatsAct 88 = .ok (.ireturn, 1) := by decide +kernel
theorem dX7_eatsAct_89 : decode cX7_eatsAct 89 = .ok (.aload_n 0, 1) := by decide +kernel
theorem dX7_eatsAct_90 : decode cX7_eatsAct 90 = .ok (.iload_n 1, 1) := by decide +kernel
theorem dX7_eatsAct_91 : decode cX7_eatsAct 91 = .ok (.iload_n 2, 1) := by decide +kernel
theorem dX7_eatsAct_92 : decode cX7_eatsAct 92 = .ok (.invokevirtual 390, 3) := by decide +kernel
theorem dX7_eatsAct_95 : decode cX7_eatsAct 95 = .ok (.ireturn, 1) := by decide +kernel
theorem dX7_eaterBakes_0 : decode cX7_eaterBakes 0 = .ok (.aload_n 0, 1) := by decide +kernel
theorem dX7_eaterBakes_1 : decode cX7_eaterBakes 1 = .ok (.bipush 11, 2) := by decide +kernel
theorem dX7_eaterBakes_3 : decode cX7_eaterBakes 3 = .ok (.invokevirtual 387, 3) := by decide +kernel
theorem dX7_eaterBakes_6 : decode cX7_eaterBakes 6 = .ok (.aload_n 0, 1) := by decide +kernel
theorem dX7_eaterBakes_7 : decode cX7_eaterBakes 7 = .ok (.iload_n 1, 1) := by decide +kernel
theorem dX7_eaterBakes_8 : decode cX7_eaterBakes 8 = .ok (.iload_n 2, 1) := by decide +kernel
theorem dX7_eaterBakes_9 : decode cX7_eaterBakes 9 = .ok (.invokevirtual 393, 3) := by decide +kernel
theorem dX7_eaterBakes_12 : decode cX7_eaterBakes 12 = .ok (.aload_n 0, 1) := by decide +kernel
theorem dX7_eaterBakes_13 : decode cX7_eaterBakes 13 = .ok (.getfield 26, 3) := by decide +kernel
theorem dX7_eaterBakes_16 : decode cX7_eaterBakes 16 = .ok (.iload_n 1, 1) := by decide +kernel
theorem dX7_eaterBakes_17 : decode cX7_eaterBakes 17 = .ok (.iaload, 1) := by decide +kernel
theorem dX7_eaterBakes_18 : decode cX7_eaterBakes 18 = .ok (.isub, 1) := by decide +kernel
theorem dX7_eaterBakes_19 : decode cX7_eaterBakes 19 = .ok (.ireturn, 1) := by decide +kernel
theorem dX7_hungryBakes_0 : decode cX7_hungryBakes 0 = .ok (.aload_n 0, 1) := by decide +kernel
theorem dX7_hungryBakes_1 : decode cX7_hungryBakes 1 = .ok (.bipush 20, 2) := by decide +kernel
theorem dX7_hungryBakes_3 : decode cX7_hungryBakes 3 = .ok (.invokevirtual 387, 3) := by decide +kernel
theorem dX7_hungryBakes_6 : decode cX7_hungryBakes 6 = .ok (.aload_n 0, 1) := by decide +kernel
theorem dX7_hungryBakes_7 : decode cX7_hungryBakes 7 = .ok (.iload_n 1, 1) := by decide +kernel
theorem dX7_hungryBakes_8 : decode cX7_hungryBakes 8 = .ok (.iload_n 2, 1) := by decide +kernel
theorem dX7_hungryBakes_9 : decode cX7_hungryBakes 9 = .ok (.invokevirtual 396, 3) := by decide +kernel
theorem dX7_hungryBakes_12 : decode cX7_hungryBakes 12 = .ok (.bipush 6, 2) := by decide +kernel
theorem dX7_hungryBakes_14 : decode cX7_hungryBakes 14 = .ok (.ixor, 1) := by decide +kernel
theorem dX7_hungryBakes_15 : decode cX7_hungryBakes 15 = .ok (.ireturn, 1) := by decide +kernel
theorem dX7_bakesAct_0 : decode cX7_bakesAct 0 = .ok (.aload_n 0, 1) := by decide +kernel
theorem dX7_bakesAct_1 : decode cX7_bakesAct 1 = .ok (.getfield 22, 3) := by decide +kernel
theorem dX7_bakesAct_4 : decode cX7_bakesAct 4 = .ok (.iload_n 1, 1) := by decide +kernel
theorem dX7_bakesAct_5 : decode cX7_bakesAct 5 = .ok (.iaload, 1) := by decide +kernel
theorem dX7_bakesAct_6 : decode cX7_bakesAct 6 = .ok (.lookupswitch 78 #[(1, 34), (4, 41), (6, 56)], 34) := by decide +kernel
theorem dX7_bakesAct_40 : decode cX7_bakesAct 40 = .ok (.aload_n 0, 1) := by decide +kernel
theorem dX7_bakesAct_41 : decode cX7_bakesAct 41 = .ok (.iload_n 1, 1) := by decide +kernel
theorem dX7_bakesAct_42 : decode cX7_bakesAct 42 = .ok (.iload_n 2, 1) := by decide +kernel
theorem dX7_bakesAct_43 : decode cX7_bakesAct 43 = .ok (.invokevirtual 399, 3) := by decide +kernel
theorem dX7_bakesAct_46 : decode cX7_bakesAct 46 = .ok (.ireturn, 1) := by decide +kernel
theorem dX7_bakesAct_47 : decode cX7_bakesAct 47 = .ok (.aload_n 0, 1) := by decide +kernel
theorem dX7_bakesAct_48 : decode cX7_bakesAct 48 = .ok (.bipush 51, 2) := by decide +kernel
theorem dX7_bakesAct_50 : decode cX7_bakesAct 50 = .ok (.invokevirtual 387, 3) := by decide +kernel
theorem dX7_bakesAct_53 : decode cX7_bakesAct 53 = .ok (.aload_n 0, 1) := by decide +kernel
theorem dX7_bakesAct_54 : decode cX7_bakesAct 54 = .ok (.iload_n 1, 1) := by decide +kernel
theorem dX7_bakesAct_55 : decode cX7_bakesAct 55 = .ok (.iload_n 2, 1) := by decide +kernel
theorem dX7_bakesAct_56 : decode cX7_bakesAct 56 = .ok (.iconst 1, 1) := by decide +kernel
theorem dX7_bakesAct_57 : decode cX7_bakesAct 57 = .ok (.iadd, 1) := by decide +kernel
theorem dX7_bakesAct_58 : decode cX7_bakesAct 58 = .ok (.invokevirtual 399, 3) := by decide +kernel
theorem dX7_bakesAct_61 : decode cX7_bakesAct 61 = .ok (.ireturn, 1) := by decide +kernel
theorem dX7_bakesAct_62 : decode cX7_bakesAct 62 = .ok (.aload_n 0, 1) := by decide +kernel
theorem dX7_bakesAct_63 : decode cX7_bakesAct 63 = .ok (.bipush 70, 2) := by decide +kernel
theorem dX7_bakesAct_65 : decode cX7_bakesAct 65 = .ok (.invokevirtual 387, 3) := by decide +kernel
theorem dX7_bakesAct_68 : decode cX7_bakesAct 68 = .ok (.aload_n 0, 1) := by decide +kernel
theorem dX7_bakesAct_69 : decode cX7_bakesAct 69 = .ok (.iload_n 1, 1) := by decide +kernel
theorem dX7_bakesAct_70 : decode cX7_bakesAct 70 = .ok (.iload_n 2, 1) := by decide +kernel
theorem dX7_bakesAct_71 : decode cX7_bakesAct 71 = .ok (.invokevirtual 396, 3) := by decide +kernel
theorem dX7_bakesAct_74 : decode cX7_bakesAct 74 = .ok (.istore_n 3, 1) := by decide +kernel
theorem dX7_bakesAct_75 : decode cX7_bakesAct 75 = .ok (.iload_n 3, 1) := by decide +kernel
theorem dX7_bakesAct_76 : decode cX7_bakesAct 76 = .ok (.aload_n 0, 1) := by decide +kernel
theorem dX7_bakesAct_77 : decode cX7_bakesAct 77 = .ok (.iload_n 1, 1) := by decide +kernel
theorem dX7_bakesAct_78 : decode cX7_bakesAct 78 = .ok (.iconst 2, 1) := by decide +kernel
theorem dX7_bakesAct_79 : decode cX7_bakesAct 79 = .ok (.invokevirtual 390, 3) := by decide +kernel
theorem dX7_bakesAct_82 : decode cX7_bakesAct 82 = .ok (.iadd, 1) := by decide +kernel
theorem dX7_bakesAct_83 : decode cX7_bakesAct 83 = .ok (.ireturn, 1) := by decide +kernel
theorem dX7_bakesAct_84 : decode cX7_bakesAct 84 = .ok (.aload_n 0, 1) := by decide +kernel
theorem dX7_bakesAct_85 : decode cX7_bakesAct 85 = .ok (.iload_n 1, 1) := by decide +kernel
theorem dX7_bakesAct_86 : decode cX7_bakesAct 86 = .ok (.iload_n 2, 1) := by decide +kernel
theorem dX7_bakesAct_87 : decode cX7_bakesAct 87 = .ok (.invokevirtual 396, 3) := by decide +kernel
theorem dX7_bakesAct_90 : decode cX7_bakesAct 90 = .ok (.ireturn, 1) := by decide +kernel
theorem dX7_eaterTells_0 : decode cX7_eaterTells 0 = .ok (.aload_n 0, 1) := by decide +kernel
theorem dX7_eaterTells_1 : decode cX7_eaterTells 1 = .ok (.bipush 12, 2) := by decide +kernel
theorem dX7_eaterTells_3 : decode cX7_eaterTells 3 = .ok (.invokevirtual 387, 3) := by decide +kernel
theorem dX7_eaterTells_6 : decode cX7_eaterTells 6 = .ok (.aload_n 0, 1) := by decide +kernel
theorem dX7_eaterTells_7 : decode cX7_eaterTells 7 = .ok (.iload_n 1, 1) := by decide +kernel
theorem dX7_eaterTells_8 : decode cX7_eaterTells 8 = .ok (.iload_n 2, 1) := by decide +kernel
theorem dX7_eaterTells_9 : decode cX7_eaterTells 9 = .ok (.invokevirtual 402, 3) := by decide +kernel
theorem dX7_eaterTells_12 : decode cX7_eaterTells 12 = .ok (.iconst 2, 1) := by decide +kernel
theorem dX7_eaterTells_13 : decode cX7_eaterTells 13 = .ok (.imul, 1) := by decide +kernel
theorem dX7_eaterTells_14 : decode cX7_eaterTells 14 = .ok (.ireturn, 1) := by decide +kernel
theorem dX7_tellsAct_0 : decode cX7_tellsAct 0 = .ok (.aload_n 0, 1) := by decide +kernel
theorem dX7_tellsAct_1 : decode cX7_tellsAct 1 = .ok (.getfield 22, 3) := by decide +kernel
theorem dX7_tellsAct_4 : decode cX7_tellsAct 4 = .ok (.iload_n 1, 1) := by decide +kernel
theorem dX7_tellsAct_5 : decode cX7_tellsAct 5 = .ok (.iaload, 1) := by decide +kernel
theorem dX7_tellsAct_6 : decode cX7_tellsAct 6 = .ok (.tableswitch 67 3 6 #[30, 67, 52, 30], 30) := by decide +kernel
theorem dX7_tellsAct_36 : decode cX7_tellsAct 36 = .ok (.aload_n 0, 1) := by decide +kernel
theorem dX7_tellsAct_37 : decode cX7_tellsAct 37 = .ok (.bipush 40, 2) := by decide +kernel
theorem dX7_tellsAct_39 : decode cX7_tellsAct 39 = .ok (.invokevirtual 387, 3) := by decide +kernel
theorem dX7_tellsAct_42 : decode cX7_tellsAct 42 = .ok (.aload_n 0, 1) := by decide +kernel
theorem dX7_tellsAct_43 : decode cX7_tellsAct 43 = .ok (.iload_n 1, 1) := by decide +kernel
theorem dX7_tellsAct_44 : decode cX7_tellsAct 44 = .ok (.iload_n 2, 1) := by decide +kernel
theorem dX7_tellsAct_45 : decode cX7_tellsAct 45 = .ok (.invokevirtual 405, 3) := by decide +kernel
theorem dX7_tellsAct_48 : decode cX7_tellsAct 48 = .ok (.istore_n 3, 1) := by decide +kernel
theorem dX7_tellsAct_49 : decode cX7_tellsAct 49 = .ok (.iload_n 3, 1) := by decide +kernel
theorem dX7_tellsAct_50 : decode cX7_tellsAct 50 = .ok (.aload_n 0, 1) := by decide +kernel
theorem dX7_tellsAct_51 : decode cX7_tellsAct 51 = .ok (.iload_n 1, 1) := by decide +kernel
theorem dX7_tellsAct_52 : decode cX7_tellsAct 52 = .ok (.iconst 1, 1) := by decide +kernel
theorem dX7_tellsAct_53 : decode cX7_tellsAct 53 = .ok (.invokevirtual 402, 3) := by decide +kernel
theorem dX7_tellsAct_56 : decode cX7_tellsAct 56 = .ok (.iadd, 1) := by decide +kernel
theorem dX7_tellsAct_57 : decode cX7_tellsAct 57 = .ok (.ireturn, 1) := by decide +kernel
theorem dX7_tellsAct_58 : decode cX7_tellsAct 58 = .ok (.aload_n 0, 1) := by decide +kernel
theorem dX7_tellsAct_59 : decode cX7_tellsAct 59 = .ok (.bipush 60, 2) := by decide +kernel
theorem dX7_tellsAct_61 : decode cX7_tellsAct 61 = .ok (.invokevirtual 387, 3) := by decide +kernel
theorem dX7_tellsAct_64 : decode cX7_tellsAct 64 = .ok (.aload_n 0, 1) := by decide +kernel
theorem dX7_tellsAct_65 : decode cX7_tellsAct 65 = .ok (.iload_n 1, 1) := by decide +kernel
theorem dX7_tellsAct_66 : decode cX7_tellsAct 66 = .ok (.iload_n 2, 1) := by decide +kernel
theorem dX7_tellsAct_67 : decode cX7_tellsAct 67 = .ok (.iload_n 1, 1) := by decide +kernel
theorem dX7_tellsAct_68 : decode cX7_tellsAct 68 = .ok (.isub, 1) := by decide +kernel
theorem dX7_tellsAct_69 : decode cX7_tellsAct 69 = .ok (.invokevirtual 405, 3) := by decide +kernel
theorem dX7_tellsAct_72 : decode cX7_tellsAct 72 = .ok (.ireturn, 1) := by decide +kernel
theorem dX7_tellsAct_73 : decode cX7_tellsAct 73 = .ok (.aload_n 0, 1) := by decide +kernel
theorem dX7_tellsAct_74 : decode cX7_tellsAct 74 = .ok (.iload_n 1, 1) := by decide +kernel
theorem dX7_tellsAct_75 : decode cX7_tellsAct 75 = .ok (.iload_n 2, 1) := by decide +kernel
theorem dX7_tellsAct_76 : decode cX7_tellsAct 76 = .ok (.invokevirtual 405, 3) := by decide +kernel
theorem dX7_tellsAct_79 : decode cX7_tellsAct 79 = .ok (.ireturn, 1) := by decide +kernel
theorem dX7_act_0 : decode cX7_act 0 = .ok (.aload_n 0, 1) := by decide +kernel
theorem dX7_act_1 : decode cX7_act 1 = .ok (.iconst 0, 1) := by decide +kernel
theorem dX7_act_2 : decode cX7_act 2 = .ok (.putfield 193, 3) := by decide +kernel
theorem dX7_act_5 : decode cX7_act 5 = .ok (.aload_n 0, 1) := by decide +kernel
theorem dX7_act_6 : decode cX7_act 6 = .ok (.iload_n 1, 1) := by decide +kernel
theorem dX7_act_7 : decode cX7_act 7 = .ok (.invokevirtual 220, 3) := by decide +kernel
theorem dX7_act_10 : decode cX7_act 10 = .ok (.ifCond .eq 13, 3) := by decide +kernel
theorem dX7_act_13 : decode cX7_act 13 = .ok (.aload_n 0, 1) := by decide +kernel
theorem dX7_act_14 : decode cX7_act 14 = .ok (.iload_n 2, 1) := by decide +kernel
theorem dX7_act_15 : decode cX7_act 15 = .ok (.iconst 0, 1) := by decide +kernel
theorem dX7_act_16 : decode cX7_act 16 = .ok (.iconst 2, 1) := by decide +kernel
theorem dX7_act_17 : decode cX7_act 17 = .ok (.invokevirtual 212, 3) := by decide +kernel
theorem dX7_act_20 : decode cX7_act 20 = .ok (.ifCond .ne 5, 3) := by decide +kernel
theorem dX7_act_23 : decode cX7_act 23 = .ok (.iconst 0, 1) := by decide +kernel
theorem dX7_act_24 : decode cX7_act 24 = .ok (.ireturn, 1) := by decide +kernel
theorem dX7_act_25 : decode cX7_act 25 = .ok (.iload_n 2, 1) := by decide +kernel
theorem dX7_act_26 : decode cX7_act 26 = .ok (.ifCond .ne 12, 3) := by decide +kernel
theorem dX7_act_29 : decode cX7_act 29 = .ok (.aload_n 0, 1) := by decide +kernel
theorem dX7_act_30 : decode cX7_act 30 = .ok (.iload_n 1, 1) := by decide +kernel
theorem dX7_act_31 : decode cX7_act 31 = .ok (.iload_n 3, 1) := by decide +kernel
theorem dX7_act_32 : decode cX7_act 32 = .ok (.invokevirtual 393, 3) := by decide +kernel
theorem dX7_act_35 : decode cX7_act 35 = .ok (.goto 23, 3) := by decide +kernel
theorem dX7_act_38 : decode cX7_act 38 = .ok (.iload_n 2, 1) := by decide +kernel
theorem dX7_act_39 : decode cX7_act 39 = .ok (.iconst 1, 1) := by decide +kernel
theorem dX7_act_40 : decode cX7_act 40 = .ok (.if_icmp .ne 12, 3) := by decide +kernel
theorem dX7_act_43 : decode cX7_act 43 = .ok (.aload_n 0, 1) := by decide +kernel
theorem dX7_act_44 : decode cX7_act 44 = .ok (.iload_n 1, 1) := by decide +kernel
theorem dX7_act_45 : decode cX7_act 45 = .ok (.iload_n 3, 1) := by decide +kernel
theorem dX7_act_46 : decode cX7_act 46 = .ok (.invokevirtual 402, 3) := by decide +kernel
theorem dX7_act_49 : decode cX7_act 49 = .ok (.goto 9, 3) := by decide +kernel
theorem dX7_act_52 : decode cX7_act 52 = .ok (.aload_n 0, 1) := by decide +kernel
theorem dX7_act_53 : decode cX7_act 53 = .ok (.iload_n 1, 1) := by decide +kernel
theorem dX7_act_54 : decode cX7_act 54 = .ok (.iload_n 3, 1) := by decide +kernel
theorem dX7_act_55 : decode cX7_act 55 = .ok (.invokevirtual 408, 3) := by decide +kernel
theorem dX7_act_58 : decode cX7_act 58 = .ok (.ireturn, 1) := by decide +kernel
theorem dX7_trace_0 : decode cX7_trace 0 = .ok (.aload_n 0, 1) := by decide +kernel
theorem dX7_trace_1 : decode cX7_trace 1 = .ok (.iload_n 1, 1) := by decide +kernel
theorem dX7_trace_2 : decode cX7_trace 2 = .ok (.iconst 0, 1) := by decide +kernel
theorem dX7_trace_3 : decode cX7_trace 3 = .ok (.bipush 19, 2) := by decide +kernel
theorem dX7_trace_5 : decode cX7_trace 5 = .ok (.invokevirtual 212, 3) := by decide +kernel
theorem dX7_trace_8 : decode cX7_trace 8 = .ok (.ifCond .eq 20, 3) := by decide +kernel
theorem dX7_trace_11 : decode cX7_trace 11 = .ok (.iload_n 1, 1) := by decide +kernel
theorem dX7_trace_12 : decode cX7_trace 12 = .ok (.aload_n 0, 1) := by decide +kernel
theorem dX7_trace_13 : decode cX7_trace 13 = .ok (.getfield 193, 3) := by decide +kernel
theorem dX7_trace_16 : decode cX7_trace 16 = .ok (.if_icmp .ge 12, 3) := by decide +kernel
theorem dX7_trace_19 : decode cX7_trace 19 = .ok (.aload_n 0, 1) := by decide +kernel
theorem dX7_trace_20 : decode cX7_trace 20 = .ok (.getfield 196, 3) := by decide +kernel
theorem dX7_trace_23 : decode cX7_trace 23 = .ok (.iload_n 1, 1) := by decide +kernel
theorem dX7_trace_24 : decode cX7_trace 24 = .ok (.iaload, 1) := by decide +kernel
theorem dX7_trace_25 : decode cX7_trace 25 = .ok (.goto 4, 3) := by decide +kernel
theorem dX7_trace_28 : decode cX7_trace 28 = .ok (.iconst (-1), 1) := by decide +kernel
theorem dX7_trace_29 : decode cX7_trace 29 = .ok (.ireturn, 1) := by decide +kernel
theorem dX7_taken_0 : decode cX7_taken 0 = .ok (.aload_n 0, 1) := by decide +kernel
theorem dX7_taken_1 : decode cX7_taken 1 = .ok (.iload_n 2, 1) := by decide +kernel
theorem dX7_taken_2 : decode cX7_taken 2 = .ok (.iconst 0, 1) := by decide +kernel
theorem dX7_taken_3 : decode cX7_taken 3 = .ok (.bipush 6, 2) := by decide +kernel
theorem dX7_taken_5 : decode cX7_taken 5 = .ok (.invokevirtual 212, 3) := by decide +kernel
theorem dX7_taken_8 : decode cX7_taken 8 = .ok (.ifCond .ne 6, 3) := by decide +kernel
theorem dX7_taken_11 : decode cX7_taken 11 = .ok (.bipush (-2), 2) := by decide +kernel
theorem dX7_taken_13 : decode cX7_taken 13 = .ok (.ireturn, 1) := by decide +kernel
theorem dX7_taken_14 : decode cX7_taken 14 = .ok (.aload_n 0, 1) := by decide +kernel
theorem dX7_taken_15 : decode cX7_taken 15 = .ok (.iload_n 1, 1) := by decide +kernel
theorem dX7_taken_16 : decode cX7_taken 16 = .ok (.invokevirtual 220, 3) := by decide +kernel
theorem dX7_taken_19 : decode cX7_taken 19 = .ok (.ifCond .ne 6, 3) := by decide +kernel
theorem dX7_taken_22 : decode cX7_taken 22 = .ok (.bipush (-11), 2) := by decide +kernel
theorem dX7_taken_24 : decode cX7_taken 24 = .ok (.ireturn, 1) := by decide +kernel
theorem dX7_taken_25 : decode cX7_taken 25 = .ok (.aload_n 0, 1) := by decide +kernel
theorem dX7_taken_26 : decode cX7_taken 26 = .ok (.getfield 22, 3) := by decide +kernel
theorem dX7_taken_29 : decode cX7_taken 29 = .ok (.iload_n 1, 1) := by decide +kernel
theorem dX7_taken_30 : decode cX7_taken 30 = .ok (.iaload, 1) := by decide +kernel
theorem dX7_taken_31 : decode cX7_taken 31 = .ok (.istore_n 3, 1) := by decide +kernel
theorem dX7_taken_32 : decode cX7_taken 32 = .ok (.iload_n 2, 1) := by decide +kernel
theorem dX7_taken_33 : decode cX7_taken 33 = .ok (.ifCond .eq 39, 3) := by decide +kernel
theorem dX7_taken_36 : decode cX7_taken 36 = .ok (.iload_n 3, 1) := by decide +kernel
theorem dX7_taken_37 : decode cX7_taken 37 = .ok (.iload_n 2, 1) := by decide +kernel
theorem dX7_taken_38 : decode cX7_taken 38 = .ok (.if_icmp .eq 34, 3) := by decide +kernel
theorem dX7_taken_41 : decode cX7_taken 41 = .ok (.iload_n 2, 1) := by decide +kernel
theorem dX7_taken_42 : decode cX7_taken 42 = .ok (.iconst 1, 1) := by decide +kernel
theorem dX7_taken_43 : decode cX7_taken 43 = .ok (.if_icmp .ne 8, 3) := by decide +kernel
theorem dX7_taken_46 : decode cX7_taken 46 = .ok (.iload_n 3, 1) := by decide +kernel
theorem dX7_taken_47 : decode cX7_taken 47 = .ok (.iconst 4, 1) := by decide +kernel
theorem dX7_taken_48 : decode cX7_taken 48 = .ok (.if_icmp .eq 24, 3) := by decide +kernel
theorem dX7_taken_51 : decode cX7_taken 51 = .ok (.iload_n 2, 1) := by decide +kernel
theorem dX7_taken_52 : decode cX7_taken 52 = .ok (.iconst 2, 1) := by decide +kernel
theorem dX7_taken_53 : decode cX7_taken 53 = .ok (.if_icmp .ne 8, 3) := by decide +kernel
theorem dX7_taken_56 : decode cX7_taken 56 = .ok (.iload_n 3, 1) := by decide +kernel
theorem dX7_taken_57 : decode cX7_taken 57 = .ok (.iconst 5, 1) := by decide +kernel
theorem dX7_taken_58 : decode cX7_taken 58 = .ok (.if_icmp .eq 14, 3) := by decide +kernel
theorem dX7_taken_61 : decode cX7_taken 61 = .ok (.iload_n 2, 1) := by decide +kernel
theorem dX7_taken_62 : decode cX7_taken 62 = .ok (.iconst 3, 1) := by decide +kernel
theorem dX7_taken_63 : decode cX7_taken 63 = .ok (.if_icmp .ne 13, 3) := by decide +kernel
theorem dX7_taken_66 : decode cX7_taken 66 = .ok (.iload_n 3, 1) := by decide +kernel
theorem dX7_taken_67 : decode cX7_taken 67 = .ok (.bipush 6, 2) := by decide +kernel
theorem dX7_taken_69 : decode cX7_taken 69 = .ok (.if_icmp .ne 7, 3) := by decide +kernel
theorem dX7_taken_72 : decode cX7_taken 72 = .ok (.iload_n 3, 1) := by decide +kernel
theorem dX7_taken_73 : decode cX7_taken 73 = .ok (.goto 5, 3) := by decide +kernel
theorem dX7_taken_76 : decode cX7_taken 76 = .ok (.bipush (-12), 2) := by decide +kernel
theorem dX7_taken_78 : decode cX7_taken 78 = .ok (.ireturn, 1) := by decide +kernel
theorem dX7_count_0 : decode cX7_count 0 = .ok (.iload_n 1, 1) := by decide +kernel
theorem dX7_count_1 : decode cX7_count 1 = .ok (.tableswitch 60 0 4 #[35, 40, 45, 50, 55], 35) := by decide +kernel
theorem dX7_count_36 : decode cX7_count 36 = .ok (.aload_n 0, 1) := by decide +kernel
theorem dX7_count_37 : decode cX7_count 37 = .ok (.getfield 7, 3) := by decide +kernel
theorem dX7_count_40 : decode cX7_count 40 = .ok (.ireturn, 1) := by decide +kernel
theorem dX7_count_41 : decode cX7_count 41 = .ok (.aload_n 0, 1) := by decide +kernel
theorem dX7_count_42 : decode cX7_count 42 = .ok (.getfield 41, 3) := by decide +kernel
theorem dX7_count_45 : decode cX7_count 45 = .ok (.ireturn, 1) := by decide +kernel
theorem dX7_count_46 : decode cX7_count 46 = .ok (.aload_n 0, 1) := by decide +kernel
theorem dX7_count_47 : decode cX7_count 47 = .ok (.getfield 145, 3) := by decide +kernel
theorem dX7_count_50 : decode cX7_count 50 = .ok (.ireturn, 1) := by decide +kernel
theorem dX7_count_51 : decode cX7_count 51 = .ok (.aload_n 0, 1) := by decide +kernel
theorem dX7_count_52 : decode cX7_count 52 = .ok (.getfield 47, 3) := by decide +kernel
theorem dX7_count_55 : decode cX7_count 55 = .ok (.ireturn, 1) := by decide +kernel
theorem dX7_count_56 : decode cX7_count 56 = .ok (.aload_n 0, 1) := by decide +kernel
theorem dX7_count_57 : decode cX7_count 57 = .ok (.getfield 193, 3) := by decide +kernel
theorem dX7_count_60 : decode cX7_count 60 = .ok (.ireturn, 1) := by decide +kernel
theorem dX7_count_61 : decode cX7_count 61 = .ok (.bipush (-2), 2) := by decide +kernel
theorem dX7_count_63 : decode cX7_count 63 = .ok (.ireturn, 1) := by decide +kernel
theorem dX7_isTape_0 : decode cX7_isTape 0 = .ok (.aload_n 0, 1) := by decide +kernel
theorem dX7_isTape_1 : decode cX7_isTape 1 = .ok (.iload_n 1, 1) := by decide +kernel
theorem dX7_isTape_2 : decode cX7_isTape 2 = .ok (.iconst 0, 1) := by decide +kernel
theorem dX7_isTape_3 : decode cX7_isTape 3 = .ok (.iconst 5, 1) := by decide +kernel
theorem dX7_isTape_4 : decode cX7_isTape 4 = .ok (.invokevirtual 212, 3) := by decide +kernel
theorem dX7_isTape_7 : decode cX7_isTape 7 = .ok (.ireturn, 1) := by decide +kernel
theorem dX7_tape_0 : decode cX7_tape 0 = .ok (.aload_n 0, 1) := by decide +kernel
theorem dX7_tape_1 : decode cX7_tape 1 = .ok (.iload_n 1, 1) := by decide +kernel
theorem dX7_tape_2 : decode cX7_tape 2 = .ok (.invokevirtual 384, 3) := by decide +kernel
theorem dX7_tape_5 : decode cX7_tape 5 = .ok (.ifCond .ne 5, 3) := by decide +kernel
theorem dX7_tape_8 : decode cX7_tape 8 = .ok (.iconst (-1), 1) := by decide +kernel
theorem dX7_tape_9 : decode cX7_tape 9 = .ok (.ireturn, 1) := by decide +kernel
theorem dX7_tape_10 : decode cX7_tape 10 = .ok (.aload_n 0, 1) := by decide +kernel
theorem dX7_tape_11 : decode cX7_tape 11 = .ok (.iload_n 2, 1) := by decide +kernel
theorem dX7_tape_12 : decode cX7_tape 12 = .ok (.iconst (-1), 1) := by decide +kernel
theorem dX7_tape_13 : decode cX7_tape 13 = .ok (.iconst 4, 1) := by decide +kernel
theorem dX7_tape_14 : decode cX7_tape 14 = .ok (.invokevirtual 212, 3) := by decide +kernel
theorem dX7_tape_17 : decode cX7_tape 17 = .ok (.ifCond .eq 13, 3) := by decide +kernel
theorem dX7_tape_20 : decode cX7_tape 20 = .ok (.iload_n 2, 1) := by decide +kernel
theorem dX7_tape_21 : decode cX7_tape 21 = .ok (.ifCond .lt 12, 3) := by decide +kernel
theorem dX7_tape_24 : decode cX7_tape 24 = .ok (.iload_n 3, 1) := by decide +kernel
theorem dX7_tape_25 : decode cX7_tape 25 = .ok (.bipush 60, 2) := by decide +kernel
theorem dX7_tape_27 : decode cX7_tape 27 = .ok (.if_icmp .le 6, 3) := by decide +kernel
theorem dX7_tape_30 : decode cX7_tape 30 = .ok (.bipush (-2), 2) := by decide +kernel
theorem dX7_tape_32 : decode cX7_tape 32 = .ok (.ireturn, 1) := by decide +kernel
theorem dX7_tape_33 : decode cX7_tape 33 = .ok (.iload_n 2, 1) := by decide +kernel
theorem dX7_tape_34 : decode cX7_tape 34 = .ok (.ifCond .lt 10, 3) := by decide +kernel
theorem dX7_tape_37 : decode cX7_tape 37 = .ok (.iload_n 3, 1) := by decide +kernel
theorem dX7_tape_38 : decode cX7_tape 38 = .ok (.ifCond .ge 6, 3) := by decide +kernel
theorem dX7_tape_41 : decode cX7_tape 41 = .ok (.bipush (-14), 2) := by decide +kernel
theorem dX7_tape_43 : decode cX7_tape 43 = .ok (.ireturn, 1) := by decide +kernel
theorem dX7_tape_44 : decode cX7_tape 44 = .ok (.aload_n 0, 1) := by decide +kernel
theorem dX7_tape_45 : decode cX7_tape 45 = .ok (.getfield 199, 3) := by decide +kernel
theorem dX7_tape_48 : decode cX7_tape 48 = .ok (.iload_n 1, 1) := by decide +kernel
theorem dX7_tape_49 : decode cX7_tape 49 = .ok (.iload_n 2, 1) := by decide +kernel
theorem dX7_tape_50 : decode cX7_tape 50 = .ok (.iastore, 1) := by decide +kernel
theorem dX7_tape_51 : decode cX7_tape 51 = .ok (.aload_n 0, 1) := by decide +kernel
theorem dX7_tape_52 : decode cX7_tape 52 = .ok (.getfield 202, 3) := by decide +kernel
theorem dX7_tape_55 : decode cX7_tape 55 = .ok (.iload_n 1, 1) := by decide +kernel
theorem dX7_tape_56 : decode cX7_tape 56 = .ok (.iload_n 2, 1) := by decide +kernel
theorem dX7_tape_57 : decode cX7_tape 57 = .ok (.ifCond .ge 7, 3) := by decide +kernel
theorem dX7_tape_60 : decode cX7_tape 60 = .ok (.iconst 0, 1) := by decide +kernel
theorem dX7_tape_61 : decode cX7_tape 61 = .ok (.goto 4, 3) := by decide +kernel
theorem dX7_tape_64 : decode cX7_tape 64 = .ok (.iload_n 3, 1) := by decide +kernel
theorem dX7_tape_65 : decode cX7_tape 65 = .ok (.iastore, 1) := by decide +kernel
theorem dX7_tape_66 : decode cX7_tape 66 = .ok (.iconst 0, 1) := by decide +kernel
theorem dX7_tape_67 : decode cX7_tape 67 = .ok (.istore 4, 2) := by decide +kernel
theorem dX7_tape_69 : decode cX7_tape 69 = .ok (.iload 4, 2) := by decide +kernel
theorem dX7_tape_71 : decode cX7_tape 71 = .ok (.bipush 60, 2) := by decide +kernel
theorem dX7_tape_73 : decode cX7_tape 73 = .ok (.if_icmp .ge 22, 3) := by decide +kernel
theorem dX7_tape_76 : decode cX7_tape 76 = .ok (.aload_n 0, 1) := by decide +kernel
theorem dX7_tape_77 : decode cX7_tape 77 = .ok (.getfield 205, 3) := by decide +kernel
theorem dX7_tape_80 : decode cX7_tape 80 = .ok (.bipush 60, 2) := by decide +kernel
theorem dX7_tape_82 : decode cX7_tape 82 = .ok (.iload_n 1, 1) := by decide +kernel
theorem dX7_tape_83 : decode cX7_tape 83 = .ok (.imul, 1) := by decide +kernel
theorem dX7_tape_84 : decode cX7_tape 84 = .ok (.iload 4, 2) := by decide +kernel
theorem dX7_tape_86 : decode cX7_tape 86 = .ok (.iadd, 1) := by decide +kernel
theorem dX7_tape_87 : decode cX7_tape 87 = .ok (.lconst 0, 1) := by decide +kernel
theorem dX7_tape_88 : decode cX7_tape 88 = .ok (.lastore, 1) := by decide +kernel
theorem dX7_tape_89 : decode cX7_tape 89 = .ok (.iinc 4 1, 3) := by decide +kernel
theorem dX7_tape_92 : decode cX7_tape 92 = .ok (.goto (-23), 3) := by decide +kernel
theorem dX7_tape_95 : decode cX7_tape 95 = .ok (.iconst 1, 1) := by decide +kernel
theorem dX7_tape_96 : decode cX7_tape 96 = .ok (.ireturn, 1) := by decide +kernel
theorem dX7_narrow_0 : decode cX7_narrow 0 = .ok (.iload_n 1, 1) := by decide +kernel
theorem dX7_narrow_1 : decode cX7_narrow 1 = .ok (.ifCond .ne 10, 3) := by decide +kernel
theorem dX7_narrow_4 : decode cX7_narrow 4 = .ok (.lload_n 2, 1) := by decide +kernel
theorem dX7_narrow_5 : decode cX7_narrow 5 = .ok (.l2i, 1) := by decide +kernel
theorem dX7_narrow_6 : decode cX7_narrow 6 = .ok (.i2b, 1) := by decide +kernel
theorem dX7_narrow_7 : decode cX7_narrow 7 = .ok (.i2l, 1) := by decide +kernel
theorem dX7_narrow_8 : decode cX7_narrow 8 = .ok (.goto 46, 3) := by decide +kernel
theorem dX7_narrow_11 : decode cX7_narrow 11 = .ok (.iload_n 1, 1) := by decide +kernel
theorem dX7_narrow_12 : decode cX7_narrow 12 = .ok (.iconst 1, 1) := by decide +kernel
theorem dX7_narrow_13 : decode cX7_narrow 13 = .ok (.if_icmp .ne 10, 3) := by decide +kernel
theorem dX7_narrow_16 : decode cX7_narrow 16 = .ok (.lload_n 2, 1) := by decide +kernel
theorem dX7_narrow_17 : decode cX7_narrow 17 = .ok (.l2i, 1) := by decide +kernel
theorem dX7_narrow_18 : decode cX7_narrow 18 = .ok (.i2s, 1) := by decide +kernel
theorem dX7_narrow_19 : decode cX7_narrow 19 = .ok (.i2l, 1) := by decide +kernel
theorem dX7_narrow_20 : decode cX7_narrow 20 = .ok (.goto 34, 3) := by decide +kernel
theorem dX7_narrow_23 : decode cX7_narrow 23 = .ok (.iload_n 1, 1) := by decide +kernel
theorem dX7_narrow_24 : decode cX7_narrow 24 = .ok (.iconst 2, 1) := by decide +kernel
theorem dX7_narrow_25 : decode cX7_narrow 25 = .ok (.if_icmp .ne 9, 3) := by decide +kernel
theorem dX7_narrow_28 : decode cX7_narrow 28 = .ok (.lload_n 2, 1) := by decide +kernel
theorem dX7_narrow_29 : decode cX7_narrow 29 = .ok (.l2i, 1) := by decide +kernel
theorem dX7_narrow_30 : decode cX7_narrow 30 = .ok (.i2l, 1) := by decide +kernel
theorem dX7_narrow_31 : decode cX7_narrow 31 = .ok (.goto 23, 3) := by decide +kernel
theorem dX7_narrow_34 : decode cX7_narrow 34 = .ok (.iload_n 1, 1) := by decide +kernel
theorem dX7_narrow_35 : decode cX7_narrow 35 = .ok (.iconst 4, 1) := by decide +kernel
theorem dX7_narrow_36 : decode cX7_narrow 36 = .ok (.if_icmp .ne 17, 3) := by decide +kernel
theorem dX7_narrow_39 : decode cX7_narrow 39 = .ok (.lload_n 2, 1) := by decide +kernel
theorem dX7_narrow_40 : decode cX7_narrow 40 = .ok (.lconst 0, 1) := by decide +kernel
theorem dX7_narrow_41 : decode cX7_narrow 41 = .ok (.lcmp, 1) := by decide +kernel
theorem dX7_narrow_42 : decode cX7_narrow 42 = .ok (.ifCond .eq 7, 3) := by decide +kernel
theorem dX7_narrow_45 : decode cX7_narrow 45 = .ok (.lconst 1, 1) := by decide +kernel
theorem dX7_narrow_46 : decode cX7_narrow 46 = .ok (.goto 8, 3) := by decide +kernel
theorem dX7_narrow_49 : decode cX7_narrow 49 = .ok (.lconst 0, 1) := by decide +kernel
theorem dX7_narrow_50 : decode cX7_narrow 50 = .ok (.goto 4, 3) := by decide +kernel
theorem dX7_narrow_53 : decode cX7_narrow 53 = .ok (.lload_n 2, 1) := by decide +kernel
theorem dX7_narrow_54 : decode cX7_narrow 54 = .ok (.lreturn, 1) := by decide +kernel
theorem dX7_item_0 : decode cX7_item 0 = .ok (.aload_n 0, 1) := by decide +kernel
theorem dX7_item_1 : decode cX7_item 1 = .ok (.iload_n 1, 1) := by decide +kernel
theorem dX7_item_2 : decode cX7_item 2 = .ok (.invokevirtual 384, 3) := by decide +kernel
theorem dX7_item_5 : decode cX7_item 5 = .ok (.ifCond .ne 5, 3) := by decide +kernel
theorem dX7_item_8 : decode cX7_item 8 = .ok (.iconst (-1), 1) := by decide +kernel
theorem dX7_item_9 : decode cX7_item 9 = .ok (.ireturn, 1) := by decide +kernel
theorem dX7_item_10 : decode cX7_item 10 = .ok (.aload_n 0, 1) := by decide +kernel
theorem dX7_item_11 : decode cX7_item 11 = .ok (.getfield 199, 3) := by decide +kernel
theorem dX7_item_14 : decode cX7_item 14 = .ok (.iload_n 1, 1) := by decide +kernel
theorem dX7_item_15 : decode cX7_item 15 = .ok (.iaload, 1) := by decide +kernel
theorem dX7_item_16 : decode cX7_item 16 = .ok (.ifCond .ge 6, 3) := by decide +kernel
theorem dX7_item_19 : decode cX7_item 19 = .ok (.bipush (-11), 2) := by decide +kernel
theorem dX7_item_21 : decode cX7_item 21 = .ok (.ireturn, 1) := by decide +kernel
theorem dX7_item_22 : decode cX7_item 22 = .ok (.aload_n 0, 1) := by decide +kernel
theorem dX7_item_23 : decode cX7_item 23 = .ok (.iload_n 2, 1) := by decide +kernel
theorem dX7_item_24 : decode cX7_item 24 = .ok (.iconst 0, 1) := by decide +kernel
theorem dX7_item_25 : decode cX7_item 25 = .ok (.aload_n 0, 1) := by decide +kernel
theorem dX7_item_26 : decode cX7_item 26 = .ok (.getfield 202, 3) := by decide +kernel
theorem dX7_item_29 : decode cX7_item 29 = .ok (.iload_n 1, 1) := by decide +kernel
theorem dX7_item_30 : decode cX7_item 30 = .ok (.iaload, 1) := by decide +kernel
theorem dX7_item_31 : decode cX7_item 31 = .ok (.iconst 1, 1) := by decide +kernel
theorem dX7_item_32 : decode cX7_item 32 = .ok (.isub, 1) := by decide +kernel
theorem dX7_item_33 : decode cX7_item 33 = .ok (.invokevirtual 212, 3) := by decide +kernel
theorem dX7_item_36 : decode cX7_item 36 = .ok (.ifCond .ne 6, 3) := by decide +kernel
theorem dX7_item_39 : decode cX7_item 39 = .ok (.bipush (-13), 2) := by decide +kernel
theorem dX7_item_41 : decode cX7_item 41 = .ok (.ireturn, 1) := by decide +kernel
theorem dX7_item_42 : decode cX7_item 42 = .ok (.aload_n 0, 1) := by decide +kernel
theorem dX7_item_43 : decode cX7_item 43 = .ok (.getfield 205, 3) := by decide +kernel
theorem dX7_item_46 : decode cX7_item 46 = .ok (.bipush 60, 2) := by decide +kernel
theorem dX7_item_48 : decode cX7_item 48 = .ok (.iload_n 1, 1) := by decide +kernel
theorem dX7_item_49 : decode cX7_item 49 = .ok (.imul, 1) := by decide +kernel
theorem dX7_item_50 : decode cX7_item 50 = .ok (.iload_n 2, 1) := by decide +kernel
theorem dX7_item_51 : decode cX7_item 51 = .ok (.iadd, 1) := by decide +kernel
theorem dX7_item_52 : decode cX7_item 52 = .ok (.aload_n 0, 1) := by decide +kernel
theorem dX7_item_53 : decode cX7_item 53 = .ok (.aload_n 0, 1) := by decide +kernel
theorem dX7_item_54 : decode cX7_item 54 = .ok (.getfield 199, 3) := by decide +kernel
theorem dX7_item_57 : decode cX7_item 57 = .ok (.iload_n 1, 1) := by decide +kernel
theorem dX7_item_58 : decode cX7_item 58 = .ok (.iaload, 1) := by decide +kernel
theorem dX7_item_59 : decode cX7_item 59 = .ok (.lload_n 3, 1) := by decide +kernel
theorem dX7_item_60 : decode cX7_item 60 = .ok (.invokevirtual 411, 3) := by decide +kernel
theorem dX7_item_63 : decode cX7_item 63 = .ok (.lastore, 1) := by decide +kernel
theorem dX7_item_64 : decode cX7_item 64 = .ok (.iconst 1, 1) := by decide +kernel
theorem dX7_item_65 : decode cX7_item 65 = .ok (.ireturn, 1) := by decide +kernel
theorem dX7_read_0 : decode cX7_read 0 = .ok (.aload_n 0, 1) := by decide +kernel
theorem dX7_read_1 : decode cX7_read 1 = .ok (.iload_n 1, 1) := by decide +kernel
theorem dX7_read_2 : decode cX7_read 2 = .ok (.invokevirtual 384, 3) := by decide +kernel
theorem dX7_read_5 : decode cX7_read 5 = .ok (.ifCond .eq 29, 3) := by decide +kernel
theorem dX7_read_8 : decode cX7_read 8 = .ok (.aload_n 0, 1) := by decide +kernel
theorem dX7_read_9 : decode cX7_read 9 = .ok (.getfield 199, 3) := by decide +kernel
theorem dX7_read_12 : decode cX7_read 12 = .ok (.iload_n 1, 1) := by decide +kernel
theorem dX7_read_13 : decode cX7_read 13 = .ok (.iaload, 1) := by decide +kernel
theorem dX7_read_14 : decode cX7_read 14 = .ok (.ifCond .lt 20, 3) := by decide +kernel
theorem dX7_read_17 : decode cX7_read 17 = .ok (.aload_n 0, 1) := by decide +kernel
theorem dX7_read_18 : decode cX7_read 18 = .ok (.iload_n 2, 1) := by decide +kernel
theorem dX7_read_19 : decode cX7_read 19 = .ok (.iconst 0, 1) := by decide +kernel
theorem dX7_read_20 : decode cX7_read 20 = .ok (.aload_n 0, 1) := by decide +kernel
theorem dX7_read_21 : decode cX7_read 21 = .ok (.getfield 202, 3) := by decide +kernel
theorem dX7_read_24 : decode cX7_read 24 = .ok (.iload_n 1, 1) := by decide +kernel
theorem dX7_read_25 : decode cX7_read 25 = .ok (.iaload, 1) := by decide +kernel
theorem dX7_read_26 : decode cX7_read 26 = .ok (.iconst 1, 1) := by decide +kernel
theorem dX7_read_27 : decode cX7_read 27 = .ok (.isub, 1) := by decide +kernel
theorem dX7_read_28 : decode cX7_read 28 = .ok (.invokevirtual 212, 3) := by decide +kernel
theorem dX7_read_31 : decode cX7_read 31 = .ok (.ifCond .ne 9, 3) := by decide +kernel
theorem dX7_read_34 : decode cX7_read 34 = .ok (.ldc2_w 378, 3) := by decide +kernel
theorem dX7_read_37 : decode cX7_read 37 = .ok (.goto 14, 3) := by decide +kernel
theorem dX7_read_40 : decode cX7_read 40 = .ok (.aload_n 0, 1) := by decide +kernel
theorem dX7_read_41 : decode cX7_read 41 = .ok (.getfield 205, 3) := by decide +kernel
theorem dX7_read_44 : decode cX7_read 44 = .ok (.bipush 60, 2) := by decide +kernel
theorem dX7_read_46 : decode cX7_read 46 = .ok (.iload_n 1, 1) := by decide +kernel
theorem dX7_read_47 : decode cX7_read 47 = .ok (.imul, 1) := by decide +kernel
theorem dX7_read_48 : decode cX7_read 48 = .ok (.iload_n 2, 1) := by decide +kernel
theorem dX7_read_49 : decode cX7_read 49 = .ok (.iadd, 1) := by decide +kernel
theorem dX7_read_50 : decode cX7_read 50 = .ok (.laload, 1) := by decide +kernel
theorem dX7_read_51 : decode cX7_read 51 = .ok (.lreturn, 1) := by decide +kernel
theorem dX7_shift_0 : decode cX7_shift 0 = .ok (.aload_n 0, 1) := by decide +kernel
theorem dX7_shift_1 : decode cX7_shift 1 = .ok (.iload_n 1, 1) := by decide +kernel
theorem dX7_shift_2 : decode cX7_shift 2 = .ok (.invokevirtual 384, 3) := by decide +kernel
theorem dX7_shift_5 : decode cX7_shift 5 = .ok (.ifCond .eq 11, 3) := by decide +kernel
theorem dX7_shift_8 : decode cX7_shift 8 = .ok (.aload_n 0, 1) := by decide +kernel
theorem dX7_shift_9 : decode cX7_shift 9 = .ok (.iload_n 3, 1) := by decide +kernel
theorem dX7_shift_10 : decode cX7_shift 10 = .ok (.invokevirtual 384, 3) := by decide +kernel
theorem dX7_shift_13 : decode cX7_shift 13 = .ok (.ifCond .ne 5, 3) := by decide +kernel
theorem dX7_shift_16 : decode cX7_shift 16 = .ok (.iconst (-1), 1) := by decide +kernel
theorem dX7_shift_17 : decode cX7_shift 17 = .ok (.ireturn, 1) := by decide +kernel
theorem dX7_shift_18 : decode cX7_shift 18 = .ok (.aload_n 0, 1) := by decide +kernel
theorem dX7_shift_19 : decode cX7_shift 19 = .ok (.getfield 199, 3) := by decide +kernel
theorem dX7_shift_22 : decode cX7_shift 22 = .ok (.iload_n 1, 1) := by decide +kernel
theorem dX7_shift_23 : decode cX7_shift 23 = .ok (.iaload, 1) := by decide +kernel
theorem dX7_shift_24 : decode cX7_shift 24 = .ok (.ifCond .lt 12, 3) := by decide +kernel
theorem dX7_shift_27 : decode cX7_shift 27 = .ok (.aload_n 0, 1) := by decide +kernel
theorem dX7_shift_28 : decode cX7_shift 28 = .ok (.getfield 199, 3) := by decide +kernel
theorem dX7_shift_31 : decode cX7_shift 31 = .ok (.iload_n 3, 1) := by decide +kernel
theorem dX7_shift_32 : decode cX7_shift 32 = .ok (.iaload, 1) := by decide +kernel
theorem dX7_shift_33 : decode cX7_shift 33 = .ok (.ifCond .ge 6, 3) := by decide +kernel
theorem dX7_shift_36 : decode cX7_shift 36 = .ok (.bipush (-11), 2) := by decide +kernel
theorem dX7_shift_38 : decode cX7_shift 38 = .ok (.ireturn, 1) := by decide +kernel
theorem dX7_shift_39 : decode cX7_shift 39 = .ok (.aload_n 0, 1) := by decide +kernel
theorem dX7_shift_40 : decode cX7_shift 40 = .ok (.getfield 199, 3) := by decide +kernel
theorem dX7_shift_43 : decode cX7_shift 43 = .ok (.iload_n 1, 1) := by decide +kernel
theorem dX7_shift_44 : decode cX7_shift 44 = .ok (.iaload, 1) := by decide +kernel
theorem dX7_shift_45 : decode cX7_shift 45 = .ok (.aload_n 0, 1) := by decide +kernel
theorem dX7_shift_46 : decode cX7_shift 46 = .ok (.getfield 199, 3) := by decide +kernel
theorem dX7_shift_49 : decode cX7_shift 49 = .ok (.iload_n 3, 1) := by decide +kernel
theorem dX7_shift_50 : decode cX7_shift 50 = .ok (.iaload, 1) := by decide +kernel
theorem dX7_shift_51 : decode cX7_shift 51 = .ok (.if_icmp .eq 6, 3) := by decide +kernel
theorem dX7_shift_54 : decode cX7_shift 54 = .ok (.bipush (-12), 2) := by decide +kernel
theorem dX7_shift_56 : decode cX7_shift 56 = .ok (.ireturn, 1) := by decide +kernel
theorem dX7_shift_57 : decode cX7_shift 57 = .ok (.iload 5, 2) := by decide +kernel
theorem dX7_shift_59 : decode cX7_shift 59 = .ok (.ifCond .lt 39, 3) := by decide +kernel
theorem dX7_shift_62 : decode cX7_shift 62 = .ok (.iload_n 2, 1) := by decide +kernel
theorem dX7_shift_63 : decode cX7_shift 63 = .ok (.ifCond .lt 35, 3) := by decide +kernel
theorem dX7_shift_66 : decode cX7_shift 66 = .ok (.iload 4, 2) := by decide +kernel
theorem dX7_shift_68 : decode cX7_shift 68 = .ok (.ifCond .lt 30, 3) := by decide +kernel
theorem dX7_shift_71 : decode cX7_shift 71 = .ok (.iload_n 2, 1) := by decide +kernel
theorem dX7_shift_72 : decode cX7_shift 72 = .ok (.aload_n 0, 1) := by decide +kernel
theorem dX7_shift_73 : decode cX7_shift 73 = .ok (.getfield 202, 3) := by decide +kernel
theorem dX7_shift_76 : decode cX7_shift 76 = .ok (.iload_n 1, 1) := by decide +kernel
theorem dX7_shift_77 : decode cX7_shift 77 = .ok (.iaload, 1) := by decide +kernel
theorem dX7_shift_78 : decode cX7_shift 78 = .ok (.iload 5, 2) := by decide +kernel
theorem dX7_shift_80 : decode cX7_shift 80 = .ok (.isub, 1) := by decide +kernel
theorem dX7_shift_81 : decode cX7_shift 81 = .ok (.if_icmp .gt 17, 3) := by decide +kernel
theorem dX7_shift_84 : decode cX7_shift 84 = .ok (.iload 4, 2) := by decide +kernel
theorem dX7_shift_86 : decode cX7_shift 86 = .ok (.aload_n 0, 1) := by decide +kernel
theorem dX7_shift_87 : decode cX7_shift 87 = .ok (.getfield 202, 3) := by decide +kernel
theorem dX7_shift_90 : decode cX7_shift 90 = .ok (.iload_n 3, 1) := by decide +kernel
theorem dX7_shift_91 : decode cX7_shift 91 = .ok (.iaload, 1) := by decide +kernel
theorem dX7_shift_92 : decode cX7_shift 92 = .ok (.iload 5, 2) := by decide +kernel
theorem dX7_shift_94 : decode cX7_shift 94 = .ok (.isub, 1) := by decide +kernel
theorem dX7_shift_95 : decode cX7_shift 95 = .ok (.if_icmp .le 6, 3) := by decide +kernel
theorem dX7_shift_98 : decode cX7_shift 98 = .ok (.bipush (-13), 2) := by decide +kernel
theorem dX7_shift_100 : decode cX7_shift 100 = .ok (.ireturn, 1) := by decide +kernel
theorem dX7_shift_101 : decode cX7_shift 101 = .ok (.iconst 0, 1) := by decide +kernel
theorem dX7_shift_102 : decode cX7_shift 102 = .ok (.istore 6, 2) := by decide +kernel
theorem dX7_shift_104 : decode cX7_shift 104 = .ok (.iload 6, 2) := by decide +kernel
theorem dX7_shift_106 : decode cX7_shift 106 = .ok (.iload 5, 2) := by decide +kernel
theorem dX7_shift_108 : decode cX7_shift 108 = .ok (.if_icmp .ge 30, 3) := by decide +kernel
theorem dX7_shift_111 : decode cX7_shift 111 = .ok (.aload_n 0, 1) := by decide +kernel
theorem dX7_shift_112 : decode cX7_shift 112 = .ok (.getfield 209, 3) := by decide +kernel
theorem dX7_shift_115 : decode cX7_shift 115 = .ok (.iload 6, 2) := by decide +kernel
theorem dX7_shift_117 : decode cX7_shift 117 = .ok (.aload_n 0, 1) := by decide +kernel
theorem dX7_shift_118 : decode cX7_shift 118 = .ok (.getfield 205, 3) := by decide +kernel
theorem dX7_shift_121 : decode cX7_shift 121 = .ok (.bipush 60, 2) := by decide +kernel
theorem dX7_shift_123 : decode cX7_shift 123 = .ok (.iload_n 1, 1) := by decide +kernel
theorem dX7_shift_124 : decode cX7_shift 124 = .ok (.imul, 1) := by decide +kernel
theorem dX7_shift_125 : decode cX7_shift 125 = .ok (.iload_n 2, 1) := by decide +kernel
theorem dX7_shift_126 : decode cX7_shift 126 = .ok (.iadd, 1) := by decide +kernel
theorem dX7_shift_127 : decode cX7_shift 127 = .ok (.iload 6, 2) := by decide +kernel
theorem dX7_shift_129 : decode cX7_shift 129 = .ok (.iadd, 1) := by decide +kernel
theorem dX7_shift_130 : decode cX7_shift 130 = .ok (.laload, 1) := by decide +kernel
theorem dX7_shift_131 : decode cX7_shift 131 = .ok (.lastore, 1) := by decide +kernel
theorem dX7_shift_132 : decode cX7_shift 132 = .ok (.iinc 6 1, 3) := by decide +kernel
theorem dX7_shift_135 : decode cX7_shift 135 = .ok (.goto (-31), 3) := by decide +kernel
theorem dX7_shift_138 : decode cX7_shift 138 = .ok (.iconst 0, 1) := by decide +kernel
theorem dX7_shift_139 : decode cX7_shift 139 = .ok (.istore 6, 2) := by decide +kernel
theorem dX7_shift_141 : decode cX7_shift 141 = .ok (.iload 6, 2) := by decide +kernel
theorem dX7_shift_143 : decode cX7_shift 143 = .ok (.iload 5, 2) := by decide +kernel
theorem dX7_shift_145 : decode cX7_shift 145 = .ok (.if_icmp .ge 31, 3) := by decide +kernel
theorem dX7_shift_148 : decode cX7_shift 148 = .ok (.aload_n 0, 1) := by decide +kernel
theorem dX7_shift_149 : decode cX7_shift 149 = .ok (.getfield 205, 3) := by decide +kernel
theorem dX7_shift_152 : decode cX7_shift 152 = .ok (.bipush 60, 2) := by decide +kernel
theorem dX7_shift_154 : decode cX7_shift 154 = .ok (.iload_n 3, 1) := by decide +kernel
theorem dX7_shift_155 : decode cX7_shift 155 = .ok (.imul, 1) := by decide +kernel
theorem dX7_shift_156 : decode cX7_shift 156 = .ok (.iload 4, 2) := by decide +kernel
theorem dX7_shift_158 : decode cX7_shift 158 = .ok (.iadd, 1) := by decide +kernel
theorem dX7_shift_159 : decode cX7_shift 159 = .ok (.iload 6, 2) := by decide +kernel
theorem dX7_shift_161 : decode cX7_shift 161 = .ok (.iadd, 1) := by decide +kernel
theorem dX7_shift_162 : decode cX7_shift 162 = .ok (.aload_n 0, 1) := by decide +kernel
theorem dX7_shift_163 : decode cX7_shift 163 = .ok (.getfield 209, 3) := by decide +kernel
theorem dX7_shift_166 : decode cX7_shift 166 = .ok (.iload 6, 2) := by decide +kernel
theorem dX7_shift_168 : decode cX7_shift 168 = .ok (.laload, 1) := by decide +kernel
theorem dX7_shift_169 : decode cX7_shift 169 = .ok (.lastore, 1) := by decide +kernel
theorem dX7_shift_170 : decode cX7_shift 170 = .ok (.iinc 6 1, 3) := by decide +kernel
theorem dX7_shift_173 : decode cX7_shift 173 = .ok (.goto (-32), 3) := by decide +kernel
theorem dX7_shift_176 : decode cX7_shift 176 = .ok (.iload 5, 2) := by decide +kernel
theorem dX7_shift_178 : decode cX7_shift 178 = .ok (.ireturn, 1) := by decide +kernel
theorem dJ11_isValidCodePoint_9a6ad_0 : decode cJ11_isValidCodePoint_9a6ad 0 = .ok (.iload_n 0, 1) := by decide +kernel
theorem dJ11_isValidCodePoint_9a6ad_1 : decode cJ11_isValidCodePoint_9a6ad 1 = .ok (.bipush 16, 2) := by decide +kernel
theorem dJ11_isValidCodePoint_9a6ad_3 : decode cJ11_isValidCodePoint_9a6ad 3 = .ok (.iushr, 1) := by decide +kernel
theorem dJ11_isValidCodePoint_9a6ad_4 : decode cJ11_isValidCodePoint_9a6ad 4 = .ok (.istore_n 1, 1) := by decide +kernel
theorem dJ11_isValidCodePoint_9a6ad_5 : decode cJ11_isValidCodePoint_9a6ad 5 = .ok (.iload_n 1, 1) := by decide +kernel
theorem dJ11_isValidCodePoint_9a6ad_6 : decode cJ11_isValidCodePoint_9a6ad 6 = .ok (.bipush 17, 2) := by decide +kernel
theorem dJ11_isValidCodePoint_9a6ad_8 : decode cJ11_isValidCodePoint_9a6ad 8 = .ok (.if_icmp .ge 7, 3) := by decide +kernel
theorem dJ11_isValidCodePoint_9a6ad_11 : decode cJ11_isValidCodePoint_9a6ad 11 = .ok (.iconst 1, 1) := by decide +kernel
theorem dJ11_isValidCodePoint_9a6ad_12 : decode cJ11_isValidCodePoint_9a6ad 12 = .ok (.goto 4, 3) := by decide +kernel
theorem dJ11_isValidCodePoint_9a6ad_15 : decode cJ11_isValidCodePoint_9a6ad 15 = .ok (.iconst 0, 1) := by decide +kernel
theorem dJ11_isValidCodePoint_9a6ad_16 : decode cJ11_isValidCodePoint_9a6ad 16 = .ok (.ireturn, 1) := by decide +kernel
theorem dJ11_highSurrogate_5068e_0 : decode cJ11_highSurrogate_5068e 0 = .ok (.iload_n 0, 1) := by decide +kernel
theorem dJ11_highSurrogate_5068e_1 : decode cJ11_highSurrogate_5068e 1 = .ok (.bipush 10, 2) := by decide +kernel
theorem dJ11_highSurrogate_5068e_3 : decode cJ11_highSurrogate_5068e 3 = .ok (.iushr, 1) := by decide +kernel
theorem dJ11_highSurrogate_5068e_4 : decode cJ11_highSurrogate_5068e 4 = .ok (.ldc 110, 2) := by decide +kernel
theorem dJ11_highSurrogate_5068e_6 : decode cJ11_highSurrogate_5068e 6 = .ok (.iadd, 1) := by decide +kernel
theorem dJ11_highSurrogate_5068e_7 : decode cJ11_highSurrogate_5068e 7 = .ok (.i2c, 1) := by decide +kernel
theorem dJ11_highSurrogate_5068e_8 : decode cJ11_highSurrogate_5068e 8 = .ok (.ireturn, 1) := by decide +kernel
theorem dJ11_lowSurrogate_5068e_0 : decode cJ11_lowSurrogate_5068e 0 = .ok (.iload_n 0, 1) := by decide +kernel
theorem dJ11_lowSurrogate_5068e_1 : decode cJ11_lowSurrogate_5068e 1 = .ok (.sipush 1023, 3) := by decide +kernel
theorem dJ11_lowSurrogate_5068e_4 : decode cJ11_lowSurrogate_5068e 4 = .ok (.iand, 1) := by decide +kernel
theorem dJ11_lowSurrogate_5068e_5 : decode cJ11_lowSurrogate_5068e 5 = .ok (.ldc 76, 2) := by decide +kernel
theorem dJ11_lowSurrogate_5068e_7 : decode cJ11_lowSurrogate_5068e 7 = .ok (.iadd, 1) := by decide +kernel
theorem dJ11_lowSurrogate_5068e_8 : decode cJ11_lowSurrogate_5068e 8 = .ok (.i2c, 1) := by decide +kernel
theorem dJ11_lowSurrogate_5068e_9 : decode cJ11_lowSurrogate_5068e 9 = .ok (.ireturn, 1) := by decide +kernel
theorem dJ9_abs_067f4_0 : decode cJ9_abs_067f4 0 = .ok (.lload_n 0, 1) := by decide +kernel
theorem dJ9_abs_067f4_1 : decode cJ9_abs_067f4 1 = .ok (.lconst 0, 1) := by decide +kernel
theorem dJ9_abs_067f4_2 : decode cJ9_abs_067f4 2 = .ok (.lcmp, 1) := by decide +kernel
theorem dJ9_abs_067f4_3 : decode cJ9_abs_067f4 3 = .ok (.ifCond .ge 8, 3) := by decide +kernel
theorem dJ9_abs_067f4_6 : decode cJ9_abs_067f4 6 = .ok (.lload_n 0, 1) := by decide +kernel
theorem dJ9_abs_067f4_7 : decode cJ9_abs_067f4 7 = .ok (.lneg, 1) := by decide +kernel
theorem dJ9_abs_067f4_8 : decode cJ9_abs_067f4 8 = .ok (.goto 4, 3) := by decide +kernel
theorem dJ9_abs_067f4_11 : decode cJ9_abs_067f4 11 = .ok (.lload_n 0, 1) := by decide +kernel
theorem dJ9_abs_067f4_12 : decode cJ9_abs_067f4 12 = .ok (.lreturn, 1) := by decide +kernel
theorem dJ9_max_7cf53_0 : decode cJ9_max_7cf53 0 = .ok (.iload_n 0, 1) := by decide +kernel
theorem dJ9_max_7cf53_1 : decode cJ9_max_7cf53 1 = .ok (.iload_n 1, 1) := by decide +kernel
theorem dJ9_max_7cf53_2 : decode cJ9_max_7cf53 2 = .ok (.if_icmp .lt 7, 3) := by decide +kernel
theorem dJ9_max_7cf53_5 : decode cJ9_max_7cf53 5 = .ok (.iload_n 0, 1) := by decide +kernel
theorem dJ9_max_7cf53_6 : decode cJ9_max_7cf53 6 = .ok (.goto 4, 3) := by decide +kernel
theorem dJ9_max_7cf53_9 : decode cJ9_max_7cf53 9 = .ok (.iload_n 1, 1) := by decide +kernel
theorem dJ9_max_7cf53_10 : decode cJ9_max_7cf53 10 = .ok (.ireturn, 1) := by decide +kernel
theorem dJ9_max_f86c9_0 : decode cJ9_max_f86c9 0 = .ok (.lload_n 0, 1) := by decide +kernel
theorem dJ9_max_f86c9_1 : decode cJ9_max_f86c9 1 = .ok (.lload_n 2, 1) := by decide +kernel
theorem dJ9_max_f86c9_2 : decode cJ9_max_f86c9 2 = .ok (.lcmp, 1) := by decide +kernel
theorem dJ9_max_f86c9_3 : decode cJ9_max_f86c9 3 = .ok (.ifCond .lt 7, 3) := by decide +kernel
theorem dJ9_max_f86c9_6 : decode cJ9_max_f86c9 6 = .ok (.lload_n 0, 1) := by decide +kernel
theorem dJ9_max_f86c9_7 : decode cJ9_max_f86c9 7 = .ok (.goto 4, 3) := by decide +kernel
theorem dJ9_max_f86c9_10 : decode cJ9_max_f86c9 10 = .ok (.lload_n 2, 1) := by decide +kernel
theorem dJ9_max_f86c9_11 : decode cJ9_max_f86c9 11 = .ok (.lreturn, 1) := by decide +kernel
theorem dJ9_min_7cf53_0 : decode cJ9_min_7cf53 0 = .ok (.iload_n 0, 1) := by decide +kernel
theorem dJ9_min_7cf53_1 : decode cJ9_min_7cf53 1 = .ok (.iload_n 1, 1) := by decide +kernel
theorem dJ9_min_7cf53_2 : decode cJ9_min_7cf53 2 = .ok (.if_icmp .gt 7, 3) := by decide +kernel
theorem dJ9_min_7cf53_5 : decode cJ9_min_7cf53 5 = .ok (.iload_n 0, 1) := by decide +kernel
theorem dJ9_min_7cf53_6 : decode cJ9_min_7cf53 6 = .ok (.goto 4, 3) := by decide +kernel
theorem dJ9_min_7cf53_9 : decode cJ9_min_7cf53 9 = .ok (.iload_n 1, 1) := by decide +kernel
theorem dJ9_min_7cf53_10 : decode cJ9_min_7cf53 10 = .ok (.ireturn, 1) := by decide +kernel
theorem dJ0_length_8abf5_0 : decode cJ0_length_8abf5 0 = .ok (.aload_n 0, 1) := by decide +kernel
theorem dJ0_length_8abf5_1 : decode cJ0_length_8abf5 1 = .ok (.getfield 9, 3) := by decide +kernel
theorem dJ0_length_8abf5_4 : decode cJ0_length_8abf5 4 = .ok (.arraylength, 1) := by decide +kernel
theorem dJ0_length_8abf5_5 : decode cJ0_length_8abf5 5 = .ok (.aload_n 0, 1) := by decide +kernel
theorem dJ0_length_8abf5_6 : decode cJ0_length_8abf5 6 = .ok (.invokevirtual 335, 3) := by decide +kernel
theorem dJ0_length_8abf5_9 : decode cJ0_length_8abf5 9 = .ok (.ishr, 1) := by decide +kernel
theorem dJ0_length_8abf5_10 : decode cJ0_length_8abf5 10 = .ok (.ireturn, 1) := by decide +kernel
theorem dJ0_charAt_5068e_0 : decode cJ0_charAt_5068e 0 = .ok (.aload_n 0, 1) := by decide +kernel
theorem dJ0_charAt_5068e_1 : decode cJ0_charAt_5068e 1 = .ok (.invokevirtual 492, 3) := by decide +kernel
theorem dJ0_charAt_5068e_4 : decode cJ0_charAt_5068e 4 = .ok (.ifCond .eq 12, 3) := by decide +kernel
theorem dJ0_charAt_5068e_7 : decode cJ0_charAt_5068e 7 = .ok (.aload_n 0, 1) := by decide +kernel
theorem dJ0_charAt_5068e_8 : decode cJ0_charAt_5068e 8 = .ok (.getfield 9, 3) := by decide +kernel
theorem dJ0_charAt_5068e_11 : decode cJ0_charAt_5068e 11 = .ok (.iload_n 1, 1) := by decide +kernel
theorem dJ0_charAt_5068e_12 : decode cJ0_charAt_5068e 12 = .ok (.invokestatic 495, 3) := by decide +kernel
theorem dJ0_charAt_5068e_15 : decode cJ0_charAt_5068e 15 = .ok (.ireturn, 1) := by decide +kernel
theorem dJ0_charAt_5068e_16 : decode cJ0_charAt_5068e 16 = .ok (.aload_n 0, 1) := by decide +kernel
theorem dJ0_charAt_5068e_17 : decode cJ0_charAt_5068e 17 = .ok (.getfield 9, 3) := by decide +kernel
theorem dJ0_charAt_5068e_20 : decode cJ0_charAt_5068e 20 = .ok (.iload_n 1, 1) := by decide +kernel
theorem dJ0_charAt_5068e_21 : decode cJ0_charAt_5068e 21 = .ok (.invokestatic 498, 3) := by decide +kernel
theorem dJ0_charAt_5068e_24 : decode cJ0_charAt_5068e 24 = .ok (.ireturn, 1) := by decide +kernel
theorem dJ0_indexOf_0f7a4_0 : decode cJ0_indexOf_0f7a4 0 = .ok (.aload_n 0, 1) := by decide +kernel
theorem dJ0_indexOf_0f7a4_1 : decode cJ0_indexOf_0f7a4 1 = .ok (.iload_n 1, 1) := by decide +kernel
theorem dJ0_indexOf_0f7a4_2 : decode cJ0_indexOf_0f7a4 2 = .ok (.iconst 0, 1) := by decide +kernel
theorem dJ0_indexOf_0f7a4_3 : decode cJ0_indexOf_0f7a4 3 = .ok (.invokevirtual 633, 3) := by decide +kernel
theorem dJ0_indexOf_0f7a4_6 : decode cJ0_indexOf_0f7a4 6 = .ok (.ireturn, 1) := by decide +kernel
theorem dJ0_indexOf_7cf53_0 : decode cJ0_indexOf_7cf53 0 = .ok (.aload_n 0, 1) := by decide +kernel
theorem dJ0_indexOf_7cf53_1 : decode cJ0_indexOf_7cf53 1 = .ok (.invokevirtual 492, 3) := by decide +kernel
theorem dJ0_indexOf_7cf53_4 : decode cJ0_indexOf_7cf53 4 = .ok (.ifCond .eq 19, 3) := by decide +kernel
theorem dJ0_indexOf_7cf53_7 : decode cJ0_indexOf_7cf53 7 = .ok (.aload_n 0, 1) := by decide +kernel
theorem dJ0_indexOf_7cf53_8 : decode cJ0_indexOf_7cf53 8 = .ok (.getfield 9, 3) := by decide +kernel
theorem dJ0_indexOf_7cf53_11 : decode cJ0_indexOf_7cf53 11 = .ok (.iload_n 1, 1) := by decide +kernel
theorem dJ0_indexOf_7cf53_12 : decode cJ0_indexOf_7cf53 12 = .ok (.iload_n 2, 1) := by decide +kernel
theorem dJ0_indexOf_7cf53_13 : decode cJ0_indexOf_7cf53 13 = .ok (.aload_n 0, 1) := by decide +kernel
theorem dJ0_indexOf_7cf53_14 : decode cJ0_indexOf_7cf53 14 = .ok (.invokevirtual 505, 3) := by decide +kernel
theorem dJ0_indexOf_7cf53_17 : decode cJ0_indexOf_7cf53 17 = .ok (.invokestatic 637, 3) := by decide +kernel
theorem dJ0_indexOf_7cf53_20 : decode cJ0_indexOf_7cf53 20 = .ok (.goto 16, 3) := by decide +kernel
theorem dJ0_indexOf_7cf53_23 : decode cJ0_indexOf_7cf53 23 = .ok (.aload_n 0, 1) := by decide +kernel
theorem dJ0_indexOf_7cf53_24 : decode cJ0_indexOf_7cf53 24 = .ok (.getfield 9, 3) := by decide +kernel
theorem dJ0_indexOf_7cf53_27 : decode cJ0_indexOf_7cf53 27 = .ok (.iload_n 1, 1) := by decide +kernel
theorem dJ0_indexOf_7cf53_28 : decode cJ0_indexOf_7cf53 28 = .ok (.iload_n 2, 1) := by decide +kernel
theorem dJ0_indexOf_7cf53_29 : decode cJ0_indexOf_7cf53 29 = .ok (.aload_n 0, 1) := by decide +kernel
theorem dJ0_indexOf_7cf53_30 : decode cJ0_indexOf_7cf53 30 = .ok (.invokevirtual 505, 3) := by decide +kernel
theorem dJ0_indexOf_7cf53_33 : decode cJ0_indexOf_7cf53 33 = .ok (.invokestatic 640, 3) := by decide +kernel
theorem dJ0_indexOf_7cf53_36 : decode cJ0_indexOf_7cf53 36 = .ok (.ireturn, 1) := by decide +kernel
theorem dJ0_coder_7d493_0 : decode cJ0_coder_7d493 0 = .ok (.getstatic 38, 3) := by decide +kernel
theorem dJ0_coder_7d493_3 : decode cJ0_coder_7d493 3 = .ok (.ifCond .eq 10, 3) := by decide +kernel
theorem dJ0_coder_7d493_6 : decode cJ0_coder_7d493 6 = .ok (.aload_n 0, 1) := by decide +kernel
theorem dJ0_coder_7d493_7 : decode cJ0_coder_7d493 7 = .ok (.getfield 15, 3) := by decide +kernel
theorem dJ0_coder_7d493_10 : decode cJ0_coder_7d493 10 = .ok (.goto 4, 3) := by decide +kernel
theorem dJ0_coder_7d493_13 : decode cJ0_coder_7d493 13 = .ok (.iconst 1, 1) := by decide +kernel
theorem dJ0_coder_7d493_14 : decode cJ0_coder_7d493 14 = .ok (.ireturn, 1) := by decide +kernel
theorem dJ0_isLatin1_aae02_0 : decode cJ0_isLatin1_aae02 0 = .ok (.getstatic 38, 3) := by decide +kernel
theorem dJ0_isLatin1_aae02_3 : decode cJ0_isLatin1_aae02 3 = .ok (.ifCond .eq 14, 3) := by decide +kernel
theorem dJ0_isLatin1_aae02_6 : decode cJ0_isLatin1_aae02 6 = .ok (.aload_n 0, 1) := by decide +kernel
theorem dJ0_isLatin1_aae02_7 : decode cJ0_isLatin1_aae02 7 = .ok (.getfield 15, 3) := by decide +kernel
theorem dJ0_isLatin1_aae02_10 : decode cJ0_isLatin1_aae02 10 = .ok (.ifCond .ne 7, 3) := by decide +kernel
theorem dJ0_isLatin1_aae02_13 : decode cJ0_isLatin1_aae02 13 = .ok (.iconst 1, 1) := by decide +kernel
theorem dJ0_isLatin1_aae02_14 : decode cJ0_isLatin1_aae02 14 = .ok (.goto 4, 3) := by decide +kernel
theorem dJ0_isLatin1_aae02_17 : decode cJ0_isLatin1_aae02 17 = .ok (.iconst 0, 1) := by decide +kernel
theorem dJ0_isLatin1_aae02_18 : decode cJ0_isLatin1_aae02 18 = .ok (.ireturn, 1) := by decide +kernel
theorem dJ0_checkIndex_df160_0 : decode cJ0_checkIndex_df160 0 = .ok (.iload_n 0, 1) := by decide +kernel
theorem dJ0_checkIndex_df160_1 : decode cJ0_checkIndex_df160 1 = .ok (.iload_n 1, 1) := by decide +kernel
theorem dJ0_checkIndex_df160_2 : decode cJ0_checkIndex_df160 2 = .ok (.getstatic 1053, 3) := by decide +kernel
theorem dJ0_checkIndex_df160_5 : decode cJ0_checkIndex_df160 5 = .ok (.invokestatic 1059, 3) := by decide +kernel
theorem dJ0_checkIndex_df160_8 : decode cJ0_checkIndex_df160 8 = .ok (.pop, 1) := by decide +kernel
theorem dJ0_checkIndex_df160_9 : decode cJ0_checkIndex_df160 9 = .ok (.return_, 1) := by decide +kernel
theorem dJ0_checkBoundsBeginEnd_23922_0 : decode cJ0_checkBoundsBeginEnd_23922 0 = .ok (.iload_n 0, 1) := by decide +kernel
theorem dJ0_checkBoundsBeginEnd_23922_1 : decode cJ0_checkBoundsBeginEnd_23922 1 = .ok (.iload_n 1, 1) := by decide +kernel
theorem dJ0_checkBoundsBeginEnd_23922_2 : decode cJ0_checkBoundsBeginEnd_23922 2 = .ok (.iload_n 2, 1) := by decide +kernel
theorem dJ0_checkBoundsBeginEnd_23922_3 : decode cJ0_checkBoundsBeginEnd_23922 3 = .ok (.getstatic 1053, 3) := by decide +kernel
theorem dJ0_checkBoundsBeginEnd_23922_6 : decode cJ0_checkBoundsBeginEnd_23922 6 = .ok (.invokestatic 1062, 3) := by decide +kernel
theorem dJ0_checkBoundsBeginEnd_23922_9 : decode cJ0_checkBoundsBeginEnd_23922 9 = .ok (.pop, 1) := by decide +kernel
theorem dJ0_checkBoundsBeginEnd_23922_10 : decode cJ0_checkBoundsBeginEnd_23922 10 = .ok (.return_, 1) := by decide +kernel
theorem dJ1_charAt_3b067_0 : decode cJ1_charAt_3b067 0 = .ok (.iload_n 1, 1) := by decide +kernel
theorem dJ1_charAt_3b067_1 : decode cJ1_charAt_3b067 1 = .ok (.aload_n 0, 1) := by decide +kernel
theorem dJ1_charAt_3b067_2 : decode cJ1_charAt_3b067 2 = .ok (.arraylength, 1) := by decide +kernel
theorem dJ1_charAt_3b067_3 : decode cJ1_charAt_3b067 3 = .ok (.invokestatic 9, 3) := by decide +kernel
theorem dJ1_charAt_3b067_6 : decode cJ1_charAt_3b067 6 = .ok (.aload_n 0, 1) := by decide +kernel
theorem dJ1_charAt_3b067_7 : decode cJ1_charAt_3b067 7 = .ok (.iload_n 1, 1) := by decide +kernel
theorem dJ1_charAt_3b067_8 : decode cJ1_charAt_3b067 8 = .ok (.baload, 1) := by decide +kernel
theorem dJ1_charAt_3b067_9 : decode cJ1_charAt_3b067 9 = .ok (.sipush 255, 3) := by decide +kernel
theorem dJ1_charAt_3b067_12 : decode cJ1_charAt_3b067 12 = .ok (.iand, 1) := by decide +kernel
theorem dJ1_charAt_3b067_13 : decode cJ1_charAt_3b067 13 = .ok (.i2c, 1) := by decide +kernel
theorem dJ1_charAt_3b067_14 : decode cJ1_charAt_3b067 14 = .ok (.ireturn, 1) := by decide +kernel
theorem dJ1_canEncode_9a6ad_0 : decode cJ1_canEncode_9a6ad 0 = .ok (.iload_n 0, 1) := by decide +kernel
theorem dJ1_canEncode_9a6ad_1 : decode cJ1_canEncode_9a6ad 1 = .ok (.ifCond .lt 14, 3) := by decide +kernel
theorem dJ1_canEncode_9a6ad_4 : decode cJ1_canEncode_9a6ad 4 = .ok (.iload_n 0, 1) := by decide +kernel
theorem dJ1_canEncode_9a6ad_5 : decode cJ1_canEncode_9a6ad 5 = .ok (.sipush 255, 3) := by decide +kernel
theorem dJ1_canEncode_9a6ad_8 : decode cJ1_canEncode_9a6ad 8 = .ok (.if_icmp .gt 7, 3) := by decide +kernel
theorem dJ1_canEncode_9a6ad_11 : decode cJ1_canEncode_9a6ad 11 = .ok (.iconst 1, 1) := by decide +kernel
theorem dJ1_canEncode_9a6ad_12 : decode cJ1_canEncode_9a6ad 12 = .ok (.goto 4, 3) := by decide +kernel
theorem dJ1_canEncode_9a6ad_15 : decode cJ1_canEncode_9a6ad 15 = .ok (.iconst 0, 1) := by decide +kernel
theorem dJ1_canEncode_9a6ad_16 : decode cJ1_canEncode_9a6ad 16 = .ok (.ireturn, 1) := by decide +kernel
theorem dJ1_indexOf_4cfef_0 : decode cJ1_indexOf_4cfef 0 = .ok (.iload_n 1, 1) := by decide +kernel
theorem dJ1_indexOf_4cfef_1 : decode cJ1_indexOf_4cfef 1 = .ok (.invokestatic 88, 3) := by decide +kernel
theorem dJ1_indexOf_4cfef_4 : decode cJ1_indexOf_4cfef 4 = .ok (.ifCond .ne 5, 3) := by decide +kernel
theorem dJ1_indexOf_4cfef_7 : decode cJ1_indexOf_4cfef 7 = .ok (.iconst (-1), 1) := by decide +kernel
theorem dJ1_indexOf_4cfef_8 : decode cJ1_indexOf_4cfef 8 = .ok (.ireturn, 1) := by decide +kernel
theorem dJ1_indexOf_4cfef_9 : decode cJ1_indexOf_4cfef 9 = .ok (.iload_n 2, 1) := by decide +kernel
theorem dJ1_indexOf_4cfef_10 : decode cJ1_indexOf_4cfef 10 = .ok (.iconst 0, 1) := by decide +kernel
theorem dJ1_indexOf_4cfef_11 : decode cJ1_indexOf_4cfef 11 = .ok (.invokestatic 92, 3) := by decide +kernel
theorem dJ1_indexOf_4cfef_14 : decode cJ1_indexOf_4cfef 14 = .ok (.istore_n 2, 1) := by decide +kernel
theorem dJ1_indexOf_4cfef_15 : decode cJ1_indexOf_4cfef 15 = .ok (.iload_n 3, 1) := by decide +kernel
theorem dJ1_indexOf_4cfef_16 : decode cJ1_indexOf_4cfef 16 = .ok (.aload_n 0, 1) := by decide +kernel
theorem dJ1_indexOf_4cfef_17 : decode cJ1_indexOf_4cfef 17 = .ok (.arraylength, 1) := by decide +kernel
theorem dJ1_indexOf_4cfef_18 : decode cJ1_indexOf_4cfef 18 = .ok (.invokestatic 38, 3) := by decide +kernel
theorem dJ1_indexOf_4cfef_21 : decode cJ1_indexOf_4cfef 21 = .ok (.istore_n 3, 1) := by decide +kernel
theorem dJ1_indexOf_4cfef_22 : decode cJ1_indexOf_4cfef 22 = .ok (.iload_n 2, 1) := by decide +kernel
theorem dJ1_indexOf_4cfef_23 : decode cJ1_indexOf_4cfef 23 = .ok (.iload_n 3, 1) := by decide +kernel
theorem dJ1_indexOf_4cfef_24 : decode cJ1_indexOf_4cfef 24 = .ok (.if_icmp .lt 5, 3) := by decide +kernel
theorem dJ1_indexOf_4cfef_27 : decode cJ1_indexOf_4cfef 27 = .ok (.iconst (-1), 1) := by decide +kernel
theorem dJ1_indexOf_4cfef_28 : decode cJ1_indexOf_4cfef 28 = .ok (.ireturn, 1) := by decide +kernel
theorem dJ1_indexOf_4cfef_29 : decode cJ1_indexOf_4cfef 29 = .ok (.aload_n 0, 1) := by decide +kernel
theorem dJ1_indexOf_4cfef_30 : decode cJ1_indexOf_4cfef 30 = .ok (.iload_n 1, 1) := by decide +kernel
theorem dJ1_indexOf_4cfef_31 : decode cJ1_indexOf_4cfef 31 = .ok (.iload_n 2, 1) := by decide +kernel
theorem dJ1_indexOf_4cfef_32 : decode cJ1_indexOf_4cfef 32 = .ok (.iload_n 3, 1) := by decide +kernel
theorem dJ1_indexOf_4cfef_33 : decode cJ1_indexOf_4cfef 33 = .ok (.invokestatic 95, 3) := by decide +kernel
theorem dJ1_indexOf_4cfef_36 : decode cJ1_indexOf_4cfef 36 = .ok (.ireturn, 1) := by decide +kernel
theorem dJ1_indexOfChar_4cfef_0 : decode cJ1_indexOfChar_4cfef 0 = .ok (.iload_n 1, 1) := by decide +kernel
theorem dJ1_indexOfChar_4cfef_1 : decode cJ1_indexOfChar_4cfef 1 = .ok (.i2b, 1) := by decide +kernel
theorem dJ1_indexOfChar_4cfef_2 : decode cJ1_indexOfChar_4cfef 2 = .ok (.istore 4, 2) := by decide +kernel
theorem dJ1_indexOfChar_4cfef_4 : decode cJ1_indexOfChar_4cfef 4 = .ok (.iload_n 2, 1) := by decide +kernel
theorem dJ1_indexOfChar_4cfef_5 : decode cJ1_indexOfChar_4cfef 5 = .ok (.istore 5, 2) := by decide +kernel
theorem dJ1_indexOfChar_4cfef_7 : decode cJ1_indexOfChar_4cfef 7 = .ok (.iload 5, 2) := by decide +kernel
theorem dJ1_indexOfChar_4cfef_9 : decode cJ1_indexOfChar_4cfef 9 = .ok (.iload_n 3, 1) := by decide +kernel
theorem dJ1_indexOfChar_4cfef_10 : decode cJ1_indexOfChar_4cfef 10 = .ok (.if_icmp .ge 21, 3) := by decide +kernel
theorem dJ1_indexOfChar_4cfef_13 : decode cJ1_indexOfChar_4cfef 13 = .ok (.aload_n 0, 1) := by decide +kernel
theorem dJ1_indexOfChar_4cfef_14 : decode cJ1_indexOfChar_4cfef 14 = .ok (.iload 5, 2) := by decide +kernel
theorem dJ1_indexOfChar_4cfef_16 : decode cJ1_indexOfChar_4cfef 16 = .ok (.baload, 1) := by decide +kernel
theorem dJ1_indexOfChar_4cfef_17 : decode cJ1_indexOfChar_4cfef 17 = .ok (.iload 4, 2) := by decide +kernel
theorem dJ1_indexOfChar_4cfef_19 : decode cJ1_indexOfChar_4cfef 19 = .ok (.if_icmp .ne 6, 3) := by decide +kernel
theorem dJ1_indexOfChar_4cfef_22 : decode cJ1_indexOfChar_4cfef 22 = .ok (.iload 5, 2) := by decide +kernel
theorem dJ1_indexOfChar_4cfef_24 : decode cJ1_indexOfChar_4cfef 24 = .ok (.ireturn, 1) := by decide +kernel
theorem dJ1_indexOfChar_4cfef_25 : decode cJ1_indexOfChar_4cfef 25 = .ok (.iinc 5 1, 3) := by decide +kernel
theorem dJ1_indexOfChar_4cfef_28 : decode cJ1_indexOfChar_4cfef 28 = .ok (.goto (-21), 3) := by decide +kernel
theorem dJ1_indexOfChar_4cfef_31 : decode cJ1_indexOfChar_4cfef 31 = .ok (.iconst (-1), 1) := by decide +kernel
theorem dJ1_indexOfChar_4cfef_32 : decode cJ1_indexOfChar_4cfef 32 = .ok (.ireturn, 1) := by decide +kernel
theorem dJ2_getChar_3b067_0 : decode cJ2_getChar_3b067 0 = .ok (.getstatic 44, 3) := by decide +kernel
theorem dJ2_getChar_3b067_3 : decode cJ2_getChar_3b067 3 = .ok (.ifCond .ne 25, 3) := by decide +kernel
theorem dJ2_getChar_3b067_6 : decode cJ2_getChar_3b067 6 = .ok (.iload_n 1, 1) := by decide +kernel
theorem dJ2_getChar_3b067_7 : decode cJ2_getChar_3b067 7 = .ok (.ifCond .lt 11, 3) := by decide +kernel
theorem dJ2_getChar_3b067_10 : decode cJ2_getChar_3b067 10 = .ok (.iload_n 1, 1) := by decide +kernel
theorem dJ2_getChar_3b067_11 : decode cJ2_getChar_3b067 11 = .ok (.aload_n 0, 1) := by decide +kernel
theorem dJ2_getChar_3b067_12 : decode cJ2_getChar_3b067 12 = .ok (.invokestatic 48, 3) := by decide +kernel
theorem dJ2_getChar_3b067_15 : decode cJ2_getChar_3b067 15 = .ok (.if_icmp .lt 13, 3) := by decide +kernel
theorem dJ2_getChar_3b067_18 : decode cJ2_getChar_3b067 18 = .ok (.new 52, 3) := by decide +kernel
theorem dJ2_getChar_3b067_21 : decode cJ2_getChar_3b067 21 = .ok (.dup, 1) := by decide +kernel
theorem dJ2_getChar_3b067_22 : decode cJ2_getChar_3b067 22 = .ok (.ldc 54, 2) := by decide +kernel
theorem dJ2_getChar_3b067_24 : decode cJ2_getChar_3b067 24 = .ok (.invokespecial 56, 3) := by decide +kernel
theorem dJ2_getChar_3b067_27 : decode cJ2_getChar_3b067 27 = .ok (.athrow, 1) := by decide +kernel
theorem dJ2_getChar_3b067_28 : decode cJ2_getChar_3b067 28 = .ok (.iload_n 1, 1) := by decide +kernel
theorem dJ2_getChar_3b067_29 : decode cJ2_getChar_3b067 29 = .ok (.iconst 1, 1) := by decide +kernel
theorem dJ2_getChar_3b067_30 : decode cJ2_getChar_3b067 30 = .ok (.ishl, 1) := by decide +kernel
theorem dJ2_getChar_3b067_31 : decode cJ2_getChar_3b067 31 = .ok (.istore_n 1, 1) := by decide +kernel
theorem dJ2_getChar_3b067_32 : decode cJ2_getChar_3b067 32 = .ok (.aload_n 0, 1) := by decide +kernel
theorem dJ2_getChar_3b067_33 : decode cJ2_getChar_3b067 33 = .ok (.iload_n 1, 1) := by decide +kernel
theorem dJ2_getChar_3b067_34 : decode cJ2_getChar_3b067 34 = .ok (.iinc 1 1, 3) := by decide +kernel
theorem dJ2_getChar_3b067_37 : decode cJ2_getChar_3b067 37 = .ok (.baload, 1) := by decide +kernel
theorem dJ2_getChar_3b067_38 : decode cJ2_getChar_3b067 38 = .ok (.sipush 255, 3) := by decide +kernel
theorem dJ2_getChar_3b067_41 : decode cJ2_getChar_3b067 41 = .ok (.iand, 1) := by decide +kernel
theorem dJ2_getChar_3b067_42 : decode cJ2_getChar_3b067 42 = .ok (.getstatic 59, 3) := by decide +kernel
theorem dJ2_getChar_3b067_45 : decode cJ2_getChar_3b067 45 = .ok (.ishl, 1) := by decide +kernel
theorem dJ2_getChar_3b067_46 : decode cJ2_getChar_3b067 46 = .ok (.aload_n 0, 1) := by decide +kernel
theorem dJ2_getChar_3b067_47 : decode cJ2_getChar_3b067 47 = .ok (.iload_n 1, 1) := by decide +kernel
theorem dJ2_getChar_3b067_48 : decode cJ2_getChar_3b067 48 = .ok (.baload, 1) := by decide +kernel
theorem dJ2_getChar_3b067_49 : decode cJ2_getChar_3b067 49 = .ok (.sipush 255, 3) := by decide +kernel
theorem dJ2_getChar_3b067_52 : decode cJ2_getChar_3b067 52 = .ok (.iand, 1) := by decide +kernel
theorem dJ2_getChar_3b067_53 : decode cJ2_getChar_3b067 53 = .ok (.getstatic 63, 3) := by decide +kernel
theorem dJ2_getChar_3b067_56 : decode cJ2_getChar_3b067 56 = .ok (.ishl, 1) := by decide +kernel
theorem dJ2_getChar_3b067_57 : decode cJ2_getChar_3b067 57 = .ok (.ior, 1) := by decide +kernel
theorem dJ2_getChar_3b067_58 : decode cJ2_getChar_3b067 58 = .ok (.i2c, 1) := by decide +kernel
theorem dJ2_getChar_3b067_59 : decode cJ2_getChar_3b067 59 = .ok (.ireturn, 1) := by decide +kernel
theorem dJ2_length_9d52b_0 : decode cJ2_length_9d52b 0 = .ok (.aload_n 0, 1) := by decide +kernel
theorem dJ2_length_9d52b_1 : decode cJ2_length_9d52b 1 = .ok (.arraylength, 1) := by decide +kernel
theorem dJ2_length_9d52b_2 : decode cJ2_length_9d52b 2 = .ok (.iconst 1, 1) := by decide +kernel
theorem dJ2_length_9d52b_3 : decode cJ2_length_9d52b 3 = .ok (.ishr, 1) := by decide +kernel
theorem dJ2_length_9d52b_4 : decode cJ2_length_9d52b 4 = .ok (.ireturn, 1) := by decide +kernel
theorem dJ2_indexOf_4cfef_0 : decode cJ2_indexOf_4cfef 0 = .ok (.iload_n 2, 1) := by decide +kernel
theorem dJ2_indexOf_4cfef_1 : decode cJ2_indexOf_4cfef 1 = .ok (.iconst 0, 1) := by decide +kernel
theorem dJ2_indexOf_4cfef_2 : decode cJ2_indexOf_4cfef 2 = .ok (.invokestatic 224, 3) := by decide +kernel
theorem dJ2_indexOf_4cfef_5 : decode cJ2_indexOf_4cfef 5 = .ok (.istore_n 2, 1) := by decide +kernel
theorem dJ2_indexOf_4cfef_6 : decode cJ2_indexOf_4cfef 6 = .ok (.iload_n 3, 1) := by decide +kernel
theorem dJ2_indexOf_4cfef_7 : decode cJ2_indexOf_4cfef 7 = .ok (.aload_n 0, 1) := by decide +kernel
theorem dJ2_indexOf_4cfef_8 : decode cJ2_indexOf_4cfef 8 = .ok (.arraylength, 1) := by decide +kernel
theorem dJ2_indexOf_4cfef_9 : decode cJ2_indexOf_4cfef 9 = .ok (.iconst 1, 1) := by decide +kernel
theorem dJ2_indexOf_4cfef_10 : decode cJ2_indexOf_4cfef 10 = .ok (.ishr, 1) := by decide +kernel
theorem dJ2_indexOf_4cfef_11 : decode cJ2_indexOf_4cfef 11 = .ok (.invokestatic 183, 3) := by decide +kernel
theorem dJ2_indexOf_4cfef_14 : decode cJ2_indexOf_4cfef 14 = .ok (.istore_n 3, 1) := by decide +kernel
theorem dJ2_indexOf_4cfef_15 : decode cJ2_indexOf_4cfef 15 = .ok (.iload_n 2, 1) := by decide +kernel
theorem dJ2_indexOf_4cfef_16 : decode cJ2_indexOf_4cfef 16 = .ok (.iload_n 3, 1) := by decide +kernel
theorem dJ2_indexOf_4cfef_17 : decode cJ2_indexOf_4cfef 17 = .ok (.if_icmp .lt 5, 3) := by decide +kernel
theorem dJ2_indexOf_4cfef_20 : decode cJ2_indexOf_4cfef 20 = .ok (.iconst (-1), 1) := by decide +kernel
theorem dJ2_indexOf_4cfef_21 : decode cJ2_indexOf_4cfef 21 = .ok (.ireturn, 1) := by decide +kernel
theorem dJ2_indexOf_4cfef_22 : decode cJ2_indexOf_4cfef 22 = .ok (.iload_n 1, 1) := by decide +kernel
theorem dJ2_indexOf_4cfef_23 : decode cJ2_indexOf_4cfef 23 = .ok (.ldc 227, 2) := by decide +kernel
theorem dJ2_indexOf_4cfef_25 : decode cJ2_indexOf_4cfef 25 = .ok (.if_icmp .ge 11, 3) := by decide +kernel
theorem dJ2_indexOf_4cfef_28 : decode cJ2_indexOf_4cfef 28 = .ok (.aload_n 0, 1) := by decide +kernel
theorem dJ2_indexOf_4cfef_29 : decode cJ2_indexOf_4cfef 29 = .ok (.iload_n 1, 1) := by decide +kernel
theorem dJ2_indexOf_4cfef_30 : decode cJ2_indexOf_4cfef 30 = .ok (.iload_n 2, 1) := by decide +kernel
theorem dJ2_indexOf_4cfef_31 : decode cJ2_indexOf_4cfef 31 = .ok (.iload_n 3, 1) := by decide +kernel
theorem dJ2_indexOf_4cfef_32 : decode cJ2_indexOf_4cfef 32 = .ok (.invokestatic 228, 3) := by decide +kernel
theorem dJ2_indexOf_4cfef_35 : decode cJ2_indexOf_4cfef 35 = .ok (.ireturn, 1) := by decide +kernel
theorem dJ2_indexOf_4cfef_36 : decode cJ2_indexOf_4cfef 36 = .ok (.aload_n 0, 1) := by decide +kernel
theorem dJ2_indexOf_4cfef_37 : decode cJ2_indexOf_4cfef 37 = .ok (.iload_n 1, 1) := by decide +kernel
theorem dJ2_indexOf_4cfef_38 : decode cJ2_indexOf_4cfef 38 = .ok (.iload_n 2, 1) := by decide +kernel
theorem dJ2_indexOf_4cfef_39 : decode cJ2_indexOf_4cfef 39 = .ok (.iload_n 3, 1) := by decide +kernel
theorem dJ2_indexOf_4cfef_40 : decode cJ2_indexOf_4cfef 40 = .ok (.invokestatic 232, 3) := by decide +kernel
theorem dJ2_indexOf_4cfef_43 : decode cJ2_indexOf_4cfef 43 = .ok (.ireturn, 1) := by decide +kernel
theorem dJ2_indexOfChar_4cfef_0 : decode cJ2_indexOfChar_4cfef 0 = .ok (.iload_n 2, 1) := by decide +kernel
theorem dJ2_indexOfChar_4cfef_1 : decode cJ2_indexOfChar_4cfef 1 = .ok (.iload_n 3, 1) := by decide +kernel
theorem dJ2_indexOfChar_4cfef_2 : decode cJ2_indexOfChar_4cfef 2 = .ok (.aload_n 0, 1) := by decide +kernel
theorem dJ2_indexOfChar_4cfef_3 : decode cJ2_indexOfChar_4cfef 3 = .ok (.invokestatic 96, 3) := by decide +kernel
theorem dJ2_indexOfChar_4cfef_6 : decode cJ2_indexOfChar_4cfef 6 = .ok (.aload_n 0, 1) := by decide +kernel
theorem dJ2_indexOfChar_4cfef_7 : decode cJ2_indexOfChar_4cfef 7 = .ok (.iload_n 1, 1) := by decide +kernel
theorem dJ2_indexOfChar_4cfef_8 : decode cJ2_indexOfChar_4cfef 8 = .ok (.iload_n 2, 1) := by decide +kernel
theorem dJ2_indexOfChar_4cfef_9 : decode cJ2_indexOfChar_4cfef 9 = .ok (.iload_n 3, 1) := by decide +kernel
theorem dJ2_indexOfChar_4cfef_10 : decode cJ2_indexOfChar_4cfef 10 = .ok (.invokestatic 244, 3) := by decide +kernel
theorem dJ2_indexOfChar_4cfef_13 : decode cJ2_indexOfChar_4cfef 13 = .ok (.ireturn, 1) := by decide +kernel
theorem dJ2_indexOfCharUnsafe_4cfef_0 : decode cJ2_indexOfCharUnsafe_4cfef 0 = .ok (.iload_n 2, 1) := by decide +kernel
theorem dJ2_indexOfCharUnsafe_4cfef_1 : decode cJ2_indexOfCharUnsafe_4cfef 1 = .ok (.istore 4, 2) := by decide +kernel
theorem dJ2_indexOfCharUnsafe_4cfef_3 : decode cJ2_indexOfCharUnsafe_4cfef 3 = .ok (.iload 4, 2) := by decide +kernel
theorem dJ2_indexOfCharUnsafe_4cfef_5 : decode cJ2_indexOfCharUnsafe_4cfef 5 = .ok (.iload_n 3, 1) := by decide +kernel
theorem dJ2_indexOfCharUnsafe_4cfef_6 : decode cJ2_indexOfCharUnsafe_4cfef 6 = .ok (.if_icmp .ge 22, 3) := by decide +kernel
theorem dJ2_indexOfCharUnsafe_4cfef_9 : decode cJ2_indexOfCharUnsafe_4cfef 9 = .ok (.aload_n 0, 1) := by decide +kernel
theorem dJ2_indexOfCharUnsafe_4cfef_10 : decode cJ2_indexOfCharUnsafe_4cfef 10 = .ok (.iload 4, 2) := by decide +kernel
theorem dJ2_indexOfCharUnsafe_4cfef_12 : decode cJ2_indexOfCharUnsafe_4cfef 12 = .ok (.invokestatic 71, 3) := by decide +kernel
theorem dJ2_indexOfCharUnsafe_4cfef_15 : decode cJ2_indexOfCharUnsafe_4cfef 15 = .ok (.iload_n 1, 1) := by decide +kernel
theorem dJ2_indexOfCharUnsafe_4cfef_16 : decode cJ2_indexOfCharUnsafe_4cfef 16 = .ok (.if_icmp .ne 6, 3) := by decide +kernel
theorem dJ2_indexOfCharUnsafe_4cfef_19 : decode cJ2_indexOfCharUnsafe_4cfef 19 = .ok (.iload 4, 2) := by decide +kernel
theorem dJ2_indexOfCharUnsafe_4cfef_21 : decode cJ2_indexOfCharUnsafe_4cfef 21 = .ok (.ireturn, 1) := by decide +kernel
theorem dJ2_indexOfCharUnsafe_4cfef_22 : decode cJ2_indexOfCharUnsafe_4cfef 22 = .ok (.iinc 4 1, 3) := by decide +kernel
theorem dJ2_indexOfCharUnsafe_4cfef_25 : decode cJ2_indexOfCharUnsafe_4cfef 25 = .ok (.goto (-22), 3) := by decide +kernel
theorem dJ2_indexOfCharUnsafe_4cfef_28 : decode cJ2_indexOfCharUnsafe_4cfef 28 = .ok (.iconst (-1), 1) := by decide +kernel
theorem dJ2_indexOfCharUnsafe_4cfef_29 : decode cJ2_indexOfCharUnsafe_4cfef 29 = .ok (.ireturn, 1) := by decide +kernel
theorem dJ2_indexOfSupplementary_4cfef_0 : decode cJ2_indexOfSupplementary_4cfef 0 = .ok (.iload_n 1, 1) := by decide +kernel
theorem dJ2_indexOfSupplementary_4cfef_1 : decode cJ2_indexOfSupplementary_4cfef 1 = .ok (.invokestatic 164, 3) := by decide +kernel
theorem dJ2_indexOfSupplementary_4cfef_4 : decode cJ2_indexOfSupplementary_4cfef 4 = .ok (.ifCond .eq 65, 3) := by decide +kernel
theorem dJ2_indexOfSupplementary_4cfef_7 : decode cJ2_indexOfSupplementary_4cfef 7 = .ok (.iload_n 1, 1) := by decide +kernel
theorem dJ2_indexOfSupplementary_4cfef_8 : decode cJ2_indexOfSupplementary_4cfef 8 = .ok (.invokestatic 157, 3) := by decide +kernel
theorem dJ2_indexOfSupplementary_4cfef_11 : decode cJ2_indexOfSupplementary_4cfef 11 = .ok (.istore 4, 2) := by decide +kernel
theorem dJ2_indexOfSupplementary_4cfef_13 : decode cJ2_indexOfSupplementary_4cfef 13 = .ok (.iload_n 1, 1) := by decide +kernel
theorem dJ2_indexOfSupplementary_4cfef_14 : decode cJ2_indexOfSupplementary_4cfef 14 = .ok (.invokestatic 161, 3) := by decide +kernel
theorem dJ2_indexOfSupplementary_4cfef_17 : decode cJ2_indexOfSupplementary_4cfef 17 = .ok (.istore 5, 2) := by decide +kernel
theorem dJ2_indexOfSupplementary_4cfef_19 : decode cJ2_indexOfSupplementary_4cfef 19 = .ok (.iload_n 2, 1) := by decide +kernel
theorem dJ2_indexOfSupplementary_4cfef_20 : decode cJ2_indexOfSupplementary_4cfef 20 = .ok (.iload_n 3, 1) := by decide +kernel
theorem dJ2_indexOfSupplementary_4cfef_21 : decode cJ2_indexOfSupplementary_4cfef 21 = .ok (.aload_n 0, 1) := by decide +kernel
theorem dJ2_indexOfSupplementary_4cfef_22 : decode cJ2_indexOfSupplementary_4cfef 22 = .ok (.invokestatic 96, 3) := by decide +kernel
theorem dJ2_indexOfSupplementary_4cfef_25 : decode cJ2_indexOfSupplementary_4cfef 25 = .ok (.iload_n 2, 1) := by decide +kernel
theorem dJ2_indexOfSupplementary_4cfef_26 : decode cJ2_indexOfSupplementary_4cfef 26 = .ok (.istore 6, 2) := by decide +kernel
theorem dJ2_indexOfSupplementary_4cfef_28 : decode cJ2_indexOfSupplementary_4cfef 28 = .ok (.iload 6, 2) := by decide +kernel
theorem dJ2_indexOfSupplementary_4cfef_30 : decode cJ2_indexOfSupplementary_4cfef 30 = .ok (.iload_n 3, 1) := by decide +kernel
theorem dJ2_indexOfSupplementary_4cfef_31 : decode cJ2_indexOfSupplementary_4cfef 31 = .ok (.iconst 1, 1) := by decide +kernel
theorem dJ2_indexOfSupplementary_4cfef_32 : decode cJ2_indexOfSupplementary_4cfef 32 = .ok (.isub, 1) := by decide +kernel
theorem dJ2_indexOfSupplementary_4cfef_33 : decode cJ2_indexOfSupplementary_4cfef 33 = .ok (.if_icmp .ge 36, 3) := by decide +kernel
theorem dJ2_indexOfSupplementary_4cfef_36 : decode cJ2_indexOfSupplementary_4cfef 36 = .ok (.aload_n 0, 1) := by decide +kernel
theorem dJ2_indexOfSupplementary_4cfef_37 : decode cJ2_indexOfSupplementary_4cfef 37 = .ok (.iload 6, 2) := by decide +kernel
theorem dJ2_indexOfSupplementary_4cfef_39 : decode cJ2_indexOfSupplementary_4cfef 39 = .ok (.invokestatic 71, 3) := by decide +kernel
theorem dJ2_indexOfSupplementary_4cfef_42 : decode cJ2_indexOfSupplementary_4cfef 42 = .ok (.iload 4, 2) := by decide +kernel
theorem dJ2_indexOfSupplementary_4cfef_44 : decode cJ2_indexOfSupplementary_4cfef 44 = .ok (.if_icmp .ne 19, 3) := by decide +kernel
theorem dJ2_indexOfSupplementary_4cfef_47 : decode cJ2_indexOfSupplementary_4cfef 47 = .ok (.aload_n 0, 1) := by decide +kernel
theorem dJ2_indexOfSupplementary_4cfef_48 : decode cJ2_indexOfSupplementary_4cfef 48 = .ok (.iload 6, 2) := by decide +kernel
theorem dJ2_indexOfSupplementary_4cfef_50 : decode cJ2_indexOfSupplementary_4cfef 50 = .ok (.iconst 1, 1) := by decide +kernel
theorem dJ2_indexOfSupplementary_4cfef_51 : decode cJ2_indexOfSupplementary_4cfef 51 = .ok (.iadd, 1) := by decide +kernel
theorem dJ2_indexOfSupplementary_4cfef_52 : decode cJ2_indexOfSupplementary_4cfef 52 = .ok (.invokestatic 71, 3) := by decide +kernel
theorem dJ2_indexOfSupplementary_4cfef_55 : decode cJ2_indexOfSupplementary_4cfef 55 = .ok (.iload 5, 2) := by decide +kernel
theorem dJ2_indexOfSupplementary_4cfef_57 : decode cJ2_indexOfSupplementary_4cfef 57 = .ok (.if_icmp .ne 6, 3) := by decide +kernel
theorem dJ2_indexOfSupplementary_4cfef_60 : decode cJ2_indexOfSupplementary_4cfef 60 = .ok (.iload 6, 2) := by decide +kernel
theorem dJ2_indexOfSupplementary_4cfef_62 : decode cJ2_indexOfSupplementary_4cfef 62 = .ok (.ireturn, 1) := by decide +kernel
theorem dJ2_indexOfSupplementary_4cfef_63 : decode cJ2_indexOfSupplementary_4cfef 63 = .ok (.iinc 6 1, 3) := by decide +kernel
theorem dJ2_indexOfSupplementary_4cfef_66 : decode cJ2_indexOfSupplementary_4cfef 66 = .ok (.goto (-38), 3) := by decide +kernel
theorem dJ2_indexOfSupplementary_4cfef_69 : decode cJ2_indexOfSupplementary_4cfef 69 = .ok (.iconst (-1), 1) := by decide +kernel
theorem dJ2_indexOfSupplementary_4cfef_70 : decode cJ2_indexOfSupplementary_4cfef 70 = .ok (.ireturn, 1) := by decide +kernel
theorem dJ2_charAt_3b067_0 : decode cJ2_charAt_3b067 0 = .ok (.iload_n 1, 1) := by decide +kernel
theorem dJ2_charAt_3b067_1 : decode cJ2_charAt_3b067 1 = .ok (.aload_n 0, 1) := by decide +kernel
theorem dJ2_charAt_3b067_2 : decode cJ2_charAt_3b067 2 = .ok (.invokestatic 67, 3) := by decide +kernel
theorem dJ2_charAt_3b067_5 : decode cJ2_charAt_3b067 5 = .ok (.aload_n 0, 1) := by decide +kernel
theorem dJ2_charAt_3b067_6 : decode cJ2_charAt_3b067 6 = .ok (.iload_n 1, 1) := by decide +kernel
theorem dJ2_charAt_3b067_7 : decode cJ2_charAt_3b067 7 = .ok (.invokestatic 71, 3) := by decide +kernel
theorem dJ2_charAt_3b067_10 : decode cJ2_charAt_3b067 10 = .ok (.ireturn, 1) := by decide +kernel
theorem dJ2_checkIndex_2214a_0 : decode cJ2_checkIndex_2214a 0 = .ok (.iload_n 0, 1) := by decide +kernel
theorem dJ2_checkIndex_2214a_1 : decode cJ2_checkIndex_2214a 1 = .ok (.aload_n 1, 1) := by decide +kernel
theorem dJ2_checkIndex_2214a_2 : decode cJ2_checkIndex_2214a 2 = .ok (.invokestatic 48, 3) := by decide +kernel
theorem dJ2_checkIndex_2214a_5 : decode cJ2_checkIndex_2214a 5 = .ok (.invokestatic 414, 3) := by decide +kernel
theorem dJ2_checkIndex_2214a_8 : decode cJ2_checkIndex_2214a 8 = .ok (.return_, 1) := by decide +kernel
theorem dJ2_checkBoundsBeginEnd_d044e_0 : decode cJ2_checkBoundsBeginEnd_d044e 0 = .ok (.iload_n 0, 1) := by decide +kernel
theorem dJ2_checkBoundsBeginEnd_d044e_1 : decode cJ2_checkBoundsBeginEnd_d044e 1 = .ok (.iload_n 1, 1) := by decide +kernel
theorem dJ2_checkBoundsBeginEnd_d044e_2 : decode cJ2_checkBoundsBeginEnd_d044e 2 = .ok (.aload_n 2, 1) := by decide +kernel
theorem dJ2_checkBoundsBeginEnd_d044e_3 : decode cJ2_checkBoundsBeginEnd_d044e 3 = .ok (.invokestatic 48, 3) := by decide +kernel
theorem dJ2_checkBoundsBeginEnd_d044e_6 : decode cJ2_checkBoundsBeginEnd_d044e 6 = .ok (.invokestatic 241, 3) := by decide +kernel
theorem dJ2_checkBoundsBeginEnd_d044e_9 : decode cJ2_checkBoundsBeginEnd_d044e 9 = .ok (.return_, 1) := by decide +kernel
theorem dJ7_fill_d0a16_0 : decode cJ7_fill_d0a16 0 = .ok (.iconst 0, 1) := by decide +kernel
theorem dJ7_fill_d0a16_1 : decode cJ7_fill_d0a16 1 = .ok (.istore_n 3, 1) := by decide +kernel
theorem dJ7_fill_d0a16_2 : decode cJ7_fill_d0a16 2 = .ok (.aload_n 0, 1) := by decide +kernel
theorem dJ7_fill_d0a16_3 : decode cJ7_fill_d0a16 3 = .ok (.arraylength, 1) := by decide +kernel
theorem dJ7_fill_d0a16_4 : decode cJ7_fill_d0a16 4 = .ok (.istore 4, 2) := by decide +kernel
theorem dJ7_fill_d0a16_6 : decode cJ7_fill_d0a16 6 = .ok (.iload_n 3, 1) := by decide +kernel
theorem dJ7_fill_d0a16_7 : decode cJ7_fill_d0a16 7 = .ok (.iload 4, 2) := by decide +kernel
theorem dJ7_fill_d0a16_9 : decode cJ7_fill_d0a16 9 = .ok (.if_icmp .ge 13, 3) := by decide +kernel
theorem dJ7_fill_d0a16_12 : decode cJ7_fill_d0a16 12 = .ok (.aload_n 0, 1) := by decide +kernel
theorem dJ7_fill_d0a16_13 : decode cJ7_fill_d0a16 13 = .ok (.iload_n 3, 1) := by decide +kernel
theorem dJ7_fill_d0a16_14 : decode cJ7_fill_d0a16 14 = .ok (.lload_n 1, 1) := by decide +kernel
theorem dJ7_fill_d0a16_15 : decode cJ7_fill_d0a16 15 = .ok (.lastore, 1) := by decide +kernel
theorem dJ7_fill_d0a16_16 : decode cJ7_fill_d0a16 16 = .ok (.iinc 3 1, 3) := by decide +kernel
theorem dJ7_fill_d0a16_19 : decode cJ7_fill_d0a16 19 = .ok (.goto (-13), 3) := by decide +kernel
theorem dJ7_fill_d0a16_22 : decode cJ7_fill_d0a16 22 = .ok (.return_, 1) := by decide +kernel
theorem dJ7_fill_53178_0 : decode cJ7_fill_53178 0 = .ok (.iconst 0, 1) := by decide +kernel
theorem dJ7_fill_53178_1 : decode cJ7_fill_53178 1 = .ok (.istore_n 2, 1) := by decide +kernel
theorem dJ7_fill_53178_2 : decode cJ7_fill_53178 2 = .ok (.aload_n 0, 1) := by decide +kernel
theorem dJ7_fill_53178_3 : decode cJ7_fill_53178 3 = .ok (.arraylength, 1) := by decide +kernel
theorem dJ7_fill_53178_4 : decode cJ7_fill_53178 4 = .ok (.istore_n 3, 1) := by decide +kernel
theorem dJ7_fill_53178_5 : decode cJ7_fill_53178 5 = .ok (.iload_n 2, 1) := by decide +kernel
theorem dJ7_fill_53178_6 : decode cJ7_fill_53178 6 = .ok (.iload_n 3, 1) := by decide +kernel
theorem dJ7_fill_53178_7 : decode cJ7_fill_53178 7 = .ok (.if_icmp .ge 13, 3) := by decide +kernel
theorem dJ7_fill_53178_10 : decode cJ7_fill_53178 10 = .ok (.aload_n 0, 1) := by decide +kernel
theorem dJ7_fill_53178_11 : decode cJ7_fill_53178 11 = .ok (.iload_n 2, 1) := by decide +kernel
theorem dJ7_fill_53178_12 : decode cJ7_fill_53178 12 = .ok (.iload_n 1, 1) := by decide +kernel
theorem dJ7_fill_53178_13 : decode cJ7_fill_53178 13 = .ok (.iastore, 1) := by decide +kernel
theorem dJ7_fill_53178_14 : decode cJ7_fill_53178 14 = .ok (.iinc 2 1, 3) := by decide +kernel
theorem dJ7_fill_53178_17 : decode cJ7_fill_53178 17 = .ok (.goto (-12), 3) := by decide +kernel
theorem dJ7_fill_53178_20 : decode cJ7_fill_53178 20 = .ok (.return_, 1) := by decide +kernel
theorem dJ3_checkIndex_8e157_0 : decode cJ3_checkIndex_8e157 0 = .ok (.iload_n 0, 1) := by decide +kernel
theorem dJ3_checkIndex_8e157_1 : decode cJ3_checkIndex_8e157 1 = .ok (.ifCond .lt 8, 3) := by decide +kernel
theorem dJ3_checkIndex_8e157_4 : decode cJ3_checkIndex_8e157 4 = .ok (.iload_n 0, 1) := by decide +kernel
theorem dJ3_checkIndex_8e157_5 : decode cJ3_checkIndex_8e157 5 = .ok (.iload_n 1, 1) := by decide +kernel
theorem dJ3_checkIndex_8e157_6 : decode cJ3_checkIndex_8e157 6 = .ok (.if_icmp .lt 10, 3) := by decide +kernel
theorem dJ3_checkIndex_8e157_9 : decode cJ3_checkIndex_8e157 9 = .ok (.aload_n 2, 1) := by decide +kernel
theorem dJ3_checkIndex_8e157_10 : decode cJ3_checkIndex_8e157 10 = .ok (.iload_n 0, 1) := by decide +kernel
theorem dJ3_checkIndex_8e157_11 : decode cJ3_checkIndex_8e157 11 = .ok (.iload_n 1, 1) := by decide +kernel
theorem dJ3_checkIndex_8e157_12 : decode cJ3_checkIndex_8e157 12 = .ok (.invokestatic 95, 3) := by decide +kernel
theorem dJ3_checkIndex_8e157_15 : decode cJ3_checkIndex_8e157 15 = .ok (.athrow, 1) := by decide +kernel
theorem dJ3_checkIndex_8e157_16 : decode cJ3_checkIndex_8e157 16 = .ok (.iload_n 0, 1) := by decide +kernel
theorem dJ3_checkIndex_8e157_17 : decode cJ3_checkIndex_8e157 17 = .ok (.ireturn, 1) := by decide +kernel
theorem dJ3_checkFromToIndex_8c36e_0 : decode cJ3_checkFromToIndex_8c36e 0 = .ok (.iload_n 0, 1) := by decide +kernel
theorem dJ3_checkFromToIndex_8c36e_1 : decode cJ3_checkFromToIndex_8c36e 1 = .ok (.ifCond .lt 13, 3) := by decide +kernel
theorem dJ3_checkFromToIndex_8c36e_4 : decode cJ3_checkFromToIndex_8c36e 4 = .ok (.iload_n 0, 1) := by decide +kernel
theorem dJ3_checkFromToIndex_8c36e_5 : decode cJ3_checkFromToIndex_8c36e 5 = .ok (.iload_n 1, 1) := by decide +kernel
theorem dJ3_checkFromToIndex_8c36e_6 : decode cJ3_checkFromToIndex_8c36e 6 = .ok (.if_icmp .gt 8, 3) := by decide +kernel
theorem dJ3_checkFromToIndex_8c36e_9 : decode cJ3_checkFromToIndex_8c36e 9 = .ok (.iload_n 1, 1) := by decide +kernel
theorem dJ3_checkFromToIndex_8c36e_10 : decode cJ3_checkFromToIndex_8c36e 10 = .ok (.iload_n 2, 1) := by decide +kernel
theorem dJ3_checkFromToIndex_8c36e_11 : decode cJ3_checkFromToIndex_8c36e 11 = .ok (.if_icmp .le 11, 3) := by decide +kernel
theorem dJ3_checkFromToIndex_8c36e_14 : decode cJ3_checkFromToIndex_8c36e 14 = .ok (.aload_n 3, 1) := by decide +kernel
theorem dJ3_checkFromToIndex_8c36e_15 : decode cJ3_checkFromToIndex_8c36e 15 = .ok (.iload_n 0, 1) := by decide +kernel
theorem dJ3_checkFromToIndex_8c36e_16 : decode cJ3_checkFromToIndex_8c36e 16 = .ok (.iload_n 1, 1) := by decide +kernel
theorem dJ3_checkFromToIndex_8c36e_17 : decode cJ3_checkFromToIndex_8c36e 17 = .ok (.iload_n 2, 1) := by decide +kernel
theorem dJ3_checkFromToIndex_8c36e_18 : decode cJ3_checkFromToIndex_8c36e 18 = .ok (.invokestatic 99, 3) := by decide +kernel
theorem dJ3_checkFromToIndex_8c36e_21 : decode cJ3_checkFromToIndex_8c36e 21 = .ok (.athrow, 1) := by decide +kernel
theorem dJ3_checkFromToIndex_8c36e_22 : decode cJ3_checkFromToIndex_8c36e 22 = .ok (.iload_n 0, 1) := by decide +kernel
theorem dJ3_checkFromToIndex_8c36e_23 : decode cJ3_checkFromToIndex_8c36e 23 = .ok (.ireturn, 1) := by decide +kernel
theorem dL_law_0 : decode cL_law 0 = .ok (.new 7, 3) := by decide +kernel
theorem dL_law_3 : decode cL_law 3 = .ok (.dup, 1) := by decide +kernel
theorem dL_law_4 : decode cL_law 4 = .ok (.invokespecial 9, 3) := by decide +kernel
theorem dL_law_7 : decode cL_law 7 = .ok (.astore_n 1, 1) := by decide +kernel
theorem dL_law_8 : decode cL_law 8 = .ok (.new 10, 3) := by decide +kernel
theorem dL_law_11 : decode cL_law 11 = .ok (.dup, 1) := by decide +kernel
theorem dL_law_12 : decode cL_law 12 = .ok (.invokespecial 12, 3) := by decide +kernel
theorem dL_law_15 : decode cL_law 15 = .ok (.astore_n 2, 1) := by decide +kernel
theorem dL_law_16 : decode cL_law 16 = .ok (.iconst 0, 1) := by decide +kernel
theorem dL_law_17 : decode cL_law 17 = .ok (.istore_n 3, 1) := by decide +kernel
theorem dL_law_18 : decode cL_law 18 = .ok (.iload_n 3, 1) := by decide +kernel
theorem dL_law_19 : decode cL_law 19 = .ok (.aload_n 0, 1) := by decide +kernel
theorem dL_law_20 : decode cL_law 20 = .ok (.arraylength, 1) := by decide +kernel
theorem dL_law_21 : decode cL_law 21 = .ok (.bipush 6, 2) := by decide +kernel
theorem dL_law_23 : decode cL_law 23 = .ok (.isub, 1) := by decide +kernel
theorem dL_law_24 : decode cL_law 24 = .ok (.if_icmp .gt 1144, 3) := by decide +kernel
theorem dL_law_27 : decode cL_law 27 = .ok (.aload_n 0, 1) := by decide +kernel
theorem dL_law_28 : decode cL_law 28 = .ok (.iload_n 3, 1) := by decide +kernel
theorem dL_law_29 : decode cL_law 29 = .ok (.iaload, 1) := by decide +kernel
theorem dL_law_30 : decode cL_law 30 = .ok (.bipush 63, 2) := by decide +kernel
theorem dL_law_32 : decode cL_law 32 = .ok (.iand, 1) := by decide +kernel
theorem dL_law_33 : decode cL_law 33 = .ok (.tableswitch 1129 0 32 #[147, 190, 223, 256, 299, 322, 345, 358, 381, 394, 427, 440, 463, 486, 509, 542, 565, 608, 631, 665, 699, 722, 735, 768, 781, 794, 837, 860, 893, 916, 959, 1032, 1066], 147) := by decide +kernel
theorem dL_law_180 : decode cL_law 180 = .ok (.aload_n 1, 1) := by decide +kernel
theorem dL_law_181 : decode cL_law 181 = .ok (.aload_n 0, 1) := by decide +kernel
theorem dL_law_182 : decode cL_law 182 = .ok (.iload_n 3, 1) := by decide +kernel
theorem dL_law_183 : decode cL_law 183 = .ok (.iconst 1, 1) := by decide +kernel
theorem dL_law_184 : decode cL_law 184 = .ok (.iadd, 1) := by decide +kernel
theorem dL_law_185 : decode cL_law 185 = .ok (.iaload, 1) := by decide +kernel
theorem dL_law_186 : decode cL_law 186 = .ok (.aload_n 0, 1) := by decide +kernel
theorem dL_law_187 : decode cL_law 187 = .ok (.iload_n 3, 1) := by decide +kernel
theorem dL_law_188 : decode cL_law 188 = .ok (.iconst 2, 1) := by decide +kernel
theorem dL_law_189 : decode cL_law 189 = .ok (.iadd, 1) := by decide +kernel
theorem dL_law_190 : decode cL_law 190 = .ok (.iaload, 1) := by decide +kernel
theorem dL_law_191 : decode cL_law 191 = .ok (.aload_n 0, 1) := by decide +kernel
theorem dL_law_192 : decode cL_law 192 = .ok (.iload_n 3, 1) := by decide +kernel
theorem dL_law_193 : decode cL_law 193 = .ok (.iconst 3, 1) := by decide +kernel
theorem dL_law_194 : decode cL_law 194 = .ok (.iadd, 1) := by decide +kernel
theorem dL_law_195 : decode cL_law 195 = .ok (.iaload, 1) := by decide +kernel
theorem dL_law_196 : decode cL_law 196 = .ok (.invokevirtual 13, 3) := by decide +kernel
theorem dL_law_199 : decode cL_law 199 = .ok (.aload_n 2, 1) := by decide +kernel
theorem dL_law_200 : decode cL_law 200 = .ok (.aload_n 0, 1) := by decide +kernel
theorem dL_law_201 : decode cL_law 201 = .ok (.iload_n 3, 1) := by decide +kernel
theorem dL_law_202 : decode cL_law 202 = .ok (.iconst 1, 1) := by decide +kernel
theorem dL_law_203 : decode cL_law 203 = .ok (.iadd, 1) := by decide +kernel
theorem dL_law_204 : decode cL_law 204 = .ok (.iaload, 1) := by decide +kernel
theorem dL_law_205 : decode cL_law 205 = .ok (.aload_n 0, 1) := by decide +kernel
theorem dL_law_206 : decode cL_law 206 = .ok (.iload_n 3, 1) := by decide +kernel
theorem dL_law_207 : decode cL_law 207 = .ok (.iconst 2, 1) := by decide +kernel
theorem dL_law_208 : decode cL_law 208 = .ok (.iadd, 1) := by decide +kernel
theorem dL_law_209 : decode cL_law 209 = .ok (.iaload, 1) := by decide +kernel
theorem dL_law_210 : decode cL_law 210 = .ok (.aload_n 0, 1) := by decide +kernel
theorem dL_law_211 : decode cL_law 211 = .ok (.iload_n 3, 1) := by decide +kernel
theorem dL_law_212 : decode cL_law 212 = .ok (.iconst 3, 1) := by decide +kernel
theorem dL_law_213 : decode cL_law 213 = .ok (.iadd, 1) := by decide +kernel
theorem dL_law_214 : decode cL_law 214 = .ok (.iaload, 1) := by decide +kernel
theorem dL_law_215 : decode cL_law 215 = .ok (.invokevirtual 17, 3) := by decide +kernel
theorem dL_law_218 : decode cL_law 218 = .ok (.if_icmp .eq 944, 3) := by decide +kernel
theorem dL_law_221 : decode cL_law 221 = .ok (.iconst 0, 1) := by decide +kernel
theorem dL_law_222 : decode cL_law 222 = .ok (.ireturn, 1) := by decide +kernel
theorem dL_law_223 : decode cL_law 223 = .ok (.aload_n 1, 1) := by decide +kernel
theorem dL_law_224 : decode cL_law 224 = .ok (.aload_n 0, 1) := by decide +kernel
theorem dL_law_225 : decode cL_law 225 = .ok (.iload_n 3, 1) := by decide +kernel
theorem dL_law_226 : decode cL_law 226 = .ok (.iconst 1, 1) := by decide +kernel
theorem dL_law_227 : decode cL_law 227 = .ok (.iadd, 1) := by decide +kernel
theorem dL_law_228 : decode cL_law 228 = .ok (.iaload, 1) := by decide +kernel
theorem dL_law_229 : decode cL_law 229 = .ok (.aload_n 0, 1) := by decide +kernel
theorem dL_law_230 : decode cL_law 230 = .ok (.iload_n 3, 1) := by decide +kernel
theorem dL_law_231 : decode cL_law 231 = .ok (.iconst 2, 1) := by decide +kernel
theorem dL_law_232 : decode cL_law 232 = .ok (.iadd, 1) := by decide +kernel
theorem dL_law_233 : decode cL_law 233 = .ok (.iaload, 1) := by decide +kernel
theorem dL_law_234 : decode cL_law 234 = .ok (.invokevirtual 18, 3) := by decide +kernel
theorem dL_law_237 : decode cL_law 237 = .ok (.aload_n 2, 1) := by decide +kernel
theorem dL_law_238 : decode cL_law 238 = .ok (.aload_n 0, 1) := by decide +kernel
theorem dL_law_239 : decode cL_law 239 = .ok (.iload_n 3, 1) := by decide +kernel
theorem dL_law_240 : decode cL_law 240 = .ok (.iconst 1, 1) := by decide +kernel
theorem dL_law_241 : decode cL_law 241 = .ok (.iadd, 1) := by decide +kernel
theorem dL_law_242 : decode cL_law 242 = .ok (.iaload, 1) := by decide +kernel
theorem dL_law_243 : decode cL_law 243 = .ok (.aload_n 0, 1) := by decide +kernel
theorem dL_law_244 : decode cL_law 244 = .ok (.iload_n 3, 1) := by decide +kernel
theorem dL_law_245 : decode cL_law 245 = .ok (.iconst 2, 1) := by decide +kernel
theorem dL_law_246 : decode cL_law 246 = .ok (.iadd, 1) := by decide +kernel
theorem dL_law_247 : decode cL_law 247 = .ok (.iaload, 1) := by decide +kernel
theorem dL_law_248 : decode cL_law 248 = .ok (.invokevirtual 22, 3) := by decide +kernel
theorem dL_law_251 : decode cL_law 251 = .ok (.if_icmp .eq 911, 3) := by decide +kernel
theorem dL_law_254 : decode cL_law 254 = .ok (.iconst 0, 1) := by decide +kernel
theorem dL_law_255 : decode cL_law 255 = .ok (.ireturn, 1) := by decide +kernel
theorem dL_law_256 : decode cL_law 256 = .ok (.aload_n 1, 1) := by decide +kernel
theorem dL_law_257 : decode cL_law 257 = .ok (.aload_n 0, 1) := by decide +kernel
theorem dL_law_258 : decode cL_law 258 = .ok (.iload_n 3, 1) := by decide +kernel
theorem dL_law_259 : decode cL_law 259 = .ok (.iconst 1, 1) := by decide +kernel
theorem dL_law_260 : decode cL_law 260 = .ok (.iadd, 1) := by decide +kernel
theorem dL_law_261 : decode cL_law 261 = .ok (.iaload, 1) := by decide +kernel
theorem dL_law_262 : decode cL_law 262 = .ok (.aload_n 0, 1) := by decide +kernel
theorem dL_law_263 : decode cL_law 263 = .ok (.iload_n 3, 1) := by decide +kernel
theorem dL_law_264 : decode cL_law 264 = .ok (.iconst 2, 1) := by decide +kernel
theorem dL_law_265 : decode cL_law 265 = .ok (.iadd, 1) := by decide +kernel
theorem dL_law_266 : decode cL_law 266 = .ok (.iaload, 1) := by decide +kernel
theorem dL_law_267 : decode cL_law 267 = .ok (.invokevirtual 23, 3) := by decide +kernel
theorem dL_law_270 : decode cL_law 270 = .ok (.aload_n 2, 1) := by decide +kernel
theorem dL_law_271 : decode cL_law 271 = .ok (.aload_n 0, 1) := by decide +kernel
theorem dL_law_272 : decode cL_law 272 = .ok (.iload_n 3, 1) := by decide +kernel
theorem dL_law_273 : decode cL_law 273 = .ok (.iconst 1, 1) := by decide +kernel
theorem dL_law_274 : decode cL_law 274 = .ok (.iadd, 1) := by decide +kernel
theorem dL_law_275 : decode cL_law 275 = .ok (.iaload, 1) := by decide +kernel
theorem dL_law_276 : decode cL_law 276 = .ok (.aload_n 0, 1) := by decide +kernel
theorem dL_law_277 : decode cL_law 277 = .ok (.iload_n 3, 1) := by decide +kernel
theorem dL_law_278 : decode cL_law 278 = .ok (.iconst 2, 1) := by decide +kernel
theorem dL_law_279 : decode cL_law 279 = .ok (.iadd, 1) := by decide +kernel
theorem dL_law_280 : decode cL_law 280 = .ok (.iaload, 1) := by decide +kernel
theorem dL_law_281 : decode cL_law 281 = .ok (.invokevirtual 26, 3) := by decide +kernel
theorem dL_law_284 : decode cL_law 284 = .ok (.if_icmp .eq 878, 3) := by decide +kernel
theorem dL_law_287 : decode cL_law 287 = .ok (.iconst 0, 1) := by decide +kernel
theorem dL_law_288 : decode cL_law 288 = .ok (.ireturn, 1) := by decide +kernel
theorem dL_law_289 : decode cL_law 289 = .ok (.aload_n 1, 1) := by decide +kernel
theorem dL_law_290 : decode cL_law 290 = .ok (.aload_n 0, 1) := by decide +kernel
theorem dL_law_291 : decode cL_law 291 = .ok (.iload_n 3, 1) := by decide +kernel
theorem dL_law_292 : decode cL_law 292 = .ok (.iconst 1, 1) := by decide +kernel
theorem dL_law_293 : decode cL_law 293 = .ok (.iadd, 1) := by decide +kernel
theorem dL_law_294 : decode cL_law 294 = .ok (.iaload, 1) := by decide +kernel
theorem dL_law_295 : decode cL_law 295 = .ok (.aload_n 0, 1) := by decide +kernel
theorem dL_law_296 : decode cL_law 296 = .ok (.iload_n 3, 1) := by decide +kernel
theorem dL_law_297 : decode cL_law 297 = .ok (.iconst 2, 1) := by decide +kernel
theorem dL_law_298 : decode cL_law 298 = .ok (.iadd, 1) := by decide +kernel
theorem dL_law_299 : decode cL_law 299 = .ok (.iaload, 1) := by decide +kernel
theorem dL_law_300 : decode cL_law 300 = .ok (.aload_n 0, 1) := by decide +kernel
theorem dL_law_301 : decode cL_law 301 = .ok (.iload_n 3, 1) := by decide +kernel
theorem dL_law_302 : decode cL_law 302 = .ok (.iconst 3, 1) := by decide +kernel
theorem dL_law_303 : decode cL_law 303 = .ok (.iadd, 1) := by decide +kernel
theorem dL_law_304 : decode cL_law 304 = .ok (.iaload, 1) := by decide +kernel
theorem dL_law_305 : decode cL_law 305 = .ok (.invokevirtual 27, 3) := by decide +kernel
theorem dL_law_308 : decode cL_law 308 = .ok (.aload_n 2, 1) := by decide +kernel
theorem dL_law_309 : decode cL_law 309 = .ok (.aload_n 0, 1) := by decide +kernel
theorem dL_law_310 : decode cL_law 310 = .ok (.iload_n 3, 1) := by decide +kernel
theorem dL_law_311 : decode cL_law 311 = .ok (.iconst 1, 1) := by decide +kernel
theorem dL_law_312 : decode cL_law 312 = .ok (.iadd, 1) := by decide +kernel
theorem dL_law_313 : decode cL_law 313 = .ok (.iaload, 1) := by decide +kernel
theorem dL_law_314 : decode cL_law 314 = .ok (.aload_n 0, 1) := by decide +kernel
theorem dL_law_315 : decode cL_law 315 = .ok (.iload_n 3, 1) := by decide +kernel
theorem dL_law_316 : decode cL_law 316 = .ok (.iconst 2, 1) := by decide +kernel
theorem dL_law_317 : decode cL_law 317 = .ok (.iadd, 1) := by decide +kernel
theorem dL_law_318 : decode cL_law 318 = .ok (.iaload, 1) := by decide +kernel
theorem dL_law_319 : decode cL_law 319 = .ok (.aload_n 0, 1) := by decide +kernel
theorem dL_law_320 : decode cL_law 320 = .ok (.iload_n 3, 1) := by decide +kernel
theorem dL_law_321 : decode cL_law 321 = .ok (.iconst 3, 1) := by decide +kernel
theorem dL_law_322 : decode cL_law 322 = .ok (.iadd, 1) := by decide +kernel
theorem dL_law_323 : decode cL_law 323 = .ok (.iaload, 1) := by decide +kernel
theorem dL_law_324 : decode cL_law 324 = .ok (.invokevirtual 30, 3) := by decide +kernel
theorem dL_law_327 : decode cL_law 327 = .ok (.if_icmp .eq 835, 3) := by decide +kernel
theorem dL_law_330 : decode cL_law 330 = .ok (.iconst 0, 1) := by decide +kernel
theorem dL_law_331 : decode cL_law 331 = .ok (.ireturn, 1) := by decide +kernel
theorem dL_law_332 : decode cL_law 332 = .ok (.aload_n 1, 1) := by decide +kernel
theorem dL_law_333 : decode cL_law 333 = .ok (.aload_n 0, 1) := by decide +kernel
theorem dL_law_334 : decode cL_law 334 = .ok (.iload_n 3, 1) := by decide +kernel
theorem dL_law_335 : decode cL_law 335 = .ok (.iconst 1, 1) := by decide +kernel
theorem dL_law_336 : decode cL_law 336 = .ok (.iadd, 1) := by decide +kernel
theorem dL_law_337 : decode cL_law 337 = .ok (.iaload, 1) := by decide +kernel
theorem dL_law_338 : decode cL_law 338 = .ok (.invokevirtual 31, 3) := by decide +kernel
theorem dL_law_341 : decode cL_law 341 = .ok (.aload_n 2, 1) := by decide +kernel
theorem dL_law_342 : decode cL_law 342 = .ok (.aload_n 0, 1) := by decide +kernel
theorem dL_law_343 : decode cL_law 343 = .ok (.iload_n 3, 1) := by decide +kernel
theorem dL_law_344 : decode cL_law 344 = .ok (.iconst 1, 1) := by decide +kernel
theorem dL_law_345 : decode cL_law 345 = .ok (.iadd, 1) := by decide +kernel
theorem dL_law_346 : decode cL_law 346 = .ok (.iaload, 1) := by decide +kernel
theorem dL_law_347 : decode cL_law 347 = .ok (.invokevirtual 35, 3) := by decide +kernel
theorem dL_law_350 : decode cL_law 350 = .ok (.if_icmp .eq 812, 3) := by decide +kernel
theorem dL_law_353 : decode cL_law 353 = .ok (.iconst 0, 1) := by decide +kernel
theorem dL_law_354 : decode cL_law 354 = .ok (.ireturn, 1) := by decide +kernel
theorem dL_law_355 : decode cL_law 355 = .ok (.aload_n 1, 1) := by decide +kernel
theorem dL_law_356 : decode cL_law 356 = .ok (.aload_n 0, 1) := by decide +kernel
theorem dL_law_357 : decode cL_law 357 = .ok (.iload_n 3, 1) := by decide +kernel
theorem dL_law_358 : decode cL_law 358 = .ok (.iconst 1, 1) := by decide +kernel
theorem dL_law_359 : decode cL_law 359 = .ok (.iadd, 1) := by decide +kernel
theorem dL_law_360 : decode cL_law 360 = .ok (.iaload, 1) := by decide +kernel
theorem dL_law_361 : decode cL_law 361 = .ok (.invokevirtual 36, 3) := by decide +kernel
theorem dL_law_364 : decode cL_law 364 = .ok (.aload_n 2, 1) := by decide +kernel
theorem dL_law_365 : decode cL_law 365 = .ok (.aload_n 0, 1) := by decide +kernel
theorem dL_law_366 : decode cL_law 366 = .ok (.iload_n 3, 1) := by decide +kernel
theorem dL_law_367 : decode cL_law 367 = .ok (.iconst 1, 1) := by decide +kernel
theorem dL_law_368 : decode cL_law 368 = .ok (.iadd, 1) := by decide +kernel
theorem dL_law_369 : decode cL_law 369 = .ok (.iaload, 1) := by decide +kernel
theorem dL_law_370 : decode cL_law 370 = .ok (.invokevirtual 39, 3) := by decide +kernel
theorem dL_law_373 : decode cL_law 373 = .ok (.if_icmp .eq 789, 3) := by decide +kernel
theorem dL_law_376 : decode cL_law 376 = .ok (.iconst 0, 1) := by decide +kernel
theorem dL_law_377 : decode cL_law 377 = .ok (.ireturn, 1) := by decide +kernel
theorem dL_law_378 : decode cL_law 378 = .ok (.aload_n 1, 1) := by decide +kernel
theorem dL_law_379 : decode cL_law 379 = .ok (.invokevirtual 40, 3) := by decide +kernel
theorem dL_law_382 : decode cL_law 382 = .ok (.aload_n 2, 1) := by decide +kernel
theorem dL_law_383 : decode cL_law 383 = .ok (.invokevirtual 44, 3) := by decide +kernel
theorem dL_law_386 : decode cL_law 386 = .ok (.if_icmp .eq 776, 3) := by decide +kernel
theorem dL_law_389 : decode cL_law 389 = .ok (.iconst 0, 1) := by decide +kernel
theorem dL_law_390 : decode cL_law 390 = .ok (.ireturn, 1) := by decide +kernel
theorem dL_law_391 : decode cL_law 391 = .ok (.aload_n 1, 1) := by decide +kernel
theorem dL_law_392 : decode cL_law 392 = .ok (.aload_n 0, 1) := by decide +kernel
theorem dL_law_393 : decode cL_law 393 = .ok (.iload_n 3, 1) := by decide +kernel
theorem dL_law_394 : decode cL_law 394 = .ok (.iconst 1, 1) := by decide +kernel
theorem dL_law_395 : decode cL_law 395 = .ok (.iadd, 1) := by decide +kernel
theorem dL_law_396 : decode cL_law 396 = .ok (.iaload, 1) := by decide +kernel
theorem dL_law_397 : decode cL_law 397 = .ok (.invokevirtual 45, 3) := by decide +kernel
theorem dL_law_400 : decode cL_law 400 = .ok (.aload_n 2, 1) := by decide +kernel
theorem dL_law_401 : decode cL_law 401 = .ok (.aload_n 0, 1) := by decide +kernel
theorem dL_law_402 : decode cL_law 402 = .ok (.iload_n 3, 1) := by decide +kernel
theorem dL_law_403 : decode cL_law 403 = .ok (.iconst 1, 1) := by decide +kernel
theorem dL_law_404 : decode cL_law 404 = .ok (.iadd, 1) := by decide +kernel
theorem dL_law_405 : decode cL_law 405 = .ok (.iaload, 1) := by decide +kernel
theorem dL_law_406 : decode cL_law 406 = .ok (.invokevirtual 48, 3) := by decide +kernel
theorem dL_law_409 : decode cL_law 409 = .ok (.if_icmp .eq 753, 3) := by decide +kernel
theorem dL_law_412 : decode cL_law 412 = .ok (.iconst 0, 1) := by decide +kernel
theorem dL_law_413 : decode cL_law 413 = .ok (.ireturn, 1) := by decide +kernel
theorem dL_law_414 : decode cL_law 414 = .ok (.aload_n 1, 1) := by decide +kernel
theorem dL_law_415 : decode cL_law 415 = .ok (.invokevirtual 49, 3) := by decide +kernel
theorem dL_law_418 : decode cL_law 418 = .ok (.aload_n 2, 1) := by decide +kernel
theorem dL_law_419 : decode cL_law 419 = .ok (.invokevirtual 52, 3) := by decide +kernel
theorem dL_law_422 : decode cL_law 422 = .ok (.if_icmp .eq 740, 3) := by decide +kernel
theorem dL_law_425 : decode cL_law 425 = .ok (.iconst 0, 1) := by decide +kernel
theorem dL_law_426 : decode cL_law 426 = .ok (.ireturn, 1) := by decide +kernel
theorem dL_law_427 : decode cL_law 427 = .ok (.aload_n 1, 1) := by decide +kernel
theorem dL_law_428 : decode cL_law 428 = .ok (.aload_n 0, 1) := by decide +kernel
theorem dL_law_429 : decode cL_law 429 = .ok (.iload_n 3, 1) := by decide +kernel
theorem dL_law_430 : decode cL_law 430 = .ok (.iconst 1, 1) := by decide +kernel
theorem dL_law_431 : decode cL_law 431 = .ok (.iadd, 1) := by decide +kernel
theorem dL_law_432 : decode cL_law 432 = .ok (.iaload, 1) := by decide +kernel
theorem dL_law_433 : decode cL_law 433 = .ok (.aload_n 0, 1) := by decide +kernel
theorem dL_law_434 : decode cL_law 434 = .ok (.iload_n 3, 1) := by decide +kernel
theorem dL_law_435 : decode cL_law 435 = .ok (.iconst 2, 1) := by decide +kernel
theorem dL_law_436 : decode cL_law 436 = .ok (.iadd, 1) := by decide +kernel
theorem dL_law_437 : decode cL_law 437 = .ok (.iaload, 1) := by decide +kernel
theorem dL_law_438 : decode cL_law 438 = .ok (.invokevirtual 53, 3) := by decide +kernel
theorem dL_law_441 : decode cL_law 441 = .ok (.aload_n 2, 1) := by decide +kernel
theorem dL_law_442 : decode cL_law 442 = .ok (.aload_n 0, 1) := by decide +kernel
theorem dL_law_443 : decode cL_law 443 = .ok (.iload_n 3, 1) := by decide +kernel
theorem dL_law_444 : decode cL_law 444 = .ok (.iconst 1, 1) := by decide +kernel
theorem dL_law_445 : decode cL_law 445 = .ok (.iadd, 1) := by decide +kernel
theorem dL_law_446 : decode cL_law 446 = .ok (.iaload, 1) := by decide +kernel
theorem dL_law_447 : decode cL_law 447 = .ok (.aload_n 0, 1) := by decide +kernel
theorem dL_law_448 : decode cL_law 448 = .ok (.iload_n 3, 1) := by decide +kernel
theorem dL_law_449 : decode cL_law 449 = .ok (.iconst 2, 1) := by decide +kernel
theorem dL_law_450 : decode cL_law 450 = .ok (.iadd, 1) := by decide +kernel
theorem dL_law_451 : decode cL_law 451 = .ok (.iaload, 1) := by decide +kernel
theorem dL_law_452 : decode cL_law 452 = .ok (.invokevirtual 56, 3) := by decide +kernel
theorem dL_law_455 : decode cL_law 455 = .ok (.if_icmp .eq 707, 3) := by decide +kernel
theorem dL_law_458 : decode cL_law 458 = .ok (.iconst 0, 1) := by decide +kernel
theorem dL_law_459 : decode cL_law 459 = .ok (.ireturn, 1) := by decide +kernel
theorem dL_law_460 : decode cL_law 460 = .ok (.aload_n 1, 1) := by decide +kernel
theorem dL_law_461 : decode cL_law 461 = .ok (.invokevirtual 57, 3) := by decide +kernel
theorem dL_law_464 : decode cL_law 464 = .ok (.aload_n 2, 1) := by decide +kernel
theorem dL_law_465 : decode cL_law 465 = .ok (.invokevirtual 60, 3) := by decide +kernel
theorem dL_law_468 : decode cL_law 468 = .ok (.if_icmp .eq 694, 3) := by decide +kernel
theorem dL_law_471 : decode cL_law 471 = .ok (.iconst 0, 1) := by decide +kernel
theorem dL_law_472 : decode cL_law 472 = .ok (.ireturn, 1) := by decide +kernel
theorem dL_law_473 : decode cL_law 473 = .ok (.aload_n 1, 1) := by decide +kernel
theorem dL_law_474 : decode cL_law 474 = .ok (.aload_n 0, 1) := by decide +kernel
theorem dL_law_475 : decode cL_law 475 = .ok (.iload_n 3, 1) := by decide +kernel
theorem dL_law_476 : decode cL_law 476 = .ok (.iconst 1, 1) := by decide +kernel
theorem dL_law_477 : decode cL_law 477 = .ok (.iadd, 1) := by decide +kernel
theorem dL_law_478 : decode cL_law 478 = .ok (.iaload, 1) := by decide +kernel
theorem dL_law_479 : decode cL_law 479 = .ok (.invokevirtual 61, 3) := by decide +kernel
theorem dL_law_482 : decode cL_law 482 = .ok (.aload_n 2, 1) := by decide +kernel
theorem dL_law_483 : decode cL_law 483 = .ok (.aload_n 0, 1) := by decide +kernel
theorem dL_law_484 : decode cL_law 484 = .ok (.iload_n 3, 1) := by decide +kernel
theorem dL_law_485 : decode cL_law 485 = .ok (.iconst 1, 1) := by decide +kernel
theorem dL_law_486 : decode cL_law 486 = .ok (.iadd, 1) := by decide +kernel
theorem dL_law_487 : decode cL_law 487 = .ok (.iaload, 1) := by decide +kernel
theorem dL_law_488 : decode cL_law 488 = .ok (.invokevirtual 64, 3) := by decide +kernel
theorem dL_law_491 : decode cL_law 491 = .ok (.if_icmp .eq 671, 3) := by decide +kernel
theorem dL_law_494 : decode cL_law 494 = .ok (.iconst 0, 1) := by decide +kernel
theorem dL_law_495 : decode cL_law 495 = .ok (.ireturn, 1) := by decide +kernel
theorem dL_law_496 : decode cL_law 496 = .ok (.aload_n 1, 1) := by decide +kernel
theorem dL_law_497 : decode cL_law 497 = .ok (.aload_n 0, 1) := by decide +kernel
theorem dL_law_498 : decode cL_law 498 = .ok (.iload_n 3, 1) := by decide +kernel
theorem dL_law_499 : decode cL_law 499 = .ok (.iconst 1, 1) := by decide +kernel
theorem dL_law_500 : decode cL_law 500 = .ok (.iadd, 1) := by decide +kernel
theorem dL_law_501 : decode cL_law 501 = .ok (.iaload, 1) := by decide +kernel
theorem dL_law_502 : decode cL_law 502 = .ok (.invokevirtual 65, 3) := by decide +kernel
theorem dL_law_505 : decode cL_law 505 = .ok (.aload_n 2, 1) := by decide +kernel
theorem dL_law_506 : decode cL_law 506 = .ok (.aload_n 0, 1) := by decide +kernel
theorem dL_law_507 : decode cL_law 507 = .ok (.iload_n 3, 1) := by decide +kernel
theorem dL_law_508 : decode cL_law 508 = .ok (.iconst 1, 1) := by decide +kernel
theorem dL_law_509 : decode cL_law 509 = .ok (.iadd, 1) := by decide +kernel
theorem dL_law_510 : decode cL_law 510 = .ok (.iaload, 1) := by decide +kernel
theorem dL_law_511 : decode cL_law 511 = .ok (.invokevirtual 68, 3) := by decide +kernel
theorem dL_law_514 : decode cL_law 514 = .ok (.if_icmp .eq 648, 3) := by decide +kernel
theorem dL_law_517 : decode cL_law 517 = .ok (.iconst 0, 1) := by decide +kernel
theorem dL_law_518 : decode cL_law 518 = .ok (.ireturn, 1) := by decide +kernel
theorem dL_law_519 : decode cL_law 519 = .ok (.aload_n 1, 1) := by decide +kernel
theorem dL_law_520 : decode cL_law 520 = .ok (.aload_n 0, 1) := by decide +kernel
theorem dL_law_521 : decode cL_law 521 = .ok (.iload_n 3, 1) := by decide +kernel
theorem dL_law_522 : decode cL_law 522 = .ok (.iconst 1, 1) := by decide +kernel
theorem dL_law_523 : decode cL_law 523 = .ok (.iadd, 1) := by decide +kernel
theorem dL_law_524 : decode cL_law 524 = .ok (.iaload, 1) := by decide +kernel
theorem dL_law_525 : decode cL_law 525 = .ok (.invokevirtual 69, 3) := by decide +kernel
theorem dL_law_528 : decode cL_law 528 = .ok (.aload_n 2, 1) := by decide +kernel
theorem dL_law_529 : decode cL_law 529 = .ok (.aload_n 0, 1) := by decide +kernel
theorem dL_law_530 : decode cL_law 530 = .ok (.iload_n 3, 1) := by decide +kernel
theorem dL_law_531 : decode cL_law 531 = .ok (.iconst 1, 1) := by decide +kernel
theorem dL_law_532 : decode cL_law 532 = .ok (.iadd, 1) := by decide +kernel
theorem dL_law_533 : decode cL_law 533 = .ok (.iaload, 1) := by decide +kernel
theorem dL_law_534 : decode cL_law 534 = .ok (.invokevirtual 72, 3) := by decide +kernel
theorem dL_law_537 : decode cL_law 537 = .ok (.if_icmp .eq 625, 3) := by decide +kernel
theorem dL_law_540 : decode cL_law 540 = .ok (.iconst 0, 1) := by decide +kernel
theorem dL_law_541 : decode cL_law 541 = .ok (.ireturn, 1) := by decide +kernel
theorem dL_law_542 : decode cL_law 542 = .ok (.aload_n 1, 1) := by decide +kernel
theorem dL_law_543 : decode cL_law 543 = .ok (.aload_n 0, 1) := by decide +kernel
theorem dL_law_544 : decode cL_law 544 = .ok (.iload_n 3, 1) := by decide +kernel
theorem dL_law_545 : decode cL_law 545 = .ok (.iconst 1, 1) := by decide +kernel
theorem dL_law_546 : decode cL_law 546 = .ok (.iadd, 1) := by decide +kernel
theorem dL_law_547 : decode cL_law 547 = .ok (.iaload, 1) := by decide +kernel
theorem dL_law_548 : decode cL_law 548 = .ok (.aload_n 0, 1) := by decide +kernel
theorem dL_law_549 : decode cL_law 549 = .ok (.iload_n 3, 1) := by decide +kernel
theorem dL_law_550 : decode cL_law 550 = .ok (.iconst 2, 1) := by decide +kernel
theorem dL_law_551 : decode cL_law 551 = .ok (.iadd, 1) := by decide +kernel
theorem dL_law_552 : decode cL_law 552 = .ok (.iaload, 1) := by decide +kernel
theorem dL_law_553 : decode cL_law 553 = .ok (.invokevirtual 73, 3) := by decide +kernel
theorem dL_law_556 : decode cL_law 556 = .ok (.aload_n 2, 1) := by decide +kernel
theorem dL_law_557 : decode cL_law 557 = .ok (.aload_n 0, 1) := by decide +kernel
theorem dL_law_558 : decode cL_law 558 = .ok (.iload_n 3, 1) := by decide +kernel
theorem dL_law_559 : decode cL_law 559 = .ok (.iconst 1, 1) := by decide +kernel
theorem dL_law_560 : decode cL_law 560 = .ok (.iadd, 1) := by decide +kernel
theorem dL_law_561 : decode cL_law 561 = .ok (.iaload, 1) := by decide +kernel
theorem dL_law_562 : decode cL_law 562 = .ok (.aload_n 0, 1) := by decide +kernel
theorem dL_law_563 : decode cL_law 563 = .ok (.iload_n 3, 1) := by decide +kernel
theorem dL_law_564 : decode cL_law 564 = .ok (.iconst 2, 1) := by decide +kernel
theorem dL_law_565 : decode cL_law 565 = .ok (.iadd, 1) := by decide +kernel
theorem dL_law_566 : decode cL_law 566 = .ok (.iaload, 1) := by decide +kernel
theorem dL_law_567 : decode cL_law 567 = .ok (.invokevirtual 76, 3) := by decide +kernel
theorem dL_law_570 : decode cL_law 570 = .ok (.if_icmp .eq 592, 3) := by decide +kernel
theorem dL_law_573 : decode cL_law 573 = .ok (.iconst 0, 1) := by decide +kernel
theorem dL_law_574 : decode cL_law 574 = .ok (.ireturn, 1) := by decide +kernel
theorem dL_law_575 : decode cL_law 575 = .ok (.aload_n 1, 1) := by decide +kernel
theorem dL_law_576 : decode cL_law 576 = .ok (.aload_n 0, 1) := by decide +kernel
theorem dL_law_577 : decode cL_law 577 = .ok (.iload_n 3, 1) := by decide +kernel
theorem dL_law_578 : decode cL_law 578 = .ok (.iconst 1, 1) := by decide +kernel
theorem dL_law_579 : decode cL_law 579 = .ok (.iadd, 1) := by decide +kernel
theorem dL_law_580 : decode cL_law 580 = .ok (.iaload, 1) := by decide +kernel
theorem dL_law_581 : decode cL_law 581 = .ok (.invokevirtual 77, 3) := by decide +kernel
theorem dL_law_584 : decode cL_law 584 = .ok (.aload_n 2, 1) := by decide +kernel
theorem dL_law_585 : decode cL_law 585 = .ok (.aload_n 0, 1) := by decide +kernel
theorem dL_law_586 : decode cL_law 586 = .ok (.iload_n 3, 1) := by decide +kernel
theorem dL_law_587 : decode cL_law 587 = .ok (.iconst 1, 1) := by decide +kernel
theorem dL_law_588 : decode cL_law 588 = .ok (.iadd, 1) := by decide +kernel
theorem dL_law_589 : decode cL_law 589 = .ok (.iaload, 1) := by decide +kernel
theorem dL_law_590 : decode cL_law 590 = .ok (.invokevirtual 80, 3) := by decide +kernel
theorem dL_law_593 : decode cL_law 593 = .ok (.if_icmp .eq 569, 3) := by decide +kernel
theorem dL_law_596 : decode cL_law 596 = .ok (.iconst 0, 1) := by decide +kernel
theorem dL_law_597 : decode cL_law 597 = .ok (.ireturn, 1) := by decide +kernel
theorem dL_law_598 : decode cL_law 598 = .ok (.aload_n 1, 1) := by decide +kernel
theorem dL_law_599 : decode cL_law 599 = .ok (.aload_n 0, 1) := by decide +kernel
theorem dL_law_600 : decode cL_law 600 = .ok (.iload_n 3, 1) := by decide +kernel
theorem dL_law_601 : decode cL_law 601 = .ok (.iconst 1, 1) := by decide +kernel
theorem dL_law_602 : decode cL_law 602 = .ok (.iadd, 1) := by decide +kernel
theorem dL_law_603 : decode cL_law 603 = .ok (.iaload, 1) := by decide +kernel
theorem dL_law_604 : decode cL_law 604 = .ok (.aload_n 0, 1) := by decide +kernel
theorem dL_law_605 : decode cL_law 605 = .ok (.iload_n 3, 1) := by decide +kernel
theorem dL_law_606 : decode cL_law 606 = .ok (.iconst 2, 1) := by decide +kernel
theorem dL_law_607 : decode cL_law 607 = .ok (.iadd, 1) := by decide +kernel
theorem dL_law_608 : decode cL_law 608 = .ok (.iaload, 1) := by decide +kernel
theorem dL_law_609 : decode cL_law 609 = .ok (.aload_n 0, 1) := by decide +kernel
theorem dL_law_610 : decode cL_law 610 = .ok (.iload_n 3, 1) := by decide +kernel
theorem dL_law_611 : decode cL_law 611 = .ok (.iconst 3, 1) := by decide +kernel
theorem dL_law_612 : decode cL_law 612 = .ok (.iadd, 1) := by decide +kernel
theorem dL_law_613 : decode cL_law 613 = .ok (.iaload, 1) := by decide +kernel
theorem dL_law_614 : decode cL_law 614 = .ok (.invokevirtual 81, 3) := by decide +kernel
theorem dL_law_617 : decode cL_law 617 = .ok (.aload_n 2, 1) := by decide +kernel
theorem dL_law_618 : decode cL_law 618 = .ok (.aload_n 0, 1) := by decide +kernel
theorem dL_law_619 : decode cL_law 619 = .ok (.iload_n 3, 1) := by decide +kernel
theorem dL_law_620 : decode cL_law 620 = .ok (.iconst 1, 1) := by decide +kernel
theorem dL_law_621 : decode cL_law 621 = .ok (.iadd, 1) := by decide +kernel
theorem dL_law_622 : decode cL_law 622 = .ok (.iaload, 1) := by decide +kernel
theorem dL_law_623 : decode cL_law 623 = .ok (.aload_n 0, 1) := by decide +kernel
theorem dL_law_624 : decode cL_law 624 = .ok (.iload_n 3, 1) := by decide +kernel
theorem dL_law_625 : decode cL_law 625 = .ok (.iconst 2, 1) := by decide +kernel
theorem dL_law_626 : decode cL_law 626 = .ok (.iadd, 1) := by decide +kernel
theorem dL_law_627 : decode cL_law 627 = .ok (.iaload, 1) := by decide +kernel
theorem dL_law_628 : decode cL_law 628 = .ok (.aload_n 0, 1) := by decide +kernel
theorem dL_law_629 : decode cL_law 629 = .ok (.iload_n 3, 1) := by decide +kernel
theorem dL_law_630 : decode cL_law 630 = .ok (.iconst 3, 1) := by decide +kernel
theorem dL_law_631 : decode cL_law 631 = .ok (.iadd, 1) := by decide +kernel
theorem dL_law_632 : decode cL_law 632 = .ok (.iaload, 1) := by decide +kernel
theorem dL_law_633 : decode cL_law 633 = .ok (.invokevirtual 84, 3) := by decide +kernel
theorem dL_law_636 : decode cL_law 636 = .ok (.if_icmp .eq 526, 3) := by decide +kernel
theorem dL_law_639 : decode cL_law 639 = .ok (.iconst 0, 1) := by decide +kernel
theorem dL_law_640 : decode cL_law 640 = .ok (.ireturn, 1) := by decide +kernel
theorem dL_law_641 : decode cL_law 641 = .ok (.aload_n 1, 1) := by decide +kernel
theorem dL_law_642 : decode cL_law 642 = .ok (.aload_n 0, 1) := by decide +kernel
theorem dL_law_643 : decode cL_law 643 = .ok (.iload_n 3, 1) := by decide +kernel
theorem dL_law_644 : decode cL_law 644 = .ok (.iconst 1, 1) := by decide +kernel
theorem dL_law_645 : decode cL_law 645 = .ok (.iadd, 1) := by decide +kernel
theorem dL_law_646 : decode cL_law 646 = .ok (.iaload, 1) := by decide +kernel
theorem dL_law_647 : decode cL_law 647 = .ok (.invokevirtual 85, 3) := by decide +kernel
theorem dL_law_650 : decode cL_law 650 = .ok (.aload_n 2, 1) := by decide +kernel
theorem dL_law_651 : decode cL_law 651 = .ok (.aload_n 0, 1) := by decide +kernel
theorem dL_law_652 : decode cL_law 652 = .ok (.iload_n 3, 1) := by decide +kernel
theorem dL_law_653 : decode cL_law 653 = .ok (.iconst 1, 1) := by decide +kernel
theorem dL_law_654 : decode cL_law 654 = .ok (.iadd, 1) := by decide +kernel
theorem dL_law_655 : decode cL_law 655 = .ok (.iaload, 1) := by decide +kernel
theorem dL_law_656 : decode cL_law 656 = .ok (.invokevirtual 88, 3) := by decide +kernel
theorem dL_law_659 : decode cL_law 659 = .ok (.if_icmp .eq 503, 3) := by decide +kernel
theorem dL_law_662 : decode cL_law 662 = .ok (.iconst 0, 1) := by decide +kernel
theorem dL_law_663 : decode cL_law 663 = .ok (.ireturn, 1) := by decide +kernel
theorem dL_law_664 : decode cL_law 664 = .ok (.aload_n 1, 1) := by decide +kernel
theorem dL_law_665 : decode cL_law 665 = .ok (.aload_n 0, 1) := by decide +kernel
theorem dL_law_666 : decode cL_law 666 = .ok (.iload_n 3, 1) := by decide +kernel
theorem dL_law_667 : decode cL_law 667 = .ok (.iconst 1, 1) := by decide +kernel
theorem dL_law_668 : decode cL_law 668 = .ok (.iadd, 1) := by decide +kernel
theorem dL_law_669 : decode cL_law 669 = .ok (.iaload, 1) := by decide +kernel
theorem dL_law_670 : decode cL_law 670 = .ok (.aload_n 0, 1) := by decide +kernel
theorem dL_law_671 : decode cL_law 671 = .ok (.iload_n 3, 1) := by decide +kernel
theorem dL_law_672 : decode cL_law 672 = .ok (.iconst 2, 1) := by decide +kernel
theorem dL_law_673 : decode cL_law 673 = .ok (.iadd, 1) := by decide +kernel
theorem dL_law_674 : decode cL_law 674 = .ok (.iaload, 1) := by decide +kernel
theorem dL_law_675 : decode cL_law 675 = .ok (.invokevirtual 89, 3) := by decide +kernel
theorem dL_law_678 : decode cL_law 678 = .ok (.aload_n 2, 1) := by decide +kernel
theorem dL_law_679 : decode cL_law 679 = .ok (.aload_n 0, 1) := by decide +kernel
theorem dL_law_680 : decode cL_law 680 = .ok (.iload_n 3, 1) := by decide +kernel
theorem dL_law_681 : decode cL_law 681 = .ok (.iconst 1, 1) := by decide +kernel
theorem dL_law_682 : decode cL_law 682 = .ok (.iadd, 1) := by decide +kernel
theorem dL_law_683 : decode cL_law 683 = .ok (.iaload, 1) := by decide +kernel
theorem dL_law_684 : decode cL_law 684 = .ok (.aload_n 0, 1) := by decide +kernel
theorem dL_law_685 : decode cL_law 685 = .ok (.iload_n 3, 1) := by decide +kernel
theorem dL_law_686 : decode cL_law 686 = .ok (.iconst 2, 1) := by decide +kernel
theorem dL_law_687 : decode cL_law 687 = .ok (.iadd, 1) := by decide +kernel
theorem dL_law_688 : decode cL_law 688 = .ok (.iaload, 1) := by decide +kernel
theorem dL_law_689 : decode cL_law 689 = .ok (.invokevirtual 93, 3) := by decide +kernel
theorem dL_law_692 : decode cL_law 692 = .ok (.lcmp, 1) := by decide +kernel
theorem dL_law_693 : decode cL_law 693 = .ok (.ifCond .eq 469, 3) := by decide +kernel
theorem dL_law_696 : decode cL_law 696 = .ok (.iconst 0, 1) := by decide +kernel
theorem dL_law_697 : decode cL_law 697 = .ok (.ireturn, 1) := by decide +kernel
theorem dL_law_698 : decode cL_law 698 = .ok (.aload_n 1, 1) := by decide +kernel
theorem dL_law_699 : decode cL_law 699 = .ok (.aload_n 0, 1) := by decide +kernel
theorem dL_law_700 : decode cL_law 700 = .ok (.iload_n 3, 1) := by decide +kernel
theorem dL_law_701 : decode cL_law 701 = .ok (.iconst 1, 1) := by decide +kernel
theorem dL_law_702 : decode cL_law 702 = .ok (.iadd, 1) := by decide +kernel
theorem dL_law_703 : decode cL_law 703 = .ok (.iaload, 1) := by decide +kernel
theorem dL_law_704 : decode cL_law 704 = .ok (.aload_n 0, 1) := by decide +kernel
theorem dL_law_705 : decode cL_law 705 = .ok (.iload_n 3, 1) := by decide +kernel
theorem dL_law_706 : decode cL_law 706 = .ok (.iconst 2, 1) := by decide +kernel
theorem dL_law_707 : decode cL_law 707 = .ok (.iadd, 1) := by decide +kernel
theorem dL_law_708 : decode cL_law 708 = .ok (.iaload, 1) := by decide +kernel
theorem dL_law_709 : decode cL_law 709 = .ok (.invokevirtual 94, 3) := by decide +kernel
theorem dL_law_712 : decode cL_law 712 = .ok (.aload_n 2, 1) := by decide +kernel
theorem dL_law_713 : decode cL_law 713 = .ok (.aload_n 0, 1) := by decide +kernel
theorem dL_law_714 : decode cL_law 714 = .ok (.iload_n 3, 1) := by decide +kernel
theorem dL_law_715 : decode cL_law 715 = .ok (.iconst 1, 1) := by decide +kernel
theorem dL_law_716 : decode cL_law 716 = .ok (.iadd, 1) := by decide +kernel
theorem dL_law_717 : decode cL_law 717 = .ok (.iaload, 1) := by decide +kernel
theorem dL_law_718 : decode cL_law 718 = .ok (.aload_n 0, 1) := by decide +kernel
theorem dL_law_719 : decode cL_law 719 = .ok (.iload_n 3, 1) := by decide +kernel
theorem dL_law_720 : decode cL_law 720 = .ok (.iconst 2, 1) := by decide +kernel
theorem dL_law_721 : decode cL_law 721 = .ok (.iadd, 1) := by decide +kernel
theorem dL_law_722 : decode cL_law 722 = .ok (.iaload, 1) := by decide +kernel
theorem dL_law_723 : decode cL_law 723 = .ok (.invokevirtual 97, 3) := by decide +kernel
theorem dL_law_726 : decode cL_law 726 = .ok (.lcmp, 1) := by decide +kernel
theorem dL_law_727 : decode cL_law 727 = .ok (.ifCond .eq 435, 3) := by decide +kernel
theorem dL_law_730 : decode cL_law 730 = .ok (.iconst 0, 1) := by decide +kernel
theorem dL_law_731 : decode cL_law 731 = .ok (.ireturn, 1) := by decide +kernel
theorem dL_law_732 : decode cL_law 732 = .ok (.aload_n 1, 1) := by decide +kernel
theorem dL_law_733 : decode cL_law 733 = .ok (.aload_n 0, 1) := by decide +kernel
theorem dL_law_734 : decode cL_law 734 = .ok (.iload_n 3, 1) := by decide +kernel
theorem dL_law_735 : decode cL_law 735 = .ok (.iconst 1, 1) := by decide +kernel
theorem dL_law_736 : decode cL_law 736 = .ok (.iadd, 1) := by decide +kernel
theorem dL_law_737 : decode cL_law 737 = .ok (.iaload, 1) := by decide +kernel
theorem dL_law_738 : decode cL_law 738 = .ok (.invokevirtual 98, 3) := by decide +kernel
theorem dL_law_741 : decode cL_law 741 = .ok (.aload_n 2, 1) := by decide +kernel
theorem dL_law_742 : decode cL_law 742 = .ok (.aload_n 0, 1) := by decide +kernel
theorem dL_law_743 : decode cL_law 743 = .ok (.iload_n 3, 1) := by decide +kernel
theorem dL_law_744 : decode cL_law 744 = .ok (.iconst 1, 1) := by decide +kernel
theorem dL_law_745 : decode cL_law 745 = .ok (.iadd, 1) := by decide +kernel
theorem dL_law_746 : decode cL_law 746 = .ok (.iaload, 1) := by decide +kernel
theorem dL_law_747 : decode cL_law 747 = .ok (.invokevirtual 101, 3) := by decide +kernel
theorem dL_law_750 : decode cL_law 750 = .ok (.if_icmp .eq 412, 3) := by decide +kernel
theorem dL_law_753 : decode cL_law 753 = .ok (.iconst 0, 1) := by decide +kernel
theorem dL_law_754 : decode cL_law 754 = .ok (.ireturn, 1) := by decide +kernel
theorem dL_law_755 : decode cL_law 755 = .ok (.aload_n 1, 1) := by decide +kernel
theorem dL_law_756 : decode cL_law 756 = .ok (.invokevirtual 102, 3) := by decide +kernel
theorem dL_law_759 : decode cL_law 759 = .ok (.aload_n 2, 1) := by decide +kernel
theorem dL_law_760 : decode cL_law 760 = .ok (.invokevirtual 105, 3) := by decide +kernel
theorem dL_law_763 : decode cL_law 763 = .ok (.if_icmp .eq 399, 3) := by decide +kernel
theorem dL_law_766 : decode cL_law 766 = .ok (.iconst 0, 1) := by decide +kernel
theorem dL_law_767 : decode cL_law 767 = .ok (.ireturn, 1) := by decide +kernel
theorem dL_law_768 : decode cL_law 768 = .ok (.aload_n 1, 1) := by decide +kernel
theorem dL_law_769 : decode cL_law 769 = .ok (.aload_n 0, 1) := by decide +kernel
theorem dL_law_770 : decode cL_law 770 = .ok (.iload_n 3, 1) := by decide +kernel
theorem dL_law_771 : decode cL_law 771 = .ok (.iconst 1, 1) := by decide +kernel
theorem dL_law_772 : decode cL_law 772 = .ok (.iadd, 1) := by decide +kernel
theorem dL_law_773 : decode cL_law 773 = .ok (.iaload, 1) := by decide +kernel
theorem dL_law_774 : decode cL_law 774 = .ok (.aload_n 0, 1) := by decide +kernel
theorem dL_law_775 : decode cL_law 775 = .ok (.iload_n 3, 1) := by decide +kernel
theorem dL_law_776 : decode cL_law 776 = .ok (.iconst 2, 1) := by decide +kernel
theorem dL_law_777 : decode cL_law 777 = .ok (.iadd, 1) := by decide +kernel
theorem dL_law_778 : decode cL_law 778 = .ok (.iaload, 1) := by decide +kernel
theorem dL_law_779 : decode cL_law 779 = .ok (.invokevirtual 106, 3) := by decide +kernel
theorem dL_law_782 : decode cL_law 782 = .ok (.aload_n 2, 1) := by decide +kernel
theorem dL_law_783 : decode cL_law 783 = .ok (.aload_n 0, 1) := by decide +kernel
theorem dL_law_784 : decode cL_law 784 = .ok (.iload_n 3, 1) := by decide +kernel
theorem dL_law_785 : decode cL_law 785 = .ok (.iconst 1, 1) := by decide +kernel
theorem dL_law_786 : decode cL_law 786 = .ok (.iadd, 1) := by decide +kernel
theorem dL_law_787 : decode cL_law 787 = .ok (.iaload, 1) := by decide +kernel
theorem dL_law_788 : decode cL_law 788 = .ok (.aload_n 0, 1) := by decide +kernel
theorem dL_law_789 : decode cL_law 789 = .ok (.iload_n 3, 1) := by decide +kernel
theorem dL_law_790 : decode cL_law 790 = .ok (.iconst 2, 1) := by decide +kernel
theorem dL_law_791 : decode cL_law 791 = .ok (.iadd, 1) := by decide +kernel
theorem dL_law_792 : decode cL_law 792 = .ok (.iaload, 1) := by decide +kernel
theorem dL_law_793 : decode cL_law 793 = .ok (.invokevirtual 109, 3) := by decide +kernel
theorem dL_law_796 : decode cL_law 796 = .ok (.if_icmp .eq 366, 3) := by decide +kernel
theorem dL_law_799 : decode cL_law 799 = .ok (.iconst 0, 1) := by decide +kernel
theorem dL_law_800 : decode cL_law 800 = .ok (.ireturn, 1) := by decide +kernel
theorem dL_law_801 : decode cL_law 801 = .ok (.aload_n 1, 1) := by decide +kernel
theorem dL_law_802 : decode cL_law 802 = .ok (.invokevirtual 110, 3) := by decide +kernel
theorem dL_law_805 : decode cL_law 805 = .ok (.aload_n 2, 1) := by decide +kernel
theorem dL_law_806 : decode cL_law 806 = .ok (.invokevirtual 113, 3) := by decide +kernel
theorem dL_law_809 : decode cL_law 809 = .ok (.if_icmp .eq 353, 3) := by decide +kernel
theorem dL_law_812 : decode cL_law 812 = .ok (.iconst 0, 1) := by decide +kernel
theorem dL_law_813 : decode cL_law 813 = .ok (.ireturn, 1) := by decide +kernel
theorem dL_law_814 : decode cL_law 814 = .ok (.aload_n 1, 1) := by decide +kernel
theorem dL_law_815 : decode cL_law 815 = .ok (.invokevirtual 114, 3) := by decide +kernel
theorem dL_law_818 : decode cL_law 818 = .ok (.aload_n 2, 1) := by decide +kernel
theorem dL_law_819 : decode cL_law 819 = .ok (.invokevirtual 117, 3) := by decide +kernel
theorem dL_law_822 : decode cL_law 822 = .ok (.if_icmp .eq 340, 3) := by decide +kernel
theorem dL_law_825 : decode cL_law 825 = .ok (.iconst 0, 1) := by decide +kernel
theorem dL_law_826 : decode cL_law 826 = .ok (.ireturn, 1) := by decide +kernel
theorem dL_law_827 : decode cL_law 827 = .ok (.aload_n 1, 1) := by decide +kernel
theorem dL_law_828 : decode cL_law 828 = .ok (.aload_n 0, 1) := by decide +kernel
theorem dL_law_829 : decode cL_law 829 = .ok (.iload_n 3, 1) := by decide +kernel
theorem dL_law_830 : decode cL_law 830 = .ok (.iconst 1, 1) := by decide +kernel
theorem dL_law_831 : decode cL_law 831 = .ok (.iadd, 1) := by decide +kernel
theorem dL_law_832 : decode cL_law 832 = .ok (.iaload, 1) := by decide +kernel
theorem dL_law_833 : decode cL_law 833 = .ok (.aload_n 0, 1) := by decide +kernel
theorem dL_law_834 : decode cL_law 834 = .ok (.iload_n 3, 1) := by decide +kernel
theorem dL_law_835 : decode cL_law 835 = .ok (.iconst 2, 1) := by decide +kernel
theorem dL_law_836 : decode cL_law 836 = .ok (.iadd, 1) := by decide +kernel
theorem dL_law_837 : decode cL_law 837 = .ok (.iaload, 1) := by decide +kernel
theorem dL_law_838 : decode cL_law 838 = .ok (.aload_n 0, 1) := by decide +kernel
theorem dL_law_839 : decode cL_law 839 = .ok (.iload_n 3, 1) := by decide +kernel
theorem dL_law_840 : decode cL_law 840 = .ok (.iconst 3, 1) := by decide +kernel
theorem dL_law_841 : decode cL_law 841 = .ok (.iadd, 1) := by decide +kernel
theorem dL_law_842 : decode cL_law 842 = .ok (.iaload, 1) := by decide +kernel
theorem dL_law_843 : decode cL_law 843 = .ok (.invokevirtual 118, 3) := by decide +kernel
theorem dL_law_846 : decode cL_law 846 = .ok (.aload_n 2, 1) := by decide +kernel
theorem dL_law_847 : decode cL_law 847 = .ok (.aload_n 0, 1) := by decide +kernel
theorem dL_law_848 : decode cL_law 848 = .ok (.iload_n 3, 1) := by decide +kernel
theorem dL_law_849 : decode cL_law 849 = .ok (.iconst 1, 1) := by decide +kernel
theorem dL_law_850 : decode cL_law 850 = .ok (.iadd, 1) := by decide +kernel
theorem dL_law_851 : decode cL_law 851 = .ok (.iaload, 1) := by decide +kernel
theorem dL_law_852 : decode cL_law 852 = .ok (.aload_n 0, 1) := by decide +kernel
theorem dL_law_853 : decode cL_law 853 = .ok (.iload_n 3, 1) := by decide +kernel
theorem dL_law_854 : decode cL_law 854 = .ok (.iconst 2, 1) := by decide +kernel
theorem dL_law_855 : decode cL_law 855 = .ok (.iadd, 1) := by decide +kernel
theorem dL_law_856 : decode cL_law 856 = .ok (.iaload, 1) := by decide +kernel
theorem dL_law_857 : decode cL_law 857 = .ok (.aload_n 0, 1) := by decide +kernel
theorem dL_law_858 : decode cL_law 858 = .ok (.iload_n 3, 1) := by decide +kernel
theorem dL_law_859 : decode cL_law 859 = .ok (.iconst 3, 1) := by decide +kernel
theorem dL_law_860 : decode cL_law 860 = .ok (.iadd, 1) := by decide +kernel
theorem dL_law_861 : decode cL_law 861 = .ok (.iaload, 1) := by decide +kernel
theorem dL_law_862 : decode cL_law 862 = .ok (.invokevirtual 121, 3) := by decide +kernel
theorem dL_law_865 : decode cL_law 865 = .ok (.if_icmp .eq 297, 3) := by decide +kernel
theorem dL_law_868 : decode cL_law 868 = .ok (.iconst 0, 1) := by decide +kernel
theorem dL_law_869 : decode cL_law 869 = .ok (.ireturn, 1) := by decide +kernel
theorem dL_law_870 : decode cL_law 870 = .ok (.aload_n 1, 1) := by decide +kernel
theorem dL_law_871 : decode cL_law 871 = .ok (.aload_n 0, 1) := by decide +kernel
theorem dL_law_872 : decode cL_law 872 = .ok (.iload_n 3, 1) := by decide +kernel
theorem dL_law_873 : decode cL_law 873 = .ok (.iconst 1, 1) := by decide +kernel
theorem dL_law_874 : decode cL_law 874 = .ok (.iadd, 1) := by decide +kernel
theorem dL_law_875 : decode cL_law 875 = .ok (.iaload, 1) := by decide +kernel
theorem dL_law_876 : decode cL_law 876 = .ok (.invokevirtual 122, 3) := by decide +kernel
theorem dL_law_879 : decode cL_law 879 = .ok (.aload_n 2, 1) := by decide +kernel
theorem dL_law_880 : decode cL_law 880 = .ok (.aload_n 0, 1) := by decide +kernel
theorem dL_law_881 : decode cL_law 881 = .ok (.iload_n 3, 1) := by decide +kernel
theorem dL_law_882 : decode cL_law 882 = .ok (.iconst 1, 1) := by decide +kernel
theorem dL_law_883 : decode cL_law 883 = .ok (.iadd, 1) := by decide +kernel
theorem dL_law_884 : decode cL_law 884 = .ok (.iaload, 1) := by decide +kernel
theorem dL_law_885 : decode cL_law 885 = .ok (.invokevirtual 125, 3) := by decide +kernel
theorem dL_law_888 : decode cL_law 888 = .ok (.if_icmp .eq 274, 3) := by decide +kernel
theorem dL_law_891 : decode cL_law 891 = .ok (.iconst 0, 1) := by decide +kernel
theorem dL_law_892 : decode cL_law 892 = .ok (.ireturn, 1) := by decide +kernel
theorem dL_law_893 : decode cL_law 893 = .ok (.aload_n 1, 1) := by decide +kernel
theorem dL_law_894 : decode cL_law 894 = .ok (.aload_n 0, 1) := by decide +kernel
theorem dL_law_895 : decode cL_law 895 = .ok (.iload_n 3, 1) := by decide +kernel
theorem dL_law_896 : decode cL_law 896 = .ok (.iconst 1, 1) := by decide +kernel
theorem dL_law_897 : decode cL_law 897 = .ok (.iadd, 1) := by decide +kernel
theorem dL_law_898 : decode cL_law 898 = .ok (.iaload, 1) := by decide +kernel
theorem dL_law_899 : decode cL_law 899 = .ok (.aload_n 0, 1) := by decide +kernel
theorem dL_law_900 : decode cL_law 900 = .ok (.iload_n 3, 1) := by decide +kernel
theorem dL_law_901 : decode cL_law 901 = .ok (.iconst 2, 1) := by decide +kernel
theorem dL_law_902 : decode cL_law 902 = .ok (.iadd, 1) := by decide +kernel
theorem dL_law_903 : decode cL_law 903 = .ok (.iaload, 1) := by decide +kernel
theorem dL_law_904 : decode cL_law 904 = .ok (.invokevirtual 126, 3) := by decide +kernel
theorem dL_law_907 : decode cL_law 907 = .ok (.aload_n 2, 1) := by decide +kernel
theorem dL_law_908 : decode cL_law 908 = .ok (.aload_n 0, 1) := by decide +kernel
theorem dL_law_909 : decode cL_law 909 = .ok (.iload_n 3, 1) := by decide +kernel
theorem dL_law_910 : decode cL_law 910 = .ok (.iconst 1, 1) := by decide +kernel
theorem dL_law_911 : decode cL_law 911 = .ok (.iadd, 1) := by decide +kernel
theorem dL_law_912 : decode cL_law 912 = .ok (.iaload, 1) := by decide +kernel
theorem dL_law_913 : decode cL_law 913 = .ok (.aload_n 0, 1) := by decide +kernel
theorem dL_law_914 : decode cL_law 914 = .ok (.iload_n 3, 1) := by decide +kernel
theorem dL_law_915 : decode cL_law 915 = .ok (.iconst 2, 1) := by decide +kernel
theorem dL_law_916 : decode cL_law 916 = .ok (.iadd, 1) := by decide +kernel
theorem dL_law_917 : decode cL_law 917 = .ok (.iaload, 1) := by decide +kernel
theorem dL_law_918 : decode cL_law 918 = .ok (.invokevirtual 129, 3) := by decide +kernel
theorem dL_law_921 : decode cL_law 921 = .ok (.if_icmp .eq 241, 3) := by decide +kernel
theorem dL_law_924 : decode cL_law 924 = .ok (.iconst 0, 1) := by decide +kernel
theorem dL_law_925 : decode cL_law 925 = .ok (.ireturn, 1) := by decide +kernel
theorem dL_law_926 : decode cL_law 926 = .ok (.aload_n 1, 1) := by decide +kernel
theorem dL_law_927 : decode cL_law 927 = .ok (.aload_n 0, 1) := by decide +kernel
theorem dL_law_928 : decode cL_law 928 = .ok (.iload_n 3, 1) := by decide +kernel
theorem dL_law_929 : decode cL_law 929 = .ok (.iconst 1, 1) := by decide +kernel
theorem dL_law_930 : decode cL_law 930 = .ok (.iadd, 1) := by decide +kernel
theorem dL_law_931 : decode cL_law 931 = .ok (.iaload, 1) := by decide +kernel
theorem dL_law_932 : decode cL_law 932 = .ok (.invokevirtual 130, 3) := by decide +kernel
theorem dL_law_935 : decode cL_law 935 = .ok (.aload_n 2, 1) := by decide +kernel
theorem dL_law_936 : decode cL_law 936 = .ok (.aload_n 0, 1) := by decide +kernel
theorem dL_law_937 : decode cL_law 937 = .ok (.iload_n 3, 1) := by decide +kernel
theorem dL_law_938 : decode cL_law 938 = .ok (.iconst 1, 1) := by decide +kernel
theorem dL_law_939 : decode cL_law 939 = .ok (.iadd, 1) := by decide +kernel
theorem dL_law_940 : decode cL_law 940 = .ok (.iaload, 1) := by decide +kernel
theorem dL_law_941 : decode cL_law 941 = .ok (.invokevirtual 133, 3) := by decide +kernel
theorem dL_law_944 : decode cL_law 944 = .ok (.if_icmp .eq 218, 3) := by decide +kernel
theorem dL_law_947 : decode cL_law 947 = .ok (.iconst 0, 1) := by decide +kernel
theorem dL_law_948 : decode cL_law 948 = .ok (.ireturn, 1) := by decide +kernel
theorem dL_law_949 : decode cL_law 949 = .ok (.aload_n 1, 1) := by decide +kernel
theorem dL_law_950 : decode cL_law 950 = .ok (.aload_n 0, 1) := by decide +kernel
theorem dL_law_951 : decode cL_law 951 = .ok (.iload_n 3, 1) := by decide +kernel
theorem dL_law_952 : decode cL_law 952 = .ok (.iconst 1, 1) := by decide +kernel
theorem dL_law_953 : decode cL_law 953 = .ok (.iadd, 1) := by decide +kernel
theorem dL_law_954 : decode cL_law 954 = .ok (.iaload, 1) := by decide +kernel
theorem dL_law_955 : decode cL_law 955 = .ok (.aload_n 0, 1) := by decide +kernel
theorem dL_law_956 : decode cL_law 956 = .ok (.iload_n 3, 1) := by decide +kernel
theorem dL_law_957 : decode cL_law 957 = .ok (.iconst 2, 1) := by decide +kernel
theorem dL_law_958 : decode cL_law 958 = .ok (.iadd, 1) := by decide +kernel
theorem dL_law_959 : decode cL_law 959 = .ok (.iaload, 1) := by decide +kernel
theorem dL_law_960 : decode cL_law 960 = .ok (.aload_n 0, 1) := by decide +kernel
theorem dL_law_961 : decode cL_law 961 = .ok (.iload_n 3, 1) := by decide +kernel
theorem dL_law_962 : decode cL_law 962 = .ok (.iconst 3, 1) := by decide +kernel
theorem dL_law_963 : decode cL_law 963 = .ok (.iadd, 1) := by decide +kernel
theorem dL_law_964 : decode cL_law 964 = .ok (.iaload, 1) := by decide +kernel
theorem dL_law_965 : decode cL_law 965 = .ok (.invokevirtual 134, 3) := by decide +kernel
theorem dL_law_968 : decode cL_law 968 = .ok (.aload_n 2, 1) := by decide +kernel
theorem dL_law_969 : decode cL_law 969 = .ok (.aload_n 0, 1) := by decide +kernel
theorem dL_law_970 : decode cL_law 970 = .ok (.iload_n 3, 1) := by decide +kernel
theorem dL_law_971 : decode cL_law 971 = .ok (.iconst 1, 1) := by decide +kernel
theorem dL_law_972 : decode cL_law 972 = .ok (.iadd, 1) := by decide +kernel
theorem dL_law_973 : decode cL_law 973 = .ok (.iaload, 1) := by decide +kernel
theorem dL_law_974 : decode cL_law 974 = .ok (.aload_n 0, 1) := by decide +kernel
theorem dL_law_975 : decode cL_law 975 = .ok (.iload_n 3, 1) := by decide +kernel
theorem dL_law_976 : decode cL_law 976 = .ok (.iconst 2, 1) := by decide +kernel
theorem dL_law_977 : decode cL_law 977 = .ok (.iadd, 1) := by decide +kernel
theorem dL_law_978 : decode cL_law 978 = .ok (.iaload, 1) := by decide +kernel
theorem dL_law_979 : decode cL_law 979 = .ok (.aload_n 0, 1) := by decide +kernel
theorem dL_law_980 : decode cL_law 980 = .ok (.iload_n 3, 1) := by decide +kernel
theorem dL_law_981 : decode cL_law 981 = .ok (.iconst 3, 1) := by decide +kernel
theorem dL_law_982 : decode cL_law 982 = .ok (.iadd, 1) := by decide +kernel
theorem dL_law_983 : decode cL_law 983 = .ok (.iaload, 1) := by decide +kernel
theorem dL_law_984 : decode cL_law 984 = .ok (.invokevirtual 137, 3) := by decide +kernel
theorem dL_law_987 : decode cL_law 987 = .ok (.if_icmp .eq 175, 3) := by decide +kernel
theorem dL_law_990 : decode cL_law 990 = .ok (.iconst 0, 1) := by decide +kernel
theorem dL_law_991 : decode cL_law 991 = .ok (.ireturn, 1) := by decide +kernel
theorem dL_law_992 : decode cL_law 992 = .ok (.aload_n 1, 1) := by decide +kernel
theorem dL_law_993 : decode cL_law 993 = .ok (.aload_n 0, 1) := by decide +kernel
theorem dL_law_994 : decode cL_law 994 = .ok (.iload_n 3, 1) := by decide +kernel
theorem dL_law_995 : decode cL_law 995 = .ok (.iconst 1, 1) := by decide +kernel
theorem dL_law_996 : decode cL_law 996 = .ok (.iadd, 1) := by decide +kernel
theorem dL_law_997 : decode cL_law 997 = .ok (.iaload, 1) := by decide +kernel
theorem dL_law_998 : decode cL_law 998 = .ok (.aload_n 0, 1) := by decide +kernel
theorem dL_law_999 : decode cL_law 999 = .ok (.iload_n 3, 1) := by decide +kernel
theorem dL_law_1000 : decode cL_law 1000 = .ok (.iconst 2, 1) := by decide +kernel
theorem dL_law_1001 : decode cL_law 1001 = .ok (.iadd, 1) := by decide +kernel
theorem dL_law_1002 : decode cL_law 1002 = .ok (.iaload, 1) := by decide +kernel
theorem dL_law_1003 : decode cL_law 1003 = .ok (.aload_n 0, 1) := by decide +kernel
theorem dL_law_1004 : decode cL_law 1004 = .ok (.iload_n 3, 1) := by decide +kernel
theorem dL_law_1005 : decode cL_law 1005 = .ok (.iconst 3, 1) := by decide +kernel
theorem dL_law_1006 : decode cL_law 1006 = .ok (.iadd, 1) := by decide +kernel
theorem dL_law_1007 : decode cL_law 1007 = .ok (.iaload, 1) := by decide +kernel
theorem dL_law_1008 : decode cL_law 1008 = .ok (.i2l, 1) := by decide +kernel
theorem dL_law_1009 : decode cL_law 1009 = .ok (.bipush 32, 2) := by decide +kernel
theorem dL_law_1011 : decode cL_law 1011 = .ok (.lshl, 1) := by decide +kernel
theorem dL_law_1012 : decode cL_law 1012 = .ok (.aload_n 0, 1) := by decide +kernel
theorem dL_law_1013 : decode cL_law 1013 = .ok (.iload_n 3, 1) := by decide +kernel
theorem dL_law_1014 : decode cL_law 1014 = .ok (.iconst 4, 1) := by decide +kernel
theorem dL_law_1015 : decode cL_law 1015 = .ok (.iadd, 1) := by decide +kernel
theorem dL_law_1016 : decode cL_law 1016 = .ok (.iaload, 1) := by decide +kernel
theorem dL_law_1017 : decode cL_law 1017 = .ok (.i2l, 1) := by decide +kernel
theorem dL_law_1018 : decode cL_law 1018 = .ok (.ldc2_w 138, 3) := by decide +kernel
theorem dL_law_1021 : decode cL_law 1021 = .ok (.land, 1) := by decide +kernel
theorem dL_law_1022 : decode cL_law 1022 = .ok (.lor, 1) := by decide +kernel
theorem dL_law_1023 : decode cL_law 1023 = .ok (.invokevirtual 140, 3) := by decide +kernel
theorem dL_law_1026 : decode cL_law 1026 = .ok (.aload_n 2, 1) := by decide +kernel
theorem dL_law_1027 : decode cL_law 1027 = .ok (.aload_n 0, 1) := by decide +kernel
theorem dL_law_1028 : decode cL_law 1028 = .ok (.iload_n 3, 1) := by decide +kernel
theorem dL_law_1029 : decode cL_law 1029 = .ok (.iconst 1, 1) := by decide +kernel
theorem dL_law_1030 : decode cL_law 1030 = .ok (.iadd, 1) := by decide +kernel
theorem dL_law_1031 : decode cL_law 1031 = .ok (.iaload, 1) := by decide +kernel
theorem dL_law_1032 : decode cL_law 1032 = .ok (.aload_n 0, 1) := by decide +kernel
theorem dL_law_1033 : decode cL_law 1033 = .ok (.iload_n 3, 1) := by decide +kernel
theorem dL_law_1034 : decode cL_law 1034 = .ok (.iconst 2, 1) := by decide +kernel
theorem dL_law_1035 : decode cL_law 1035 = .ok (.iadd, 1) := by decide +kernel
theorem dL_law_1036 : decode cL_law 1036 = .ok (.iaload, 1) := by decide +kernel
theorem dL_law_1037 : decode cL_law 1037 = .ok (.aload_n 0, 1) := by decide +kernel
theorem dL_law_1038 : decode cL_law 1038 = .ok (.iload_n 3, 1) := by decide +kernel
theorem dL_law_1039 : decode cL_law 1039 = .ok (.iconst 3, 1) := by decide +kernel
theorem dL_law_1040 : decode cL_law 1040 = .ok (.iadd, 1) := by decide +kernel
theorem dL_law_1041 : decode cL_law 1041 = .ok (.iaload, 1) := by decide +kernel
theorem dL_law_1042 : decode cL_law 1042 = .ok (.i2l, 1) := by decide +kernel
theorem dL_law_1043 : decode cL_law 1043 = .ok (.bipush 32, 2) := by decide +kernel
theorem dL_law_1045 : decode cL_law 1045 = .ok (.lshl, 1) := by decide +kernel
theorem dL_law_1046 : decode cL_law 1046 = .ok (.aload_n 0, 1) := by decide +kernel
theorem dL_law_1047 : decode cL_law 1047 = .ok (.iload_n 3, 1) := by decide +kernel
theorem dL_law_1048 : decode cL_law 1048 = .ok (.iconst 4, 1) := by decide +kernel
theorem dL_law_1049 : decode cL_law 1049 = .ok (.iadd, 1) := by decide +kernel
theorem dL_law_1050 : decode cL_law 1050 = .ok (.iaload, 1) := by decide +kernel
theorem dL_law_1051 : decode cL_law 1051 = .ok (.i2l, 1) := by decide +kernel
theorem dL_law_1052 : decode cL_law 1052 = .ok (.ldc2_w 138, 3) := by decide +kernel
theorem dL_law_1055 : decode cL_law 1055 = .ok (.land, 1) := by decide +kernel
theorem dL_law_1056 : decode cL_law 1056 = .ok (.lor, 1) := by decide +kernel
theorem dL_law_1057 : decode cL_law 1057 = .ok (.invokevirtual 144, 3) := by decide +kernel
theorem dL_law_1060 : decode cL_law 1060 = .ok (.if_icmp .eq 102, 3) := by decide +kernel
theorem dL_law_1063 : decode cL_law 1063 = .ok (.iconst 0, 1) := by decide +kernel
theorem dL_law_1064 : decode cL_law 1064 = .ok (.ireturn, 1) := by decide +kernel
theorem dL_law_1065 : decode cL_law 1065 = .ok (.aload_n 1, 1) := by decide +kernel
theorem dL_law_1066 : decode cL_law 1066 = .ok (.aload_n 0, 1) := by decide +kernel
theorem dL_law_1067 : decode cL_law 1067 = .ok (.iload_n 3, 1) := by decide +kernel
theorem dL_law_1068 : decode cL_law 1068 = .ok (.iconst 1, 1) := by decide +kernel
theorem dL_law_1069 : decode cL_law 1069 = .ok (.iadd, 1) := by decide +kernel
theorem dL_law_1070 : decode cL_law 1070 = .ok (.iaload, 1) := by decide +kernel
theorem dL_law_1071 : decode cL_law 1071 = .ok (.aload_n 0, 1) := by decide +kernel
theorem dL_law_1072 : decode cL_law 1072 = .ok (.iload_n 3, 1) := by decide +kernel
theorem dL_law_1073 : decode cL_law 1073 = .ok (.iconst 2, 1) := by decide +kernel
theorem dL_law_1074 : decode cL_law 1074 = .ok (.iadd, 1) := by decide +kernel
theorem dL_law_1075 : decode cL_law 1075 = .ok (.iaload, 1) := by decide +kernel
theorem dL_law_1076 : decode cL_law 1076 = .ok (.invokevirtual 145, 3) := by decide +kernel
theorem dL_law_1079 : decode cL_law 1079 = .ok (.aload_n 2, 1) := by decide +kernel
theorem dL_law_1080 : decode cL_law 1080 = .ok (.aload_n 0, 1) := by decide +kernel
theorem dL_law_1081 : decode cL_law 1081 = .ok (.iload_n 3, 1) := by decide +kernel
theorem dL_law_1082 : decode cL_law 1082 = .ok (.iconst 1, 1) := by decide +kernel
theorem dL_law_1083 : decode cL_law 1083 = .ok (.iadd, 1) := by decide +kernel
theorem dL_law_1084 : decode cL_law 1084 = .ok (.iaload, 1) := by decide +kernel
theorem dL_law_1085 : decode cL_law 1085 = .ok (.aload_n 0, 1) := by decide +kernel
theorem dL_law_1086 : decode cL_law 1086 = .ok (.iload_n 3, 1) := by decide +kernel
theorem dL_law_1087 : decode cL_law 1087 = .ok (.iconst 2, 1) := by decide +kernel
theorem dL_law_1088 : decode cL_law 1088 = .ok (.iadd, 1) := by decide +kernel
theorem dL_law_1089 : decode cL_law 1089 = .ok (.iaload, 1) := by decide +kernel
theorem dL_law_1090 : decode cL_law 1090 = .ok (.invokevirtual 148, 3) := by decide +kernel
theorem dL_law_1093 : decode cL_law 1093 = .ok (.lcmp, 1) := by decide +kernel
theorem dL_law_1094 : decode cL_law 1094 = .ok (.ifCond .eq 68, 3) := by decide +kernel
theorem dL_law_1097 : decode cL_law 1097 = .ok (.iconst 0, 1) := by decide +kernel
theorem dL_law_1098 : decode cL_law 1098 = .ok (.ireturn, 1) := by decide +kernel
theorem dL_law_1099 : decode cL_law 1099 = .ok (.aload_n 1, 1) := by decide +kernel
theorem dL_law_1100 : decode cL_law 1100 = .ok (.aload_n 0, 1) := by decide +kernel
theorem dL_law_1101 : decode cL_law 1101 = .ok (.iload_n 3, 1) := by decide +kernel
theorem dL_law_1102 : decode cL_law 1102 = .ok (.iconst 1, 1) := by decide +kernel
theorem dL_law_1103 : decode cL_law 1103 = .ok (.iadd, 1) := by decide +kernel
theorem dL_law_1104 : decode cL_law 1104 = .ok (.iaload, 1) := by decide +kernel
theorem dL_law_1105 : decode cL_law 1105 = .ok (.aload_n 0, 1) := by decide +kernel
theorem dL_law_1106 : decode cL_law 1106 = .ok (.iload_n 3, 1) := by decide +kernel
theorem dL_law_1107 : decode cL_law 1107 = .ok (.iconst 2, 1) := by decide +kernel
theorem dL_law_1108 : decode cL_law 1108 = .ok (.iadd, 1) := by decide +kernel
theorem dL_law_1109 : decode cL_law 1109 = .ok (.iaload, 1) := by decide +kernel
theorem dL_law_1110 : decode cL_law 1110 = .ok (.aload_n 0, 1) := by decide +kernel
theorem dL_law_1111 : decode cL_law 1111 = .ok (.iload_n 3, 1) := by decide +kernel
theorem dL_law_1112 : decode cL_law 1112 = .ok (.iconst 3, 1) := by decide +kernel
theorem dL_law_1113 : decode cL_law 1113 = .ok (.iadd, 1) := by decide +kernel
theorem dL_law_1114 : decode cL_law 1114 = .ok (.iaload, 1) := by decide +kernel
theorem dL_law_1115 : decode cL_law 1115 = .ok (.aload_n 0, 1) := by decide +kernel
theorem dL_law_1116 : decode cL_law 1116 = .ok (.iload_n 3, 1) := by decide +kernel
theorem dL_law_1117 : decode cL_law 1117 = .ok (.iconst 4, 1) := by decide +kernel
theorem dL_law_1118 : decode cL_law 1118 = .ok (.iadd, 1) := by decide +kernel
theorem dL_law_1119 : decode cL_law 1119 = .ok (.iaload, 1) := by decide +kernel
theorem dL_law_1120 : decode cL_law 1120 = .ok (.aload_n 0, 1) := by decide +kernel
theorem dL_law_1121 : decode cL_law 1121 = .ok (.iload_n 3, 1) := by decide +kernel
theorem dL_law_1122 : decode cL_law 1122 = .ok (.iconst 5, 1) := by decide +kernel
theorem dL_law_1123 : decode cL_law 1123 = .ok (.iadd, 1) := by decide +kernel
theorem dL_law_1124 : decode cL_law 1124 = .ok (.iaload, 1) := by decide +kernel
theorem dL_law_1125 : decode cL_law 1125 = .ok (.invokevirtual 149, 3) := by decide +kernel
theorem dL_law_1128 : decode cL_law 1128 = .ok (.aload_n 2, 1) := by decide +kernel
theorem dL_law_1129 : decode cL_law 1129 = .ok (.aload_n 0, 1) := by decide +kernel
theorem dL_law_1130 : decode cL_law 1130 = .ok (.iload_n 3, 1) := by decide +kernel
theorem dL_law_1131 : decode cL_law 1131 = .ok (.iconst 1, 1) := by decide +kernel
theorem dL_law_1132 : decode cL_law 1132 = .ok (.iadd, 1) := by decide +kernel
theorem dL_law_1133 : decode cL_law 1133 = .ok (.iaload, 1) := by decide +kernel
theorem dL_law_1134 : decode cL_law 1134 = .ok (.aload_n 0, 1) := by decide +kernel
theorem dL_law_1135 : decode cL_law 1135 = .ok (.iload_n 3, 1) := by decide +kernel
theorem dL_law_1136 : decode cL_law 1136 = .ok (.iconst 2, 1) := by decide +kernel
theorem dL_law_1137 : decode cL_law 1137 = .ok (.iadd, 1) := by decide +kernel
theorem dL_law_1138 : decode cL_law 1138 = .ok (.iaload, 1) := by decide +kernel
theorem dL_law_1139 : decode cL_law 1139 = .ok (.aload_n 0, 1) := by decide +kernel
theorem dL_law_1140 : decode cL_law 1140 = .ok (.iload_n 3, 1) := by decide +kernel
theorem dL_law_1141 : decode cL_law 1141 = .ok (.iconst 3, 1) := by decide +kernel
theorem dL_law_1142 : decode cL_law 1142 = .ok (.iadd, 1) := by decide +kernel
theorem dL_law_1143 : decode cL_law 1143 = .ok (.iaload, 1) := by decide +kernel
theorem dL_law_1144 : decode cL_law 1144 = .ok (.aload_n 0, 1) := by decide +kernel
theorem dL_law_1145 : decode cL_law 1145 = .ok (.iload_n 3, 1) := by decide +kernel
theorem dL_law_1146 : decode cL_law 1146 = .ok (.iconst 4, 1) := by decide +kernel
theorem dL_law_1147 : decode cL_law 1147 = .ok (.iadd, 1) := by decide +kernel
theorem dL_law_1148 : decode cL_law 1148 = .ok (.iaload, 1) := by decide +kernel
theorem dL_law_1149 : decode cL_law 1149 = .ok (.aload_n 0, 1) := by decide +kernel
theorem dL_law_1150 : decode cL_law 1150 = .ok (.iload_n 3, 1) := by decide +kernel
theorem dL_law_1151 : decode cL_law 1151 = .ok (.iconst 5, 1) := by decide +kernel
theorem dL_law_1152 : decode cL_law 1152 = .ok (.iadd, 1) := by decide +kernel
theorem dL_law_1153 : decode cL_law 1153 = .ok (.iaload, 1) := by decide +kernel
theorem dL_law_1154 : decode cL_law 1154 = .ok (.invokevirtual 153, 3) := by decide +kernel
theorem dL_law_1157 : decode cL_law 1157 = .ok (.if_icmp .eq 5, 3) := by decide +kernel
theorem dL_law_1160 : decode cL_law 1160 = .ok (.iconst 0, 1) := by decide +kernel
theorem dL_law_1161 : decode cL_law 1161 = .ok (.ireturn, 1) := by decide +kernel
theorem dL_law_1162 : decode cL_law 1162 = .ok (.iinc 3 6, 3) := by decide +kernel
theorem dL_law_1165 : decode cL_law 1165 = .ok (.goto (-1147), 3) := by decide +kernel
theorem dL_law_1168 : decode cL_law 1168 = .ok (.iconst 1, 1) := by decide +kernel
theorem dL_law_1169 : decode cL_law 1169 = .ok (.ireturn, 1) := by decide +kernel
end
section
/-! Which cell is what: kinds (0 to 7: objects of that class of vwCl; 8 ints, 9 chars, 10 booleans, 11 longs, 12 houses, 13 tapes), lengths, fixed references. -/
def ksT : List Nat := [6, 4, 8, 8, 8, 8, 8, 8, 8, 4, 8, 8, 8, 8, 8, 8, 8, 4, 8, 8, 8, 8, 8, 8, 8, 4, 8, 8, 8, 8, 8, 8, 8, 12, 13, 8, 8, 3, 8, 8, 8, 8, 8, 8, 8, 8, 2, 9, 0, 8, 1, 8, 8, 8, 8, 8, 8, 8, 1, 8, 8, 8, 8, 8, 8, 8, 1, 8, 8, 8, 8, 8, 8, 8, 1, 8, 8, 8, 8, 8, 8, 8, 1, 8, 8, 8, 8, 8, 8, 8, 1, 8, 8, 8, 8, 8, 8, 8, 1, 8, 8, 8, 8, 8, 8, 8, 1, 8, 8, 8, 8, 8, 8, 8, 1, 8, 8, 8, 8, 8, 8, 8, 5, 11, 5, 11, 5, 11, 5, 11, 5, 11, 5, 11, 7, 8, 8, 8, 8, 8, 8, 8, 8, 8, 8, 8, 8, 8, 8, 8, 10, 8, 8, 8, 8, 8, 8, 8, 8, 8, 8, 8, 8, 8, 8, 8, 8, 8, 8, 8, 11, 11]
def lnT : List Nat := [0, 0, 5, 5, 5, 5, 5, 20, 12, 0, 5, 5, 5, 5, 5, 20, 12, 0, 5, 5, 5, 5, 5, 20, 12, 0, 5, 5, 5, 5, 5, 20, 12, 6, 6, 5, 5, 0, 5, 5, 5, 5, 6, 50, 5, 50, 0, 100, 0, 20, 0, 10, 10, 10, 100, 100, 100, 100, 0, 10, 10, 10, 100, 100, 100, 100, 0, 10, 10, 10, 100, 100, 100, 100, 0, 10, 10, 10, 100, 100, 100, 100, 0, 10, 10, 10, 100, 100, 100, 100, 0, 10, 10, 10, 100, 100, 100, 100, 0, 10, 10, 10, 100, 100, 100, 100, 0, 10, 10, 10, 100, 100, 100, 100, 0, 10, 10, 10, 100, 100, 100, 100, 0, 60, 0, 60, 0, 60, 0, 60, 0, 60, 0, 60, 0, 6, 6, 6, 6, 6, 24, 100, 6, 60, 60, 60, 60, 600, 101, 21, 100, 6, 6, 6, 6, 6, 6, 6, 6, 12, 6, 6, 6, 6, 6, 24, 12, 20, 6, 6, 360, 60]
def rfT : List (List Nat) := [[1, 9, 17, 98, 33, 37, 46, 48, 34, 35, 36, 0, 0], [2, 3, 4, 5, 6, 7, 8, 0, 0, 0, 0, 0, 0], [], [], [], [], [], [], [], [10, 11, 12, 13, 14, 15, 16, 0, 0, 0, 0, 0, 0], [], [], [], [], [], [], [], [18, 19, 20, 21, 22, 23, 24, 0, 0, 0, 0, 0, 0], [], [], [], [], [], [], [], [26, 27, 28, 29, 30, 31, 32, 0, 0, 0, 0, 0, 0], [], [], [], [], [], [], [], [50, 58, 66, 74, 82, 90], [122, 124, 126, 128, 130, 132], [], [], [38, 39, 40, 41, 42, 43, 44, 45, 0, 0, 0, 0, 0, 0, 0, 0, 0], [], [], [], [], [], [], [], [], [47, 0, 0, 0, 0], [], [49, 0, 0, 0, 0], [], [51, 52, 53, 54, 55, 56, 57, 0, 0, 0, 0, 0], [], [], [], [], [], [], [], [59, 60, 61, 62, 63, 64, 65, 0, 0, 0, 0, 0], [], [], [], [], [], [], [], [67, 68, 69, 70, 71, 72, 73, 0, 0, 0, 0, 0], [], [], [], [], [], [], [], [75, 76, 77, 78, 79, 80, 81, 0, 0, 0, 0, 0], [], [], [], [], [], [], [], [83, 84, 85, 86, 87, 88, 89, 0, 0, 0, 0, 0], [], [], [], [], [], [], [], [91, 92, 93, 94, 95, 96, 97, 0, 0, 0, 0, 0], [], [], [], [], [], [], [], [99, 100, 101, 102, 103, 104, 105, 0, 0, 0, 0, 0], [], [], [], [], [], [], [], [107, 108, 109, 110, 111, 112, 113, 0, 0, 0, 0, 0], [], [], [], [], [], [], [], [115, 116, 117, 118, 119, 120, 121, 0, 0, 0, 0, 0], [], [], [], [], [], [], [], [123, 0, 0], [], [125, 0, 0], [], [127, 0, 0], [], [129, 0, 0], [], [131, 0, 0], [], [133, 0, 0], [], [0, 0, 0, 0, 135, 136, 137, 138, 139, 140, 0, 0, 0, 0, 0, 141, 142, 143, 144, 145, 146, 147, 148, 0, 0, 0, 149, 150, 0, 0, 151, 152, 153, 0, 154, 0, 0, 155, 156, 157, 0, 0, 0, 158, 0, 159, 0, 0, 0, 0, 0, 0, 0, 160, 161, 162, 163, 164, 165, 166, 0, 167, 168, 169, 170, 171], [], [], [], [], [], [], [], [], [], [], [], [], [], [], [], [], [], [], [], [], [], [], [], [], [], [], [], [], [], [], [], [], [], [], [], [], []]
def fsT : List (List Nat) := [[1, 0, 0, 0, 0], [1, 1, 1, 1, 1, 1, 1, 0, 0, 0, 0, 0], [1, 0, 0, 0, 1], [1, 1, 1, 1, 1, 1, 1, 1, 1, 1, 0, 0, 0, 0, 0, 0, 0], [1, 1, 1, 1, 1, 1, 1, 0, 0, 0, 0, 0, 0], [1, 0, 0], [1, 1, 1, 1, 1, 1, 1, 1, 1, 1, 1, 0, 0], [0, 0, 0, 0, 1, 1, 1, 1, 1, 1, 0, 0, 0, 0, 0, 1, 1, 1, 1, 1, 1, 1, 1, 0, 0, 0, 1, 1, 0, 0, 1, 1, 1, 0, 1, 0, 0, 1, 1, 1, 0, 0, 0, 1, 0, 1, 0, 0, 0, 0, 0, 0, 0, 1, 1, 1, 1, 1, 1, 1, 0, 1, 1, 1, 1, 1]]
def nfT : List Nat := [5, 12, 5, 17, 13, 3, 13, 66]
def nW : Nat := 172
def ksh (k : Nat) : Nat := ksT.getD k 99
def lnt (k : Nat) : Nat := lnT.getD k 0
def rfx (k i : Nat) : Nat := (rfT.getD k []).getD i 0
def fsh (s i : Nat) : Nat := (fsT.getD s []).getD i 9
def nfl (s : Nat) : Nat := nfT.getD s 0
def isD (s i : Nat) : Bool := (s == 3 && (i == 8 || i == 9)) || (s == 2 && i == 4)
theorem ksh_lt {k s : Nat} (h : ksh k = s) (hs : s < 99) : k < nW := by
  rcases Nat.lt_or_ge k nW with q | q
  · exact q
  · have : ksh k = 99 := by unfold ksh; rw [List.getD_eq_getElem?_getD, List.getElem?_eq_none (show ksT.length ≤ k from q)]; rfl
    omega
theorem fsh_lt {s i v : Nat} (hv : v < 9) (h : fsh s i = v) (hs : s < 8) : i < nfl s := by
  rcases Nat.lt_or_ge i (nfl s) with q | q
  · exact q
  · exfalso
    have e : (fsT.getD s []).length = nfl s := by
      have key : ∀ s, s < 8 → (fsT.getD s []).length = nfl s := by decide +kernel
      exact key s hs
    have : fsh s i = 9 := by unfold fsh; rw [List.getD_eq_getElem?_getD, List.getElem?_eq_none (by omega)]; rfl
    omega
end
section
/-! THE FLAT WORLD: one fixed set of cells; what changes in it is three functions: ints, longs, and the few references that change. -/
def tb : List Cond := lw_tbl.filter goodWord
theorem tb_good : tb.all goodWord = true := List.all_eq_true.mpr fun _ h => (List.mem_filter.mp h).2
theorem tb_mem {w : Cond} (i : Nat) (h : lw_tbl[i]? = some w) (hg : goodWord w = true) : w ∈ tb := List.mem_filter.mpr ⟨List.mem_of_getElem? h, hg⟩
theorem tb_all {l : List Cond} (h : l.all (fun w => decide (w ∈ lw_tbl) && goodWord w) = true) : ∀ w ∈ l, w ∈ tb := fun w hw => by
  have h1 := List.all_eq_true.mp h w hw
  simp only [Bool.and_eq_true, decide_eq_true_eq] at h1
  exact List.mem_filter.mpr h1
abbrev Hp : Type := (Nat → Nat → Int32) × (Nat → Nat → Int64) × (Nat → Nat → Nat)
abbrev WT : Type := (Nat → Nat) × va_G × (Nat → ClassId) × Nat × (Nat × Nat) × ((Nat → Nat) × (Nat → Nat)) × (Nat × Nat × (Nat → Int32))
abbrev gA (G : WT) : Nat → Nat := G.1
abbrev gD (G : WT) : va_G := G.2.1
abbrev gC (G : WT) : Nat → ClassId := G.2.2.1
abbrev gB (G : WT) : Nat := G.2.2.2.1
abbrev gTA (G : WT) : Nat := G.2.2.2.2.1.1
abbrev gTB (G : WT) : Nat := G.2.2.2.2.1.2
abbrev gK (G : WT) : Nat → Nat := G.2.2.2.2.2.1.1
abbrev gV (G : WT) : Nat → Nat := G.2.2.2.2.2.1.2
abbrev gX (G : WT) : Nat := G.2.2.2.2.2.2.1
abbrev gL (G : WT) : Nat := G.2.2.2.2.2.2.2.1
abbrev gxs (G : WT) : Nat → Int32 := G.2.2.2.2.2.2.2.2
def setI (h : Hp) (k i : Nat) (v : Int32) : Hp := (fun x j => if x = k ∧ j = i then v else h.1 x j, h.2)
def setL (h : Hp) (k i : Nat) (v : Int64) : Hp := (h.1, fun x j => if x = k ∧ j = i then v else h.2.1 x j, h.2.2)
def setD (h : Hp) (k i : Nat) (v : Nat) : Hp := (h.1, h.2.1, fun x j => if x = k ∧ j = i then v else h.2.2 x j)
def rowI (h : Hp) (k : Nat) (f : Nat → Int32) : Hp := (fun x j => if x = k then f j else h.1 x j, h.2)
def rowL (h : Hp) (k : Nat) (f : Nat → Int64) : Hp := (h.1, fun x j => if x = k then f j else h.2.1 x j, h.2.2)
def rf (h : Hp) (k i : Nat) : Nat := if isD (ksh k) i = true then h.2.2 k i else rfx k i
def fvl (G : WT) (h : Hp) (k i : Nat) : Value := if fsh (ksh k) i = 1 then .ref (gA G (rf h k i)) else .int (h.1 k i)
def cel (G : WT) (h : Hp) (k : Nat) : va_E := if ksh k < 8 then .inr (ksh k, (List.range (nfl (ksh k))).map (fvl G h k)) else .inl (gC G (ksh k - 8), (lnt k, if ksh k = 11 then .inr (.inl (h.2.1 k)) else if 12 ≤ ksh k then .inr (.inr (.inr (.inr (fun j => some (gA G (rfx k j)))))) else .inl (h.1 k)))
def wsO (G : WT) (h : Hp) : va_W := (List.range nW).map (fun k => (gA G k, cel G h k))
def tysO (G : WT) : List (ClassId × FieldType) := [(gC G 0, .int), (gC G 1, .char), (gC G 2, .boolean), (gC G 3, .long), (gC G 4, .object RX1), (gC G 5, .object RX5)]
def AS (G : WT) : Nat → Prop := fun q => gB G ≤ q
def GOK (G : WT) : Prop := (∀ i j : Nat, i < nW → j < nW → gA G i = gA G j → i = j) ∧ ∀ i : Nat, i < nW → gB G ≤ gA G i
theorem wsO_at {G : WT} {h : Hp} {k : Nat} (hk : k < nW) : (wsO G h)[k]? = some (gA G k, cel G h k) := by
  simp [wsO, hk]
theorem wsO_len {G : WT} {h : Hp} : (wsO G h).length = nW := by simp [wsO]
theorem wsO_D {G : WT} {h : Hp} (hG : GOK G) : va_D (AS G) (wsO G h) := by
  have key : ∀ (k : Nat) (q : Nat × va_E), (wsO G h)[k]? = some q → k < nW ∧ q.1 = gA G k := by
    intro k q hq
    have hl := (List.getElem?_eq_some_iff.mp hq).1
    rw [wsO_len] at hl
    rw [wsO_at hl] at hq
    cases hq
    exact ⟨hl, rfl⟩
  refine ⟨fun i j p q hp hq hpq => ?_, fun k q hq => ?_⟩
  · obtain ⟨h1, h2⟩ := key i p hp
    obtain ⟨h3, h4⟩ := key j q hq
    exact hG.1 i j h1 h3 (by rw [← h2, ← h4]; exact hpq)
  · obtain ⟨h1, h2⟩ := key k q hq
    show gB G ≤ q.1
    rw [h2]
    exact hG.2 k h1
theorem wsO_set {G : WT} {h h' : Hp} {k : Nat} {e : va_E} (h1 : ∀ j, j ≠ k → cel G h' j = cel G h j) (h2 : k < nW → cel G h' k = e) : (wsO G h).set k (gA G k, e) = wsO G h' := by
  apply List.ext_getElem?
  intro j
  rw [List.getElem?_set]
  by_cases hj : j < nW
  · rw [wsO_at (h := h) hj, wsO_at (h := h') hj, wsO_len]
    by_cases hkj : k = j
    · subst hkj
      rw [if_pos rfl, if_pos hj, h2 hj]
    · rw [if_neg hkj, h1 j (fun q => hkj q.symm)]
  · rw [List.getElem?_eq_none (by rw [wsO_len]; omega), List.getElem?_eq_none (by rw [wsO_len]; omega)]
    by_cases hkj : k = j
    · rw [if_pos hkj, if_neg (by rw [wsO_len]; omega)]
    · rw [if_neg hkj]
theorem cel_ext {G : WT} {h h' : Hp} {j : Nat} (h1 : h'.1 j = h.1 j) (h2 : h'.2.1 j = h.2.1 j) (h3 : h'.2.2 j = h.2.2 j) : cel G h' j = cel G h j := by
  have e : fvl G h' j = fvl G h j := by
    funext i
    simp only [fvl, rf, h1, h3]
  simp only [cel, e, h1, h2]
theorem cel_setI_ne {G : WT} {h : Hp} {k i : Nat} {v : Int32} {j : Nat} (hj : j ≠ k) : cel G (setI h k i v) j = cel G h j :=
  cel_ext (funext fun x => if_neg (fun q => hj q.1)) rfl rfl
theorem cel_setL_ne {G : WT} {h : Hp} {k i : Nat} {v : Int64} {j : Nat} (hj : j ≠ k) : cel G (setL h k i v) j = cel G h j :=
  cel_ext rfl (funext fun x => if_neg (fun q => hj q.1)) rfl
theorem cel_setD_ne {G : WT} {h : Hp} {k i : Nat} {v : Nat} {j : Nat} (hj : j ≠ k) : cel G (setD h k i v) j = cel G h j :=
  cel_ext rfl rfl (funext fun x => if_neg (fun q => hj q.1))
theorem cel_rowI_ne {G : WT} {h : Hp} {k : Nat} {f : Nat → Int32} {j : Nat} (hj : j ≠ k) : cel G (rowI h k f) j = cel G h j :=
  cel_ext (funext fun x => if_neg hj) rfl rfl
theorem cel_rowL_ne {G : WT} {h : Hp} {k : Nat} {f : Nat → Int64} {j : Nat} (hj : j ≠ k) : cel G (rowL h k f) j = cel G h j :=
  cel_ext rfl (funext fun x => if_neg hj) rfl
theorem cel_obj {G : WT} {h : Hp} {k s : Nat} (hk : ksh k = s) (hs : s < 8) : cel G h k = .inr (s, (List.range (nfl s)).map (fvl G h k)) := by
  subst hk
  simp [cel, hs]
theorem cel_ints {G : WT} {h : Hp} {k s : Nat} (hk : ksh k = s) (hs : s = 8 ∨ s = 9 ∨ s = 10) : cel G h k = .inl (gC G (s - 8), (lnt k, .inl (h.1 k))) := by
  subst hk
  rcases hs with q | q | q <;> simp [cel, q]
theorem cel_longs {G : WT} {h : Hp} {k : Nat} (hk : ksh k = 11) : cel G h k = .inl (gC G 3, (lnt k, .inr (.inl (h.2.1 k)))) := by
  simp [cel, hk]
theorem cel_refs {G : WT} {h : Hp} {k s : Nat} (hk : ksh k = s) (hs : s = 12 ∨ s = 13) : cel G h k = .inl (gC G (s - 8), (lnt k, .inr (.inr (.inr (.inr (fun j => some (gA G (rfx k j)))))))) := by
  subst hk
  rcases hs with q | q <;> simp [cel, q]
theorem rng_get {f : Nat → Value} {n i : Nat} (h : i < n) : ((List.range n).map f)[i]? = some (f i) := by simp [h]
theorem rng_set {f g : Nat → Value} {n i : Nat} {v : Value} (h1 : ∀ j, j ≠ i → g j = f j) (h2 : g i = v) : ((List.range n).map f).set i v = (List.range n).map g := by
  apply List.ext_getElem?
  intro j
  rw [List.getElem?_set]
  by_cases hj : j < n
  · rw [rng_get hj, rng_get hj]
    by_cases hij : i = j
    · subst hij
      simp [hj, h2]
    · rw [if_neg hij, h1 j (fun q => hij q.symm)]
  · rw [List.getElem?_eq_none (by simp; omega), List.getElem?_eq_none (by simp; omega)]
    simp [hj]
    intro e
    omega
/-! the tables of the classes -/
def cR (s : Nat) : String := match s with | 0 => RX0 | 1 => RX1 | 2 => RX2 | 3 => RX3 | 4 => RX4 | 5 => RX5 | 6 => RX6 | _ => RX7
def cT (s : Nat) : u_T := match s with | 0 => TX0 | 1 => TX1 | 2 => TX2 | 3 => TX3 | 4 => TX4 | 5 => TX5 | 6 => TX6 | _ => TX7
def cTy (s : Nat) : Nat → FieldType := match s with | 0 => tyX0 | 1 => tyX1 | 2 => tyX2 | 3 => tyX3 | 4 => tyX4 | 5 => tyX5 | 6 => tyX6 | _ => tyX7
theorem c_at {s : Nat} (hs : s < 8) : vwCl[s]? = some (cR s, cT s, nfl s) := by
  rcases (show s = 0 ∨ s = 1 ∨ s = 2 ∨ s = 3 ∨ s = 4 ∨ s = 5 ∨ s = 6 ∨ s = 7 by omega) with rfl | rfl | rfl | rfl | rfl | rfl | rfl | rfl <;> rfl
theorem c_in {s : Nat} (hs : s < 8) : ∀ w ∈ u_ws (cR s) (cT s) (nfl s), w ∈ tb := by
  rcases (show s = 0 ∨ s = 1 ∨ s = 2 ∨ s = 3 ∨ s = 4 ∨ s = 5 ∨ s = 6 ∨ s = 7 by omega) with rfl | rfl | rfl | rfl | rfl | rfl | rfl | rfl <;> exact tb_all (by decide +kernel)
theorem c_nm {s : Nat} (hs : s < 8) : ∀ a, a < nfl s → ∀ b, b < nfl s → a ≠ b → (cT s a).2.1 ≠ (cT s b).2.1 := by
  rcases (show s = 0 ∨ s = 1 ∨ s = 2 ∨ s = 3 ∨ s = 4 ∨ s = 5 ∨ s = 6 ∨ s = 7 by omega) with rfl | rfl | rfl | rfl | rfl | rfl | rfl | rfl
  · exact nmX0
  · exact nmX1
  · exact nmX2
  · exact nmX3
  · exact nmX4
  · exact nmX5
  · exact nmX6
  · exact nmX7
theorem c_ty {s : Nat} (hs : s < 8) : ∀ k, k < nfl s → parseFieldDescriptor (cT s k).2.2.1 = some (cTy s k) := by
  rcases (show s = 0 ∨ s = 1 ∨ s = 2 ∨ s = 3 ∨ s = 4 ∨ s = 5 ∨ s = 6 ∨ s = 7 by omega) with rfl | rfl | rfl | rfl | rfl | rfl | rfl | rfl
  · exact tyX0_ok
  · exact tyX1_ok
  · exact tyX2_ok
  · exact tyX3_ok
  · exact tyX4_ok
  · exact tyX5_ok
  · exact tyX6_ok
  · exact tyX7_ok
/-! what lies outside: two tables, seven texts, two statics of the JDK's, the script -/
def tabA : List Int32 := [-1, 0, 0, 0, 1, 2, 3]
def tabB : List Int32 := [10, 11, 12, 10, 20, 12, 30, 11, 12, 10, 11, 40, 50, 51, 12, 30, 11, 60, 71, 70, 40]
def lenS : List Nat := [5, 4, 4, 3, 5, 6, 3]
def bytS : List (List Int32) := [[119, 111, 114, 116, 104], [98, 97, 107, 101], [108, 111, 97, 102], [108, 97, 119], [115, 99, 97, 108, 101], [105, 107, 104, 97, 98, 100], [60, 61, 62]]
def idxS : List Nat := [79, 81, 83, 85, 87, 106, 112]
def txS : List String := ["worth", "bake", "loaf", "law", "scale", "ikhabd", "<=>"]
def EX (G : WT) (U : State) (H : Heap) : Prop :=
  (va_Z RX0 "ABOVE" "[I" (.ref (gTA G)) (AS G) U H ∧ va_T .int (gTA G) 7 (fun j => .int (tabA.getD j 0)) (AS G) U H ∧ va_Z RX0 "BODY" "[I" (.ref (gTB G)) (AS G) U H ∧ va_T .int (gTB G) 21 (fun j => .int (tabB.getD j 0)) (AS G) U H) ∧
  (va_Z "java/lang/String" "COMPACT_STRINGS" "Z" (.int 1) (AS G) U H ∧ va_Zq "jdk/internal/util/Preconditions" "SIOOBE_FORMATTER" "Ljava/util/function/BiFunction;" (AS G) U H) ∧
  vk_S 7 lenS bytS (gK G) (gV G) (AS G) U H ∧ (∀ i : Nat, i < 7 → vk_R RX2 (idxS.getD i 0) (txS.getD i "") (gK G i) U) ∧
  va_X (gX G) (gL G) (gxs G) U H ∧ gX G < H.size ∧ ¬ AS G (gX G)
theorem EX.same {G : WT} {u U : State} {H : Heap} (hv : U.vm = u.vm) (h : EX G u H) : EX G U H := by
  have hal : u.vm.Alike U.vm := by rw [hv]; exact Vm.Alike.refl _
  obtain ⟨⟨a1, a2, a3, a4⟩, ⟨b1, b2⟩, c1, c2, d1, d2, d3⟩ := h
  exact ⟨⟨va_Z.moved hal a1, va_T.moved hal a2, va_Z.moved hal a3, va_T.moved hal a4⟩, ⟨va_Z.moved hal b1, va_Zq.moved hal b2⟩, vk_S.moved hal c1, fun i hi => vk_R.same hv (c2 i hi), va_X.moved hal d1, d2, d3⟩
theorem EX.go {G : WT} {s U : State} {H : Heap} {locs : List Loc} (hW : s.WarmedH U.vm) (hS : va_S (AS G) s.heap H locs) (h : EX G s s.heap) : EX G U H := by
  have hal : s.vm.Alike U.vm := hW.alike
  obtain ⟨⟨a1, a2, a3, a4⟩, ⟨b1, b2⟩, c1, c2, d1, d2, d3⟩ := h
  have hq := hS.2.1
  exact ⟨⟨va_Z.kept (va_Z.moved hal a1) hq, va_T.kept (va_T.moved hal a2) hq, va_Z.kept (va_Z.moved hal a3) hq, va_T.kept (va_T.moved hal a4) hq⟩, ⟨va_Z.kept (va_Z.moved hal b1) hq, va_Zq.kept (va_Zq.moved hal b2) hq⟩, vk_S.kept (vk_S.moved hal c1) hq, fun i hi => vk_R.warm hW (c2 i hi), va_X.kept (va_X.moved hal d1) (hq _ d2 d3), Nat.lt_of_lt_of_le d2 hS.1, d3⟩
/-! a flat row of locals beside the machine's -/
def mk0 : Value := .float 0
def okV : Value → Bool | .int _ => true | .long _ => true | .ref _ => true | _ => false
def LR (nL : Nat) (ls : List Value) (lsm : Array Slot) : Prop := lsm.size = nL ∧ lv_wf lsm ∧ ∀ (i : Nat) (v : Value), ls[i]? = some v → okV v = true → lsm[i]? = some (.val v)
def lvOf (ls : List Value) : List (Nat × Value) := (List.range ls.length).filterMap (fun i => match ls[i]? with | some v => if okV v = true then some (i, v) else none | none => none)
theorem lvOf_mem {ls : List Value} {i : Nat} {v : Value} : (i, v) ∈ lvOf ls ↔ (ls[i]? = some v ∧ okV v = true) := by
  unfold lvOf
  rw [List.mem_filterMap]
  constructor
  · rintro ⟨a, ha, h⟩
    cases hx : ls[a]? with
    | none => rw [hx] at h; cases h
    | some w =>
      rw [hx] at h
      dsimp only at h
      by_cases hw : okV w = true
      · rw [if_pos hw] at h
        cases h
        exact ⟨hx, hw⟩
      · rw [if_neg hw] at h; cases h
  · rintro ⟨h, hv⟩
    refine ⟨i, List.mem_range.mpr (List.getElem?_eq_some_iff.mp h).1, ?_⟩
    rw [h]
    dsimp only
    rw [if_pos hv]
theorem LR.has {nL : Nat} {ls : List Value} {lsm : Array Slot} (h : LR nL ls lsm) : lv_has lsm nL (lvOf ls) := ⟨h.1, h.2.1, fun q hq => by
  obtain ⟨i, v⟩ := q
  obtain ⟨h1, h2⟩ := lvOf_mem.mp hq
  exact h.2.2 i v h1 h2⟩
def noL (ls : List Value) : Nat → Bool
  | 0 => true
  | k + 1 => match ls[k]? with | some (.long _) => false | _ => true
theorem LR.st1 {nL : Nat} {ls : List Value} {lsm : Array Slot} {i : Nat} {x : Value} (hno : noL ls i = true) (h : lv_has lsm nL ((i, x) :: (lvOf ls).filter (fun q => !(q.1 == i) && !(q.1 + 1 == i && q.2.category == 2)))) : LR nL (ls.set i x) lsm := by
  refine ⟨h.1, h.2.1, fun j v hj hv => ?_⟩
  rw [List.getElem?_set] at hj
  by_cases hij : i = j
  · subst hij
    rw [if_pos rfl] at hj
    by_cases hl : i < ls.length
    · rw [if_pos hl] at hj
      cases hj
      exact h.2.2 (i, x) List.mem_cons_self
    · rw [if_neg hl] at hj; cases hj
  · rw [if_neg hij] at hj
    refine h.2.2 (j, v) (List.mem_cons_of_mem _ (List.mem_filter.mpr ⟨lvOf_mem.mpr ⟨hj, hv⟩, ?_⟩))
    have h1 : (j == i) = false := by simp; exact fun q => hij q.symm
    simp only [h1, Bool.not_false, Bool.true_and]
    by_cases h2 : j + 1 = i
    · subst h2
      simp only [noL] at hno
      rw [hj] at hno
      cases v <;> simp_all [Value.category, okV]
    · have : (j + 1 == i) = false := by simp; exact h2
      simp [this]
theorem LR.st2 {nL : Nat} {ls : List Value} {lsm : Array Slot} {i : Nat} {x : Value} (hno : noL ls i = true) (h : lv_has lsm nL ((i, x) :: (lvOf ls).filter (fun q => !(q.1 == i) && (!(q.1 == i + 1) && !(q.1 + 1 == i && q.2.category == 2))))) : LR nL ((ls.set i x).set (i + 1) mk0) lsm := by
  refine ⟨h.1, h.2.1, fun j v hj hv => ?_⟩
  rw [List.getElem?_set] at hj
  by_cases hij : i + 1 = j
  · subst hij
    rw [if_pos rfl] at hj
    by_cases hl : i + 1 < (ls.set i x).length
    · rw [if_pos hl] at hj
      cases hj
      cases hv
    · rw [if_neg hl] at hj; cases hj
  · rw [if_neg hij, List.getElem?_set] at hj
    by_cases hij2 : i = j
    · subst hij2
      rw [if_pos rfl] at hj
      by_cases hl : i < ls.length
      · rw [if_pos hl] at hj
        cases hj
        exact h.2.2 (i, x) List.mem_cons_self
      · rw [if_neg hl] at hj; cases hj
    · rw [if_neg hij2] at hj
      refine h.2.2 (j, v) (List.mem_cons_of_mem _ (List.mem_filter.mpr ⟨lvOf_mem.mpr ⟨hj, hv⟩, ?_⟩))
      have h1 : (j == i) = false := by simp; exact fun q => hij2 q.symm
      have h3 : (j == i + 1) = false := by simp; exact fun q => hij q.symm
      simp only [h1, h3, Bool.not_false, Bool.true_and]
      by_cases h2 : j + 1 = i
      · subst h2
        simp only [noL] at hno
        rw [hj] at hno
        cases v <;> simp_all [Value.category, okV]
      · have : (j + 1 == i) = false := by simp; exact h2
        simp [this]
def sprd : List Value → List Value
  | [] => []
  | v :: l => if v.category = 2 then v :: mk0 :: sprd l else v :: sprd l
def entL (nL : Nat) (av : List Value) : List Value := sprd av ++ List.replicate (nL - (sprd av).length) mk0
end
section
theorem entL_mem : ∀ (vs : List Value) (n i : Nat) (v : Value), (sprd vs)[i]? = some v → okV v = true → (n + i, v) ∈ lv_args n vs := by
  intro vs
  induction vs with
  | nil => intro n i v h; simp [sprd] at h
  | cons a vs ih =>
    intro n i v h hv
    by_cases hc : a.category = 2
    · rw [sprd, if_pos hc] at h
      rw [lv_args, if_pos hc]
      match i with
      | 0 => simp at h; subst h; exact List.mem_cons_self
      | 1 => simp at h; subst h; cases hv
      | i + 2 =>
        have h2 : (sprd vs)[i]? = some v := by simpa using h
        have h3 := ih (n + 2) i v h2 hv
        rw [show n + (i + 2) = n + 2 + i by omega]
        exact List.mem_cons_of_mem _ h3
    · rw [sprd, if_neg hc] at h
      rw [lv_args, if_neg hc]
      match i with
      | 0 => simp at h; subst h; exact List.mem_cons_self
      | i + 1 =>
        have h2 : (sprd vs)[i]? = some v := by simpa using h
        have h3 := ih (n + 1) i v h2 hv
        rw [show n + (i + 1) = n + 1 + i by omega]
        exact List.mem_cons_of_mem _ h3
theorem LR.entry {nL : Nat} {av : List Value} {lsm : Array Slot} (h : lv_has lsm nL (lv_args 0 av)) : LR nL (entL nL av) lsm := by
  refine ⟨h.1, h.2.1, fun i v hi hv => ?_⟩
  by_cases hl : i < (sprd av).length
  · unfold entL at hi
    rw [List.getElem?_append_left hl] at hi
    have := entL_mem av 0 i v hi hv
    rw [Nat.zero_add] at this
    exact h.2.2 (i, v) this
  · unfold entL at hi
    rw [List.getElem?_append_right (by omega), List.getElem?_replicate] at hi
    split at hi
    · cases hi; cases hv
    · cases hi
/-- what a return instruction gives back -/
def RetI (cc : ByteArray) (rt : Option FieldType) (pc : Nat) (r : Option Value) : Prop := match r with
  | none => rt = none ∧ decode cc pc = .ok (.return_, 1)
  | some (.int v) => (∃ ty, rt = some ty ∧ narrow ty (.int v) = .int v) ∧ decode cc pc = .ok (.ireturn, 1)
  | some (.long _) => rt = some .long ∧ decode cc pc = .ok (.lreturn, 1)
  | some (.ref _) => (∃ ty, rt = some ty ∧ ((∃ n, ty = .object n) ∨ ∃ t, ty = .array t)) ∧ decode cc pc = .ok (.areturn, 1)
  | _ => False
def MC (G : WT) (d : Nat) (own : String) (cc : ByteArray) (nL : Nat) (rt : Option FieldType) (p : Program) (R : Room) (s : State) (m : MethodId) (args : Array Value) (meth : Method) (c : Code) : Prop :=
  p.tables.exec = Jvm.exec ∧ c.code = cc ∧ meth.sig.returnType = rt ∧ c.maxLocals = nL ∧ s.vm.findClass own = some m.cls ∧ (∀ w ∈ tb, w.before args s = true) ∧ (d ≤ R.frames ∧ 40 * d ≤ R.locals) ∧ va_K (gD G) vwCl (tysO G) s ∧ EX G s s.heap ∧ GOK G
/-- from here the method comes to its end, with an answer and a world of which Q holds -/
def Wp (G : WT) (l : Launch) (d : Nat) (own : String) (cc : ByteArray) (nL : Nat) (rt : Option FieldType) (pc : Nat) (ls st : List Value) (h : Hp) (Q : Option Value → Hp → Prop) : Prop :=
  ∀ (p : Program) (e : Env) (R : Room) (s : State) (m : MethodId) (args : Array Value) (below : List Frame) (meth : Method) (c : Code) (H : Heap) (locs : List Loc) (lsm : Array Slot) (Qm : State → Prop),
    MC G d own cc nL rt p R s m args meth c → va_P (gD G) vwCl (wsO G h) H → va_S (AS G) s.heap H locs → LR nL ls lsm →
    (∀ (r : Option Value) (h' : Hp) (H' : Heap) (locs' : List Loc) (pc' : Nat) (ls' : Array Slot), Q r h' → va_P (gD G) vwCl (wsO G h') H' → va_S (AS G) s.heap H' locs' → RetI cc rt pc' r → W p l e R s m args below meth c H' locs' 0 0 Qm (F0 m pc' ls' r.toList)) →
    W p l e R s m args below meth c H locs 0 0 Qm (F0 m pc lsm st)
def WD (G : WT) (h : Hp) (U : State) : Prop := va_P (gD G) vwCl (wsO G h) U.heap ∧ va_K (gD G) vwCl (tysO G) U ∧ EX G U U.heap
abbrev rmD (d : Nat) : Room := { frames := d, cells := 0, slots := 0, locals := 40 * d }
def ClQ (G : WT) (Q : Option Value → Hp → Prop) : Array Value → State → Outcome → State → Prop := fun _ st o t => (∃ (r : Option Value) (h' : Hp), o = .returned r ∧ Q r h' ∧ WD G h' t) ∧ va_F (AS G) st t
/-- a method's contract in the flat world -/
def Cl (G : WT) (l : Launch) (d : Nat) (y : MethodName) (cc : ByteArray) (nL : Nat) (rt : Option FieldType) (av : List Value) (h : Hp) (Q : Option Value → Hp → Prop) : Prop :=
  Met l y (.code y cc nL rt :: tb) (rmD d) (va_Pc av (WD G h)) (ClQ G Q) 0 0 (AS G)
theorem WD.end {G : WT} {h : Hp} {s t : State} {H : Heap} {locs : List Loc} (hK : va_K (gD G) vwCl (tysO G) s) (hE : EX G s s.heap) (hS : va_S (AS G) s.heap H locs) (hP : va_P (gD G) vwCl (wsO G h) H) (ht : t.heap = H) (hW : s.WarmedH t.vm) : WD G h t := by
  refine ⟨by rw [ht]; exact hP, va_K.moved hW.alike hK, ?_⟩
  rw [ht]
  exact EX.go hW hS hE
theorem Cl.of {G : WT} {l : Launch} {d : Nat} {y : MethodName} {cc : ByteArray} {nL : Nat} {rt : Option FieldType} {av : List Value} {h : Hp} {Q : Option Value → Hp → Prop} (hG : GOK G) (hy : plainName y.cls = true) (hent : (lg_sl av).length ≤ nL) (k : Wp G l d y.cls cc nL rt 0 (entL nL av) [] h Q) : Cl G l d y cc nL rt av h Q := by
  refine Met.ofW (cc := cc) (maxL := nL) (ret := rt) hy rfl ?_
  intro p e s m args below meth c s₁ B hml hv
  obtain ⟨rfl, hP, hK, hE⟩ := hv
  have hx := B.exec
  have hb := B.bytes
  have hr := B.returns
  have hts := atoms_spec (ws := .code y cc nL rt :: tb) B.pre
  have hown := findClass_of_methodNamed B.named
  have hlocks := B.notSynchronized
  have hl := lv_entry av (n := nL) hent
  rw [lg_entry_eq]
  generalize (lg_sl av ++ List.replicate (nL - (lg_sl av).length) Slot.unset).toArray = lsm at hl ⊢
  refine k p e _ s m _ below meth c s.heap [] lsm _ ⟨hx, hb, hr, hml, hown, fun w hw => hts w (List.mem_cons_of_mem _ hw), ⟨Nat.le_refl _, Nat.le_refl _⟩, hK, hE, hG⟩ hP va_S.rf (LR.entry hl) ?_
  intro r h' H' locs' pc' ls' hq hP' hS' hret
  have fin : ∀ t : State, t.heap = H' → s.WarmedH t.vm → ClQ G Q av.toArray s (.returned r) t := fun t ht hW => ⟨⟨r, h', rfl, hq, WD.end hK hE hS' hP' ht hW⟩, hS'.F ht⟩
  have hf : ∀ q ∈ locs', AS G q.base := hS'.2.2
  match r, hret, fin with
  | none, hret, fin =>
    obtain ⟨h1, h2⟩ := hret
    exact W.vret hx hb (hr.trans h1) fin hf h2
  | some (.int v), hret, fin =>
    obtain ⟨⟨ty, h1, h3⟩, h2⟩ := hret
    exact W.zret hx hb (hr.trans h1) h3 fin hf h2
  | some (.long v), hret, fin =>
    obtain ⟨h1, h2⟩ := hret
    exact W.lret hx hb (hr.trans h1) fin hf h2
  | some (.ref v), hret, fin =>
    obtain ⟨⟨ty, h1, h3⟩, h2⟩ := hret
    exact W.aret hx hb (hr.trans h1) h3 (Or.inr ⟨v, rfl⟩) fin hf h2
theorem Wp.mono {G : WT} {l : Launch} {d : Nat} {own : String} {cc : ByteArray} {nL : Nat} {rt : Option FieldType} {pc : Nat} {ls st : List Value} {h : Hp} {Q Q' : Option Value → Hp → Prop} (k : Wp G l d own cc nL rt pc ls st h Q) (hq : ∀ r h', Q r h' → Q' r h') : Wp G l d own cc nL rt pc ls st h Q' :=
  fun p e R s m args below meth c H locs lsm Qm C hP hS hL hf => k p e R s m args below meth c H locs lsm Qm C hP hS hL (fun r h' H' locs' pc' ls' q => hf r h' H' locs' pc' ls' (hq r h' q))
theorem Cl.mono {G : WT} {l : Launch} {d : Nat} {y : MethodName} {cc : ByteArray} {nL : Nat} {rt : Option FieldType} {av : List Value} {h : Hp} {Q Q' : Option Value → Hp → Prop} (k : Cl G l d y cc nL rt av h Q) (hq : ∀ r h', Q r h' → Q' r h') : Cl G l d y cc nL rt av h Q' := by
  unfold Cl at k ⊢
  intro p e ha hc hk s m args below hf hfit hh _
  obtain ⟨n, o, h1, h2, h3, ⟨⟨r, h', e1, e2, e3⟩, e4⟩, e5⟩ := k p e ha hc hk s m args below hf hfit hh trivial
  exact ⟨n, o, h1, h2, h3, ⟨⟨r, h', e1, hq _ _ e2, e3⟩, e4⟩, e5⟩
/-! calls -/
def MO (y : MethodName) (cc : ByteArray) (nL : Nat) (rt : Option FieldType) (n : Nat) : Prop := (Cond.initialized y.cls ∈ tb ∧ Cond.code y cc nL rt ∈ tb) ∧ (y.cls ≠ "java/lang/invoke/MethodHandle" ∧ y.cls ≠ "java/lang/invoke/VarHandle" ∧ (parseMethodDescriptor y.desc).map (fun d => d.parameters.length) = some n) ∧ nL ≤ 21
def MV (y : MethodName) : Prop := Cond.instanceMethod y ∈ tb ∧ Cond.selects y.cls y y ∈ tb
theorem tb_in (ws : List Cond) (h : ∀ w ∈ ws, w ∈ tb) : GoodIn tb ws := fun w hw => ⟨h w hw, good_of_word (List.all_eq_true.mp tb_good w (h w hw))⟩
section FL
variable {G : WT} {l : Launch} {d : Nat} {own : String} {cc : ByteArray} {nL : Nat} {rt : Option FieldType} {pc : Nat} {ls st rest : List Value} {h : Hp} {Q : Option Value → Hp → Prop}
theorem WD.blind {av : List Value} : FrameBlind (va_Pc av (WD G h)) := fun a U g mk q => ⟨q.1, q.2.1, va_K.moved (u := U) (U := U.calling g mk a) (Vm.Alike.refl U.vm) q.2.2.1, EX.same (u := U) (U := U.calling g mk a) rfl q.2.2.2⟩
theorem fl_call {p : Program} {e : Env} {R : Room} {s : State} {m : MethodId} {args : Array Value} {below : List Frame} {meth : Method} {c : Code} {H : Heap} {locs : List Loc} {Qm : State → Prop} {lsm : Array Slot} {st0 : List Value} {a : Array Value} {Q1 : Option Value → Hp → Prop}
    (hr : va_Run p l e R s m args below meth c H locs 0 0 0 0 (F0 m pc lsm st0) rest (ClQ G Q1 a) (AS G)) (hS : va_S (AS G) s.heap H locs)
    (kk : ∀ (r : Option Value) (h' : Hp) (H1 : Heap) (locs1 : List Loc), Q1 r h' → va_P (gD G) vwCl (wsO G h') H1 → va_S (AS G) s.heap H1 locs1 → W p l e R s m args below meth c H1 locs1 0 0 Qm (F0 m (pc + 3) lsm (r.toList ++ rest))) : W p l e R s m args below meth c H locs 0 0 Qm (F0 m pc lsm st0) := by
  intro T hT X
  obtain ⟨v, st₀, t, T', L, h0, X', hL, e1, e2, ⟨⟨r, h', hv, hq, hP1, hK1, hE1⟩, hz, hk⟩, st⟩ := hr T hT X
  cases hv
  rw [h0] at hz hk
  obtain ⟨t2, a1, b1⟩ := kk v h' T'.heap (locs ++ L) hq (by rw [e1]; exact hP1)
    ⟨Nat.le_trans hS.1 (by rw [e1]; exact hz), fun q h1 h2 => by rw [e1, hk q (Nat.lt_of_lt_of_le h1 hS.1) h2]; exact hS.2.1 q h1 h2, fun q hq => by
      rcases List.mem_append.mp hq with h | h
      · exact hS.2.2 q h
      · exact hL q h⟩ T' rfl X'
  exact ⟨t2, st t2 a1, b1⟩
theorem rm_ok {d d' nL' : Nat} {R : Room} (hd : d' + 1 ≤ d) (hR : d ≤ R.frames ∧ 40 * d ≤ R.locals) (hn : nL' ≤ 21) : (rmD d').frames + 1 ≤ R.frames ∧ 8 + (nL' + 11) + (rmD d').locals ≤ R.locals := by
  obtain ⟨h1, h2⟩ := hR
  refine ⟨Nat.le_trans hd h1, ?_⟩
  show 8 + (nL' + 11) + 40 * d' ≤ R.locals
  omega
theorem r_callV {idx n d' k s : Nat} {y : MethodName} {cc' : ByteArray} {nL' : Nat} {rt' : Option FieldType} {As : List Value} {Q1 : Option Value → Hp → Prop}
    (hdg : decode cc pc = .ok (.invokevirtual idx, 3)) (hl : Cond.methodLink own idx y ∈ tb) (hy : MO y cc' nL' rt' n) (hv : MV y) (hks : ksh k = s) (hs : s < 8) (hc : cR s = y.cls) (hn : As.length = n) (hC : Cl G l d' y cc' nL' rt' (.ref (gA G k) :: As) h Q1) (hd : d' + 1 ≤ d) (hst : st = As.reverse ++ .ref (gA G k) :: rest) (hW : (rest.map fun v => v.category).sum ≤ 8)
    (kk : ∀ (r : Option Value) (h' : Hp), Q1 r h' → Wp G l d own cc nL rt (pc + 3) ls (r.toList ++ rest) h' Q) : Wp G l d own cc nL rt pc ls st h Q := by
  subst hst
  intro p e R s0 m args below meth c H locs lsm Qm C hP hS hL hf
  obtain ⟨hx, hb, hr, hml, hown, hts, hR, hK, hE, hG⟩ := id C
  obtain ⟨⟨m1, m2⟩, m3, m4⟩ := hy
  have hkn : k < nW := ksh_lt hks (by omega)
  refine fl_call (va_runV (C := y.cls) (As := As) (rest := rest) ⟨hx, hb, hml, hown, hts⟩ hC (cwV n hts (tb_in _ ?_) rfl rfl rfl ⟨rfl, m3⟩ (rm_ok hd hR m4)) ⟨WD.blind, ?_, fun U hU hW => ⟨rfl, by rw [hU]; exact hP, va_K.moved hW.alike hK, by rw [hU]; exact EX.go hW hS hE⟩⟩ rfl hn hL.1 rfl (lv_room hW) hdg ⟨Nat.zero_le _, Nat.zero_le _⟩) hS (fun r h' H1 locs1 q hP1 hS1 => kk r h' q p e R s0 m args below meth c H1 locs1 lsm Qm C hP1 hS1 hL hf)
  · intro w hw
    unfold wsV at hw
    simp only [List.mem_append, List.mem_cons, List.not_mem_nil, or_false] at hw
    rcases hw with (rfl | rfl | rfl | rfl) | rfl | hw
    · exact hl
    · exact hv.1
    · exact hv.2
    · exact m1
    · exact m2
    · exact hw
  · obtain ⟨cell, g1, g2, g3⟩ := va_recv (q := (cR s, cT s, nfl s)) hK hP (c_at hs) (q0 := k) (by rw [wsO_at hkn, cel_obj hks hs])
    exact ⟨cell, g1, g2, by rw [← hc]; exact g3⟩
theorem r_callS {idx n d' : Nat} {y : MethodName} {cc' : ByteArray} {nL' : Nat} {rt' : Option FieldType} {As : List Value} {Q1 : Option Value → Hp → Prop}
    (hdg : decode cc pc = .ok (.invokestatic idx, 3)) (hl : Cond.methodLink own idx y ∈ tb) (hy : MO y cc' nL' rt' n) (hv : Cond.static y ∈ tb) (hn : As.length = n) (hC : Cl G l d' y cc' nL' rt' As h Q1) (hd : d' + 1 ≤ d) (hst : st = As.reverse ++ rest) (hW : (rest.map fun v => v.category).sum ≤ 8)
    (kk : ∀ (r : Option Value) (h' : Hp), Q1 r h' → Wp G l d own cc nL rt (pc + 3) ls (r.toList ++ rest) h' Q) : Wp G l d own cc nL rt pc ls st h Q := by
  subst hst
  intro p e R s0 m args below meth c H locs lsm Qm C hP hS hL hf
  obtain ⟨hx, hb, hr, hml, hown, hts, hR, hK, hE, hG⟩ := id C
  obtain ⟨⟨m1, m2⟩, m3, m4⟩ := hy
  refine fl_call (va_runS (As := As) (rest := rest) ⟨hx, hb, hml, hown, hts⟩ hC (va_cwS n hts (tb_in _ ?_) rfl rfl rfl m3 (rm_ok hd hR m4)) ⟨WD.blind, fun U hU hW => ⟨rfl, by rw [hU]; exact hP, va_K.moved hW.alike hK, by rw [hU]; exact EX.go hW hS hE⟩⟩ rfl hn hL.1 rfl (lv_room hW) hdg ⟨Nat.zero_le _, Nat.zero_le _⟩) hS (fun r h' H1 locs1 q hP1 hS1 => kk r h' q p e R s0 m args below meth c H1 locs1 lsm Qm C hP1 hS1 hL hf)
  intro w hw
  unfold va_wsS at hw
  simp only [List.mem_append, List.mem_cons, List.not_mem_nil, or_false] at hw
  rcases hw with (rfl | rfl | rfl) | rfl | hw
  · exact hl
  · exact hv
  · exact m1
  · exact m2
  · exact hw
/-! ends -/
theorem r_ireturn {v : Int32} (hdg : decode cc pc = .ok (.ireturn, 1)) (hr : ∃ ty, rt = some ty ∧ narrow ty (.int v) = .int v) (k : Q (some (.int v)) h) : Wp G l d own cc nL rt pc ls [.int v] h Q :=
  fun p e R s m args below meth c H locs lsm Qm C hP hS hL hf => hf (some (.int v)) h H locs pc lsm k hP hS ⟨hr, hdg⟩
theorem r_lreturn {v : Int64} (hdg : decode cc pc = .ok (.lreturn, 1)) (hr : rt = some .long) (k : Q (some (.long v)) h) : Wp G l d own cc nL rt pc ls [.long v] h Q :=
  fun p e R s m args below meth c H locs lsm Qm C hP hS hL hf => hf (some (.long v)) h H locs pc lsm k hP hS ⟨hr, hdg⟩
theorem r_areturn {v : Nat} (hdg : decode cc pc = .ok (.areturn, 1)) (hr : ∃ ty, rt = some ty ∧ ((∃ n, ty = .object n) ∨ ∃ t, ty = .array t)) (k : Q (some (.ref v)) h) : Wp G l d own cc nL rt pc ls [.ref v] h Q :=
  fun p e R s m args below meth c H locs lsm Qm C hP hS hL hf => hf (some (.ref v)) h H locs pc lsm k hP hS ⟨hr, hdg⟩
theorem r_return (hdg : decode cc pc = .ok (.return_, 1)) (hr : rt = none) (k : Q none h) : Wp G l d own cc nL rt pc ls [] h Q :=
  fun p e R s m args below meth c H locs lsm Qm C hP hS hL hf => hf none h H locs pc lsm k hP hS ⟨hr, hdg⟩
end FL
end
section
section FR
variable {G : WT} {l : Launch} {d : Nat} {own : String} {cc : ByteArray} {nL : Nat} {rt : Option FieldType} {pc : Nat} {ls rest : List Value} {h : Hp} {Q : Option Value → Hp → Prop}
theorem r_iconst {n : Int} {v : Int32} (hdg : decode cc pc = .ok (.iconst n, 1)) (hv : Int32.ofInt n = v) (k : Wp G l d own cc nL rt (pc + 1) ls (.int v :: rest) h Q) : Wp G l d own cc nL rt pc ls rest h Q :=
  fun p e R s m args below meth c H locs lsm Qm C hP hS hL hf => lv_iconst C.1 C.2.1 hdg hv (k p e R s m args below meth c H locs lsm Qm C hP hS hL hf)
theorem r_bipush {n : Int} {v : Int32} (hdg : decode cc pc = .ok (.bipush n, 2)) (hv : (Int8.ofInt n).toInt32 = v) (k : Wp G l d own cc nL rt (pc + 2) ls (.int v :: rest) h Q) : Wp G l d own cc nL rt pc ls rest h Q :=
  fun p e R s m args below meth c H locs lsm Qm C hP hS hL hf => lv_bipush C.1 C.2.1 hdg hv (k p e R s m args below meth c H locs lsm Qm C hP hS hL hf)
theorem r_sipush {n : Int} {v : Int32} (hdg : decode cc pc = .ok (.sipush n, 3)) (hv : (Int16.ofInt n).toInt32 = v) (k : Wp G l d own cc nL rt (pc + 3) ls (.int v :: rest) h Q) : Wp G l d own cc nL rt pc ls rest h Q :=
  fun p e R s m args below meth c H locs lsm Qm C hP hS hL hf => lv_sipush C.1 C.2.1 hdg hv (k p e R s m args below meth c H locs lsm Qm C hP hS hL hf)
theorem r_lconst {n : Fin 2} {v : Int64} (hdg : decode cc pc = .ok (.lconst n, 1)) (hv : Int64.ofNat (n : Nat) = v) (k : Wp G l d own cc nL rt (pc + 1) ls (.long v :: rest) h Q) : Wp G l d own cc nL rt pc ls rest h Q :=
  fun p e R s m args below meth c H locs lsm Qm C hP hS hL hf => lv_lconst C.1 C.2.1 hdg hv (k p e R s m args below meth c H locs lsm Qm C hP hS hL hf)
theorem r_ldc {i : Nat} {v : Int32} (hdg : decode cc pc = .ok (.ldc i, 2)) (hw : Cond.constant own i v ∈ tb) (k : Wp G l d own cc nL rt (pc + 2) ls (.int v :: rest) h Q) : Wp G l d own cc nL rt pc ls rest h Q :=
  fun p e R s m args below meth c H locs lsm Qm C hP hS hL hf => lv_ldc C.1 C.2.1 C.2.2.2.2.1 (C.2.2.2.2.2.1 _ hw) hdg (k p e R s m args below meth c H locs lsm Qm C hP hS hL hf)
theorem r_ldcw {i : Nat} {v : Int32} (hdg : decode cc pc = .ok (.ldc_w i, 3)) (hw : Cond.constant own i v ∈ tb) (k : Wp G l d own cc nL rt (pc + 3) ls (.int v :: rest) h Q) : Wp G l d own cc nL rt pc ls rest h Q :=
  fun p e R s m args below meth c H locs lsm Qm C hP hS hL hf => lv_ldcw C.1 C.2.1 C.2.2.2.2.1 (C.2.2.2.2.2.1 _ hw) hdg (k p e R s m args below meth c H locs lsm Qm C hP hS hL hf)
theorem r_ldc2 {i : Nat} {v : Int64} (hdg : decode cc pc = .ok (.ldc2_w i, 3)) (hw : Cond.constantLong own i v ∈ tb) (k : Wp G l d own cc nL rt (pc + 3) ls (.long v :: rest) h Q) : Wp G l d own cc nL rt pc ls rest h Q :=
  fun p e R s m args below meth c H locs lsm Qm C hP hS hL hf => lv_ldc2 C.1 C.2.1 C.2.2.2.2.1 (C.2.2.2.2.2.1 _ hw) hdg (k p e R s m args below meth c H locs lsm Qm C hP hS hL hf)
theorem r_iload_n {k4 : Fin 4} {x : Int32} (hdg : decode cc pc = .ok (.iload_n k4, 1)) (hl : ls[(k4 : Nat)]? = some (.int x)) (k : Wp G l d own cc nL rt (pc + 1) ls (.int x :: rest) h Q) : Wp G l d own cc nL rt pc ls rest h Q :=
  fun p e R s m args below meth c H locs lsm Qm C hP hS hL hf => lv_iload_n C.1 C.2.1 hdg rfl (hL.2.2 _ _ hl rfl) (k p e R s m args below meth c H locs lsm Qm C hP hS hL hf)
theorem r_iload {i : Nat} {x : Int32} (hdg : decode cc pc = .ok (.iload i, 2)) (hl : ls[i]? = some (.int x)) (k : Wp G l d own cc nL rt (pc + 2) ls (.int x :: rest) h Q) : Wp G l d own cc nL rt pc ls rest h Q :=
  fun p e R s m args below meth c H locs lsm Qm C hP hS hL hf => lv_iload C.1 C.2.1 hdg (hL.2.2 _ _ hl rfl) (k p e R s m args below meth c H locs lsm Qm C hP hS hL hf)
theorem r_lload_n {k4 : Fin 4} {x : Int64} (hdg : decode cc pc = .ok (.lload_n k4, 1)) (hl : ls[(k4 : Nat)]? = some (.long x)) (k : Wp G l d own cc nL rt (pc + 1) ls (.long x :: rest) h Q) : Wp G l d own cc nL rt pc ls rest h Q :=
  fun p e R s m args below meth c H locs lsm Qm C hP hS hL hf => lv_lload_n C.1 C.2.1 hdg rfl (hL.2.2 _ _ hl rfl) (k p e R s m args below meth c H locs lsm Qm C hP hS hL hf)
theorem r_lload {i : Nat} {x : Int64} (hdg : decode cc pc = .ok (.lload i, 2)) (hl : ls[i]? = some (.long x)) (k : Wp G l d own cc nL rt (pc + 2) ls (.long x :: rest) h Q) : Wp G l d own cc nL rt pc ls rest h Q :=
  fun p e R s m args below meth c H locs lsm Qm C hP hS hL hf => lv_lload C.1 C.2.1 hdg (hL.2.2 _ _ hl rfl) (k p e R s m args below meth c H locs lsm Qm C hP hS hL hf)
theorem r_aload_n {k4 : Fin 4} {x : Nat} (hdg : decode cc pc = .ok (.aload_n k4, 1)) (hl : ls[(k4 : Nat)]? = some (.ref x)) (k : Wp G l d own cc nL rt (pc + 1) ls (.ref x :: rest) h Q) : Wp G l d own cc nL rt pc ls rest h Q :=
  fun p e R s m args below meth c H locs lsm Qm C hP hS hL hf => lv_aload_n C.1 C.2.1 hdg rfl (hL.2.2 _ _ hl rfl) (k p e R s m args below meth c H locs lsm Qm C hP hS hL hf)
theorem r_aload {i : Nat} {x : Nat} (hdg : decode cc pc = .ok (.aload i, 2)) (hl : ls[i]? = some (.ref x)) (k : Wp G l d own cc nL rt (pc + 2) ls (.ref x :: rest) h Q) : Wp G l d own cc nL rt pc ls rest h Q :=
  fun p e R s m args below meth c H locs lsm Qm C hP hS hL hf => lv_aload C.1 C.2.1 hdg (hL.2.2 _ _ hl rfl) (k p e R s m args below meth c H locs lsm Qm C hP hS hL hf)
theorem r_istore_n {k4 : Fin 4} {x : Int32} {ls' : List Value} (hdg : decode cc pc = .ok (.istore_n k4, 1)) (hn : (k4 : Nat) < nL) (hno : noL ls (k4 : Nat) = true) (hls : ls.set (k4 : Nat) (.int x) = ls') (k : Wp G l d own cc nL rt (pc + 1) ls' rest h Q) : Wp G l d own cc nL rt pc ls (.int x :: rest) h Q :=
  fun p e R s m args below meth c H locs lsm Qm C hP hS hL hf => lv_istore_n C.1 C.2.1 hdg rfl hL.has hn rfl (fun lsm1 hl1 => k p e R s m args below meth c H locs lsm1 Qm C hP hS (hls ▸ LR.st1 hno hl1) hf)
theorem r_istore {i : Nat} {x : Int32} {ls' : List Value} (hdg : decode cc pc = .ok (.istore i, 2)) (hn : i < nL) (hno : noL ls i = true) (hls : ls.set i (.int x) = ls') (k : Wp G l d own cc nL rt (pc + 2) ls' rest h Q) : Wp G l d own cc nL rt pc ls (.int x :: rest) h Q :=
  fun p e R s m args below meth c H locs lsm Qm C hP hS hL hf => lv_istore C.1 C.2.1 hdg hL.has hn rfl (fun lsm1 hl1 => k p e R s m args below meth c H locs lsm1 Qm C hP hS (hls ▸ LR.st1 hno hl1) hf)
theorem r_astore_n {k4 : Fin 4} {x : Nat} {ls' : List Value} (hdg : decode cc pc = .ok (.astore_n k4, 1)) (hn : (k4 : Nat) < nL) (hno : noL ls (k4 : Nat) = true) (hls : ls.set (k4 : Nat) (.ref x) = ls') (k : Wp G l d own cc nL rt (pc + 1) ls' rest h Q) : Wp G l d own cc nL rt pc ls (.ref x :: rest) h Q :=
  fun p e R s m args below meth c H locs lsm Qm C hP hS hL hf => lv_astore_n C.1 C.2.1 hdg rfl hL.has hn rfl (fun lsm1 hl1 => k p e R s m args below meth c H locs lsm1 Qm C hP hS (hls ▸ LR.st1 hno hl1) hf)
theorem r_astore {i : Nat} {x : Nat} {ls' : List Value} (hdg : decode cc pc = .ok (.astore i, 2)) (hn : i < nL) (hno : noL ls i = true) (hls : ls.set i (.ref x) = ls') (k : Wp G l d own cc nL rt (pc + 2) ls' rest h Q) : Wp G l d own cc nL rt pc ls (.ref x :: rest) h Q :=
  fun p e R s m args below meth c H locs lsm Qm C hP hS hL hf => lv_astore C.1 C.2.1 hdg hL.has hn rfl (fun lsm1 hl1 => k p e R s m args below meth c H locs lsm1 Qm C hP hS (hls ▸ LR.st1 hno hl1) hf)
theorem r_lstore_n {k4 : Fin 4} {x : Int64} {ls' : List Value} (hdg : decode cc pc = .ok (.lstore_n k4, 1)) (hn : (k4 : Nat) + 1 < nL) (hno : noL ls (k4 : Nat) = true) (hls : (ls.set (k4 : Nat) (.long x)).set ((k4 : Nat) + 1) mk0 = ls') (k : Wp G l d own cc nL rt (pc + 1) ls' rest h Q) : Wp G l d own cc nL rt pc ls (.long x :: rest) h Q :=
  fun p e R s m args below meth c H locs lsm Qm C hP hS hL hf => lv_lstore_n C.1 C.2.1 hdg rfl hL.has hn rfl (fun lsm1 hl1 => k p e R s m args below meth c H locs lsm1 Qm C hP hS (hls ▸ LR.st2 hno hl1) hf)
theorem r_lstore {i : Nat} {x : Int64} {ls' : List Value} (hdg : decode cc pc = .ok (.lstore i, 2)) (hn : i + 1 < nL) (hno : noL ls i = true) (hls : (ls.set i (.long x)).set (i + 1) mk0 = ls') (k : Wp G l d own cc nL rt (pc + 2) ls' rest h Q) : Wp G l d own cc nL rt pc ls (.long x :: rest) h Q :=
  fun p e R s m args below meth c H locs lsm Qm C hP hS hL hf => lv_lstore C.1 C.2.1 hdg hL.has hn rfl (fun lsm1 hl1 => k p e R s m args below meth c H locs lsm1 Qm C hP hS (hls ▸ LR.st2 hno hl1) hf)
theorem r_iinc {i : Nat} {n : Int} {x v : Int32} {ls' : List Value} (hdg : decode cc pc = .ok (.iinc i n, 3)) (hx : ls[i]? = some (.int x)) (hv : x + Int32.ofInt n = v) (hn : i < nL) (hno : noL ls i = true) (hls : ls.set i (.int v) = ls') (k : Wp G l d own cc nL rt (pc + 3) ls' rest h Q) : Wp G l d own cc nL rt pc ls rest h Q := by
  intro p e R s m args below meth c H locs lsm Qm C hP hS hL hf
  obtain ⟨q, hq⟩ := List.getElem?_of_mem (lvOf_mem.mpr ⟨hx, rfl⟩)
  exact lv_iinc C.1 C.2.1 hdg hL.has hq hv hn rfl (fun lsm1 hl1 => k p e R s m args below meth c H locs lsm1 Qm C hP hS (hls ▸ LR.st1 hno hl1) hf)
theorem r_iadd {x y : Int32} (hdg : decode cc pc = .ok (.iadd, 1))  (k : Wp G l d own cc nL rt (pc + 1) ls (.int (x + y) :: rest) h Q) : Wp G l d own cc nL rt pc ls (.int y :: .int x :: rest) h Q :=
  fun p e R s m args below meth c H locs lsm Qm C hP hS hL hf => lv_iadd C.1 C.2.1 hdg (k p e R s m args below meth c H locs lsm Qm C hP hS hL hf)
theorem r_isub {x y : Int32} (hdg : decode cc pc = .ok (.isub, 1))  (k : Wp G l d own cc nL rt (pc + 1) ls (.int (x - y) :: rest) h Q) : Wp G l d own cc nL rt pc ls (.int y :: .int x :: rest) h Q :=
  fun p e R s m args below meth c H locs lsm Qm C hP hS hL hf => lv_isub C.1 C.2.1 hdg (k p e R s m args below meth c H locs lsm Qm C hP hS hL hf)
theorem r_imul {x y : Int32} (hdg : decode cc pc = .ok (.imul, 1))  (k : Wp G l d own cc nL rt (pc + 1) ls (.int (x * y) :: rest) h Q) : Wp G l d own cc nL rt pc ls (.int y :: .int x :: rest) h Q :=
  fun p e R s m args below meth c H locs lsm Qm C hP hS hL hf => lv_imul C.1 C.2.1 hdg (k p e R s m args below meth c H locs lsm Qm C hP hS hL hf)
theorem r_iand {x y : Int32} (hdg : decode cc pc = .ok (.iand, 1))  (k : Wp G l d own cc nL rt (pc + 1) ls (.int (x &&& y) :: rest) h Q) : Wp G l d own cc nL rt pc ls (.int y :: .int x :: rest) h Q :=
  fun p e R s m args below meth c H locs lsm Qm C hP hS hL hf => lv_iand C.1 C.2.1 hdg (k p e R s m args below meth c H locs lsm Qm C hP hS hL hf)
theorem r_ior {x y : Int32} (hdg : decode cc pc = .ok (.ior, 1))  (k : Wp G l d own cc nL rt (pc + 1) ls (.int (x ||| y) :: rest) h Q) : Wp G l d own cc nL rt pc ls (.int y :: .int x :: rest) h Q :=
  fun p e R s m args below meth c H locs lsm Qm C hP hS hL hf => lv_ior C.1 C.2.1 hdg (k p e R s m args below meth c H locs lsm Qm C hP hS hL hf)
theorem r_ixor {x y : Int32} (hdg : decode cc pc = .ok (.ixor, 1))  (k : Wp G l d own cc nL rt (pc + 1) ls (.int (x ^^^ y) :: rest) h Q) : Wp G l d own cc nL rt pc ls (.int y :: .int x :: rest) h Q :=
  fun p e R s m args below meth c H locs lsm Qm C hP hS hL hf => lv_ixor C.1 C.2.1 hdg (k p e R s m args below meth c H locs lsm Qm C hP hS hL hf)
theorem r_ishl {x y : Int32} (hdg : decode cc pc = .ok (.ishl, 1))  (k : Wp G l d own cc nL rt (pc + 1) ls (.int (x <<< (y &&& 31)) :: rest) h Q) : Wp G l d own cc nL rt pc ls (.int y :: .int x :: rest) h Q :=
  fun p e R s m args below meth c H locs lsm Qm C hP hS hL hf => lv_ishl C.1 C.2.1 hdg (k p e R s m args below meth c H locs lsm Qm C hP hS hL hf)
theorem r_ishr {x y : Int32} (hdg : decode cc pc = .ok (.ishr, 1))  (k : Wp G l d own cc nL rt (pc + 1) ls (.int (x >>> (y &&& 31)) :: rest) h Q) : Wp G l d own cc nL rt pc ls (.int y :: .int x :: rest) h Q :=
  fun p e R s m args below meth c H locs lsm Qm C hP hS hL hf => lv_ishr C.1 C.2.1 hdg (k p e R s m args below meth c H locs lsm Qm C hP hS hL hf)
theorem r_idiv {x y : Int32} (hdg : decode cc pc = .ok (.idiv, 1)) (hne : ¬ y = 0) (k : Wp G l d own cc nL rt (pc + 1) ls (.int (x / y) :: rest) h Q) : Wp G l d own cc nL rt pc ls (.int y :: .int x :: rest) h Q :=
  fun p e R s m args below meth c H locs lsm Qm C hP hS hL hf => lv_idiv C.1 C.2.1 hdg hne (k p e R s m args below meth c H locs lsm Qm C hP hS hL hf)
theorem r_irem {x y : Int32} (hdg : decode cc pc = .ok (.irem, 1)) (hne : ¬ y = 0) (k : Wp G l d own cc nL rt (pc + 1) ls (.int (x - x / y * y) :: rest) h Q) : Wp G l d own cc nL rt pc ls (.int y :: .int x :: rest) h Q :=
  fun p e R s m args below meth c H locs lsm Qm C hP hS hL hf => lv_irem C.1 C.2.1 hdg hne (k p e R s m args below meth c H locs lsm Qm C hP hS hL hf)
theorem r_ineg {x : Int32} (hdg : decode cc pc = .ok (.ineg, 1))  (k : Wp G l d own cc nL rt (pc + 1) ls (.int (-x) :: rest) h Q) : Wp G l d own cc nL rt pc ls (.int x :: rest) h Q :=
  fun p e R s m args below meth c H locs lsm Qm C hP hS hL hf => lv_ineg C.1 C.2.1 hdg (k p e R s m args below meth c H locs lsm Qm C hP hS hL hf)
theorem r_ladd {x y : Int64} (hdg : decode cc pc = .ok (.ladd, 1))  (k : Wp G l d own cc nL rt (pc + 1) ls (.long (x + y) :: rest) h Q) : Wp G l d own cc nL rt pc ls (.long y :: .long x :: rest) h Q :=
  fun p e R s m args below meth c H locs lsm Qm C hP hS hL hf => lv_ladd C.1 C.2.1 hdg (k p e R s m args below meth c H locs lsm Qm C hP hS hL hf)
theorem r_lsub {x y : Int64} (hdg : decode cc pc = .ok (.lsub, 1))  (k : Wp G l d own cc nL rt (pc + 1) ls (.long (x - y) :: rest) h Q) : Wp G l d own cc nL rt pc ls (.long y :: .long x :: rest) h Q :=
  fun p e R s m args below meth c H locs lsm Qm C hP hS hL hf => lv_lsub C.1 C.2.1 hdg (k p e R s m args below meth c H locs lsm Qm C hP hS hL hf)
theorem r_lmul {x y : Int64} (hdg : decode cc pc = .ok (.lmul, 1))  (k : Wp G l d own cc nL rt (pc + 1) ls (.long (x * y) :: rest) h Q) : Wp G l d own cc nL rt pc ls (.long y :: .long x :: rest) h Q :=
  fun p e R s m args below meth c H locs lsm Qm C hP hS hL hf => lv_lmul C.1 C.2.1 hdg (k p e R s m args below meth c H locs lsm Qm C hP hS hL hf)
theorem r_land {x y : Int64} (hdg : decode cc pc = .ok (.land, 1))  (k : Wp G l d own cc nL rt (pc + 1) ls (.long (x &&& y) :: rest) h Q) : Wp G l d own cc nL rt pc ls (.long y :: .long x :: rest) h Q :=
  fun p e R s m args below meth c H locs lsm Qm C hP hS hL hf => lv_land C.1 C.2.1 hdg (k p e R s m args below meth c H locs lsm Qm C hP hS hL hf)
theorem r_lor {x y : Int64} (hdg : decode cc pc = .ok (.lor, 1))  (k : Wp G l d own cc nL rt (pc + 1) ls (.long (x ||| y) :: rest) h Q) : Wp G l d own cc nL rt pc ls (.long y :: .long x :: rest) h Q :=
  fun p e R s m args below meth c H locs lsm Qm C hP hS hL hf => lv_lor C.1 C.2.1 hdg (k p e R s m args below meth c H locs lsm Qm C hP hS hL hf)
theorem r_ldiv {x y : Int64} (hdg : decode cc pc = .ok (.ldiv, 1)) (hne : ¬ y = 0) (k : Wp G l d own cc nL rt (pc + 1) ls (.long (x / y) :: rest) h Q) : Wp G l d own cc nL rt pc ls (.long y :: .long x :: rest) h Q :=
  fun p e R s m args below meth c H locs lsm Qm C hP hS hL hf => lv_ldiv C.1 C.2.1 hdg hne (k p e R s m args below meth c H locs lsm Qm C hP hS hL hf)
theorem r_lrem {x y : Int64} (hdg : decode cc pc = .ok (.lrem, 1)) (hne : ¬ y = 0) (k : Wp G l d own cc nL rt (pc + 1) ls (.long (x - x / y * y) :: rest) h Q) : Wp G l d own cc nL rt pc ls (.long y :: .long x :: rest) h Q :=
  fun p e R s m args below meth c H locs lsm Qm C hP hS hL hf => lv_lrem C.1 C.2.1 hdg hne (k p e R s m args below meth c H locs lsm Qm C hP hS hL hf)
theorem r_lneg {x : Int64} (hdg : decode cc pc = .ok (.lneg, 1))  (k : Wp G l d own cc nL rt (pc + 1) ls (.long (-x) :: rest) h Q) : Wp G l d own cc nL rt pc ls (.long x :: rest) h Q :=
  fun p e R s m args below meth c H locs lsm Qm C hP hS hL hf => lv_lneg C.1 C.2.1 hdg (k p e R s m args below meth c H locs lsm Qm C hP hS hL hf)
theorem r_lshl {x : Int64} {y : Int32} (hdg : decode cc pc = .ok (.lshl, 1))  (k : Wp G l d own cc nL rt (pc + 1) ls (.long (x <<< (y.toInt64 &&& 63)) :: rest) h Q) : Wp G l d own cc nL rt pc ls (.int y :: .long x :: rest) h Q :=
  fun p e R s m args below meth c H locs lsm Qm C hP hS hL hf => lv_lshl C.1 C.2.1 hdg rfl (k p e R s m args below meth c H locs lsm Qm C hP hS hL hf)
theorem r_lcmp {x y : Int64} (hdg : decode cc pc = .ok (.lcmp, 1))  (k : Wp G l d own cc nL rt (pc + 1) ls (.int (lg_cmp x y) :: rest) h Q) : Wp G l d own cc nL rt pc ls (.long y :: .long x :: rest) h Q :=
  fun p e R s m args below meth c H locs lsm Qm C hP hS hL hf => W.lcmp C.1 C.2.1 hdg (k p e R s m args below meth c H locs lsm Qm C hP hS hL hf)
theorem r_i2l {x : Int32} (hdg : decode cc pc = .ok (.i2l, 1))  (k : Wp G l d own cc nL rt (pc + 1) ls (.long (x.toInt64) :: rest) h Q) : Wp G l d own cc nL rt pc ls (.int x :: rest) h Q :=
  fun p e R s m args below meth c H locs lsm Qm C hP hS hL hf => lv_i2l C.1 C.2.1 hdg rfl (k p e R s m args below meth c H locs lsm Qm C hP hS hL hf)
theorem r_l2i {x : Int64} (hdg : decode cc pc = .ok (.l2i, 1))  (k : Wp G l d own cc nL rt (pc + 1) ls (.int (x.toInt32) :: rest) h Q) : Wp G l d own cc nL rt pc ls (.long x :: rest) h Q :=
  fun p e R s m args below meth c H locs lsm Qm C hP hS hL hf => lv_l2i C.1 C.2.1 hdg rfl (k p e R s m args below meth c H locs lsm Qm C hP hS hL hf)
theorem r_i2b {x : Int32} (hdg : decode cc pc = .ok (.i2b, 1))  (k : Wp G l d own cc nL rt (pc + 1) ls (.int (x.toInt8.toInt32) :: rest) h Q) : Wp G l d own cc nL rt pc ls (.int x :: rest) h Q :=
  fun p e R s m args below meth c H locs lsm Qm C hP hS hL hf => lv_i2b C.1 C.2.1 hdg rfl (k p e R s m args below meth c H locs lsm Qm C hP hS hL hf)
theorem r_i2s {x : Int32} (hdg : decode cc pc = .ok (.i2s, 1))  (k : Wp G l d own cc nL rt (pc + 1) ls (.int (x.toInt16.toInt32) :: rest) h Q) : Wp G l d own cc nL rt pc ls (.int x :: rest) h Q :=
  fun p e R s m args below meth c H locs lsm Qm C hP hS hL hf => lv_i2s C.1 C.2.1 hdg rfl (k p e R s m args below meth c H locs lsm Qm C hP hS hL hf)
theorem r_i2c {x : Int32} (hdg : decode cc pc = .ok (.i2c, 1))  (k : Wp G l d own cc nL rt (pc + 1) ls (.int ((x.toUInt32 % 65536).toInt32) :: rest) h Q) : Wp G l d own cc nL rt pc ls (.int x :: rest) h Q :=
  fun p e R s m args below meth c H locs lsm Qm C hP hS hL hf => lv_i2c C.1 C.2.1 hdg rfl (k p e R s m args below meth c H locs lsm Qm C hP hS hL hf)
theorem r_dup {v : Value} (hdg : decode cc pc = .ok (.dup, 1)) (hv : v.category = 1) (k : Wp G l d own cc nL rt (pc + 1) ls (v :: v :: rest) h Q) : Wp G l d own cc nL rt pc ls (v :: rest) h Q :=
  fun p e R s m args below meth c H locs lsm Qm C hP hS hL hf => lv_dup C.1 C.2.1 hdg hv (k p e R s m args below meth c H locs lsm Qm C hP hS hL hf)
theorem r_pop {v : Value} (hdg : decode cc pc = .ok (.pop, 1)) (hv : v.category = 1) (k : Wp G l d own cc nL rt (pc + 1) ls rest h Q) : Wp G l d own cc nL rt pc ls (v :: rest) h Q :=
  fun p e R s m args below meth c H locs lsm Qm C hP hS hL hf => lv_pop C.1 C.2.1 hdg hv (k p e R s m args below meth c H locs lsm Qm C hP hS hL hf)
theorem r_dup2 {v w : Value} (hdg : decode cc pc = .ok (.dup2, 1)) (hv : v.category = 1) (hw : w.category = 1) (k : Wp G l d own cc nL rt (pc + 1) ls (v :: w :: v :: w :: rest) h Q) : Wp G l d own cc nL rt pc ls (v :: w :: rest) h Q :=
  fun p e R s m args below meth c H locs lsm Qm C hP hS hL hf => lv_dup2_11 C.1 C.2.1 hdg hv hw (k p e R s m args below meth c H locs lsm Qm C hP hS hL hf)
theorem r_if_eq {x : Int32} {off : Int} {tgt : Nat} (hdg : decode cc pc = .ok (.ifCond .eq off, 3)) (ht : (pc : Int) + off = (tgt : Int)) (kt : x = 0 → Wp G l d own cc nL rt tgt ls rest h Q) (kf : ¬ x = 0 → Wp G l d own cc nL rt (pc + 3) ls rest h Q) : Wp G l d own cc nL rt pc ls (.int x :: rest) h Q :=
  fun p e R s m args below meth c H locs lsm Qm C hP hS hL hf => lv_if_eq C.1 C.2.1 hdg ht (fun q => kt q p e R s m args below meth c H locs lsm Qm C hP hS hL hf) (fun q => kf q p e R s m args below meth c H locs lsm Qm C hP hS hL hf)
theorem r_icmp_eq {x y : Int32} {off : Int} {tgt : Nat} (hdg : decode cc pc = .ok (.if_icmp .eq off, 3)) (ht : (pc : Int) + off = (tgt : Int)) (kt : x = y → Wp G l d own cc nL rt tgt ls rest h Q) (kf : ¬ x = y → Wp G l d own cc nL rt (pc + 3) ls rest h Q) : Wp G l d own cc nL rt pc ls (.int y :: .int x :: rest) h Q :=
  fun p e R s m args below meth c H locs lsm Qm C hP hS hL hf => lv_icmp_eq C.1 C.2.1 hdg ht (fun q => kt q p e R s m args below meth c H locs lsm Qm C hP hS hL hf) (fun q => kf q p e R s m args below meth c H locs lsm Qm C hP hS hL hf)
theorem r_if_ne {x : Int32} {off : Int} {tgt : Nat} (hdg : decode cc pc = .ok (.ifCond .ne off, 3)) (ht : (pc : Int) + off = (tgt : Int)) (kt : ¬ x = 0 → Wp G l d own cc nL rt tgt ls rest h Q) (kf : x = 0 → Wp G l d own cc nL rt (pc + 3) ls rest h Q) : Wp G l d own cc nL rt pc ls (.int x :: rest) h Q :=
  fun p e R s m args below meth c H locs lsm Qm C hP hS hL hf => lv_if_ne C.1 C.2.1 hdg ht (fun q => kt q p e R s m args below meth c H locs lsm Qm C hP hS hL hf) (fun q => kf q p e R s m args below meth c H locs lsm Qm C hP hS hL hf)
theorem r_icmp_ne {x y : Int32} {off : Int} {tgt : Nat} (hdg : decode cc pc = .ok (.if_icmp .ne off, 3)) (ht : (pc : Int) + off = (tgt : Int)) (kt : ¬ x = y → Wp G l d own cc nL rt tgt ls rest h Q) (kf : x = y → Wp G l d own cc nL rt (pc + 3) ls rest h Q) : Wp G l d own cc nL rt pc ls (.int y :: .int x :: rest) h Q :=
  fun p e R s m args below meth c H locs lsm Qm C hP hS hL hf => lv_icmp_ne C.1 C.2.1 hdg ht (fun q => kt q p e R s m args below meth c H locs lsm Qm C hP hS hL hf) (fun q => kf q p e R s m args below meth c H locs lsm Qm C hP hS hL hf)
theorem r_if_lt {x : Int32} {off : Int} {tgt : Nat} (hdg : decode cc pc = .ok (.ifCond .lt off, 3)) (ht : (pc : Int) + off = (tgt : Int)) (kt : x < 0 → Wp G l d own cc nL rt tgt ls rest h Q) (kf : ¬ x < 0 → Wp G l d own cc nL rt (pc + 3) ls rest h Q) : Wp G l d own cc nL rt pc ls (.int x :: rest) h Q :=
  fun p e R s m args below meth c H locs lsm Qm C hP hS hL hf => lv_if_lt C.1 C.2.1 hdg ht (fun q => kt q p e R s m args below meth c H locs lsm Qm C hP hS hL hf) (fun q => kf q p e R s m args below meth c H locs lsm Qm C hP hS hL hf)
theorem r_icmp_lt {x y : Int32} {off : Int} {tgt : Nat} (hdg : decode cc pc = .ok (.if_icmp .lt off, 3)) (ht : (pc : Int) + off = (tgt : Int)) (kt : x < y → Wp G l d own cc nL rt tgt ls rest h Q) (kf : ¬ x < y → Wp G l d own cc nL rt (pc + 3) ls rest h Q) : Wp G l d own cc nL rt pc ls (.int y :: .int x :: rest) h Q :=
  fun p e R s m args below meth c H locs lsm Qm C hP hS hL hf => lv_icmp_lt C.1 C.2.1 hdg ht (fun q => kt q p e R s m args below meth c H locs lsm Qm C hP hS hL hf) (fun q => kf q p e R s m args below meth c H locs lsm Qm C hP hS hL hf)
theorem r_if_ge {x : Int32} {off : Int} {tgt : Nat} (hdg : decode cc pc = .ok (.ifCond .ge off, 3)) (ht : (pc : Int) + off = (tgt : Int)) (kt : 0 ≤ x → Wp G l d own cc nL rt tgt ls rest h Q) (kf : ¬ 0 ≤ x → Wp G l d own cc nL rt (pc + 3) ls rest h Q) : Wp G l d own cc nL rt pc ls (.int x :: rest) h Q :=
  fun p e R s m args below meth c H locs lsm Qm C hP hS hL hf => lv_if_ge C.1 C.2.1 hdg ht (fun q => kt q p e R s m args below meth c H locs lsm Qm C hP hS hL hf) (fun q => kf q p e R s m args below meth c H locs lsm Qm C hP hS hL hf)
theorem r_icmp_ge {x y : Int32} {off : Int} {tgt : Nat} (hdg : decode cc pc = .ok (.if_icmp .ge off, 3)) (ht : (pc : Int) + off = (tgt : Int)) (kt : y ≤ x → Wp G l d own cc nL rt tgt ls rest h Q) (kf : ¬ y ≤ x → Wp G l d own cc nL rt (pc + 3) ls rest h Q) : Wp G l d own cc nL rt pc ls (.int y :: .int x :: rest) h Q :=
  fun p e R s m args below meth c H locs lsm Qm C hP hS hL hf => lv_icmp_ge C.1 C.2.1 hdg ht (fun q => kt q p e R s m args below meth c H locs lsm Qm C hP hS hL hf) (fun q => kf q p e R s m args below meth c H locs lsm Qm C hP hS hL hf)
theorem r_if_gt {x : Int32} {off : Int} {tgt : Nat} (hdg : decode cc pc = .ok (.ifCond .gt off, 3)) (ht : (pc : Int) + off = (tgt : Int)) (kt : 0 < x → Wp G l d own cc nL rt tgt ls rest h Q) (kf : ¬ 0 < x → Wp G l d own cc nL rt (pc + 3) ls rest h Q) : Wp G l d own cc nL rt pc ls (.int x :: rest) h Q :=
  fun p e R s m args below meth c H locs lsm Qm C hP hS hL hf => lv_if_gt C.1 C.2.1 hdg ht (fun q => kt q p e R s m args below meth c H locs lsm Qm C hP hS hL hf) (fun q => kf q p e R s m args below meth c H locs lsm Qm C hP hS hL hf)
theorem r_icmp_gt {x y : Int32} {off : Int} {tgt : Nat} (hdg : decode cc pc = .ok (.if_icmp .gt off, 3)) (ht : (pc : Int) + off = (tgt : Int)) (kt : y < x → Wp G l d own cc nL rt tgt ls rest h Q) (kf : ¬ y < x → Wp G l d own cc nL rt (pc + 3) ls rest h Q) : Wp G l d own cc nL rt pc ls (.int y :: .int x :: rest) h Q :=
  fun p e R s m args below meth c H locs lsm Qm C hP hS hL hf => lv_icmp_gt C.1 C.2.1 hdg ht (fun q => kt q p e R s m args below meth c H locs lsm Qm C hP hS hL hf) (fun q => kf q p e R s m args below meth c H locs lsm Qm C hP hS hL hf)
theorem r_if_le {x : Int32} {off : Int} {tgt : Nat} (hdg : decode cc pc = .ok (.ifCond .le off, 3)) (ht : (pc : Int) + off = (tgt : Int)) (kt : x ≤ 0 → Wp G l d own cc nL rt tgt ls rest h Q) (kf : ¬ x ≤ 0 → Wp G l d own cc nL rt (pc + 3) ls rest h Q) : Wp G l d own cc nL rt pc ls (.int x :: rest) h Q :=
  fun p e R s m args below meth c H locs lsm Qm C hP hS hL hf => lv_if_le C.1 C.2.1 hdg ht (fun q => kt q p e R s m args below meth c H locs lsm Qm C hP hS hL hf) (fun q => kf q p e R s m args below meth c H locs lsm Qm C hP hS hL hf)
theorem r_icmp_le {x y : Int32} {off : Int} {tgt : Nat} (hdg : decode cc pc = .ok (.if_icmp .le off, 3)) (ht : (pc : Int) + off = (tgt : Int)) (kt : x ≤ y → Wp G l d own cc nL rt tgt ls rest h Q) (kf : ¬ x ≤ y → Wp G l d own cc nL rt (pc + 3) ls rest h Q) : Wp G l d own cc nL rt pc ls (.int y :: .int x :: rest) h Q :=
  fun p e R s m args below meth c H locs lsm Qm C hP hS hL hf => lv_icmp_le C.1 C.2.1 hdg ht (fun q => kt q p e R s m args below meth c H locs lsm Qm C hP hS hL hf) (fun q => kf q p e R s m args below meth c H locs lsm Qm C hP hS hL hf)
theorem r_goto {off : Int} {tgt : Nat} (hdg : decode cc pc = .ok (.goto off, 3)) (ht : (pc : Int) + off = (tgt : Int)) (k : Wp G l d own cc nL rt tgt ls rest h Q) : Wp G l d own cc nL rt pc ls rest h Q :=
  fun p e R s m args below meth c H locs lsm Qm C hP hS hL hf => lv_goto C.1 C.2.1 hdg ht (k p e R s m args below meth c H locs lsm Qm C hP hS hL hf)
def tswT (dflt lo hi : Int) (offs : List Int) (pc : Nat) (x : Int) : Nat := if x < lo ∨ hi < x then (pc + dflt).toNat else (pc + offs.getD (x - lo).toNat 0).toNat
theorem r_tsw {dflt lo hi : Int} {offs : Array Int} {len : Nat} {x : Int32} (tgt : Nat) (hdg : decode cc pc = .ok (.tableswitch dflt lo hi offs, len)) (hlen : (offs.toList.length : Int) = hi - lo + 1) (hpos : 0 ≤ pc + dflt ∧ ∀ o ∈ offs.toList, 0 ≤ pc + o) (ht : tswT dflt lo hi offs.toList pc x.toInt = tgt) (k : Wp G l d own cc nL rt tgt ls rest h Q) : Wp G l d own cc nL rt pc ls (.int x :: rest) h Q := by
  intro p e R s0 m args below meth c H locs lsm Qm C hP hS hL hf
  subst ht
  by_cases c1 : x.toInt < lo ∨ hi < x.toInt
  · rw [tswT, if_pos c1] at k
    exact lv_tableOut C.1 C.2.1 hdg c1 (by omega) (k p e R s0 m args below meth c H locs lsm Qm C hP hS hL hf)
  · rw [tswT, if_neg c1] at k
    have hlt : (x.toInt - lo).toNat < offs.toList.length := by omega
    have eo : offs[(x.toInt - lo).toNat]? = some (offs.toList.getD (x.toInt - lo).toNat 0) := by
      rw [← Array.getElem?_toList, List.getD_eq_getElem?_getD, List.getElem?_eq_getElem hlt]
      rfl
    have h0 : 0 ≤ (pc : Int) + offs.toList.getD (x.toInt - lo).toNat 0 := hpos.2 _ (by rw [List.getD_eq_getElem?_getD, List.getElem?_eq_getElem hlt]; exact List.getElem_mem hlt)
    exact lv_tableIn C.1 C.2.1 hdg (by omega) (by omega) eo (by omega) (k p e R s0 m args below meth c H locs lsm Qm C hP hS hL hf)
theorem r_lsw {dflt : Int} {ps : Array (Int × Int)} {len : Nat} {x : Int32} {off : Int} (tgt : Nat) (hdg : decode cc pc = .ok (.lookupswitch dflt ps, len)) (hp : (ps.toList.zip (ps.toList.drop 1)).all (fun (a, next) => a.1 < next.1) = true) (ho : Op.lookupswitch.offset ps.toList dflt x.toInt = off) (ht : (pc : Int) + off = (tgt : Int)) (k : Wp G l d own cc nL rt tgt ls rest h Q) : Wp G l d own cc nL rt pc ls (.int x :: rest) h Q :=
  fun p e R s0 m args below meth c H locs lsm Qm C hP hS hL hf => lv_lookup C.1 C.2.1 hdg hp ho ht (k p e R s0 m args below meth c H locs lsm Qm C hP hS hL hf)
/-! fields -/
def FLK (own : String) (idx s i : Nat) : Prop := Cond.fieldLink own idx (cT s i).1 (cT s i).2.1 (cT s i).2.2.1 ∈ tb
theorem r_getI {idx a s i : Nat} (hdg : decode cc pc = .ok (.getfield idx, 3)) (hl : FLK own idx s i) (hk : ksh a = s) (hs : s < 8) (hi : fsh s i = 0) (k : Wp G l d own cc nL rt (pc + 3) ls (.int (h.1 a i) :: rest) h Q) : Wp G l d own cc nL rt pc ls (.ref (gA G a) :: rest) h Q := by
  intro p e R s0 m args below meth c H locs lsm Qm C hP hS hL hf
  obtain ⟨hx, hb, hr, hml, hown, hts, hR, hK, hE, hG⟩ := id C
  have hil : i < nfl s := fsh_lt (by omega) hi hs
  refine va_get hx hb hts (c_in hs) hown hK hP a (by rw [wsO_at (ksh_lt hk (by omega)), cel_obj hk hs]) (c_at hs) i hil (hts _ hl) (fun x q => q) (v := .int (h.1 a i)) ?_ hdg (k p e R s0 m args below meth c H locs lsm Qm C hP hS hL hf)
  rw [rng_get hil]
  simp [fvl, hk, hi]
theorem r_getR {idx a s i j : Nat} (hdg : decode cc pc = .ok (.getfield idx, 3)) (hl : FLK own idx s i) (hk : ksh a = s) (hs : s < 8) (hi : fsh s i = 1) (hj : rf h a i = j) (k : Wp G l d own cc nL rt (pc + 3) ls (.ref (gA G j) :: rest) h Q) : Wp G l d own cc nL rt pc ls (.ref (gA G a) :: rest) h Q := by
  intro p e R s0 m args below meth c H locs lsm Qm C hP hS hL hf
  obtain ⟨hx, hb, hr, hml, hown, hts, hR, hK, hE, hG⟩ := id C
  have hil : i < nfl s := fsh_lt (by omega) hi hs
  refine va_get hx hb hts (c_in hs) hown hK hP a (by rw [wsO_at (ksh_lt hk (by omega)), cel_obj hk hs]) (c_at hs) i hil (hts _ hl) (fun x q => q) (v := .ref (gA G j)) ?_ hdg (k p e R s0 m args below meth c H locs lsm Qm C hP hS hL hf)
  rw [rng_get hil]
  simp [fvl, hk, hi, hj]
theorem cel_setI_obj {a s i : Nat} {v : Int32} (hk : ksh a = s) (hs : s < 8) (hi : fsh s i = 0) : cel G (setI h a i v) a = .inr (s, ((List.range (nfl s)).map (fvl G h a)).set i (.int v)) := by
  rw [cel_obj hk hs, rng_set (g := fvl G (setI h a i v) a)]
  · intro j hj
    simp [fvl, setI, rf, hj]
  · simp [fvl, setI, hk, hi]
theorem cel_setD_obj {a s i v : Nat} (hk : ksh a = s) (hs : s < 8) (hi : fsh s i = 1) (hd : isD s i = true) : cel G (setD h a i v) a = .inr (s, ((List.range (nfl s)).map (fvl G h a)).set i (.ref (gA G v))) := by
  rw [cel_obj hk hs, rng_set (g := fvl G (setD h a i v) a)]
  · intro j hj
    simp [fvl, setD, rf, hj]
  · simp [fvl, setD, rf, hk, hi, hd]
theorem r_putI {idx a s i : Nat} {v : Int32} (hdg : decode cc pc = .ok (.putfield idx, 3)) (hl : FLK own idx s i) (hk : ksh a = s) (hs : s < 8) (hi : fsh s i = 0) (hfin : (cT s i).2.2.2 = false) (hn : narrow (cTy s i) (.int v) = .int v) (hfit : fits (cTy s i) (.int v) = true) (k : Wp G l d own cc nL rt (pc + 3) ls rest (setI h a i v) Q) : Wp G l d own cc nL rt pc ls (.int v :: .ref (gA G a) :: rest) h Q := by
  intro p e R s0 m args below meth c H locs lsm Qm C hP hS hL hf
  obtain ⟨hx, hb, hr, hml, hown, hts, hR, hK, hE, hG⟩ := id C
  have hil : i < nfl s := fsh_lt (by omega) hi hs
  refine va_put hx hb hts (c_in hs) (cTy s) (c_ty hs) (c_nm hs) hown hK hP (wsO_D hG) hS a (by rw [wsO_at (ksh_lt hk (by omega)), cel_obj hk hs]) (c_at hs) i hil (hts _ hl) (fun x q => q) hfin (c_ty hs i hil) hn hfit (by simp; exact hil) hdg (fun H1 locs1 hP1 hD1 hS1 => ?_)
  rw [wsO_set (h' := setI h a i v) (fun j hj => cel_setI_ne hj) (fun _ => cel_setI_obj hk hs hi)] at hP1
  exact k p e R s0 m args below meth c H1 locs1 lsm Qm C hP1 hS1 hL hf
theorem r_putD {idx a s i v : Nat} (hdg : decode cc pc = .ok (.putfield idx, 3)) (hl : FLK own idx s i) (hk : ksh a = s) (hs : s < 8) (hi : fsh s i = 1) (hd : isD s i = true) (hfin : (cT s i).2.2.2 = false) (hfit : fits (cTy s i) (.ref (gA G v)) = true) (hn : narrow (cTy s i) (.ref (gA G v)) = .ref (gA G v)) (k : Wp G l d own cc nL rt (pc + 3) ls rest (setD h a i v) Q) : Wp G l d own cc nL rt pc ls (.ref (gA G v) :: .ref (gA G a) :: rest) h Q := by
  intro p e R s0 m args below meth c H locs lsm Qm C hP hS hL hf
  obtain ⟨hx, hb, hr, hml, hown, hts, hR, hK, hE, hG⟩ := id C
  have hil : i < nfl s := fsh_lt (by omega) hi hs
  refine va_put hx hb hts (c_in hs) (cTy s) (c_ty hs) (c_nm hs) hown hK hP (wsO_D hG) hS a (by rw [wsO_at (ksh_lt hk (by omega)), cel_obj hk hs]) (c_at hs) i hil (hts _ hl) (fun x q => q) hfin (c_ty hs i hil) hn hfit (by simp; exact hil) hdg (fun H1 locs1 hP1 hD1 hS1 => ?_)
  rw [wsO_set (h' := setD h a i v) (fun j hj => cel_setD_ne hj) (fun _ => cel_setD_obj hk hs hi hd)] at hP1
  exact k p e R s0 m args below meth c H1 locs1 lsm Qm C hP1 hS1 hL hf
/-! arrays -/
theorem ix_in {n N : Nat} {i : Int32} (hi : i = nI n) (hn : n < N) (hN : N < 2 ^ 31) : vp_in i N ∧ i.toNatClampNeg = n := by
  subst hi
  exact ⟨vp_in_nI hn hN, nI_clamp (by omega)⟩
theorem ln_small (k : Nat) : lnt k < 2 ^ 31 := by
  rcases Nat.lt_or_ge k nW with q | q
  · have key : ∀ k, k < nW → lnt k < 1000 := by decide +kernel
    have := key k q
    omega
  · unfold lnt
    rw [List.getD_eq_getElem?_getD, List.getElem?_eq_none (show lnT.length ≤ k from q)]
    decide
theorem r_iald {a : Nat} {i : Int32} (j : Nat) (hdg : decode cc pc = .ok (.iaload, 1)) (hk : ksh a = 8) (hi : i = nI j) (hj : j < lnt a) (k : Wp G l d own cc nL rt (pc + 1) ls (.int (h.1 a j) :: rest) h Q) : Wp G l d own cc nL rt pc ls (.int i :: .ref (gA G a) :: rest) h Q := by
  intro p e R s0 m args below meth c H locs lsm Qm C hP hS hL hf
  obtain ⟨hx, hb, hr, hml, hown, hts, hR, hK, hE, hG⟩ := id C
  obtain ⟨e1, e2⟩ := ix_in hi hj (ln_small a)
  refine va_iald hx hb hK hP a 0 (by rw [wsO_at (ksh_lt hk (by omega)), cel_ints hk (by omega)]) rfl e1 hdg ?_
  rw [e2]
  exact k p e R s0 m args below meth c H locs lsm Qm C hP hS hL hf
theorem r_cald {a : Nat} {i : Int32} (j : Nat) (hdg : decode cc pc = .ok (.caload, 1)) (hk : ksh a = 9) (hi : i = nI j) (hj : j < lnt a) (k : Wp G l d own cc nL rt (pc + 1) ls (.int (h.1 a j) :: rest) h Q) : Wp G l d own cc nL rt pc ls (.int i :: .ref (gA G a) :: rest) h Q := by
  intro p e R s0 m args below meth c H locs lsm Qm C hP hS hL hf
  obtain ⟨hx, hb, hr, hml, hown, hts, hR, hK, hE, hG⟩ := id C
  obtain ⟨e1, e2⟩ := ix_in hi hj (ln_small a)
  refine va_cald hx hb hK hP a 1 (by rw [wsO_at (ksh_lt hk (by omega)), cel_ints hk (by omega)]) rfl e1 hdg ?_
  rw [e2]
  exact k p e R s0 m args below meth c H locs lsm Qm C hP hS hL hf
theorem r_zald {a : Nat} {i : Int32} (j : Nat) (hdg : decode cc pc = .ok (.baload, 1)) (hk : ksh a = 10) (hi : i = nI j) (hj : j < lnt a) (k : Wp G l d own cc nL rt (pc + 1) ls (.int (h.1 a j) :: rest) h Q) : Wp G l d own cc nL rt pc ls (.int i :: .ref (gA G a) :: rest) h Q := by
  intro p e R s0 m args below meth c H locs lsm Qm C hP hS hL hf
  obtain ⟨hx, hb, hr, hml, hown, hts, hR, hK, hE, hG⟩ := id C
  obtain ⟨e1, e2⟩ := ix_in hi hj (ln_small a)
  refine va_zald hx hb hK hP a 2 (by rw [wsO_at (ksh_lt hk (by omega)), cel_ints hk (by omega)]) rfl e1 hdg ?_
  rw [e2]
  exact k p e R s0 m args below meth c H locs lsm Qm C hP hS hL hf
theorem r_lald {a : Nat} {i : Int32} (j : Nat) (hdg : decode cc pc = .ok (.laload, 1)) (hk : ksh a = 11) (hi : i = nI j) (hj : j < lnt a) (k : Wp G l d own cc nL rt (pc + 1) ls (.long (h.2.1 a j) :: rest) h Q) : Wp G l d own cc nL rt pc ls (.int i :: .ref (gA G a) :: rest) h Q := by
  intro p e R s0 m args below meth c H locs lsm Qm C hP hS hL hf
  obtain ⟨hx, hb, hr, hml, hown, hts, hR, hK, hE, hG⟩ := id C
  obtain ⟨e1, e2⟩ := ix_in hi hj (ln_small a)
  refine va_lald hx hb hK hP a 3 (by rw [wsO_at (ksh_lt hk (by omega)), cel_longs hk]) rfl e1 hdg ?_
  rw [e2]
  exact k p e R s0 m args below meth c H locs lsm Qm C hP hS hL hf
theorem r_aald {a s : Nat} {i : Int32} (j : Nat) (hdg : decode cc pc = .ok (.aaload, 1)) (hk : ksh a = s) (hs : s = 12 ∨ s = 13) (hi : i = nI j) (hj : j < lnt a) (k : Wp G l d own cc nL rt (pc + 1) ls (.ref (gA G (rfx a j)) :: rest) h Q) : Wp G l d own cc nL rt pc ls (.int i :: .ref (gA G a) :: rest) h Q := by
  intro p e R s0 m args below meth c H locs lsm Qm C hP hS hL hf
  obtain ⟨hx, hb, hr, hml, hown, hts, hR, hK, hE, hG⟩ := id C
  obtain ⟨e1, e2⟩ := ix_in hi hj (ln_small a)
  rcases hs with rfl | rfl
  · refine va_aldq (C := RX1) hx hb hK hP a 4 (by rw [wsO_at (ksh_lt hk (by omega)), cel_refs hk (by omega)]) rfl e1 hdg ?_
    rw [e2]
    exact k p e R s0 m args below meth c H locs lsm Qm C hP hS hL hf
  · refine va_aldq (C := RX5) hx hb hK hP a 5 (by rw [wsO_at (ksh_lt hk (by omega)), cel_refs hk (by omega)]) rfl e1 hdg ?_
    rw [e2]
    exact k p e R s0 m args below meth c H locs lsm Qm C hP hS hL hf
theorem cel_setI_arr {a s j : Nat} {v : Int32} (hk : ksh a = s) (hs : s = 8 ∨ s = 9 ∨ s = 10) : cel G (setI h a j v) a = .inl (gC G (s - 8), (lnt a, .inl (upd (h.1 a) j v))) := by
  rw [cel_ints hk hs]
  congr 4
  funext x
  by_cases hx : x = j <;> simp [setI, upd, hx]
theorem cel_setL_arr {a j : Nat} {v : Int64} (hk : ksh a = 11) : cel G (setL h a j v) a = .inl (gC G 3, (lnt a, .inr (.inl (vp_updL (h.2.1 a) j v)))) := by
  rw [cel_longs hk]
  congr 5
  funext x
  by_cases hx : x = j <;> simp [setL, vp_updL, hx]
theorem cel_rowI_arr {a s : Nat} {f : Nat → Int32} (hk : ksh a = s) (hs : s = 8 ∨ s = 9 ∨ s = 10) : cel G (rowI h a f) a = .inl (gC G (s - 8), (lnt a, .inl f)) := by
  rw [cel_ints hk hs]
  congr 4
  funext x
  simp [rowI]
theorem cel_rowL_arr {a : Nat} {f : Nat → Int64} (hk : ksh a = 11) : cel G (rowL h a f) a = .inl (gC G 3, (lnt a, .inr (.inl f))) := by
  rw [cel_longs hk]
  congr 5
  funext x
  simp [rowL]
theorem r_iast {a : Nat} {i x : Int32} (j : Nat) (hdg : decode cc pc = .ok (.iastore, 1)) (hk : ksh a = 8) (hi : i = nI j) (hj : j < lnt a) (k : Wp G l d own cc nL rt (pc + 1) ls rest (setI h a j x) Q) : Wp G l d own cc nL rt pc ls (.int x :: .int i :: .ref (gA G a) :: rest) h Q := by
  intro p e R s0 m args below meth c H locs lsm Qm C hP hS hL hf
  obtain ⟨hx, hb, hr, hml, hown, hts, hR, hK, hE, hG⟩ := id C
  obtain ⟨e1, e2⟩ := ix_in hi hj (ln_small a)
  refine va_iast hx hb hK hP (wsO_D hG) hS a 0 (by rw [wsO_at (ksh_lt hk (by omega)), cel_ints hk (by omega)]) rfl e1 hdg (fun H1 locs1 hP1 hD1 hS1 => ?_)
  rw [e2, wsO_set (h' := setI h a j x) (fun j hj => cel_setI_ne hj) (fun _ => cel_setI_arr hk (by omega))] at hP1
  exact k p e R s0 m args below meth c H1 locs1 lsm Qm C hP1 hS1 hL hf
theorem r_cast {a : Nat} {i x : Int32} (j : Nat) (hdg : decode cc pc = .ok (.castore, 1)) (hk : ksh a = 9) (hi : i = nI j) (hj : j < lnt a) (k : Wp G l d own cc nL rt (pc + 1) ls rest (setI h a j (vp_nar .char x)) Q) : Wp G l d own cc nL rt pc ls (.int x :: .int i :: .ref (gA G a) :: rest) h Q := by
  intro p e R s0 m args below meth c H locs lsm Qm C hP hS hL hf
  obtain ⟨hx, hb, hr, hml, hown, hts, hR, hK, hE, hG⟩ := id C
  obtain ⟨e1, e2⟩ := ix_in hi hj (ln_small a)
  refine va_cast hx hb hK hP (wsO_D hG) hS a 1 (by rw [wsO_at (ksh_lt hk (by omega)), cel_ints hk (by omega)]) rfl e1 hdg (fun H1 locs1 hP1 hD1 hS1 => ?_)
  rw [e2, wsO_set (h' := setI h a j (vp_nar .char x)) (fun j hj => cel_setI_ne hj) (fun _ => cel_setI_arr hk (by omega))] at hP1
  exact k p e R s0 m args below meth c H1 locs1 lsm Qm C hP1 hS1 hL hf
theorem r_zast {a : Nat} {i x : Int32} (j : Nat) (hdg : decode cc pc = .ok (.bastore, 1)) (hk : ksh a = 10) (hi : i = nI j) (hj : j < lnt a) (k : Wp G l d own cc nL rt (pc + 1) ls rest (setI h a j (vp_nar .boolean x)) Q) : Wp G l d own cc nL rt pc ls (.int x :: .int i :: .ref (gA G a) :: rest) h Q := by
  intro p e R s0 m args below meth c H locs lsm Qm C hP hS hL hf
  obtain ⟨hx, hb, hr, hml, hown, hts, hR, hK, hE, hG⟩ := id C
  obtain ⟨e1, e2⟩ := ix_in hi hj (ln_small a)
  refine va_zast hx hb hK hP (wsO_D hG) hS a 2 (by rw [wsO_at (ksh_lt hk (by omega)), cel_ints hk (by omega)]) rfl e1 hdg (fun H1 locs1 hP1 hD1 hS1 => ?_)
  rw [e2, wsO_set (h' := setI h a j (vp_nar .boolean x)) (fun j hj => cel_setI_ne hj) (fun _ => cel_setI_arr hk (by omega))] at hP1
  exact k p e R s0 m args below meth c H1 locs1 lsm Qm C hP1 hS1 hL hf
theorem r_last {a : Nat} {i : Int32} {x : Int64} (j : Nat) (hdg : decode cc pc = .ok (.lastore, 1)) (hk : ksh a = 11) (hi : i = nI j) (hj : j < lnt a) (k : Wp G l d own cc nL rt (pc + 1) ls rest (setL h a j x) Q) : Wp G l d own cc nL rt pc ls (.long x :: .int i :: .ref (gA G a) :: rest) h Q := by
  intro p e R s0 m args below meth c H locs lsm Qm C hP hS hL hf
  obtain ⟨hx, hb, hr, hml, hown, hts, hR, hK, hE, hG⟩ := id C
  obtain ⟨e1, e2⟩ := ix_in hi hj (ln_small a)
  refine va_last hx hb hK hP (wsO_D hG) hS a 3 (by rw [wsO_at (ksh_lt hk (by omega)), cel_longs hk]) rfl e1 hdg (fun H1 locs1 hP1 hD1 hS1 => ?_)
  rw [e2, wsO_set (h' := setL h a j x) (fun j hj => cel_setL_ne hj) (fun _ => cel_setL_arr hk)] at hP1
  exact k p e R s0 m args below meth c H1 locs1 lsm Qm C hP1 hS1 hL hf
theorem r_alen {a s : Nat} (hdg : decode cc pc = .ok (.arraylength, 1)) (hk : ksh a = s) (hs : s = 8 ∨ s = 9 ∨ s = 10 ∨ s = 11) (k : Wp G l d own cc nL rt (pc + 1) ls (.int (nI (lnt a)) :: rest) h Q) : Wp G l d own cc nL rt pc ls (.ref (gA G a) :: rest) h Q := by
  intro p e R s0 m args below meth c H locs lsm Qm C hP hS hL hf
  obtain ⟨hx, hb, hr, hml, hown, hts, hR, hK, hE, hG⟩ := id C
  rcases (show s = 8 ∨ s = 9 ∨ s = 10 ∨ s = 11 by omega) with rfl | rfl | rfl | rfl
  · exact va_alen (x := (lnt a, .inl (h.1 a))) hx hb hK hP a 0 (by rw [wsO_at (ksh_lt hk (by omega)), cel_ints hk (by omega)]) rfl rfl hdg (k p e R s0 m args below meth c H locs lsm Qm C hP hS hL hf)
  · exact va_alen (x := (lnt a, .inl (h.1 a))) hx hb hK hP a 1 (by rw [wsO_at (ksh_lt hk (by omega)), cel_ints hk (by omega)]) rfl rfl hdg (k p e R s0 m args below meth c H locs lsm Qm C hP hS hL hf)
  · exact va_alen (x := (lnt a, .inl (h.1 a))) hx hb hK hP a 2 (by rw [wsO_at (ksh_lt hk (by omega)), cel_ints hk (by omega)]) rfl rfl hdg (k p e R s0 m args below meth c H locs lsm Qm C hP hS hL hf)
  · exact va_alen (x := (lnt a, .inr (.inl (h.2.1 a)))) hx hb hK hP a 3 (by rw [wsO_at (ksh_lt hk (by omega)), cel_longs hk]) rfl rfl hdg (k p e R s0 m args below meth c H locs lsm Qm C hP hS hL hf)
/-! System.arraycopy -/
def ACW (own : String) (idx : Nat) : Prop := Cond.methodLink own idx arraycopyName ∈ tb
theorem ac_words : Cond.native arraycopyName ∈ tb ∧ Cond.static arraycopyName ∈ tb ∧ Cond.initialized "java/lang/System" ∈ tb := by decide +kernel
theorem r_acopyI {idx a0 a1 : Nat} {sp dp n : Int32} (js jd jn : Nat) (hdg : decode cc pc = .ok (.invokestatic idx, 3)) (hl : ACW own idx) (h0 : ksh a0 = 8) (h1 : ksh a1 = 8) (es : sp = nI js) (ed : dp = nI jd) (en : n = nI jn) (hs : js + jn ≤ lnt a0) (hd : jd + jn ≤ lnt a1) (hdd : 2 ≤ d) (hW : (rest.map fun v => v.category).sum ≤ 8)
    (k : Wp G l d own cc nL rt (pc + 3) ls rest (rowI h a1 (va_cpy (h.1 a0) (h.1 a1) js jd jn)) Q) : Wp G l d own cc nL rt pc ls (.int n :: .int dp :: .ref (gA G a1) :: .int sp :: .ref (gA G a0) :: rest) h Q := by
  intro p e R s0 m args below meth c H locs lsm Qm C hP hS hL hf
  obtain ⟨hx, hb, hr, hml, hown, hts, hR, hK, hE, hG⟩ := id C
  have b0 := ln_small a0
  have b1 := ln_small a1
  subst es; subst ed; subst en
  have c1 : (nI js).toNatClampNeg = js := nI_clamp (by omega)
  have c2 : (nI jd).toNatClampNeg = jd := nI_clamp (by omega)
  have c3 : (nI jn).toNatClampNeg = jn := nI_clamp (by omega)
  refine va_copyi hx hb (hml.trans hL.1.symm) hown (hts _ hl) (hts _ ac_words.1) (hts _ ac_words.2.1) (hts _ ac_words.2.2) hK hP (wsO_D hG) hS a0 a1 0 0 (by rw [wsO_at (ksh_lt h0 (by omega)), cel_ints h0 (by omega)]) (by rw [wsO_at (ksh_lt h1 (by omega)), cel_ints h1 (by omega)]) rfl rfl rfl (nI_pos (by omega)) (nI_pos (by omega)) (nI_pos (by omega)) (by rw [c1, c3]; exact hs) (by rw [c2, c3]; exact hd) (fun _ _ => rfl) (by omega) (Nat.le_trans (Nat.add_le_add_right hW _) (Nat.le_trans (show 8 + (nativeFrameWords "java/lang/System" "arraycopy" 5 + 11) ≤ 80 by decide +kernel) (by omega))) hdg (fun H1 locs1 hP1 hD1 hS1 => ?_)
  rw [c1, c2, c3, wsO_set (h' := rowI h a1 (va_cpy (h.1 a0) (h.1 a1) js jd jn)) (fun j hj => cel_rowI_ne hj) (fun _ => cel_rowI_arr h1 (by omega))] at hP1
  exact k p e R s0 m args below meth c H1 locs1 lsm Qm C hP1 hS1 hL hf
theorem r_acopyL {idx a0 a1 : Nat} {sp dp n : Int32} (js jd jn : Nat) (hdg : decode cc pc = .ok (.invokestatic idx, 3)) (hl : ACW own idx) (h0 : ksh a0 = 11) (h1 : ksh a1 = 11) (es : sp = nI js) (ed : dp = nI jd) (en : n = nI jn) (hs : js + jn ≤ lnt a0) (hd : jd + jn ≤ lnt a1) (hdd : 2 ≤ d) (hW : (rest.map fun v => v.category).sum ≤ 8)
    (k : Wp G l d own cc nL rt (pc + 3) ls rest (rowL h a1 (va_cpy (h.2.1 a0) (h.2.1 a1) js jd jn)) Q) : Wp G l d own cc nL rt pc ls (.int n :: .int dp :: .ref (gA G a1) :: .int sp :: .ref (gA G a0) :: rest) h Q := by
  intro p e R s0 m args below meth c H locs lsm Qm C hP hS hL hf
  obtain ⟨hx, hb, hr, hml, hown, hts, hR, hK, hE, hG⟩ := id C
  have b0 := ln_small a0
  have b1 := ln_small a1
  subst es; subst ed; subst en
  have c1 : (nI js).toNatClampNeg = js := nI_clamp (by omega)
  have c2 : (nI jd).toNatClampNeg = jd := nI_clamp (by omega)
  have c3 : (nI jn).toNatClampNeg = jn := nI_clamp (by omega)
  refine va_copyl hx hb (hml.trans hL.1.symm) hown (hts _ hl) (hts _ ac_words.1) (hts _ ac_words.2.1) (hts _ ac_words.2.2) hK hP (wsO_D hG) hS a0 a1 3 3 (by rw [wsO_at (ksh_lt h0 (by omega)), cel_longs h0]) (by rw [wsO_at (ksh_lt h1 (by omega)), cel_longs h1]) rfl rfl rfl (nI_pos (by omega)) (nI_pos (by omega)) (nI_pos (by omega)) (by rw [c1, c3]; exact hs) (by rw [c2, c3]; exact hd) (fun _ _ => rfl) (by omega) (Nat.le_trans (Nat.add_le_add_right hW _) (Nat.le_trans (show 8 + (nativeFrameWords "java/lang/System" "arraycopy" 5 + 11) ≤ 80 by decide +kernel) (by omega))) hdg (fun H1 locs1 hP1 hD1 hS1 => ?_)
  rw [c1, c2, c3, wsO_set (h' := rowL h a1 (va_cpy (h.2.1 a0) (h.2.1 a1) js jd jn)) (fun j hj => cel_rowL_ne hj) (fun _ => cel_rowL_arr h1)] at hP1
  exact k p e R s0 m args below meth c H1 locs1 lsm Qm C hP1 hS1 hL hf
/-! what lies outside -/
def GSW (own : String) (idx : Nat) (C n ds : String) : Prop := Cond.fieldLink own idx C n ds ∈ tb
theorem r_getA {idx : Nat} (hdg : decode cc pc = .ok (.getstatic idx, 3)) (hl : GSW own idx RX0 "ABOVE" "[I") (k : Wp G l d own cc nL rt (pc + 3) ls (.ref (gTA G) :: rest) h Q) : Wp G l d own cc nL rt pc ls rest h Q :=
  fun p e R s0 m args below meth c H locs lsm Qm C hP hS hL hf => va_gets C.1 C.2.1 C.2.2.2.2.2.2.2.2.1.1.1 hS C.2.2.2.2.1 (C.2.2.2.2.2.1 _ hl) (fun x q => q) hdg (k p e R s0 m args below meth c H locs lsm Qm C hP hS hL hf)
theorem r_getB {idx : Nat} (hdg : decode cc pc = .ok (.getstatic idx, 3)) (hl : GSW own idx RX0 "BODY" "[I") (k : Wp G l d own cc nL rt (pc + 3) ls (.ref (gTB G) :: rest) h Q) : Wp G l d own cc nL rt pc ls rest h Q :=
  fun p e R s0 m args below meth c H locs lsm Qm C hP hS hL hf => va_gets C.1 C.2.1 C.2.2.2.2.2.2.2.2.1.1.2.2.1 hS C.2.2.2.2.1 (C.2.2.2.2.2.1 _ hl) (fun x q => q) hdg (k p e R s0 m args below meth c H locs lsm Qm C hP hS hL hf)
theorem r_getCS {idx : Nat} (hdg : decode cc pc = .ok (.getstatic idx, 3)) (hl : GSW own idx "java/lang/String" "COMPACT_STRINGS" "Z") (k : Wp G l d own cc nL rt (pc + 3) ls (.int 1 :: rest) h Q) : Wp G l d own cc nL rt pc ls rest h Q :=
  fun p e R s0 m args below meth c H locs lsm Qm C hP hS hL hf => va_gets C.1 C.2.1 C.2.2.2.2.2.2.2.2.1.2.1.1 hS C.2.2.2.2.1 (C.2.2.2.2.2.1 _ hl) (fun x q => q) hdg (k p e R s0 m args below meth c H locs lsm Qm C hP hS hL hf)
theorem r_getSI {idx : Nat} (hdg : decode cc pc = .ok (.getstatic idx, 3)) (hl : GSW own idx "jdk/internal/util/Preconditions" "SIOOBE_FORMATTER" "Ljava/util/function/BiFunction;") (k : ∀ v : Value, v.category = 1 → Wp G l d own cc nL rt (pc + 3) ls (v :: rest) h Q) : Wp G l d own cc nL rt pc ls rest h Q := by
  intro p e R s0 m args below meth c H locs lsm Qm C hP hS hL hf
  rcases C.2.2.2.2.2.2.2.2.1.2.1.2 with z | ⟨t, z⟩
  · exact va_gets C.1 C.2.1 z hS C.2.2.2.2.1 (C.2.2.2.2.2.1 _ hl) (fun x q => q) hdg (k _ rfl p e R s0 m args below meth c H locs lsm Qm C hP hS hL hf)
  · exact va_gets C.1 C.2.1 z hS C.2.2.2.2.1 (C.2.2.2.2.2.1 _ hl) (fun x q => q) hdg (k _ rfl p e R s0 m args below meth c H locs lsm Qm C hP hS hL hf)
theorem r_aldA {i : Int32} (j : Nat) (hdg : decode cc pc = .ok (.iaload, 1)) (hi : i = nI j) (hj : j < 7) (k : Wp G l d own cc nL rt (pc + 1) ls (.int (tabA.getD j 0) :: rest) h Q) : Wp G l d own cc nL rt pc ls (.int i :: .ref (gTA G) :: rest) h Q := by
  intro p e R s0 m args below meth c H locs lsm Qm C hP hS hL hf
  obtain ⟨e1, e2⟩ := ix_in hi hj (by decide)
  exact va_ti C.1 C.2.1 C.2.2.2.2.2.2.2.2.1.1.2.1 hS e1 (by rw [e2]) hdg (k p e R s0 m args below meth c H locs lsm Qm C hP hS hL hf)
theorem r_aldB {i : Int32} (j : Nat) (hdg : decode cc pc = .ok (.iaload, 1)) (hi : i = nI j) (hj : j < 21) (k : Wp G l d own cc nL rt (pc + 1) ls (.int (tabB.getD j 0) :: rest) h Q) : Wp G l d own cc nL rt pc ls (.int i :: .ref (gTB G) :: rest) h Q := by
  intro p e R s0 m args below meth c H locs lsm Qm C hP hS hL hf
  obtain ⟨e1, e2⟩ := ix_in hi hj (by decide)
  exact va_ti C.1 C.2.1 C.2.2.2.2.2.2.2.2.1.1.2.2.2 hS e1 (by rw [e2]) hdg (k p e R s0 m args below meth c H locs lsm Qm C hP hS hL hf)
theorem r_alenA (hdg : decode cc pc = .ok (.arraylength, 1)) (k : Wp G l d own cc nL rt (pc + 1) ls (.int 7 :: rest) h Q) : Wp G l d own cc nL rt pc ls (.ref (gTA G) :: rest) h Q :=
  fun p e R s0 m args below meth c H locs lsm Qm C hP hS hL hf => va_tlen C.1 C.2.1 C.2.2.2.2.2.2.2.2.1.1.2.1 hS rfl hdg (k p e R s0 m args below meth c H locs lsm Qm C hP hS hL hf)
theorem r_sld {i : Int32} (j : Nat) (hdg : decode cc pc = .ok (.iaload, 1)) (hi : i = nI j) (hj : j < gL G) (hL2 : gL G < 2 ^ 31) (k : Wp G l d own cc nL rt (pc + 1) ls (.int (gxs G j) :: rest) h Q) : Wp G l d own cc nL rt pc ls (.int i :: .ref (gX G) :: rest) h Q := by
  intro p e R s0 m args below meth c H locs lsm Qm C hP hS hL hf
  obtain ⟨e1, e2⟩ := ix_in hi hj hL2
  obtain ⟨x1, x2, x3⟩ := C.2.2.2.2.2.2.2.2.1.2.2.2.2
  refine va_sld C.1 C.2.1 x1 x2 x3 hS e1 hdg ?_
  rw [e2]
  exact k p e R s0 m args below meth c H locs lsm Qm C hP hS hL hf
theorem r_slen (hdg : decode cc pc = .ok (.arraylength, 1)) (k : Wp G l d own cc nL rt (pc + 1) ls (.int (nI (gL G)) :: rest) h Q) : Wp G l d own cc nL rt pc ls (.ref (gX G) :: rest) h Q := by
  intro p e R s0 m args below meth c H locs lsm Qm C hP hS hL hf
  obtain ⟨x1, x2, x3⟩ := C.2.2.2.2.2.2.2.2.1.2.2.2.2
  exact va_slen C.1 C.2.1 x1 x2 x3 hS hdg (k p e R s0 m args below meth c H locs lsm Qm C hP hS hL hf)
/-! texts -/
theorem r_ldcS {idx : Nat} (i : Nat) (hdg : decode cc pc = .ok (.ldc idx, 2)) (ho : own = RX2) (hi : i < 7) (hx : idxS.getD i 0 = idx) (k : Wp G l d own cc nL rt (pc + 2) ls (.ref (gK G i) :: rest) h Q) : Wp G l d own cc nL rt pc ls rest h Q := by
  intro p e R s0 m args below meth c H locs lsm Qm C hP hS hL hf
  subst ho
  subst hx
  exact va_ldcS C.1 C.2.1 C.2.2.2.2.1 (C.2.2.2.2.2.2.2.2.1.2.2.2.1 i hi) hdg (k p e R s0 m args below meth c H locs lsm Qm C hP hS hL hf)
theorem r_getSV {idx i : Nat} (hdg : decode cc pc = .ok (.getfield idx, 3)) (hl : GSW own idx "java/lang/String" "value" "[B") (hi : i < 7) (k : Wp G l d own cc nL rt (pc + 3) ls (.ref (gV G i) :: rest) h Q) : Wp G l d own cc nL rt pc ls (.ref (gK G i) :: rest) h Q :=
  fun p e R s0 m args below meth c H locs lsm Qm C hP hS hL hf => vk_getf C.1 C.2.1 (C.2.2.2.2.2.2.2.2.1.2.2.1.1 i hi).2.2.1 hS C.2.2.2.2.1 (C.2.2.2.2.2.1 _ hl) (fun x q => q) hdg (k p e R s0 m args below meth c H locs lsm Qm C hP hS hL hf)
theorem r_getSC {idx i : Nat} (hdg : decode cc pc = .ok (.getfield idx, 3)) (hl : GSW own idx "java/lang/String" "coder" "B") (hi : i < 7) (k : Wp G l d own cc nL rt (pc + 3) ls (.int 0 :: rest) h Q) : Wp G l d own cc nL rt pc ls (.ref (gK G i) :: rest) h Q :=
  fun p e R s0 m args below meth c H locs lsm Qm C hP hS hL hf => vk_getf C.1 C.2.1 (C.2.2.2.2.2.2.2.2.1.2.2.1.1 i hi).2.1 hS C.2.2.2.2.1 (C.2.2.2.2.2.1 _ hl) (fun x q => q) hdg (k p e R s0 m args below meth c H locs lsm Qm C hP hS hL hf)
theorem r_aldS {x : Int32} (i j : Nat) (hdg : decode cc pc = .ok (.baload, 1)) (hi : i < 7) (hx : x = nI j) (hj : j < lenS.getD i 0) (k : Wp G l d own cc nL rt (pc + 1) ls (.int ((bytS.getD i []).getD j 0) :: rest) h Q) : Wp G l d own cc nL rt pc ls (.int x :: .ref (gV G i) :: rest) h Q := by
  intro p e R s0 m args below meth c H locs lsm Qm C hP hS hL hf
  have hb : lenS.getD i 0 < 2 ^ 31 := by
    have key : ∀ i, i < 7 → lenS.getD i 0 < 100 := by decide
    have := key i hi
    omega
  obtain ⟨e1, e2⟩ := ix_in hx hj hb
  exact va_tb C.1 C.2.1 (C.2.2.2.2.2.2.2.2.1.2.2.1.1 i hi).2.2.2 hS e1 (by rw [e2]) hdg (k p e R s0 m args below meth c H locs lsm Qm C hP hS hL hf)
theorem r_alenS {i : Nat} (hdg : decode cc pc = .ok (.arraylength, 1)) (hi : i < 7) (k : Wp G l d own cc nL rt (pc + 1) ls (.int (nI (lenS.getD i 0)) :: rest) h Q) : Wp G l d own cc nL rt pc ls (.ref (gV G i) :: rest) h Q :=
  fun p e R s0 m args below meth c H locs lsm Qm C hP hS hL hf => va_tlen C.1 C.2.1 (C.2.2.2.2.2.2.2.2.1.2.2.1.1 i hi).2.2.2 hS rfl hdg (k p e R s0 m args below meth c H locs lsm Qm C hP hS hL hf)
theorem r_callT {idx n d' i : Nat} {y : MethodName} {cc' : ByteArray} {nL' : Nat} {rt' : Option FieldType} {As st : List Value} {Q1 : Option Value → Hp → Prop}
    (hdg : decode cc pc = .ok (.invokevirtual idx, 3)) (hl : Cond.methodLink own idx y ∈ tb) (hy : MO y cc' nL' rt' n) (hv : MV y) (hi : i < 7) (hc : "java/lang/String" = y.cls) (hn : As.length = n) (hC : Cl G l d' y cc' nL' rt' (.ref (gK G i) :: As) h Q1) (hd : d' + 1 ≤ d) (hst : st = As.reverse ++ .ref (gK G i) :: rest) (hW : (rest.map fun v => v.category).sum ≤ 8)
    (kk : ∀ (r : Option Value) (h' : Hp), Q1 r h' → Wp G l d own cc nL rt (pc + 3) ls (r.toList ++ rest) h' Q) : Wp G l d own cc nL rt pc ls st h Q := by
  subst hst
  intro p e R s0 m args below meth c H locs lsm Qm C hP hS hL hf
  obtain ⟨hx, hb, hr, hml, hown, hts, hR, hK, hE, hG⟩ := id C
  obtain ⟨⟨m1, m2⟩, m3, m4⟩ := hy
  refine fl_call (va_runV (C := y.cls) (As := As) (rest := rest) ⟨hx, hb, hml, hown, hts⟩ hC (cwV n hts (tb_in _ ?_) rfl rfl rfl ⟨rfl, m3⟩ (rm_ok hd hR m4)) ⟨WD.blind, ?_, fun U hU hW => ⟨rfl, by rw [hU]; exact hP, va_K.moved hW.alike hK, by rw [hU]; exact EX.go hW hS hE⟩⟩ rfl hn hL.1 rfl (lv_room hW) hdg ⟨Nat.zero_le _, Nat.zero_le _⟩) hS (fun r h' H1 locs1 q hP1 hS1 => kk r h' q p e R s0 m args below meth c H1 locs1 lsm Qm C hP1 hS1 hL hf)
  · intro w hw
    unfold wsV at hw
    simp only [List.mem_append, List.mem_cons, List.not_mem_nil, or_false] at hw
    rcases hw with (rfl | rfl | rfl | rfl) | rfl | hw
    · exact hl
    · exact hv.1
    · exact hv.2
    · exact m1
    · exact m2
    · exact hw
  · rw [← hc]
    exact vk_recv hE.2.2.1 hi hS
end FR
end
