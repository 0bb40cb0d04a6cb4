theorem dX7_whole_11 : decode cX7_whole 11 = .ok (.aload_n 0, 1) := by decide +kernel
theorem dX7_whole_12 : decode cX7_whole 12 = .ok (.getfield 83, 3) := by decide +kernel
theorem dX7_whole_15 : decode cX7_whole 15 = .ok (.iconst 1, 1) := by decide +kernel
theorem dX7_whole_16 : decode cX7_whole 16 = .ok (.isub, 1) := by decide +kernel
theorem dX7_whole_17 : decode cX7_whole 17 = .ok (.iaload, 1) := by decide +kernel
theorem dX7_whole_18 : decode cX7_whole 18 = .ok (.bipush 33, 2) := by decide +kernel
theorem dX7_whole_20 : decode cX7_whole 20 = .ok (.if_icmp .ne 32, 3) := by decide +kernel
theorem dX7_whole_23 : decode cX7_whole 23 = .ok (.aload_n 0, 1) := by decide +kernel
theorem dX7_whole_24 : decode cX7_whole 24 = .ok (.bipush (-33), 2) := by decide +kernel
theorem dX7_whole_26 : decode cX7_whole 26 = .ok (.invokevirtual 235, 3) := by decide +kernel
theorem dX7_whole_29 : decode cX7_whole 29 = .ok (.aload_n 0, 1) := by decide +kernel
theorem dX7_whole_30 : decode cX7_whole 30 = .ok (.dup, 1) := by decide +kernel
theorem dX7_whole_31 : decode cX7_whole 31 = .ok (.getfield 83, 3) := by decide +kernel
theorem dX7_whole_34 : decode cX7_whole 34 = .ok (.iconst 1, 1) := by decide +kernel
theorem dX7_whole_35 : decode cX7_whole 35 = .ok (.isub, 1) := by decide +kernel
theorem dX7_whole_36 : decode cX7_whole 36 = .ok (.putfield 83, 3) := by decide +kernel
theorem dX7_whole_39 : decode cX7_whole 39 = .ok (.aload_n 0, 1) := by decide +kernel
theorem dX7_whole_40 : decode cX7_whole 40 = .ok (.dup, 1) := by decide +kernel
theorem dX7_whole_41 : decode cX7_whole 41 = .ok (.getfield 86, 3) := by decide +kernel
theorem dX7_whole_44 : decode cX7_whole 44 = .ok (.iconst 1, 1) := by decide +kernel
theorem dX7_whole_45 : decode cX7_whole 45 = .ok (.isub, 1) := by decide +kernel
theorem dX7_whole_46 : decode cX7_whole 46 = .ok (.putfield 86, 3) := by decide +kernel
theorem dX7_whole_49 : decode cX7_whole 49 = .ok (.goto (-49), 3) := by decide +kernel
theorem dX7_whole_52 : decode cX7_whole 52 = .ok (.return_, 1) := by decide +kernel
theorem dX7_settle_0 : decode cX7_settle 0 = .ok (.aload_n 0, 1) := by decide +kernel
theorem dX7_settle_1 : decode cX7_settle 1 = .ok (.getfield 83, 3) := by decide +kernel
theorem dX7_settle_4 : decode cX7_settle 4 = .ok (.ifCond .le 68, 3) := by decide +kernel
theorem dX7_settle_7 : decode cX7_settle 7 = .ok (.aload_n 0, 1) := by decide +kernel
theorem dX7_settle_8 : decode cX7_settle 8 = .ok (.getfield 77, 3) := by decide +kernel
theorem dX7_settle_11 : decode cX7_settle 11 = .ok (.aload_n 0, 1) := by decide +kernel
theorem dX7_settle_12 : decode cX7_settle 12 = .ok (.getfield 83, 3) := by decide +kernel
theorem dX7_settle_15 : decode cX7_settle 15 = .ok (.iconst 1, 1) := by decide +kernel
theorem dX7_settle_16 : decode cX7_settle 16 = .ok (.isub, 1) := by decide +kernel
theorem dX7_settle_17 : decode cX7_settle 17 = .ok (.iaload, 1) := by decide +kernel
theorem dX7_settle_18 : decode cX7_settle 18 = .ok (.bipush 38, 2) := by decide +kernel
theorem dX7_settle_20 : decode cX7_settle 20 = .ok (.if_icmp .eq 25, 3) := by decide +kernel
theorem dX7_settle_23 : decode cX7_settle 23 = .ok (.aload_n 0, 1) := by decide +kernel
theorem dX7_settle_24 : decode cX7_settle 24 = .ok (.getfield 77, 3) := by decide +kernel
theorem dX7_settle_27 : decode cX7_settle 27 = .ok (.aload_n 0, 1) := by decide +kernel
theorem dX7_settle_28 : decode cX7_settle 28 = .ok (.getfield 83, 3) := by decide +kernel
theorem dX7_settle_31 : decode cX7_settle 31 = .ok (.iconst 1, 1) := by decide +kernel
theorem dX7_settle_32 : decode cX7_settle 32 = .ok (.isub, 1) := by decide +kernel
theorem dX7_settle_33 : decode cX7_settle 33 = .ok (.iaload, 1) := by decide +kernel
theorem dX7_settle_34 : decode cX7_settle 34 = .ok (.bipush 124, 2) := by decide +kernel
theorem dX7_settle_36 : decode cX7_settle 36 = .ok (.if_icmp .ne 36, 3) := by decide +kernel
theorem dX7_settle_39 : decode cX7_settle 39 = .ok (.iload_n 1, 1) := by decide +kernel
theorem dX7_settle_40 : decode cX7_settle 40 = .ok (.bipush 38, 2) := by decide +kernel
theorem dX7_settle_42 : decode cX7_settle 42 = .ok (.if_icmp .eq 30, 3) := by decide +kernel
theorem dX7_settle_45 : decode cX7_settle 45 = .ok (.aload_n 0, 1) := by decide +kernel
theorem dX7_settle_46 : decode cX7_settle 46 = .ok (.dup, 1) := by decide +kernel
theorem dX7_settle_47 : decode cX7_settle 47 = .ok (.getfield 83, 3) := by decide +kernel
theorem dX7_settle_50 : decode cX7_settle 50 = .ok (.iconst 1, 1) := by decide +kernel
theorem dX7_settle_51 : decode cX7_settle 51 = .ok (.isub, 1) := by decide +kernel
theorem dX7_settle_52 : decode cX7_settle 52 = .ok (.putfield 83, 3) := by decide +kernel
theorem dX7_settle_55 : decode cX7_settle 55 = .ok (.aload_n 0, 1) := by decide +kernel
theorem dX7_settle_56 : decode cX7_settle 56 = .ok (.aload_n 0, 1) := by decide +kernel
theorem dX7_settle_57 : decode cX7_settle 57 = .ok (.getfield 77, 3) := by decide +kernel
theorem dX7_settle_60 : decode cX7_settle 60 = .ok (.aload_n 0, 1) := by decide +kernel
theorem dX7_settle_61 : decode cX7_settle 61 = .ok (.getfield 83, 3) := by decide +kernel
theorem dX7_settle_64 : decode cX7_settle 64 = .ok (.iaload, 1) := by decide +kernel
theorem dX7_settle_65 : decode cX7_settle 65 = .ok (.ineg, 1) := by decide +kernel
theorem dX7_settle_66 : decode cX7_settle 66 = .ok (.invokevirtual 235, 3) := by decide +kernel
theorem dX7_settle_69 : decode cX7_settle 69 = .ok (.goto (-69), 3) := by decide +kernel
theorem dX7_settle_72 : decode cX7_settle 72 = .ok (.return_, 1) := by decide +kernel
theorem dX7_place_0 : decode cX7_place 0 = .ok (.iload_n 1, 1) := by decide +kernel
theorem dX7_place_1 : decode cX7_place 1 = .ok (.tableswitch 71 97 107 #[65, 67, 71, 69, 71, 71, 71, 63, 59, 71, 61], 59) := by decide +kernel
theorem dX7_place_60 : decode cX7_place 60 = .ok (.iconst 0, 1) := by decide +kernel
theorem dX7_place_61 : decode cX7_place 61 = .ok (.ireturn, 1) := by decide +kernel
theorem dX7_place_62 : decode cX7_place 62 = .ok (.iconst 1, 1) := by decide +kernel
theorem dX7_place_63 : decode cX7_place 63 = .ok (.ireturn, 1) := by decide +kernel
theorem dX7_place_64 : decode cX7_place 64 = .ok (.iconst 2, 1) := by decide +kernel
theorem dX7_place_65 : decode cX7_place 65 = .ok (.ireturn, 1) := by decide +kernel
theorem dX7_place_66 : decode cX7_place 66 = .ok (.iconst 3, 1) := by decide +kernel
theorem dX7_place_67 : decode cX7_place 67 = .ok (.ireturn, 1) := by decide +kernel
theorem dX7_place_68 : decode cX7_place 68 = .ok (.iconst 4, 1) := by decide +kernel
theorem dX7_place_69 : decode cX7_place 69 = .ok (.ireturn, 1) := by decide +kernel
theorem dX7_place_70 : decode cX7_place 70 = .ok (.iconst 5, 1) := by decide +kernel
theorem dX7_place_71 : decode cX7_place 71 = .ok (.ireturn, 1) := by decide +kernel
theorem dX7_place_72 : decode cX7_place 72 = .ok (.iconst (-1), 1) := by decide +kernel
theorem dX7_place_73 : decode cX7_place 73 = .ok (.ireturn, 1) := by decide +kernel
theorem dX7_takesTest_0 : decode cX7_takesTest 0 = .ok (.aload_n 0, 1) := by decide +kernel
theorem dX7_takesTest_1 : decode cX7_takesTest 1 = .ok (.aload_n 0, 1) := by decide +kernel
theorem dX7_takesTest_2 : decode cX7_takesTest 2 = .ok (.invokevirtual 224, 3) := by decide +kernel
theorem dX7_takesTest_5 : decode cX7_takesTest 5 = .ok (.invokevirtual 239, 3) := by decide +kernel
theorem dX7_takesTest_8 : decode cX7_takesTest 8 = .ok (.istore_n 1, 1) := by decide +kernel
theorem dX7_takesTest_9 : decode cX7_takesTest 9 = .ok (.iload_n 1, 1) := by decide +kernel
theorem dX7_takesTest_10 : decode cX7_takesTest 10 = .ok (.ifCond .ge 5, 3) := by decide +kernel
theorem dX7_takesTest_13 : decode cX7_takesTest 13 = .ok (.iconst 0, 1) := by decide +kernel
theorem dX7_takesTest_14 : decode cX7_takesTest 14 = .ok (.ireturn, 1) := by decide +kernel
theorem dX7_takesTest_15 : decode cX7_takesTest 15 = .ok (.aload_n 0, 1) := by decide +kernel
theorem dX7_takesTest_16 : decode cX7_takesTest 16 = .ok (.dup, 1) := by decide +kernel
theorem dX7_takesTest_17 : decode cX7_takesTest 17 = .ok (.getfield 50, 3) := by decide +kernel
theorem dX7_takesTest_20 : decode cX7_takesTest 20 = .ok (.iconst 1, 1) := by decide +kernel
theorem dX7_takesTest_21 : decode cX7_takesTest 21 = .ok (.iadd, 1) := by decide +kernel
theorem dX7_takesTest_22 : decode cX7_takesTest 22 = .ok (.putfield 50, 3) := by decide +kernel
theorem dX7_takesTest_25 : decode cX7_takesTest 25 = .ok (.aload_n 0, 1) := by decide +kernel
theorem dX7_takesTest_26 : decode cX7_takesTest 26 = .ok (.invokevirtual 224, 3) := by decide +kernel
theorem dX7_takesTest_29 : decode cX7_takesTest 29 = .ok (.istore_n 2, 1) := by decide +kernel
theorem dX7_takesTest_30 : decode cX7_takesTest 30 = .ok (.aload_n 0, 1) := by decide +kernel
theorem dX7_takesTest_31 : decode cX7_takesTest 31 = .ok (.iload_n 2, 1) := by decide +kernel
theorem dX7_takesTest_32 : decode cX7_takesTest 32 = .ok (.bipush 60, 2) := by decide +kernel
theorem dX7_takesTest_34 : decode cX7_takesTest 34 = .ok (.bipush 62, 2) := by decide +kernel
theorem dX7_takesTest_36 : decode cX7_takesTest 36 = .ok (.invokevirtual 212, 3) := by decide +kernel
theorem dX7_takesTest_39 : decode cX7_takesTest 39 = .ok (.ifCond .ne 5, 3) := by decide +kernel
theorem dX7_takesTest_42 : decode cX7_takesTest 42 = .ok (.iconst 0, 1) := by decide +kernel
theorem dX7_takesTest_43 : decode cX7_takesTest 43 = .ok (.ireturn, 1) := by decide +kernel
theorem dX7_takesTest_44 : decode cX7_takesTest 44 = .ok (.aload_n 0, 1) := by decide +kernel
theorem dX7_takesTest_45 : decode cX7_takesTest 45 = .ok (.dup, 1) := by decide +kernel
theorem dX7_takesTest_46 : decode cX7_takesTest 46 = .ok (.getfield 50, 3) := by decide +kernel
theorem dX7_takesTest_49 : decode cX7_takesTest 49 = .ok (.iconst 1, 1) := by decide +kernel
theorem dX7_takesTest_50 : decode cX7_takesTest 50 = .ok (.iadd, 1) := by decide +kernel
theorem dX7_takesTest_51 : decode cX7_takesTest 51 = .ok (.putfield 50, 3) := by decide +kernel
theorem dX7_takesTest_54 : decode cX7_takesTest 54 = .ok (.aload_n 0, 1) := by decide +kernel
theorem dX7_takesTest_55 : decode cX7_takesTest 55 = .ok (.invokevirtual 243, 3) := by decide +kernel
theorem dX7_takesTest_58 : decode cX7_takesTest 58 = .ok (.ifCond .ne 5, 3) := by decide +kernel
theorem dX7_takesTest_61 : decode cX7_takesTest 61 = .ok (.iconst 0, 1) := by decide +kernel
theorem dX7_takesTest_62 : decode cX7_takesTest 62 = .ok (.ireturn, 1) := by decide +kernel
theorem dX7_takesTest_63 : decode cX7_takesTest 63 = .ok (.aload_n 0, 1) := by decide +kernel
theorem dX7_takesTest_64 : decode cX7_takesTest 64 = .ok (.sipush 1000, 3) := by decide +kernel
theorem dX7_takesTest_67 : decode cX7_takesTest 67 = .ok (.iload_n 1, 1) := by decide +kernel
theorem dX7_takesTest_68 : decode cX7_takesTest 68 = .ok (.imul, 1) := by decide +kernel
theorem dX7_takesTest_69 : decode cX7_takesTest 69 = .ok (.bipush 100, 2) := by decide +kernel
theorem dX7_takesTest_71 : decode cX7_takesTest 71 = .ok (.iload_n 2, 1) := by decide +kernel
theorem dX7_takesTest_72 : decode cX7_takesTest 72 = .ok (.bipush 60, 2) := by decide +kernel
theorem dX7_takesTest_74 : decode cX7_takesTest 74 = .ok (.isub, 1) := by decide +kernel
theorem dX7_takesTest_75 : decode cX7_takesTest 75 = .ok (.imul, 1) := by decide +kernel
theorem dX7_takesTest_76 : decode cX7_takesTest 76 = .ok (.iadd, 1) := by decide +kernel
theorem dX7_takesTest_77 : decode cX7_takesTest 77 = .ok (.aload_n 0, 1) := by decide +kernel
theorem dX7_takesTest_78 : decode cX7_takesTest 78 = .ok (.getfield 53, 3) := by decide +kernel
theorem dX7_takesTest_81 : decode cX7_takesTest 81 = .ok (.iadd, 1) := by decide +kernel
theorem dX7_takesTest_82 : decode cX7_takesTest 82 = .ok (.invokevirtual 235, 3) := by decide +kernel
theorem dX7_takesTest_85 : decode cX7_takesTest 85 = .ok (.aload_n 0, 1) := by decide +kernel
theorem dX7_takesTest_86 : decode cX7_takesTest 86 = .ok (.invokevirtual 246, 3) := by decide +kernel
theorem dX7_takesTest_89 : decode cX7_takesTest 89 = .ok (.iconst 1, 1) := by decide +kernel
theorem dX7_takesTest_90 : decode cX7_takesTest 90 = .ok (.ireturn, 1) := by decide +kernel
theorem dX7_takesE_0 : decode cX7_takesE 0 = .ok (.aload_n 0, 1) := by decide +kernel
theorem dX7_takesE_1 : decode cX7_takesE 1 = .ok (.iconst 0, 1) := by decide +kernel
theorem dX7_takesE_2 : decode cX7_takesE 2 = .ok (.putfield 83, 3) := by decide +kernel
theorem dX7_takesE_5 : decode cX7_takesE 5 = .ok (.aload_n 0, 1) := by decide +kernel
theorem dX7_takesE_6 : decode cX7_takesE 6 = .ok (.iconst 0, 1) := by decide +kernel
theorem dX7_takesE_7 : decode cX7_takesE 7 = .ok (.putfield 86, 3) := by decide +kernel
theorem dX7_takesE_10 : decode cX7_takesE 10 = .ok (.aload_n 0, 1) := by decide +kernel
theorem dX7_takesE_11 : decode cX7_takesE 11 = .ok (.getfield 68, 3) := by decide +kernel
theorem dX7_takesE_14 : decode cX7_takesE 14 = .ok (.iload_n 1, 1) := by decide +kernel
theorem dX7_takesE_15 : decode cX7_takesE 15 = .ok (.aload_n 0, 1) := by decide +kernel
theorem dX7_takesE_16 : decode cX7_takesE 16 = .ok (.getfield 80, 3) := by decide +kernel
theorem dX7_takesE_19 : decode cX7_takesE 19 = .ok (.iastore, 1) := by decide +kernel
theorem dX7_takesE_20 : decode cX7_takesE 20 = .ok (.iconst 1, 1) := by decide +kernel
theorem dX7_takesE_21 : decode cX7_takesE 21 = .ok (.istore_n 2, 1) := by decide +kernel
theorem dX7_takesE_22 : decode cX7_takesE 22 = .ok (.aload_n 0, 1) := by decide +kernel
theorem dX7_takesE_23 : decode cX7_takesE 23 = .ok (.invokevirtual 224, 3) := by decide +kernel
theorem dX7_takesE_26 : decode cX7_takesE 26 = .ok (.istore_n 3, 1) := by decide +kernel
theorem dX7_takesE_27 : decode cX7_takesE 27 = .ok (.iload_n 2, 1) := by decide +kernel
theorem dX7_takesE_28 : decode cX7_takesE 28 = .ok (.ifCond .eq 82, 3) := by decide +kernel
theorem dX7_takesE_31 : decode cX7_takesE 31 = .ok (.iload_n 3, 1) := by decide +kernel
theorem dX7_takesE_32 : decode cX7_takesE 32 = .ok (.bipush 33, 2) := by decide +kernel
theorem dX7_takesE_34 : decode cX7_takesE 34 = .ok (.if_icmp .eq 9, 3) := by decide +kernel
theorem dX7_takesE_37 : decode cX7_takesE 37 = .ok (.iload_n 3, 1) := by decide +kernel
theorem dX7_takesE_38 : decode cX7_takesE 38 = .ok (.bipush 40, 2) := by decide +kernel
theorem dX7_takesE_40 : decode cX7_takesE 40 = .ok (.if_icmp .ne 56, 3) := by decide +kernel
theorem dX7_takesE_43 : decode cX7_takesE 43 = .ok (.aload_n 0, 1) := by decide +kernel
theorem dX7_takesE_44 : decode cX7_takesE 44 = .ok (.getfield 86, 3) := by decide +kernel
theorem dX7_takesE_47 : decode cX7_takesE 47 = .ok (.iconst 4, 1) := by decide +kernel
theorem dX7_takesE_48 : decode cX7_takesE 48 = .ok (.if_icmp .ne 5, 3) := by decide +kernel
theorem dX7_takesE_51 : decode cX7_takesE 51 = .ok (.iconst 0, 1) := by decide +kernel
theorem dX7_takesE_52 : decode cX7_takesE 52 = .ok (.ireturn, 1) := by decide +kernel
theorem dX7_takesE_53 : decode cX7_takesE 53 = .ok (.aload_n 0, 1) := by decide +kernel
theorem dX7_takesE_54 : decode cX7_takesE 54 = .ok (.dup, 1) := by decide +kernel
theorem dX7_takesE_55 : decode cX7_takesE 55 = .ok (.getfield 86, 3) := by decide +kernel
theorem dX7_takesE_58 : decode cX7_takesE 58 = .ok (.iconst 1, 1) := by decide +kernel
theorem dX7_takesE_59 : decode cX7_takesE 59 = .ok (.iadd, 1) := by decide +kernel
theorem dX7_takesE_60 : decode cX7_takesE 60 = .ok (.putfield 86, 3) := by decide +kernel
theorem dX7_takesE_63 : decode cX7_takesE 63 = .ok (.aload_n 0, 1) := by decide +kernel
theorem dX7_takesE_64 : decode cX7_takesE 64 = .ok (.getfield 77, 3) := by decide +kernel
theorem dX7_takesE_67 : decode cX7_takesE 67 = .ok (.aload_n 0, 1) := by decide +kernel
theorem dX7_takesE_68 : decode cX7_takesE 68 = .ok (.getfield 83, 3) := by decide +kernel
theorem dX7_takesE_71 : decode cX7_takesE 71 = .ok (.iload_n 3, 1) := by decide +kernel
theorem dX7_takesE_72 : decode cX7_takesE 72 = .ok (.iastore, 1) := by decide +kernel
theorem dX7_takesE_73 : decode cX7_takesE 73 = .ok (.aload_n 0, 1) := by decide +kernel
theorem dX7_takesE_74 : decode cX7_takesE 74 = .ok (.dup, 1) := by decide +kernel
theorem dX7_takesE_75 : decode cX7_takesE 75 = .ok (.getfield 83, 3) := by decide +kernel
theorem dX7_takesE_78 : decode cX7_takesE 78 = .ok (.iconst 1, 1) := by decide +kernel
theorem dX7_takesE_79 : decode cX7_takesE 79 = .ok (.iadd, 1) := by decide +kernel
theorem dX7_takesE_80 : decode cX7_takesE 80 = .ok (.putfield 83, 3) := by decide +kernel
theorem dX7_takesE_83 : decode cX7_takesE 83 = .ok (.aload_n 0, 1) := by decide +kernel
theorem dX7_takesE_84 : decode cX7_takesE 84 = .ok (.dup, 1) := by decide +kernel
theorem dX7_takesE_85 : decode cX7_takesE 85 = .ok (.getfield 50, 3) := by decide +kernel
theorem dX7_takesE_88 : decode cX7_takesE 88 = .ok (.iconst 1, 1) := by decide +kernel
theorem dX7_takesE_89 : decode cX7_takesE 89 = .ok (.iadd, 1) := by decide +kernel
theorem dX7_takesE_90 : decode cX7_takesE 90 = .ok (.putfield 50, 3) := by decide +kernel
theorem dX7_takesE_93 : decode cX7_takesE 93 = .ok (.goto (-71), 3) := by decide +kernel
theorem dX7_takesE_96 : decode cX7_takesE 96 = .ok (.aload_n 0, 1) := by decide +kernel
theorem dX7_takesE_97 : decode cX7_takesE 97 = .ok (.invokevirtual 249, 3) := by decide +kernel
theorem dX7_takesE_100 : decode cX7_takesE 100 = .ok (.ifCond .eq 8, 3) := by decide +kernel
theorem dX7_takesE_103 : decode cX7_takesE 103 = .ok (.iconst 0, 1) := by decide +kernel
theorem dX7_takesE_104 : decode cX7_takesE 104 = .ok (.istore_n 2, 1) := by decide +kernel
theorem dX7_takesE_105 : decode cX7_takesE 105 = .ok (.goto (-83), 3) := by decide +kernel
theorem dX7_takesE_108 : decode cX7_takesE 108 = .ok (.iconst 0, 1) := by decide +kernel
theorem dX7_takesE_109 : decode cX7_takesE 109 = .ok (.ireturn, 1) := by decide +kernel
theorem dX7_takesE_110 : decode cX7_takesE 110 = .ok (.iload_n 3, 1) := by decide +kernel
theorem dX7_takesE_111 : decode cX7_takesE 111 = .ok (.bipush 38, 2) := by decide +kernel
theorem dX7_takesE_113 : decode cX7_takesE 113 = .ok (.if_icmp .eq 9, 3) := by decide +kernel
theorem dX7_takesE_116 : decode cX7_takesE 116 = .ok (.iload_n 3, 1) := by decide +kernel
theorem dX7_takesE_117 : decode cX7_takesE 117 = .ok (.bipush 124, 2) := by decide +kernel
theorem dX7_takesE_119 : decode cX7_takesE 119 = .ok (.if_icmp .ne 43, 3) := by decide +kernel
theorem dX7_takesE_122 : decode cX7_takesE 122 = .ok (.aload_n 0, 1) := by decide +kernel
theorem dX7_takesE_123 : decode cX7_takesE 123 = .ok (.iload_n 3, 1) := by decide +kernel
theorem dX7_takesE_124 : decode cX7_takesE 124 = .ok (.invokevirtual 252, 3) := by decide +kernel
theorem dX7_takesE_127 : decode cX7_takesE 127 = .ok (.aload_n 0, 1) := by decide +kernel
theorem dX7_takesE_128 : decode cX7_takesE 128 = .ok (.getfield 77, 3) := by decide +kernel
theorem dX7_takesE_131 : decode cX7_takesE 131 = .ok (.aload_n 0, 1) := by decide +kernel
theorem dX7_takesE_132 : decode cX7_takesE 132 = .ok (.getfield 83, 3) := by decide +kernel
theorem dX7_takesE_135 : decode cX7_takesE 135 = .ok (.iload_n 3, 1) := by decide +kernel
theorem dX7_takesE_136 : decode cX7_takesE 136 = .ok (.iastore, 1) := by decide +kernel
theorem dX7_takesE_137 : decode cX7_takesE 137 = .ok (.aload_n 0, 1) := by decide +kernel
theorem dX7_takesE_138 : decode cX7_takesE 138 = .ok (.dup, 1) := by decide +kernel
theorem dX7_takesE_139 : decode cX7_takesE 139 = .ok (.getfield 83, 3) := by decide +kernel
theorem dX7_takesE_142 : decode cX7_takesE 142 = .ok (.iconst 1, 1) := by decide +kernel
theorem dX7_takesE_143 : decode cX7_takesE 143 = .ok (.iadd, 1) := by decide +kernel
theorem dX7_takesE_144 : decode cX7_takesE 144 = .ok (.putfield 83, 3) := by decide +kernel
theorem dX7_takesE_147 : decode cX7_takesE 147 = .ok (.iconst 1, 1) := by decide +kernel
theorem dX7_takesE_148 : decode cX7_takesE 148 = .ok (.istore_n 2, 1) := by decide +kernel
theorem dX7_takesE_149 : decode cX7_takesE 149 = .ok (.aload_n 0, 1) := by decide +kernel
theorem dX7_takesE_150 : decode cX7_takesE 150 = .ok (.dup, 1) := by decide +kernel
theorem dX7_takesE_151 : decode cX7_takesE 151 = .ok (.getfield 50, 3) := by decide +kernel
theorem dX7_takesE_154 : decode cX7_takesE 154 = .ok (.iconst 1, 1) := by decide +kernel
theorem dX7_takesE_155 : decode cX7_takesE 155 = .ok (.iadd, 1) := by decide +kernel
theorem dX7_takesE_156 : decode cX7_takesE 156 = .ok (.putfield 50, 3) := by decide +kernel
theorem dX7_takesE_159 : decode cX7_takesE 159 = .ok (.goto (-137), 3) := by decide +kernel
theorem dX7_takesE_162 : decode cX7_takesE 162 = .ok (.aload_n 0, 1) := by decide +kernel
theorem dX7_takesE_163 : decode cX7_takesE 163 = .ok (.bipush 124, 2) := by decide +kernel
theorem dX7_takesE_165 : decode cX7_takesE 165 = .ok (.invokevirtual 252, 3) := by decide +kernel
theorem dX7_takesE_168 : decode cX7_takesE 168 = .ok (.aload_n 0, 1) := by decide +kernel
theorem dX7_takesE_169 : decode cX7_takesE 169 = .ok (.getfield 71, 3) := by decide +kernel
theorem dX7_takesE_172 : decode cX7_takesE 172 = .ok (.iload_n 1, 1) := by decide +kernel
theorem dX7_takesE_173 : decode cX7_takesE 173 = .ok (.aload_n 0, 1) := by decide +kernel
theorem dX7_takesE_174 : decode cX7_takesE 174 = .ok (.getfield 80, 3) := by decide +kernel
theorem dX7_takesE_177 : decode cX7_takesE 177 = .ok (.iastore, 1) := by decide +kernel
theorem dX7_takesE_178 : decode cX7_takesE 178 = .ok (.aload_n 0, 1) := by decide +kernel
theorem dX7_takesE_179 : decode cX7_takesE 179 = .ok (.getfield 83, 3) := by decide +kernel
theorem dX7_takesE_182 : decode cX7_takesE 182 = .ok (.ifCond .ne 5, 3) := by decide +kernel
theorem dX7_takesE_185 : decode cX7_takesE 185 = .ok (.iconst 1, 1) := by decide +kernel
theorem dX7_takesE_186 : decode cX7_takesE 186 = .ok (.ireturn, 1) := by decide +kernel
theorem dX7_takesE_187 : decode cX7_takesE 187 = .ok (.iload_n 3, 1) := by decide +kernel
theorem dX7_takesE_188 : decode cX7_takesE 188 = .ok (.bipush 41, 2) := by decide +kernel
theorem dX7_takesE_190 : decode cX7_takesE 190 = .ok (.if_icmp .eq 5, 3) := by decide +kernel
theorem dX7_takesE_193 : decode cX7_takesE 193 = .ok (.iconst 0, 1) := by decide +kernel
theorem dX7_takesE_194 : decode cX7_takesE 194 = .ok (.ireturn, 1) := by decide +kernel
theorem dX7_takesE_195 : decode cX7_takesE 195 = .ok (.aload_n 0, 1) := by decide +kernel
theorem dX7_takesE_196 : decode cX7_takesE 196 = .ok (.dup, 1) := by decide +kernel
theorem dX7_takesE_197 : decode cX7_takesE 197 = .ok (.getfield 83, 3) := by decide +kernel
theorem dX7_takesE_200 : decode cX7_takesE 200 = .ok (.iconst 1, 1) := by decide +kernel
theorem dX7_takesE_201 : decode cX7_takesE 201 = .ok (.isub, 1) := by decide +kernel
theorem dX7_takesE_202 : decode cX7_takesE 202 = .ok (.putfield 83, 3) := by decide +kernel
theorem dX7_takesE_205 : decode cX7_takesE 205 = .ok (.aload_n 0, 1) := by decide +kernel
theorem dX7_takesE_206 : decode cX7_takesE 206 = .ok (.dup, 1) := by decide +kernel
theorem dX7_takesE_207 : decode cX7_takesE 207 = .ok (.getfield 86, 3) := by decide +kernel
theorem dX7_takesE_210 : decode cX7_takesE 210 = .ok (.iconst 1, 1) := by decide +kernel
theorem dX7_takesE_211 : decode cX7_takesE 211 = .ok (.isub, 1) := by decide +kernel
theorem dX7_takesE_212 : decode cX7_takesE 212 = .ok (.putfield 86, 3) := by decide +kernel
theorem dX7_takesE_215 : decode cX7_takesE 215 = .ok (.aload_n 0, 1) := by decide +kernel
theorem dX7_takesE_216 : decode cX7_takesE 216 = .ok (.dup, 1) := by decide +kernel
theorem dX7_takesE_217 : decode cX7_takesE 217 = .ok (.getfield 50, 3) := by decide +kernel
theorem dX7_takesE_220 : decode cX7_takesE 220 = .ok (.iconst 1, 1) := by decide +kernel
theorem dX7_takesE_221 : decode cX7_takesE 221 = .ok (.iadd, 1) := by decide +kernel
theorem dX7_takesE_222 : decode cX7_takesE 222 = .ok (.putfield 50, 3) := by decide +kernel
theorem dX7_takesE_225 : decode cX7_takesE 225 = .ok (.aload_n 0, 1) := by decide +kernel
theorem dX7_takesE_226 : decode cX7_takesE 226 = .ok (.invokevirtual 246, 3) := by decide +kernel
theorem dX7_takesE_229 : decode cX7_takesE 229 = .ok (.goto (-207), 3) := by decide +kernel
theorem dX7_takesHead_0 : decode cX7_takesHead 0 = .ok (.aload_n 0, 1) := by decide +kernel
theorem dX7_takesHead_1 : decode cX7_takesHead 1 = .ok (.invokevirtual 255, 3) := by decide +kernel
theorem dX7_takesHead_4 : decode cX7_takesHead 4 = .ok (.istore_n 2, 1) := by decide +kernel
theorem dX7_takesHead_5 : decode cX7_takesHead 5 = .ok (.aload_n 0, 1) := by decide +kernel
theorem dX7_takesHead_6 : decode cX7_takesHead 6 = .ok (.invokevirtual 224, 3) := by decide +kernel
theorem dX7_takesHead_9 : decode cX7_takesHead 9 = .ok (.lookupswitch 104 #[(98, 49), (108, 63), (119, 35)], 35) := by decide +kernel
theorem dX7_takesHead_44 : decode cX7_takesHead 44 = .ok (.aload_n 0, 1) := by decide +kernel
theorem dX7_takesHead_45 : decode cX7_takesHead 45 = .ok (.getfield 62, 3) := by decide +kernel
theorem dX7_takesHead_48 : decode cX7_takesHead 48 = .ok (.iload_n 1, 1) := by decide +kernel
theorem dX7_takesHead_49 : decode cX7_takesHead 49 = .ok (.iconst 0, 1) := by decide +kernel
theorem dX7_takesHead_50 : decode cX7_takesHead 50 = .ok (.iastore, 1) := by decide +kernel
theorem dX7_takesHead_51 : decode cX7_takesHead 51 = .ok (.aload_n 0, 1) := by decide +kernel
theorem dX7_takesHead_52 : decode cX7_takesHead 52 = .ok (.iconst 0, 1) := by decide +kernel
theorem dX7_takesHead_53 : decode cX7_takesHead 53 = .ok (.iconst 5, 1) := by decide +kernel
theorem dX7_takesHead_54 : decode cX7_takesHead 54 = .ok (.invokevirtual 258, 3) := by decide +kernel
theorem dX7_takesHead_57 : decode cX7_takesHead 57 = .ok (.ireturn, 1) := by decide +kernel
theorem dX7_takesHead_58 : decode cX7_takesHead 58 = .ok (.aload_n 0, 1) := by decide +kernel
theorem dX7_takesHead_59 : decode cX7_takesHead 59 = .ok (.getfield 62, 3) := by decide +kernel
theorem dX7_takesHead_62 : decode cX7_takesHead 62 = .ok (.iload_n 1, 1) := by decide +kernel
theorem dX7_takesHead_63 : decode cX7_takesHead 63 = .ok (.iconst 1, 1) := by decide +kernel
theorem dX7_takesHead_64 : decode cX7_takesHead 64 = .ok (.iastore, 1) := by decide +kernel
theorem dX7_takesHead_65 : decode cX7_takesHead 65 = .ok (.aload_n 0, 1) := by decide +kernel
theorem dX7_takesHead_66 : decode cX7_takesHead 66 = .ok (.iconst 5, 1) := by decide +kernel
theorem dX7_takesHead_67 : decode cX7_takesHead 67 = .ok (.iconst 4, 1) := by decide +kernel
theorem dX7_takesHead_68 : decode cX7_takesHead 68 = .ok (.invokevirtual 258, 3) := by decide +kernel
theorem dX7_takesHead_71 : decode cX7_takesHead 71 = .ok (.ireturn, 1) := by decide +kernel
theorem dX7_takesHead_72 : decode cX7_takesHead 72 = .ok (.aload_n 0, 1) := by decide +kernel
theorem dX7_takesHead_73 : decode cX7_takesHead 73 = .ok (.getfield 62, 3) := by decide +kernel
theorem dX7_takesHead_76 : decode cX7_takesHead 76 = .ok (.iload_n 1, 1) := by decide +kernel
theorem dX7_takesHead_77 : decode cX7_takesHead 77 = .ok (.iload_n 2, 1) := by decide +kernel
theorem dX7_takesHead_78 : decode cX7_takesHead 78 = .ok (.bipush 97, 2) := by decide +kernel
theorem dX7_takesHead_80 : decode cX7_takesHead 80 = .ok (.if_icmp .ne 7, 3) := by decide +kernel
theorem dX7_takesHead_83 : decode cX7_takesHead 83 = .ok (.iconst 3, 1) := by decide +kernel
theorem dX7_takesHead_84 : decode cX7_takesHead 84 = .ok (.goto 4, 3) := by decide +kernel
theorem dX7_takesHead_87 : decode cX7_takesHead 87 = .ok (.iconst 2, 1) := by decide +kernel
theorem dX7_takesHead_88 : decode cX7_takesHead 88 = .ok (.iastore, 1) := by decide +kernel
theorem dX7_takesHead_89 : decode cX7_takesHead 89 = .ok (.iload_n 2, 1) := by decide +kernel
theorem dX7_takesHead_90 : decode cX7_takesHead 90 = .ok (.bipush 97, 2) := by decide +kernel
theorem dX7_takesHead_92 : decode cX7_takesHead 92 = .ok (.if_icmp .ne 13, 3) := by decide +kernel
theorem dX7_takesHead_95 : decode cX7_takesHead 95 = .ok (.aload_n 0, 1) := by decide +kernel
theorem dX7_takesHead_96 : decode cX7_takesHead 96 = .ok (.bipush 13, 2) := by decide +kernel
theorem dX7_takesHead_98 : decode cX7_takesHead 98 = .ok (.iconst 3, 1) := by decide +kernel
theorem dX7_takesHead_99 : decode cX7_takesHead 99 = .ok (.invokevirtual 258, 3) := by decide +kernel
theorem dX7_takesHead_102 : decode cX7_takesHead 102 = .ok (.goto 10, 3) := by decide +kernel
theorem dX7_takesHead_105 : decode cX7_takesHead 105 = .ok (.aload_n 0, 1) := by decide +kernel
theorem dX7_takesHead_106 : decode cX7_takesHead 106 = .ok (.bipush 9, 2) := by decide +kernel
theorem dX7_takesHead_108 : decode cX7_takesHead 108 = .ok (.iconst 4, 1) := by decide +kernel
theorem dX7_takesHead_109 : decode cX7_takesHead 109 = .ok (.invokevirtual 258, 3) := by decide +kernel
theorem dX7_takesHead_112 : decode cX7_takesHead 112 = .ok (.ireturn, 1) := by decide +kernel
theorem dX7_takesHead_113 : decode cX7_takesHead 113 = .ok (.aload_n 0, 1) := by decide +kernel
theorem dX7_takesHead_114 : decode cX7_takesHead 114 = .ok (.getfield 62, 3) := by decide +kernel
theorem dX7_takesHead_117 : decode cX7_takesHead 117 = .ok (.iload_n 1, 1) := by decide +kernel
theorem dX7_takesHead_118 : decode cX7_takesHead 118 = .ok (.iconst 4, 1) := by decide +kernel
theorem dX7_takesHead_119 : decode cX7_takesHead 119 = .ok (.iastore, 1) := by decide +kernel
theorem dX7_takesHead_120 : decode cX7_takesHead 120 = .ok (.aload_n 0, 1) := by decide +kernel
theorem dX7_takesHead_121 : decode cX7_takesHead 121 = .ok (.bipush 16, 2) := by decide +kernel
theorem dX7_takesHead_123 : decode cX7_takesHead 123 = .ok (.iconst 5, 1) := by decide +kernel
theorem dX7_takesHead_124 : decode cX7_takesHead 124 = .ok (.invokevirtual 258, 3) := by decide +kernel
theorem dX7_takesHead_127 : decode cX7_takesHead 127 = .ok (.ireturn, 1) := by decide +kernel
theorem dX7_takesClause_0 : decode cX7_takesClause 0 = .ok (.aload_n 0, 1) := by decide +kernel
theorem dX7_takesClause_1 : decode cX7_takesClause 1 = .ok (.iload_n 1, 1) := by decide +kernel
theorem dX7_takesClause_2 : decode cX7_takesClause 2 = .ok (.invokevirtual 262, 3) := by decide +kernel
theorem dX7_takesClause_5 : decode cX7_takesClause 5 = .ok (.ifCond .eq 10, 3) := by decide +kernel
theorem dX7_takesClause_8 : decode cX7_takesClause 8 = .ok (.aload_n 0, 1) := by decide +kernel
theorem dX7_takesClause_9 : decode cX7_takesClause 9 = .ok (.invokevirtual 243, 3) := by decide +kernel
theorem dX7_takesClause_12 : decode cX7_takesClause 12 = .ok (.ifCond .ne 5, 3) := by decide +kernel
theorem dX7_takesClause_15 : decode cX7_takesClause 15 = .ok (.iconst 0, 1) := by decide +kernel
theorem dX7_takesClause_16 : decode cX7_takesClause 16 = .ok (.ireturn, 1) := by decide +kernel
theorem dX7_takesClause_17 : decode cX7_takesClause 17 = .ok (.aload_n 0, 1) := by decide +kernel
theorem dX7_takesClause_18 : decode cX7_takesClause 18 = .ok (.getfield 65, 3) := by decide +kernel
theorem dX7_takesClause_21 : decode cX7_takesClause 21 = .ok (.iload_n 1, 1) := by decide +kernel
theorem dX7_takesClause_22 : decode cX7_takesClause 22 = .ok (.aload_n 0, 1) := by decide +kernel
theorem dX7_takesClause_23 : decode cX7_takesClause 23 = .ok (.getfield 53, 3) := by decide +kernel
theorem dX7_takesClause_26 : decode cX7_takesClause 26 = .ok (.iastore, 1) := by decide +kernel
theorem dX7_takesClause_27 : decode cX7_takesClause 27 = .ok (.aload_n 0, 1) := by decide +kernel
theorem dX7_takesClause_28 : decode cX7_takesClause 28 = .ok (.getfield 62, 3) := by decide +kernel
theorem dX7_takesClause_31 : decode cX7_takesClause 31 = .ok (.iload_n 1, 1) := by decide +kernel
theorem dX7_takesClause_32 : decode cX7_takesClause 32 = .ok (.iaload, 1) := by decide +kernel
theorem dX7_takesClause_33 : decode cX7_takesClause 33 = .ok (.iconst 1, 1) := by decide +kernel
theorem dX7_takesClause_34 : decode cX7_takesClause 34 = .ok (.if_icmp .gt 20, 3) := by decide +kernel
theorem dX7_takesClause_37 : decode cX7_takesClause 37 = .ok (.aload_n 0, 1) := by decide +kernel
theorem dX7_takesClause_38 : decode cX7_takesClause 38 = .ok (.bipush 32, 2) := by decide +kernel
theorem dX7_takesClause_40 : decode cX7_takesClause 40 = .ok (.invokevirtual 228, 3) := by decide +kernel
theorem dX7_takesClause_43 : decode cX7_takesClause 43 = .ok (.ifCond .eq 15, 3) := by decide +kernel
theorem dX7_takesClause_46 : decode cX7_takesClause 46 = .ok (.aload_n 0, 1) := by decide +kernel
theorem dX7_takesClause_47 : decode cX7_takesClause 47 = .ok (.iload_n 1, 1) := by decide +kernel
theorem dX7_takesClause_48 : decode cX7_takesClause 48 = .ok (.invokevirtual 265, 3) := by decide +kernel
theorem dX7_takesClause_51 : decode cX7_takesClause 51 = .ok (.ifCond .eq 7, 3) := by decide +kernel
theorem dX7_takesClause_54 : decode cX7_takesClause 54 = .ok (.iconst 1, 1) := by decide +kernel
theorem dX7_takesClause_55 : decode cX7_takesClause 55 = .ok (.goto 4, 3) := by decide +kernel
theorem dX7_takesClause_58 : decode cX7_takesClause 58 = .ok (.iconst 0, 1) := by decide +kernel
theorem dX7_takesClause_59 : decode cX7_takesClause 59 = .ok (.ireturn, 1) := by decide +kernel
theorem dX7_goesText_0 : decode cX7_goesText 0 = .ok (.aload_n 0, 1) := by decide +kernel
theorem dX7_goesText_1 : decode cX7_goesText 1 = .ok (.iconst 0, 1) := by decide +kernel
theorem dX7_goesText_2 : decode cX7_goesText 2 = .ok (.putfield 50, 3) := by decide +kernel
theorem dX7_goesText_5 : decode cX7_goesText 5 = .ok (.aload_n 0, 1) := by decide +kernel
theorem dX7_goesText_6 : decode cX7_goesText 6 = .ok (.bipush 100, 2) := by decide +kernel
theorem dX7_goesText_8 : decode cX7_goesText 8 = .ok (.iload_n 1, 1) := by decide +kernel
theorem dX7_goesText_9 : decode cX7_goesText 9 = .ok (.imul, 1) := by decide +kernel
theorem dX7_goesText_10 : decode cX7_goesText 10 = .ok (.putfield 80, 3) := by decide +kernel
theorem dX7_goesText_13 : decode cX7_goesText 13 = .ok (.iconst 0, 1) := by decide +kernel
theorem dX7_goesText_14 : decode cX7_goesText 14 = .ok (.istore_n 2, 1) := by decide +kernel
theorem dX7_goesText_15 : decode cX7_goesText 15 = .ok (.aload_n 0, 1) := by decide +kernel
theorem dX7_goesText_16 : decode cX7_goesText 16 = .ok (.bipush 10, 2) := by decide +kernel
theorem dX7_goesText_18 : decode cX7_goesText 18 = .ok (.iload_n 1, 1) := by decide +kernel
theorem dX7_goesText_19 : decode cX7_goesText 19 = .ok (.imul, 1) := by decide +kernel
theorem dX7_goesText_20 : decode cX7_goesText 20 = .ok (.iload_n 2, 1) := by decide +kernel
theorem dX7_goesText_21 : decode cX7_goesText 21 = .ok (.iadd, 1) := by decide +kernel
theorem dX7_goesText_22 : decode cX7_goesText 22 = .ok (.invokevirtual 268, 3) := by decide +kernel
theorem dX7_goesText_25 : decode cX7_goesText 25 = .ok (.ifCond .ne 5, 3) := by decide +kernel
theorem dX7_goesText_28 : decode cX7_goesText 28 = .ok (.iconst 0, 1) := by decide +kernel
theorem dX7_goesText_29 : decode cX7_goesText 29 = .ok (.ireturn, 1) := by decide +kernel
theorem dX7_goesText_30 : decode cX7_goesText 30 = .ok (.iinc 2 1, 3) := by decide +kernel
theorem dX7_goesText_33 : decode cX7_goesText 33 = .ok (.aload_n 0, 1) := by decide +kernel
theorem dX7_goesText_34 : decode cX7_goesText 34 = .ok (.getfield 59, 3) := by decide +kernel
theorem dX7_goesText_37 : decode cX7_goesText 37 = .ok (.iload_n 1, 1) := by decide +kernel
theorem dX7_goesText_38 : decode cX7_goesText 38 = .ok (.iload_n 2, 1) := by decide +kernel
theorem dX7_goesText_39 : decode cX7_goesText 39 = .ok (.iastore, 1) := by decide +kernel
theorem dX7_goesText_40 : decode cX7_goesText 40 = .ok (.aload_n 0, 1) := by decide +kernel
theorem dX7_goesText_41 : decode cX7_goesText 41 = .ok (.getfield 50, 3) := by decide +kernel
theorem dX7_goesText_44 : decode cX7_goesText 44 = .ok (.aload_n 0, 1) := by decide +kernel
theorem dX7_goesText_45 : decode cX7_goesText 45 = .ok (.getfield 47, 3) := by decide +kernel
theorem dX7_goesText_48 : decode cX7_goesText 48 = .ok (.if_icmp .ne 5, 3) := by decide +kernel
theorem dX7_goesText_51 : decode cX7_goesText 51 = .ok (.iconst 1, 1) := by decide +kernel
theorem dX7_goesText_52 : decode cX7_goesText 52 = .ok (.ireturn, 1) := by decide +kernel
theorem dX7_goesText_53 : decode cX7_goesText 53 = .ok (.iload_n 2, 1) := by decide +kernel
theorem dX7_goesText_54 : decode cX7_goesText 54 = .ok (.bipush 10, 2) := by decide +kernel
theorem dX7_goesText_56 : decode cX7_goesText 56 = .ok (.if_icmp .eq 12, 3) := by decide +kernel
theorem dX7_goesText_59 : decode cX7_goesText 59 = .ok (.aload_n 0, 1) := by decide +kernel
theorem dX7_goesText_60 : decode cX7_goesText 60 = .ok (.bipush 59, 2) := by decide +kernel
theorem dX7_goesText_62 : decode cX7_goesText 62 = .ok (.invokevirtual 228, 3) := by decide +kernel
theorem dX7_goesText_65 : decode cX7_goesText 65 = .ok (.ifCond .ne (-50), 3) := by decide +kernel
theorem dX7_goesText_68 : decode cX7_goesText 68 = .ok (.iconst 0, 1) := by decide +kernel
theorem dX7_goesText_69 : decode cX7_goesText 69 = .ok (.ireturn, 1) := by decide +kernel
theorem dX7_house_0 : decode cX7_house 0 = .ok (.aload_n 0, 1) := by decide +kernel
theorem dX7_house_1 : decode cX7_house 1 = .ok (.getfield 41, 3) := by decide +kernel
theorem dX7_house_4 : decode cX7_house 4 = .ok (.bipush 6, 2) := by decide +kernel
theorem dX7_house_6 : decode cX7_house 6 = .ok (.if_icmp .ne 6, 3) := by decide +kernel
theorem dX7_house_9 : decode cX7_house 9 = .ok (.bipush (-4), 2) := by decide +kernel
theorem dX7_house_11 : decode cX7_house 11 = .ok (.ireturn, 1) := by decide +kernel
theorem dX7_house_12 : decode cX7_house 12 = .ok (.aload_n 0, 1) := by decide +kernel
theorem dX7_house_13 : decode cX7_house 13 = .ok (.aload_n 0, 1) := by decide +kernel
theorem dX7_house_14 : decode cX7_house 14 = .ok (.getfield 41, 3) := by decide +kernel
theorem dX7_house_17 : decode cX7_house 17 = .ok (.invokevirtual 271, 3) := by decide +kernel
theorem dX7_house_20 : decode cX7_house 20 = .ok (.istore_n 1, 1) := by decide +kernel
theorem dX7_house_21 : decode cX7_house 21 = .ok (.aload_n 0, 1) := by decide +kernel
theorem dX7_house_22 : decode cX7_house 22 = .ok (.iconst 0, 1) := by decide +kernel
theorem dX7_house_23 : decode cX7_house 23 = .ok (.putfield 47, 3) := by decide +kernel
theorem dX7_house_26 : decode cX7_house 26 = .ok (.iload_n 1, 1) := by decide +kernel
theorem dX7_house_27 : decode cX7_house 27 = .ok (.ifCond .ne 11, 3) := by decide +kernel
theorem dX7_house_30 : decode cX7_house 30 = .ok (.bipush (-10), 2) := by decide +kernel
theorem dX7_house_32 : decode cX7_house 32 = .ok (.aload_n 0, 1) := by decide +kernel
theorem dX7_house_33 : decode cX7_house 33 = .ok (.getfield 50, 3) := by decide +kernel
theorem dX7_house_36 : decode cX7_house 36 = .ok (.isub, 1) := by decide +kernel
theorem dX7_house_37 : decode cX7_house 37 = .ok (.ireturn, 1) := by decide +kernel
theorem dX7_house_38 : decode cX7_house 38 = .ok (.aload_n 0, 1) := by decide +kernel
theorem dX7_house_39 : decode cX7_house 39 = .ok (.aload_n 0, 1) := by decide +kernel
theorem dX7_house_40 : decode cX7_house 40 = .ok (.getfield 41, 3) := by decide +kernel
theorem dX7_house_43 : decode cX7_house 43 = .ok (.putfield 44, 3) := by decide +kernel
theorem dX7_house_46 : decode cX7_house 46 = .ok (.aload_n 0, 1) := by decide +kernel
theorem dX7_house_47 : decode cX7_house 47 = .ok (.dup, 1) := by decide +kernel
theorem dX7_house_48 : decode cX7_house 48 = .ok (.getfield 41, 3) := by decide +kernel
theorem dX7_house_51 : decode cX7_house 51 = .ok (.iconst 1, 1) := by decide +kernel
theorem dX7_house_52 : decode cX7_house 52 = .ok (.iadd, 1) := by decide +kernel
theorem dX7_house_53 : decode cX7_house 53 = .ok (.putfield 41, 3) := by decide +kernel
theorem dX7_house_56 : decode cX7_house 56 = .ok (.aload_n 0, 1) := by decide +kernel
theorem dX7_house_57 : decode cX7_house 57 = .ok (.getfield 44, 3) := by decide +kernel
theorem dX7_house_60 : decode cX7_house 60 = .ok (.ireturn, 1) := by decide +kernel
theorem dX7_begin_0 : decode cX7_begin 0 = .ok (.aload_n 0, 1) := by decide +kernel
theorem dX7_begin_1 : decode cX7_begin 1 = .ok (.getfield 44, 3) := by decide +kernel
theorem dX7_begin_4 : decode cX7_begin 4 = .ok (.ifCond .ge 7, 3) := by decide +kernel
theorem dX7_begin_7 : decode cX7_begin 7 = .ok (.iconst 0, 1) := by decide +kernel
theorem dX7_begin_8 : decode cX7_begin 8 = .ok (.goto 10, 3) := by decide +kernel
theorem dX7_begin_11 : decode cX7_begin 11 = .ok (.bipush 10, 2) := by decide +kernel
theorem dX7_begin_13 : decode cX7_begin 13 = .ok (.aload_n 0, 1) := by decide +kernel
theorem dX7_begin_14 : decode cX7_begin 14 = .ok (.getfield 44, 3) := by decide +kernel
theorem dX7_begin_17 : decode cX7_begin 17 = .ok (.imul, 1) := by decide +kernel
theorem dX7_begin_18 : decode cX7_begin 18 = .ok (.ireturn, 1) := by decide +kernel
theorem dX7_behind_0 : decode cX7_behind 0 = .ok (.aload_n 0, 1) := by decide +kernel
theorem dX7_behind_1 : decode cX7_behind 1 = .ok (.getfield 44, 3) := by decide +kernel
theorem dX7_behind_4 : decode cX7_behind 4 = .ok (.ifCond .ge 7, 3) := by decide +kernel
theorem dX7_behind_7 : decode cX7_behind 7 = .ok (.iconst 0, 1) := by decide +kernel
theorem dX7_behind_8 : decode cX7_behind 8 = .ok (.goto 20, 3) := by decide +kernel
theorem dX7_behind_11 : decode cX7_behind 11 = .ok (.bipush 10, 2) := by decide +kernel
theorem dX7_behind_13 : decode cX7_behind 13 = .ok (.aload_n 0, 1) := by decide +kernel
theorem dX7_behind_14 : decode cX7_behind 14 = .ok (.getfield 44, 3) := by decide +kernel
theorem dX7_behind_17 : decode cX7_behind 17 = .ok (.imul, 1) := by decide +kernel
theorem dX7_behind_18 : decode cX7_behind 18 = .ok (.aload_n 0, 1) := by decide +kernel
theorem dX7_behind_19 : decode cX7_behind 19 = .ok (.getfield 59, 3) := by decide +kernel
theorem dX7_behind_22 : decode cX7_behind 22 = .ok (.aload_n 0, 1) := by decide +kernel
theorem dX7_behind_23 : decode cX7_behind 23 = .ok (.getfield 44, 3) := by decide +kernel
theorem dX7_behind_26 : decode cX7_behind 26 = .ok (.iaload, 1) := by decide +kernel
theorem dX7_behind_27 : decode cX7_behind 27 = .ok (.iadd, 1) := by decide +kernel
theorem dX7_behind_28 : decode cX7_behind 28 = .ok (.ireturn, 1) := by decide +kernel
theorem dX7_lastOf_0 : decode cX7_lastOf 0 = .ok (.iload_n 2, 1) := by decide +kernel
theorem dX7_lastOf_1 : decode cX7_lastOf 1 = .ok (.istore_n 3, 1) := by decide +kernel
theorem dX7_lastOf_2 : decode cX7_lastOf 2 = .ok (.aload_n 0, 1) := by decide +kernel
theorem dX7_lastOf_3 : decode cX7_lastOf 3 = .ok (.invokevirtual 274, 3) := by decide +kernel
theorem dX7_lastOf_6 : decode cX7_lastOf 6 = .ok (.istore 4, 2) := by decide +kernel
theorem dX7_lastOf_8 : decode cX7_lastOf 8 = .ok (.iload 4, 2) := by decide +kernel
theorem dX7_lastOf_10 : decode cX7_lastOf 10 = .ok (.aload_n 0, 1) := by decide +kernel
theorem dX7_lastOf_11 : decode cX7_lastOf 11 = .ok (.invokevirtual 277, 3) := by decide +kernel
theorem dX7_lastOf_14 : decode cX7_lastOf 14 = .ok (.if_icmp .ge 32, 3) := by decide +kernel
theorem dX7_lastOf_17 : decode cX7_lastOf 17 = .ok (.aload_n 0, 1) := by decide +kernel
theorem dX7_lastOf_18 : decode cX7_lastOf 18 = .ok (.getfield 62, 3) := by decide +kernel
theorem dX7_lastOf_21 : decode cX7_lastOf 21 = .ok (.iload 4, 2) := by decide +kernel
theorem dX7_lastOf_23 : decode cX7_lastOf 23 = .ok (.iaload, 1) := by decide +kernel
theorem dX7_lastOf_24 : decode cX7_lastOf 24 = .ok (.iload_n 1, 1) := by decide +kernel
theorem dX7_lastOf_25 : decode cX7_lastOf 25 = .ok (.if_icmp .ne 13, 3) := by decide +kernel
theorem dX7_lastOf_28 : decode cX7_lastOf 28 = .ok (.aload_n 0, 1) := by decide +kernel
theorem dX7_lastOf_29 : decode cX7_lastOf 29 = .ok (.getfield 65, 3) := by decide +kernel
theorem dX7_lastOf_32 : decode cX7_lastOf 32 = .ok (.iload 4, 2) := by decide +kernel
theorem dX7_lastOf_34 : decode cX7_lastOf 34 = .ok (.iaload, 1) := by decide +kernel
theorem dX7_lastOf_35 : decode cX7_lastOf 35 = .ok (.goto 4, 3) := by decide +kernel
theorem dX7_lastOf_38 : decode cX7_lastOf 38 = .ok (.iload_n 3, 1) := by decide +kernel
theorem dX7_lastOf_39 : decode cX7_lastOf 39 = .ok (.istore_n 3, 1) := by decide +kernel
theorem dX7_lastOf_40 : decode cX7_lastOf 40 = .ok (.iinc 4 1, 3) := by decide +kernel
theorem dX7_lastOf_43 : decode cX7_lastOf 43 = .ok (.goto (-35), 3) := by decide +kernel
theorem dX7_lastOf_46 : decode cX7_lastOf 46 = .ok (.iload_n 3, 1) := by decide +kernel
theorem dX7_lastOf_47 : decode cX7_lastOf 47 = .ok (.ireturn, 1) := by decide +kernel
theorem dX7_hasOf_0 : decode cX7_hasOf 0 = .ok (.aload_n 0, 1) := by decide +kernel
theorem dX7_hasOf_1 : decode cX7_hasOf 1 = .ok (.invokevirtual 274, 3) := by decide +kernel
theorem dX7_hasOf_4 : decode cX7_hasOf 4 = .ok (.istore_n 2, 1) := by decide +kernel
theorem dX7_hasOf_5 : decode cX7_hasOf 5 = .ok (.iload_n 2, 1) := by decide +kernel
theorem dX7_hasOf_6 : decode cX7_hasOf 6 = .ok (.aload_n 0, 1) := by decide +kernel
theorem dX7_hasOf_7 : decode cX7_hasOf 7 = .ok (.invokevirtual 277, 3) := by decide +kernel
theorem dX7_hasOf_10 : decode cX7_hasOf 10 = .ok (.if_icmp .ge 21, 3) := by decide +kernel
theorem dX7_hasOf_13 : decode cX7_hasOf 13 = .ok (.aload_n 0, 1) := by decide +kernel
theorem dX7_hasOf_14 : decode cX7_hasOf 14 = .ok (.getfield 62, 3) := by decide +kernel
theorem dX7_hasOf_17 : decode cX7_hasOf 17 = .ok (.iload_n 2, 1) := by decide +kernel
theorem dX7_hasOf_18 : decode cX7_hasOf 18 = .ok (.iaload, 1) := by decide +kernel
theorem dX7_hasOf_19 : decode cX7_hasOf 19 = .ok (.iload_n 1, 1) := by decide +kernel
theorem dX7_hasOf_20 : decode cX7_hasOf 20 = .ok (.if_icmp .ne 5, 3) := by decide +kernel
theorem dX7_hasOf_23 : decode cX7_hasOf 23 = .ok (.iconst 1, 1) := by decide +kernel
theorem dX7_hasOf_24 : decode cX7_hasOf 24 = .ok (.ireturn, 1) := by decide +kernel
theorem dX7_hasOf_25 : decode cX7_hasOf 25 = .ok (.iinc 2 1, 3) := by decide +kernel
theorem dX7_hasOf_28 : decode cX7_hasOf 28 = .ok (.goto (-23), 3) := by decide +kernel
theorem dX7_hasOf_31 : decode cX7_hasOf 31 = .ok (.iconst 0, 1) := by decide +kernel
theorem dX7_hasOf_32 : decode cX7_hasOf 32 = .ok (.ireturn, 1) := by decide +kernel
theorem dX7_factOf_0 : decode cX7_factOf 0 = .ok (.iload_n 1, 1) := by decide +kernel
theorem dX7_factOf_1 : decode cX7_factOf 1 = .ok (.tableswitch 61 0 4 #[35, 37, 44, 51, 53], 35) := by decide +kernel
theorem dX7_factOf_36 : decode cX7_factOf 36 = .ok (.iload_n 2, 1) := by decide +kernel
theorem dX7_factOf_37 : decode cX7_factOf 37 = .ok (.ireturn, 1) := by decide +kernel
theorem dX7_factOf_38 : decode cX7_factOf 38 = .ok (.aload_n 0, 1) := by decide +kernel
theorem dX7_factOf_39 : decode cX7_factOf 39 = .ok (.getfield 22, 3) := by decide +kernel
theorem dX7_factOf_42 : decode cX7_factOf 42 = .ok (.iload_n 2, 1) := by decide +kernel
theorem dX7_factOf_43 : decode cX7_factOf 43 = .ok (.iaload, 1) := by decide +kernel
theorem dX7_factOf_44 : decode cX7_factOf 44 = .ok (.ireturn, 1) := by decide +kernel
theorem dX7_factOf_45 : decode cX7_factOf 45 = .ok (.aload_n 0, 1) := by decide +kernel
theorem dX7_factOf_46 : decode cX7_factOf 46 = .ok (.getfield 29, 3) := by decide +kernel
theorem dX7_factOf_49 : decode cX7_factOf 49 = .ok (.iload_n 2, 1) := by decide +kernel
theorem dX7_factOf_50 : decode cX7_factOf 50 = .ok (.iaload, 1) := by decide +kernel
theorem dX7_factOf_51 : decode cX7_factOf 51 = .ok (.ireturn, 1) := by decide +kernel
theorem dX7_factOf_52 : decode cX7_factOf 52 = .ok (.iload_n 3, 1) := by decide +kernel
theorem dX7_factOf_53 : decode cX7_factOf 53 = .ok (.ireturn, 1) := by decide +kernel
theorem dX7_factOf_54 : decode cX7_factOf 54 = .ok (.aload_n 0, 1) := by decide +kernel
theorem dX7_factOf_55 : decode cX7_factOf 55 = .ok (.getfield 13, 3) := by decide +kernel
theorem dX7_factOf_58 : decode cX7_factOf 58 = .ok (.bipush 10, 2) := by decide +kernel
theorem dX7_factOf_60 : decode cX7_factOf 60 = .ok (.idiv, 1) := by decide +kernel
theorem dX7_factOf_61 : decode cX7_factOf 61 = .ok (.ireturn, 1) := by decide +kernel
theorem dX7_factOf_62 : decode cX7_factOf 62 = .ok (.aload_n 0, 1) := by decide +kernel
theorem dX7_factOf_63 : decode cX7_factOf 63 = .ok (.getfield 16, 3) := by decide +kernel
theorem dX7_factOf_66 : decode cX7_factOf 66 = .ok (.bipush 7, 2) := by decide +kernel
theorem dX7_factOf_68 : decode cX7_factOf 68 = .ok (.irem, 1) := by decide +kernel
theorem dX7_factOf_69 : decode cX7_factOf 69 = .ok (.ireturn, 1) := by decide +kernel
theorem dX7_holds_0 : decode cX7_holds 0 = .ok (.iconst 0, 1) := by decide +kernel
theorem dX7_holds_1 : decode cX7_holds 1 = .ok (.istore 4, 2) := by decide +kernel
theorem dX7_holds_3 : decode cX7_holds 3 = .ok (.aload_n 0, 1) := by decide +kernel
theorem dX7_holds_4 : decode cX7_holds 4 = .ok (.getfield 68, 3) := by decide +kernel
theorem dX7_holds_7 : decode cX7_holds 7 = .ok (.iload_n 1, 1) := by decide +kernel
theorem dX7_holds_8 : decode cX7_holds 8 = .ok (.iaload, 1) := by decide +kernel
theorem dX7_holds_9 : decode cX7_holds 9 = .ok (.istore 5, 2) := by decide +kernel
theorem dX7_holds_11 : decode cX7_holds 11 = .ok (.iload 5, 2) := by decide +kernel
theorem dX7_holds_13 : decode cX7_holds 13 = .ok (.aload_n 0, 1) := by decide +kernel
theorem dX7_holds_14 : decode cX7_holds 14 = .ok (.getfield 71, 3) := by decide +kernel
theorem dX7_holds_17 : decode cX7_holds 17 = .ok (.iload_n 1, 1) := by decide +kernel
theorem dX7_holds_18 : decode cX7_holds 18 = .ok (.iaload, 1) := by decide +kernel
theorem dX7_holds_19 : decode cX7_holds 19 = .ok (.if_icmp .ge 234, 3) := by decide +kernel
theorem dX7_holds_22 : decode cX7_holds 22 = .ok (.aload_n 0, 1) := by decide +kernel
theorem dX7_holds_23 : decode cX7_holds 23 = .ok (.getfield 74, 3) := by decide +kernel
theorem dX7_holds_26 : decode cX7_holds 26 = .ok (.iload 5, 2) := by decide +kernel
theorem dX7_holds_28 : decode cX7_holds 28 = .ok (.iaload, 1) := by decide +kernel
theorem dX7_holds_29 : decode cX7_holds 29 = .ok (.istore 6, 2) := by decide +kernel
theorem dX7_holds_31 : decode cX7_holds 31 = .ok (.iload 6, 2) := by decide +kernel
theorem dX7_holds_33 : decode cX7_holds 33 = .ok (.bipush (-33), 2) := by decide +kernel
theorem dX7_holds_35 : decode cX7_holds 35 = .ok (.if_icmp .ne 32, 3) := by decide +kernel
theorem dX7_holds_38 : decode cX7_holds 38 = .ok (.aload_n 0, 1) := by decide +kernel
theorem dX7_holds_39 : decode cX7_holds 39 = .ok (.getfield 92, 3) := by decide +kernel
theorem dX7_holds_42 : decode cX7_holds 42 = .ok (.iload 4, 2) := by decide +kernel
theorem dX7_holds_44 : decode cX7_holds 44 = .ok (.iconst 1, 1) := by decide +kernel
theorem dX7_holds_45 : decode cX7_holds 45 = .ok (.isub, 1) := by decide +kernel
theorem dX7_holds_46 : decode cX7_holds 46 = .ok (.aload_n 0, 1) := by decide +kernel
theorem dX7_holds_47 : decode cX7_holds 47 = .ok (.getfield 92, 3) := by decide +kernel
theorem dX7_holds_50 : decode cX7_holds 50 = .ok (.iload 4, 2) := by decide +kernel
theorem dX7_holds_52 : decode cX7_holds 52 = .ok (.iconst 1, 1) := by decide +kernel
theorem dX7_holds_53 : decode cX7_holds 53 = .ok (.isub, 1) := by decide +kernel
theorem dX7_holds_54 : decode cX7_holds 54 = .ok (.baload, 1) := by decide +kernel
theorem dX7_holds_55 : decode cX7_holds 55 = .ok (.ifCond .ne 7, 3) := by decide +kernel
theorem dX7_holds_58 : decode cX7_holds 58 = .ok (.iconst 1, 1) := by decide +kernel
theorem dX7_holds_59 : decode cX7_holds 59 = .ok (.goto 4, 3) := by decide +kernel
theorem dX7_holds_62 : decode cX7_holds 62 = .ok (.iconst 0, 1) := by decide +kernel
theorem dX7_holds_63 : decode cX7_holds 63 = .ok (.bastore, 1) := by decide +kernel
theorem dX7_holds_64 : decode cX7_holds 64 = .ok (.goto 183, 3) := by decide +kernel
theorem dX7_holds_67 : decode cX7_holds 67 = .ok (.iload 6, 2) := by decide +kernel
theorem dX7_holds_69 : decode cX7_holds 69 = .ok (.ifCond .ge 82, 3) := by decide +kernel
theorem dX7_holds_72 : decode cX7_holds 72 = .ok (.iinc 4 (-1), 3) := by decide +kernel
theorem dX7_holds_75 : decode cX7_holds 75 = .ok (.aload_n 0, 1) := by decide +kernel
theorem dX7_holds_76 : decode cX7_holds 76 = .ok (.getfield 92, 3) := by decide +kernel
theorem dX7_holds_79 : decode cX7_holds 79 = .ok (.iload 4, 2) := by decide +kernel
theorem dX7_holds_81 : decode cX7_holds 81 = .ok (.iconst 1, 1) := by decide +kernel
theorem dX7_holds_82 : decode cX7_holds 82 = .ok (.isub, 1) := by decide +kernel
theorem dX7_holds_83 : decode cX7_holds 83 = .ok (.iload 6, 2) := by decide +kernel
theorem dX7_holds_85 : decode cX7_holds 85 = .ok (.bipush (-38), 2) := by decide +kernel
theorem dX7_holds_87 : decode cX7_holds 87 = .ok (.if_icmp .ne 33, 3) := by decide +kernel
theorem dX7_holds_90 : decode cX7_holds 90 = .ok (.aload_n 0, 1) := by decide +kernel
theorem dX7_holds_91 : decode cX7_holds 91 = .ok (.getfield 92, 3) := by decide +kernel
theorem dX7_holds_94 : decode cX7_holds 94 = .ok (.iload 4, 2) := by decide +kernel
theorem dX7_holds_96 : decode cX7_holds 96 = .ok (.iconst 1, 1) := by decide +kernel
theorem dX7_holds_97 : decode cX7_holds 97 = .ok (.isub, 1) := by decide +kernel
theorem dX7_holds_98 : decode cX7_holds 98 = .ok (.baload, 1) := by decide +kernel
theorem dX7_holds_99 : decode cX7_holds 99 = .ok (.ifCond .eq 17, 3) := by decide +kernel
theorem dX7_holds_102 : decode cX7_holds 102 = .ok (.aload_n 0, 1) := by decide +kernel
theorem dX7_holds_103 : decode cX7_holds 103 = .ok (.getfield 92, 3) := by decide +kernel
theorem dX7_holds_106 : decode cX7_holds 106 = .ok (.iload 4, 2) := by decide +kernel
theorem dX7_holds_108 : decode cX7_holds 108 = .ok (.baload, 1) := by decide +kernel
theorem dX7_holds_109 : decode cX7_holds 109 = .ok (.ifCond .eq 7, 3) := by decide +kernel
theorem dX7_holds_112 : decode cX7_holds 112 = .ok (.iconst 1, 1) := by decide +kernel
theorem dX7_holds_113 : decode cX7_holds 113 = .ok (.goto 34, 3) := by decide +kernel
theorem dX7_holds_116 : decode cX7_holds 116 = .ok (.iconst 0, 1) := by decide +kernel
theorem dX7_holds_117 : decode cX7_holds 117 = .ok (.goto 30, 3) := by decide +kernel
theorem dX7_holds_120 : decode cX7_holds 120 = .ok (.aload_n 0, 1) := by decide +kernel
theorem dX7_holds_121 : decode cX7_holds 121 = .ok (.getfield 92, 3) := by decide +kernel
theorem dX7_holds_124 : decode cX7_holds 124 = .ok (.iload 4, 2) := by decide +kernel
theorem dX7_holds_126 : decode cX7_holds 126 = .ok (.iconst 1, 1) := by decide +kernel
theorem dX7_holds_127 : decode cX7_holds 127 = .ok (.isub, 1) := by decide +kernel
theorem dX7_holds_128 : decode cX7_holds 128 = .ok (.baload, 1) := by decide +kernel
theorem dX7_holds_129 : decode cX7_holds 129 = .ok (.ifCond .ne 13, 3) := by decide +kernel
theorem dX7_holds_132 : decode cX7_holds 132 = .ok (.aload_n 0, 1) := by decide +kernel
theorem dX7_holds_133 : decode cX7_holds 133 = .ok (.getfield 92, 3) := by decide +kernel
theorem dX7_holds_136 : decode cX7_holds 136 = .ok (.iload 4, 2) := by decide +kernel
theorem dX7_holds_138 : decode cX7_holds 138 = .ok (.baload, 1) := by decide +kernel
theorem dX7_holds_139 : decode cX7_holds 139 = .ok (.ifCond .eq 7, 3) := by decide +kernel
theorem dX7_holds_142 : decode cX7_holds 142 = .ok (.iconst 1, 1) := by decide +kernel
theorem dX7_holds_143 : decode cX7_holds 143 = .ok (.goto 4, 3) := by decide +kernel
theorem dX7_holds_146 : decode cX7_holds 146 = .ok (.iconst 0, 1) := by decide +kernel
theorem dX7_holds_147 : decode cX7_holds 147 = .ok (.bastore, 1) := by decide +kernel
theorem dX7_holds_148 : decode cX7_holds 148 = .ok (.goto 99, 3) := by decide +kernel
theorem dX7_holds_151 : decode cX7_holds 151 = .ok (.aload_n 0, 1) := by decide +kernel
theorem dX7_holds_152 : decode cX7_holds 152 = .ok (.iload 6, 2) := by decide +kernel
theorem dX7_holds_154 : decode cX7_holds 154 = .ok (.sipush 1000, 3) := by decide +kernel
theorem dX7_holds_157 : decode cX7_holds 157 = .ok (.idiv, 1) := by decide +kernel
theorem dX7_holds_158 : decode cX7_holds 158 = .ok (.iload_n 2, 1) := by decide +kernel
theorem dX7_holds_159 : decode cX7_holds 159 = .ok (.iload_n 3, 1) := by decide +kernel
theorem dX7_holds_160 : decode cX7_holds 160 = .ok (.invokevirtual 280, 3) := by decide +kernel
theorem dX7_holds_163 : decode cX7_holds 163 = .ok (.istore 7, 2) := by decide +kernel
theorem dX7_holds_165 : decode cX7_holds 165 = .ok (.iload 6, 2) := by decide +kernel
theorem dX7_holds_167 : decode cX7_holds 167 = .ok (.bipush 100, 2) := by decide +kernel
theorem dX7_holds_169 : decode cX7_holds 169 = .ok (.idiv, 1) := by decide +kernel
theorem dX7_holds_170 : decode cX7_holds 170 = .ok (.bipush 10, 2) := by decide +kernel
theorem dX7_holds_172 : decode cX7_holds 172 = .ok (.irem, 1) := by decide +kernel
theorem dX7_holds_173 : decode cX7_holds 173 = .ok (.istore 8, 2) := by decide +kernel
theorem dX7_holds_175 : decode cX7_holds 175 = .ok (.aload_n 0, 1) := by decide +kernel
theorem dX7_holds_176 : decode cX7_holds 176 = .ok (.getfield 92, 3) := by decide +kernel
theorem dX7_holds_179 : decode cX7_holds 179 = .ok (.iload 4, 2) := by decide +kernel
theorem dX7_holds_181 : decode cX7_holds 181 = .ok (.iload 8, 2) := by decide +kernel
theorem dX7_holds_183 : decode cX7_holds 183 = .ok (.ifCond .ne 21, 3) := by decide +kernel
theorem dX7_holds_186 : decode cX7_holds 186 = .ok (.iload 7, 2) := by decide +kernel
theorem dX7_holds_188 : decode cX7_holds 188 = .ok (.iload 6, 2) := by decide +kernel
theorem dX7_holds_190 : decode cX7_holds 190 = .ok (.bipush 100, 2) := by decide +kernel
theorem dX7_holds_192 : decode cX7_holds 192 = .ok (.irem, 1) := by decide +kernel
theorem dX7_holds_193 : decode cX7_holds 193 = .ok (.if_icmp .ge 7, 3) := by decide +kernel
theorem dX7_holds_196 : decode cX7_holds 196 = .ok (.iconst 1, 1) := by decide +kernel
theorem dX7_holds_197 : decode cX7_holds 197 = .ok (.goto 46, 3) := by decide +kernel
theorem dX7_holds_200 : decode cX7_holds 200 = .ok (.iconst 0, 1) := by decide +kernel
theorem dX7_holds_201 : decode cX7_holds 201 = .ok (.goto 42, 3) := by decide +kernel
theorem dX7_holds_204 : decode cX7_holds 204 = .ok (.iload 8, 2) := by decide +kernel
theorem dX7_holds_206 : decode cX7_holds 206 = .ok (.iconst 1, 1) := by decide +kernel
theorem dX7_holds_207 : decode cX7_holds 207 = .ok (.if_icmp .ne 21, 3) := by decide +kernel
theorem dX7_holds_210 : decode cX7_holds 210 = .ok (.iload 7, 2) := by decide +kernel
theorem dX7_holds_212 : decode cX7_holds 212 = .ok (.iload 6, 2) := by decide +kernel
theorem dX7_holds_214 : decode cX7_holds 214 = .ok (.bipush 100, 2) := by decide +kernel
theorem dX7_holds_216 : decode cX7_holds 216 = .ok (.irem, 1) := by decide +kernel
theorem dX7_holds_217 : decode cX7_holds 217 = .ok (.if_icmp .ne 7, 3) := by decide +kernel
theorem dX7_holds_220 : decode cX7_holds 220 = .ok (.iconst 1, 1) := by decide +kernel
theorem dX7_holds_221 : decode cX7_holds 221 = .ok (.goto 22, 3) := by decide +kernel
theorem dX7_holds_224 : decode cX7_holds 224 = .ok (.iconst 0, 1) := by decide +kernel
theorem dX7_holds_225 : decode cX7_holds 225 = .ok (.goto 18, 3) := by decide +kernel
theorem dX7_holds_228 : decode cX7_holds 228 = .ok (.iload 7, 2) := by decide +kernel
theorem dX7_holds_230 : decode cX7_holds 230 = .ok (.iload 6, 2) := by decide +kernel
theorem dX7_holds_232 : decode cX7_holds 232 = .ok (.bipush 100, 2) := by decide +kernel
theorem dX7_holds_234 : decode cX7_holds 234 = .ok (.irem, 1) := by decide +kernel
theorem dX7_holds_235 : decode cX7_holds 235 = .ok (.if_icmp .le 7, 3) := by decide +kernel
theorem dX7_holds_238 : decode cX7_holds 238 = .ok (.iconst 1, 1) := by decide +kernel
theorem dX7_holds_239 : decode cX7_holds 239 = .ok (.goto 4, 3) := by decide +kernel
theorem dX7_holds_242 : decode cX7_holds 242 = .ok (.iconst 0, 1) := by decide +kernel
theorem dX7_holds_243 : decode cX7_holds 243 = .ok (.bastore, 1) := by decide +kernel
theorem dX7_holds_244 : decode cX7_holds 244 = .ok (.iinc 4 1, 3) := by decide +kernel
theorem dX7_holds_247 : decode cX7_holds 247 = .ok (.iinc 5 1, 3) := by decide +kernel
theorem dX7_holds_250 : decode cX7_holds 250 = .ok (.goto (-239), 3) := by decide +kernel
theorem dX7_holds_253 : decode cX7_holds 253 = .ok (.aload_n 0, 1) := by decide +kernel
theorem dX7_holds_254 : decode cX7_holds 254 = .ok (.getfield 92, 3) := by decide +kernel
theorem dX7_holds_257 : decode cX7_holds 257 = .ok (.iconst 0, 1) := by decide +kernel
theorem dX7_holds_258 : decode cX7_holds 258 = .ok (.baload, 1) := by decide +kernel
theorem dX7_holds_259 : decode cX7_holds 259 = .ok (.ireturn, 1) := by decide +kernel
theorem dX7_sumOf_0 : decode cX7_sumOf 0 = .ok (.iconst 0, 1) := by decide +kernel
theorem dX7_sumOf_1 : decode cX7_sumOf 1 = .ok (.istore 4, 2) := by decide +kernel
theorem dX7_sumOf_3 : decode cX7_sumOf 3 = .ok (.aload_n 0, 1) := by decide +kernel
theorem dX7_sumOf_4 : decode cX7_sumOf 4 = .ok (.invokevirtual 274, 3) := by decide +kernel
theorem dX7_sumOf_7 : decode cX7_sumOf 7 = .ok (.istore 5, 2) := by decide +kernel
theorem dX7_sumOf_9 : decode cX7_sumOf 9 = .ok (.iload 5, 2) := by decide +kernel
theorem dX7_sumOf_11 : decode cX7_sumOf 11 = .ok (.aload_n 0, 1) := by decide +kernel
theorem dX7_sumOf_12 : decode cX7_sumOf 12 = .ok (.invokevirtual 277, 3) := by decide +kernel
theorem dX7_sumOf_15 : decode cX7_sumOf 15 = .ok (.if_icmp .ge 47, 3) := by decide +kernel
theorem dX7_sumOf_18 : decode cX7_sumOf 18 = .ok (.iload 4, 2) := by decide +kernel
theorem dX7_sumOf_20 : decode cX7_sumOf 20 = .ok (.aload_n 0, 1) := by decide +kernel
theorem dX7_sumOf_21 : decode cX7_sumOf 21 = .ok (.getfield 62, 3) := by decide +kernel
theorem dX7_sumOf_24 : decode cX7_sumOf 24 = .ok (.iload 5, 2) := by decide +kernel
theorem dX7_sumOf_26 : decode cX7_sumOf 26 = .ok (.iaload, 1) := by decide +kernel
theorem dX7_sumOf_27 : decode cX7_sumOf 27 = .ok (.iload_n 1, 1) := by decide +kernel
theorem dX7_sumOf_28 : decode cX7_sumOf 28 = .ok (.if_icmp .ne 24, 3) := by decide +kernel
theorem dX7_sumOf_31 : decode cX7_sumOf 31 = .ok (.aload_n 0, 1) := by decide +kernel
theorem dX7_sumOf_32 : decode cX7_sumOf 32 = .ok (.iload 5, 2) := by decide +kernel
theorem dX7_sumOf_34 : decode cX7_sumOf 34 = .ok (.iload_n 2, 1) := by decide +kernel
theorem dX7_sumOf_35 : decode cX7_sumOf 35 = .ok (.iload_n 3, 1) := by decide +kernel
theorem dX7_sumOf_36 : decode cX7_sumOf 36 = .ok (.invokevirtual 284, 3) := by decide +kernel
theorem dX7_sumOf_39 : decode cX7_sumOf 39 = .ok (.ifCond .eq 13, 3) := by decide +kernel
theorem dX7_sumOf_42 : decode cX7_sumOf 42 = .ok (.aload_n 0, 1) := by decide +kernel
theorem dX7_sumOf_43 : decode cX7_sumOf 43 = .ok (.getfield 65, 3) := by decide +kernel
theorem dX7_sumOf_46 : decode cX7_sumOf 46 = .ok (.iload 5, 2) := by decide +kernel
theorem dX7_sumOf_48 : decode cX7_sumOf 48 = .ok (.iaload, 1) := by decide +kernel
theorem dX7_sumOf_49 : decode cX7_sumOf 49 = .ok (.goto 4, 3) := by decide +kernel
theorem dX7_sumOf_52 : decode cX7_sumOf 52 = .ok (.iconst 0, 1) := by decide +kernel
theorem dX7_sumOf_53 : decode cX7_sumOf 53 = .ok (.iadd, 1) := by decide +kernel
theorem dX7_sumOf_54 : decode cX7_sumOf 54 = .ok (.istore 4, 2) := by decide +kernel
theorem dX7_sumOf_56 : decode cX7_sumOf 56 = .ok (.iinc 5 1, 3) := by decide +kernel
theorem dX7_sumOf_59 : decode cX7_sumOf 59 = .ok (.goto (-50), 3) := by decide +kernel
theorem dX7_sumOf_62 : decode cX7_sumOf 62 = .ok (.iload 4, 2) := by decide +kernel
theorem dX7_sumOf_64 : decode cX7_sumOf 64 = .ok (.ireturn, 1) := by decide +kernel
theorem dX7_worthOf_0 : decode cX7_worthOf 0 = .ok (.aload_n 0, 1) := by decide +kernel
theorem dX7_worthOf_1 : decode cX7_worthOf 1 = .ok (.iconst 0, 1) := by decide +kernel
theorem dX7_worthOf_2 : decode cX7_worthOf 2 = .ok (.invokevirtual 287, 3) := by decide +kernel
theorem dX7_worthOf_5 : decode cX7_worthOf 5 = .ok (.ifCond .eq 13, 3) := by decide +kernel
theorem dX7_worthOf_8 : decode cX7_worthOf 8 = .ok (.aload_n 0, 1) := by decide +kernel
theorem dX7_worthOf_9 : decode cX7_worthOf 9 = .ok (.iconst 0, 1) := by decide +kernel
theorem dX7_worthOf_10 : decode cX7_worthOf 10 = .ok (.iload_n 1, 1) := by decide +kernel
theorem dX7_worthOf_11 : decode cX7_worthOf 11 = .ok (.iload_n 2, 1) := by decide +kernel
theorem dX7_worthOf_12 : decode cX7_worthOf 12 = .ok (.invokevirtual 290, 3) := by decide +kernel
theorem dX7_worthOf_15 : decode cX7_worthOf 15 = .ok (.goto 4, 3) := by decide +kernel
theorem dX7_worthOf_18 : decode cX7_worthOf 18 = .ok (.iconst 1, 1) := by decide +kernel
theorem dX7_worthOf_19 : decode cX7_worthOf 19 = .ok (.ireturn, 1) := by decide +kernel
theorem dX7_costOf_0 : decode cX7_costOf 0 = .ok (.aload_n 0, 1) := by decide +kernel
theorem dX7_costOf_1 : decode cX7_costOf 1 = .ok (.getfield 96, 3) := by decide +kernel
theorem dX7_costOf_4 : decode cX7_costOf 4 = .ok (.ifCond .eq 7, 3) := by decide +kernel
theorem dX7_costOf_7 : decode cX7_costOf 7 = .ok (.iconst 0, 1) := by decide +kernel
theorem dX7_costOf_8 : decode cX7_costOf 8 = .ok (.goto 22, 3) := by decide +kernel
theorem dX7_costOf_11 : decode cX7_costOf 11 = .ok (.aload_n 0, 1) := by decide +kernel
theorem dX7_costOf_12 : decode cX7_costOf 12 = .ok (.iconst 1, 1) := by decide +kernel
theorem dX7_costOf_13 : decode cX7_costOf 13 = .ok (.invokevirtual 287, 3) := by decide +kernel
theorem dX7_costOf_16 : decode cX7_costOf 16 = .ok (.ifCond .eq 13, 3) := by decide +kernel
theorem dX7_costOf_19 : decode cX7_costOf 19 = .ok (.aload_n 0, 1) := by decide +kernel
theorem dX7_costOf_20 : decode cX7_costOf 20 = .ok (.iconst 1, 1) := by decide +kernel
theorem dX7_costOf_21 : decode cX7_costOf 21 = .ok (.iload_n 1, 1) := by decide +kernel
theorem dX7_costOf_22 : decode cX7_costOf 22 = .ok (.iload_n 2, 1) := by decide +kernel
theorem dX7_costOf_23 : decode cX7_costOf 23 = .ok (.invokevirtual 290, 3) := by decide +kernel
theorem dX7_costOf_26 : decode cX7_costOf 26 = .ok (.goto 4, 3) := by decide +kernel
theorem dX7_costOf_29 : decode cX7_costOf 29 = .ok (.iconst 5, 1) := by decide +kernel
theorem dX7_costOf_30 : decode cX7_costOf 30 = .ok (.ireturn, 1) := by decide +kernel
theorem dX7_lawNow_0 : decode cX7_lawNow 0 = .ok (.aload_n 0, 1) := by decide +kernel
theorem dX7_lawNow_1 : decode cX7_lawNow 1 = .ok (.getfield 100, 3) := by decide +kernel
theorem dX7_lawNow_4 : decode cX7_lawNow 4 = .ok (.ifCond .ge 14, 3) := by decide +kernel
theorem dX7_lawNow_7 : decode cX7_lawNow 7 = .ok (.aload_n 0, 1) := by decide +kernel
theorem dX7_lawNow_8 : decode cX7_lawNow 8 = .ok (.iconst 3, 1) := by decide +kernel
theorem dX7_lawNow_9 : decode cX7_lawNow 9 = .ok (.iconst 0, 1) := by decide +kernel
theorem dX7_lawNow_10 : decode cX7_lawNow 10 = .ok (.invokevirtual 293, 3) := by decide +kernel
theorem dX7_lawNow_13 : decode cX7_lawNow 13 = .ok (.iconst 3, 1) := by decide +kernel
theorem dX7_lawNow_14 : decode cX7_lawNow 14 = .ok (.irem, 1) := by decide +kernel
theorem dX7_lawNow_15 : decode cX7_lawNow 15 = .ok (.goto 7, 3) := by decide +kernel
theorem dX7_lawNow_18 : decode cX7_lawNow 18 = .ok (.aload_n 0, 1) := by decide +kernel
theorem dX7_lawNow_19 : decode cX7_lawNow 19 = .ok (.getfield 100, 3) := by decide +kernel
theorem dX7_lawNow_22 : decode cX7_lawNow 22 = .ok (.ireturn, 1) := by decide +kernel
theorem dX7_scaleNow_0 : decode cX7_scaleNow 0 = .ok (.aload_n 0, 1) := by decide +kernel
theorem dX7_scaleNow_1 : decode cX7_scaleNow 1 = .ok (.iconst 4, 1) := by decide +kernel
theorem dX7_scaleNow_2 : decode cX7_scaleNow 2 = .ok (.iconst 1, 1) := by decide +kernel
theorem dX7_scaleNow_3 : decode cX7_scaleNow 3 = .ok (.invokevirtual 293, 3) := by decide +kernel
theorem dX7_scaleNow_6 : decode cX7_scaleNow 6 = .ok (.istore_n 1, 1) := by decide +kernel
theorem dX7_scaleNow_7 : decode cX7_scaleNow 7 = .ok (.iload_n 1, 1) := by decide +kernel
theorem dX7_scaleNow_8 : decode cX7_scaleNow 8 = .ok (.ifCond .ne 7, 3) := by decide +kernel
theorem dX7_scaleNow_11 : decode cX7_scaleNow 11 = .ok (.iconst 1, 1) := by decide +kernel
theorem dX7_scaleNow_12 : decode cX7_scaleNow 12 = .ok (.goto 4, 3) := by decide +kernel
theorem dX7_scaleNow_15 : decode cX7_scaleNow 15 = .ok (.iload_n 1, 1) := by decide +kernel
theorem dX7_scaleNow_16 : decode cX7_scaleNow 16 = .ok (.ireturn, 1) := by decide +kernel
theorem dX7_isAhead_0 : decode cX7_isAhead 0 = .ok (.aload_n 0, 1) := by decide +kernel
theorem dX7_isAhead_1 : decode cX7_isAhead 1 = .ok (.getfield 106, 3) := by decide +kernel
theorem dX7_isAhead_4 : decode cX7_isAhead 4 = .ok (.iload_n 1, 1) := by decide +kernel
theorem dX7_isAhead_5 : decode cX7_isAhead 5 = .ok (.iaload, 1) := by decide +kernel
theorem dX7_isAhead_6 : decode cX7_isAhead 6 = .ok (.iload_n 3, 1) := by decide +kernel
theorem dX7_isAhead_7 : decode cX7_isAhead 7 = .ok (.idiv, 1) := by decide +kernel
theorem dX7_isAhead_8 : decode cX7_isAhead 8 = .ok (.aload_n 0, 1) := by decide +kernel
theorem dX7_isAhead_9 : decode cX7_isAhead 9 = .ok (.getfield 106, 3) := by decide +kernel
theorem dX7_isAhead_12 : decode cX7_isAhead 12 = .ok (.iload_n 2, 1) := by decide +kernel
theorem dX7_isAhead_13 : decode cX7_isAhead 13 = .ok (.iaload, 1) := by decide +kernel
theorem dX7_isAhead_14 : decode cX7_isAhead 14 = .ok (.iload_n 3, 1) := by decide +kernel
theorem dX7_isAhead_15 : decode cX7_isAhead 15 = .ok (.idiv, 1) := by decide +kernel
theorem dX7_isAhead_16 : decode cX7_isAhead 16 = .ok (.if_icmp .lt 27, 3) := by decide +kernel
theorem dX7_isAhead_19 : decode cX7_isAhead 19 = .ok (.aload_n 0, 1) := by decide +kernel
theorem dX7_isAhead_20 : decode cX7_isAhead 20 = .ok (.getfield 106, 3) := by decide +kernel
theorem dX7_isAhead_23 : decode cX7_isAhead 23 = .ok (.iload_n 1, 1) := by decide +kernel
theorem dX7_isAhead_24 : decode cX7_isAhead 24 = .ok (.iaload, 1) := by decide +kernel
theorem dX7_isAhead_25 : decode cX7_isAhead 25 = .ok (.iload_n 3, 1) := by decide +kernel
theorem dX7_isAhead_26 : decode cX7_isAhead 26 = .ok (.idiv, 1) := by decide +kernel
theorem dX7_isAhead_27 : decode cX7_isAhead 27 = .ok (.aload_n 0, 1) := by decide +kernel
theorem dX7_isAhead_28 : decode cX7_isAhead 28 = .ok (.getfield 106, 3) := by decide +kernel
theorem dX7_isAhead_31 : decode cX7_isAhead 31 = .ok (.iload_n 2, 1) := by decide +kernel
theorem dX7_isAhead_32 : decode cX7_isAhead 32 = .ok (.iaload, 1) := by decide +kernel
theorem dX7_isAhead_33 : decode cX7_isAhead 33 = .ok (.iload_n 3, 1) := by decide +kernel
theorem dX7_isAhead_34 : decode cX7_isAhead 34 = .ok (.idiv, 1) := by decide +kernel
theorem dX7_isAhead_35 : decode cX7_isAhead 35 = .ok (.if_icmp .ne 12, 3) := by decide +kernel
theorem dX7_isAhead_38 : decode cX7_isAhead 38 = .ok (.iload_n 1, 1) := by decide +kernel
theorem dX7_isAhead_39 : decode cX7_isAhead 39 = .ok (.iload_n 2, 1) := by decide +kernel
theorem dX7_isAhead_40 : decode cX7_isAhead 40 = .ok (.if_icmp .ge 7, 3) := by decide +kernel
theorem dX7_isAhead_43 : decode cX7_isAhead 43 = .ok (.iconst 1, 1) := by decide +kernel
theorem dX7_isAhead_44 : decode cX7_isAhead 44 = .ok (.goto 4, 3) := by decide +kernel
theorem dX7_isAhead_47 : decode cX7_isAhead 47 = .ok (.iconst 0, 1) := by decide +kernel
theorem dX7_isAhead_48 : decode cX7_isAhead 48 = .ok (.ireturn, 1) := by decide +kernel
theorem dX7_bakerNow_0 : decode cX7_bakerNow 0 = .ok (.aload_n 0, 1) := by decide +kernel
theorem dX7_bakerNow_1 : decode cX7_bakerNow 1 = .ok (.invokevirtual 297, 3) := by decide +kernel
theorem dX7_bakerNow_4 : decode cX7_bakerNow 4 = .ok (.istore_n 1, 1) := by decide +kernel
theorem dX7_bakerNow_5 : decode cX7_bakerNow 5 = .ok (.aload_n 0, 1) := by decide +kernel
theorem dX7_bakerNow_6 : decode cX7_bakerNow 6 = .ok (.invokevirtual 300, 3) := by decide +kernel
theorem dX7_bakerNow_9 : decode cX7_bakerNow 9 = .ok (.istore_n 2, 1) := by decide +kernel
theorem dX7_bakerNow_10 : decode cX7_bakerNow 10 = .ok (.iconst (-1), 1) := by decide +kernel
theorem dX7_bakerNow_11 : decode cX7_bakerNow 11 = .ok (.istore_n 3, 1) := by decide +kernel
theorem dX7_bakerNow_12 : decode cX7_bakerNow 12 = .ok (.iconst 0, 1) := by decide +kernel
theorem dX7_bakerNow_13 : decode cX7_bakerNow 13 = .ok (.istore 4, 2) := by decide +kernel
theorem dX7_bakerNow_15 : decode cX7_bakerNow 15 = .ok (.iload 4, 2) := by decide +kernel
theorem dX7_bakerNow_17 : decode cX7_bakerNow 17 = .ok (.aload_n 0, 1) := by decide +kernel
theorem dX7_bakerNow_18 : decode cX7_bakerNow 18 = .ok (.getfield 7, 3) := by decide +kernel
theorem dX7_bakerNow_21 : decode cX7_bakerNow 21 = .ok (.if_icmp .ge 137, 3) := by decide +kernel
theorem dX7_bakerNow_24 : decode cX7_bakerNow 24 = .ok (.iload_n 2, 1) := by decide +kernel
theorem dX7_bakerNow_25 : decode cX7_bakerNow 25 = .ok (.iconst 2, 1) := by decide +kernel
theorem dX7_bakerNow_26 : decode cX7_bakerNow 26 = .ok (.if_icmp .ne 70, 3) := by decide +kernel
theorem dX7_bakerNow_29 : decode cX7_bakerNow 29 = .ok (.iconst 0, 1) := by decide +kernel
theorem dX7_bakerNow_30 : decode cX7_bakerNow 30 = .ok (.istore 5, 2) := by decide +kernel
theorem dX7_bakerNow_32 : decode cX7_bakerNow 32 = .ok (.iconst 0, 1) := by decide +kernel
theorem dX7_bakerNow_33 : decode cX7_bakerNow 33 = .ok (.istore 6, 2) := by decide +kernel
theorem dX7_bakerNow_35 : decode cX7_bakerNow 35 = .ok (.iload 6, 2) := by decide +kernel
theorem dX7_bakerNow_37 : decode cX7_bakerNow 37 = .ok (.aload_n 0, 1) := by decide +kernel
theorem dX7_bakerNow_38 : decode cX7_bakerNow 38 = .ok (.getfield 7, 3) := by decide +kernel
theorem dX7_bakerNow_41 : decode cX7_bakerNow 41 = .ok (.if_icmp .ge 38, 3) := by decide +kernel
theorem dX7_bakerNow_44 : decode cX7_bakerNow 44 = .ok (.iload 5, 2) := by decide +kernel
theorem dX7_bakerNow_46 : decode cX7_bakerNow 46 = .ok (.iload 6, 2) := by decide +kernel
theorem dX7_bakerNow_48 : decode cX7_bakerNow 48 = .ok (.iload 4, 2) := by decide +kernel
theorem dX7_bakerNow_50 : decode cX7_bakerNow 50 = .ok (.if_icmp .eq 19, 3) := by decide +kernel
theorem dX7_bakerNow_53 : decode cX7_bakerNow 53 = .ok (.aload_n 0, 1) := by decide +kernel
theorem dX7_bakerNow_54 : decode cX7_bakerNow 54 = .ok (.iload 6, 2) := by decide +kernel
theorem dX7_bakerNow_56 : decode cX7_bakerNow 56 = .ok (.iload 4, 2) := by decide +kernel
theorem dX7_bakerNow_58 : decode cX7_bakerNow 58 = .ok (.iload_n 1, 1) := by decide +kernel
theorem dX7_bakerNow_59 : decode cX7_bakerNow 59 = .ok (.invokevirtual 303, 3) := by decide +kernel
theorem dX7_bakerNow_62 : decode cX7_bakerNow 62 = .ok (.ifCond .eq 7, 3) := by decide +kernel
theorem dX7_bakerNow_65 : decode cX7_bakerNow 65 = .ok (.iconst 1, 1) := by decide +kernel
theorem dX7_bakerNow_66 : decode cX7_bakerNow 66 = .ok (.goto 4, 3) := by decide +kernel
theorem dX7_bakerNow_69 : decode cX7_bakerNow 69 = .ok (.iconst 0, 1) := by decide +kernel
theorem dX7_bakerNow_70 : decode cX7_bakerNow 70 = .ok (.iadd, 1) := by decide +kernel
theorem dX7_bakerNow_71 : decode cX7_bakerNow 71 = .ok (.istore 5, 2) := by decide +kernel
theorem dX7_bakerNow_73 : decode cX7_bakerNow 73 = .ok (.iinc 6 1, 3) := by decide +kernel
theorem dX7_bakerNow_76 : decode cX7_bakerNow 76 = .ok (.goto (-41), 3) := by decide +kernel
theorem dX7_bakerNow_79 : decode cX7_bakerNow 79 = .ok (.iload 5, 2) := by decide +kernel
theorem dX7_bakerNow_81 : decode cX7_bakerNow 81 = .ok (.aload_n 0, 1) := by decide +kernel
theorem dX7_bakerNow_82 : decode cX7_bakerNow 82 = .ok (.getfield 7, 3) := by decide +kernel
theorem dX7_bakerNow_85 : decode cX7_bakerNow 85 = .ok (.iconst 2, 1) := by decide +kernel
theorem dX7_bakerNow_86 : decode cX7_bakerNow 86 = .ok (.idiv, 1) := by decide +kernel
theorem dX7_bakerNow_87 : decode cX7_bakerNow 87 = .ok (.if_icmp .ne 6, 3) := by decide +kernel
theorem dX7_bakerNow_90 : decode cX7_bakerNow 90 = .ok (.iload 4, 2) := by decide +kernel
theorem dX7_bakerNow_92 : decode cX7_bakerNow 92 = .ok (.ireturn, 1) := by decide +kernel
theorem dX7_bakerNow_93 : decode cX7_bakerNow 93 = .ok (.goto 59, 3) := by decide +kernel
theorem dX7_bakerNow_96 : decode cX7_bakerNow 96 = .ok (.iload_n 3, 1) := by decide +kernel
theorem dX7_bakerNow_97 : decode cX7_bakerNow 97 = .ok (.ifCond .lt 52, 3) := by decide +kernel
theorem dX7_bakerNow_100 : decode cX7_bakerNow 100 = .ok (.iload_n 2, 1) := by decide +kernel
theorem dX7_bakerNow_101 : decode cX7_bakerNow 101 = .ok (.ifCond .ne 23, 3) := by decide +kernel
theorem dX7_bakerNow_104 : decode cX7_bakerNow 104 = .ok (.aload_n 0, 1) := by decide +kernel
theorem dX7_bakerNow_105 : decode cX7_bakerNow 105 = .ok (.getfield 106, 3) := by decide +kernel
theorem dX7_bakerNow_108 : decode cX7_bakerNow 108 = .ok (.iload 4, 2) := by decide +kernel
theorem dX7_bakerNow_110 : decode cX7_bakerNow 110 = .ok (.iaload, 1) := by decide +kernel
theorem dX7_bakerNow_111 : decode cX7_bakerNow 111 = .ok (.iload_n 1, 1) := by decide +kernel
theorem dX7_bakerNow_112 : decode cX7_bakerNow 112 = .ok (.idiv, 1) := by decide +kernel
theorem dX7_bakerNow_113 : decode cX7_bakerNow 113 = .ok (.aload_n 0, 1) := by decide +kernel
theorem dX7_bakerNow_114 : decode cX7_bakerNow 114 = .ok (.getfield 106, 3) := by decide +kernel
theorem dX7_bakerNow_117 : decode cX7_bakerNow 117 = .ok (.iload_n 3, 1) := by decide +kernel
theorem dX7_bakerNow_118 : decode cX7_bakerNow 118 = .ok (.iaload, 1) := by decide +kernel
theorem dX7_bakerNow_119 : decode cX7_bakerNow 119 = .ok (.iload_n 1, 1) := by decide +kernel
theorem dX7_bakerNow_120 : decode cX7_bakerNow 120 = .ok (.idiv, 1) := by decide +kernel
theorem dX7_bakerNow_121 : decode cX7_bakerNow 121 = .ok (.if_icmp .lt 28, 3) := by decide +kernel
theorem dX7_bakerNow_124 : decode cX7_bakerNow 124 = .ok (.iload_n 2, 1) := by decide +kernel
theorem dX7_bakerNow_125 : decode cX7_bakerNow 125 = .ok (.iconst 1, 1) := by decide +kernel
theorem dX7_bakerNow_126 : decode cX7_bakerNow 126 = .ok (.if_icmp .ne 26, 3) := by decide +kernel
theorem dX7_bakerNow_129 : decode cX7_bakerNow 129 = .ok (.aload_n 0, 1) := by decide +kernel
theorem dX7_bakerNow_130 : decode cX7_bakerNow 130 = .ok (.getfield 106, 3) := by decide +kernel
theorem dX7_bakerNow_133 : decode cX7_bakerNow 133 = .ok (.iload 4, 2) := by decide +kernel
theorem dX7_bakerNow_135 : decode cX7_bakerNow 135 = .ok (.iaload, 1) := by decide +kernel
theorem dX7_bakerNow_136 : decode cX7_bakerNow 136 = .ok (.iload_n 1, 1) := by decide +kernel
theorem dX7_bakerNow_137 : decode cX7_bakerNow 137 = .ok (.idiv, 1) := by decide +kernel
theorem dX7_bakerNow_138 : decode cX7_bakerNow 138 = .ok (.aload_n 0, 1) := by decide +kernel
theorem dX7_bakerNow_139 : decode cX7_bakerNow 139 = .ok (.getfield 106, 3) := by decide +kernel
theorem dX7_bakerNow_142 : decode cX7_bakerNow 142 = .ok (.iload_n 3, 1) := by decide +kernel
theorem dX7_bakerNow_143 : decode cX7_bakerNow 143 = .ok (.iaload, 1) := by decide +kernel
theorem dX7_bakerNow_144 : decode cX7_bakerNow 144 = .ok (.iload_n 1, 1) := by decide +kernel
theorem dX7_bakerNow_145 : decode cX7_bakerNow 145 = .ok (.idiv, 1) := by decide +kernel
theorem dX7_bakerNow_146 : decode cX7_bakerNow 146 = .ok (.if_icmp .le 6, 3) := by decide +kernel
theorem dX7_bakerNow_149 : decode cX7_bakerNow 149 = .ok (.iload 4, 2) := by decide +kernel
theorem dX7_bakerNow_151 : decode cX7_bakerNow 151 = .ok (.istore_n 3, 1) := by decide +kernel
theorem dX7_bakerNow_152 : decode cX7_bakerNow 152 = .ok (.iinc 4 1, 3) := by decide +kernel
theorem dX7_bakerNow_155 : decode cX7_bakerNow 155 = .ok (.goto (-140), 3) := by decide +kernel
theorem dX7_bakerNow_158 : decode cX7_bakerNow 158 = .ok (.iload_n 3, 1) := by decide +kernel
theorem dX7_bakerNow_159 : decode cX7_bakerNow 159 = .ok (.ireturn, 1) := by decide +kernel
theorem dX7_laySupper_0 : decode cX7_laySupper 0 = .ok (.aload_n 0, 1) := by decide +kernel
theorem dX7_laySupper_1 : decode cX7_laySupper 1 = .ok (.getfield 13, 3) := by decide +kernel
theorem dX7_laySupper_4 : decode cX7_laySupper 4 = .ok (.istore_n 1, 1) := by decide +kernel
theorem dX7_laySupper_5 : decode cX7_laySupper 5 = .ok (.iconst 0, 1) := by decide +kernel
theorem dX7_laySupper_6 : decode cX7_laySupper 6 = .ok (.istore_n 2, 1) := by decide +kernel
theorem dX7_laySupper_7 : decode cX7_laySupper 7 = .ok (.iload_n 2, 1) := by decide +kernel
theorem dX7_laySupper_8 : decode cX7_laySupper 8 = .ok (.aload_n 0, 1) := by decide +kernel
theorem dX7_laySupper_9 : decode cX7_laySupper 9 = .ok (.getfield 7, 3) := by decide +kernel
theorem dX7_laySupper_12 : decode cX7_laySupper 12 = .ok (.if_icmp .ge 44, 3) := by decide +kernel
theorem dX7_laySupper_15 : decode cX7_laySupper 15 = .ok (.aload_n 0, 1) := by decide +kernel
theorem dX7_laySupper_16 : decode cX7_laySupper 16 = .ok (.getfield 106, 3) := by decide +kernel
theorem dX7_laySupper_19 : decode cX7_laySupper 19 = .ok (.iload_n 2, 1) := by decide +kernel
theorem dX7_laySupper_20 : decode cX7_laySupper 20 = .ok (.aload_n 0, 1) := by decide +kernel
theorem dX7_laySupper_21 : decode cX7_laySupper 21 = .ok (.getfield 103, 3) := by decide +kernel
theorem dX7_laySupper_24 : decode cX7_laySupper 24 = .ok (.iload_n 2, 1) := by decide +kernel
theorem dX7_laySupper_25 : decode cX7_laySupper 25 = .ok (.iaload, 1) := by decide +kernel
theorem dX7_laySupper_26 : decode cX7_laySupper 26 = .ok (.iload_n 1, 1) := by decide +kernel
theorem dX7_laySupper_27 : decode cX7_laySupper 27 = .ok (.if_icmp .ge 12, 3) := by decide +kernel
theorem dX7_laySupper_30 : decode cX7_laySupper 30 = .ok (.aload_n 0, 1) := by decide +kernel
theorem dX7_laySupper_31 : decode cX7_laySupper 31 = .ok (.getfield 103, 3) := by decide +kernel
theorem dX7_laySupper_34 : decode cX7_laySupper 34 = .ok (.iload_n 2, 1) := by decide +kernel
theorem dX7_laySupper_35 : decode cX7_laySupper 35 = .ok (.iaload, 1) := by decide +kernel
theorem dX7_laySupper_36 : decode cX7_laySupper 36 = .ok (.goto 4, 3) := by decide +kernel
theorem dX7_laySupper_39 : decode cX7_laySupper 39 = .ok (.iload_n 1, 1) := by decide +kernel
theorem dX7_laySupper_40 : decode cX7_laySupper 40 = .ok (.iastore, 1) := by decide +kernel
theorem dX7_laySupper_41 : decode cX7_laySupper 41 = .ok (.iload_n 1, 1) := by decide +kernel
theorem dX7_laySupper_42 : decode cX7_laySupper 42 = .ok (.aload_n 0, 1) := by decide +kernel
theorem dX7_laySupper_43 : decode cX7_laySupper 43 = .ok (.getfield 106, 3) := by decide +kernel
theorem dX7_laySupper_46 : decode cX7_laySupper 46 = .ok (.iload_n 2, 1) := by decide +kernel
theorem dX7_laySupper_47 : decode cX7_laySupper 47 = .ok (.iaload, 1) := by decide +kernel
theorem dX7_laySupper_48 : decode cX7_laySupper 48 = .ok (.isub, 1) := by decide +kernel
theorem dX7_laySupper_49 : decode cX7_laySupper 49 = .ok (.istore_n 1, 1) := by decide +kernel
theorem dX7_laySupper_50 : decode cX7_laySupper 50 = .ok (.iinc 2 1, 3) := by decide +kernel
theorem dX7_laySupper_53 : decode cX7_laySupper 53 = .ok (.goto (-46), 3) := by decide +kernel
theorem dX7_laySupper_56 : decode cX7_laySupper 56 = .ok (.aload_n 0, 1) := by decide +kernel
theorem dX7_laySupper_57 : decode cX7_laySupper 57 = .ok (.aload_n 0, 1) := by decide +kernel
theorem dX7_laySupper_58 : decode cX7_laySupper 58 = .ok (.invokevirtual 306, 3) := by decide +kernel
theorem dX7_laySupper_61 : decode cX7_laySupper 61 = .ok (.putfield 112, 3) := by decide +kernel
theorem dX7_laySupper_64 : decode cX7_laySupper 64 = .ok (.iconst 0, 1) := by decide +kernel
theorem dX7_laySupper_65 : decode cX7_laySupper 65 = .ok (.istore_n 2, 1) := by decide +kernel
theorem dX7_laySupper_66 : decode cX7_laySupper 66 = .ok (.iload_n 2, 1) := by decide +kernel
theorem dX7_laySupper_67 : decode cX7_laySupper 67 = .ok (.aload_n 0, 1) := by decide +kernel
theorem dX7_laySupper_68 : decode cX7_laySupper 68 = .ok (.getfield 7, 3) := by decide +kernel
theorem dX7_laySupper_71 : decode cX7_laySupper 71 = .ok (.if_icmp .ge 72, 3) := by decide +kernel
theorem dX7_laySupper_74 : decode cX7_laySupper 74 = .ok (.aload_n 0, 1) := by decide +kernel
theorem dX7_laySupper_75 : decode cX7_laySupper 75 = .ok (.getfield 109, 3) := by decide +kernel
theorem dX7_laySupper_78 : decode cX7_laySupper 78 = .ok (.iload_n 2, 1) := by decide +kernel
theorem dX7_laySupper_79 : decode cX7_laySupper 79 = .ok (.iload_n 2, 1) := by decide +kernel
theorem dX7_laySupper_80 : decode cX7_laySupper 80 = .ok (.aload_n 0, 1) := by decide +kernel
theorem dX7_laySupper_81 : decode cX7_laySupper 81 = .ok (.getfield 112, 3) := by decide +kernel
theorem dX7_laySupper_84 : decode cX7_laySupper 84 = .ok (.if_icmp .ne 18, 3) := by decide +kernel
theorem dX7_laySupper_87 : decode cX7_laySupper 87 = .ok (.aload_n 0, 1) := by decide +kernel
theorem dX7_laySupper_88 : decode cX7_laySupper 88 = .ok (.iload_n 2, 1) := by decide +kernel
theorem dX7_laySupper_89 : decode cX7_laySupper 89 = .ok (.aload_n 0, 1) := by decide +kernel
theorem dX7_laySupper_90 : decode cX7_laySupper 90 = .ok (.getfield 106, 3) := by decide +kernel
theorem dX7_laySupper_93 : decode cX7_laySupper 93 = .ok (.iload_n 2, 1) := by decide +kernel
theorem dX7_laySupper_94 : decode cX7_laySupper 94 = .ok (.iaload, 1) := by decide +kernel
theorem dX7_laySupper_95 : decode cX7_laySupper 95 = .ok (.invokevirtual 309, 3) := by decide +kernel
theorem dX7_laySupper_98 : decode cX7_laySupper 98 = .ok (.ineg, 1) := by decide +kernel
theorem dX7_laySupper_99 : decode cX7_laySupper 99 = .ok (.goto 4, 3) := by decide +kernel
theorem dX7_laySupper_102 : decode cX7_laySupper 102 = .ok (.iconst 0, 1) := by decide +kernel
theorem dX7_laySupper_103 : decode cX7_laySupper 103 = .ok (.iastore, 1) := by decide +kernel
theorem dX7_laySupper_104 : decode cX7_laySupper 104 = .ok (.iconst 1, 1) := by decide +kernel
theorem dX7_laySupper_105 : decode cX7_laySupper 105 = .ok (.istore_n 3, 1) := by decide +kernel
theorem dX7_laySupper_106 : decode cX7_laySupper 106 = .ok (.iload_n 3, 1) := by decide +kernel
theorem dX7_laySupper_107 : decode cX7_laySupper 107 = .ok (.aload_n 0, 1) := by decide +kernel
theorem dX7_laySupper_108 : decode cX7_laySupper 108 = .ok (.getfield 106, 3) := by decide +kernel
theorem dX7_laySupper_111 : decode cX7_laySupper 111 = .ok (.iload_n 2, 1) := by decide +kernel
theorem dX7_laySupper_112 : decode cX7_laySupper 112 = .ok (.iaload, 1) := by decide +kernel
theorem dX7_laySupper_113 : decode cX7_laySupper 113 = .ok (.if_icmp .gt 24, 3) := by decide +kernel
theorem dX7_laySupper_116 : decode cX7_laySupper 116 = .ok (.aload_n 0, 1) := by decide +kernel
theorem dX7_laySupper_117 : decode cX7_laySupper 117 = .ok (.getfield 109, 3) := by decide +kernel
theorem dX7_laySupper_120 : decode cX7_laySupper 120 = .ok (.iload_n 2, 1) := by decide +kernel
theorem dX7_laySupper_121 : decode cX7_laySupper 121 = .ok (.dup2, 1) := by decide +kernel
theorem dX7_laySupper_122 : decode cX7_laySupper 122 = .ok (.iaload, 1) := by decide +kernel
theorem dX7_laySupper_123 : decode cX7_laySupper 123 = .ok (.aload_n 0, 1) := by decide +kernel
theorem dX7_laySupper_124 : decode cX7_laySupper 124 = .ok (.iload_n 2, 1) := by decide +kernel
theorem dX7_laySupper_125 : decode cX7_laySupper 125 = .ok (.iload_n 3, 1) := by decide +kernel
theorem dX7_laySupper_126 : decode cX7_laySupper 126 = .ok (.invokevirtual 312, 3) := by decide +kernel
theorem dX7_laySupper_129 : decode cX7_laySupper 129 = .ok (.iadd, 1) := by decide +kernel
theorem dX7_laySupper_130 : decode cX7_laySupper 130 = .ok (.iastore, 1) := by decide +kernel
theorem dX7_laySupper_131 : decode cX7_laySupper 131 = .ok (.iinc 3 1, 3) := by decide +kernel
theorem dX7_laySupper_134 : decode cX7_laySupper 134 = .ok (.goto (-28), 3) := by decide +kernel
theorem dX7_laySupper_137 : decode cX7_laySupper 137 = .ok (.iinc 2 1, 3) := by decide +kernel
theorem dX7_laySupper_140 : decode cX7_laySupper 140 = .ok (.goto (-74), 3) := by decide +kernel
theorem dX7_laySupper_143 : decode cX7_laySupper 143 = .ok (.return_, 1) := by decide +kernel
theorem dX7_least_0 : decode cX7_least 0 = .ok (.iload_n 1, 1) := by decide +kernel
theorem dX7_least_1 : decode cX7_least 1 = .ok (.iload_n 2, 1) := by decide +kernel
theorem dX7_least_2 : decode cX7_least 2 = .ok (.if_icmp .ge 7, 3) := by decide +kernel
theorem dX7_least_5 : decode cX7_least 5 = .ok (.iload_n 1, 1) := by decide +kernel
theorem dX7_least_6 : decode cX7_least 6 = .ok (.goto 4, 3) := by decide +kernel
theorem dX7_least_9 : decode cX7_least 9 = .ok (.iload_n 2, 1) := by decide +kernel
theorem dX7_least_10 : decode cX7_least 10 = .ok (.ireturn, 1) := by decide +kernel
theorem dX7_crumb_0 : decode cX7_crumb 0 = .ok (.aload_n 0, 1) := by decide +kernel
theorem dX7_crumb_1 : decode cX7_crumb 1 = .ok (.getfield 32, 3) := by decide +kernel
theorem dX7_crumb_4 : decode cX7_crumb 4 = .ok (.iload_n 1, 1) := by decide +kernel
theorem dX7_crumb_5 : decode cX7_crumb 5 = .ok (.ifCond .ne 12, 3) := by decide +kernel
theorem dX7_crumb_8 : decode cX7_crumb 8 = .ok (.aload_n 0, 1) := by decide +kernel
theorem dX7_crumb_9 : decode cX7_crumb 9 = .ok (.getfield 7, 3) := by decide +kernel
theorem dX7_crumb_12 : decode cX7_crumb 12 = .ok (.iconst 1, 1) := by decide +kernel
theorem dX7_crumb_13 : decode cX7_crumb 13 = .ok (.isub, 1) := by decide +kernel
theorem dX7_crumb_14 : decode cX7_crumb 14 = .ok (.goto 6, 3) := by decide +kernel
theorem dX7_crumb_17 : decode cX7_crumb 17 = .ok (.iload_n 1, 1) := by decide +kernel
theorem dX7_crumb_18 : decode cX7_crumb 18 = .ok (.iconst 1, 1) := by decide +kernel
theorem dX7_crumb_19 : decode cX7_crumb 19 = .ok (.isub, 1) := by decide +kernel
theorem dX7_crumb_20 : decode cX7_crumb 20 = .ok (.iaload, 1) := by decide +kernel
theorem dX7_crumb_21 : decode cX7_crumb 21 = .ok (.iconst 1, 1) := by decide +kernel
theorem dX7_crumb_22 : decode cX7_crumb 22 = .ok (.iadd, 1) := by decide +kernel
theorem dX7_crumb_23 : decode cX7_crumb 23 = .ok (.ireturn, 1) := by decide +kernel
theorem dX7_plainWish_0 : decode cX7_plainWish 0 = .ok (.aload_n 0, 1) := by decide +kernel
theorem dX7_plainWish_1 : decode cX7_plainWish 1 = .ok (.getfield 22, 3) := by decide +kernel
theorem dX7_plainWish_4 : decode cX7_plainWish 4 = .ok (.iload_n 1, 1) := by decide +kernel
theorem dX7_plainWish_5 : decode cX7_plainWish 5 = .ok (.iaload, 1) := by decide +kernel
theorem dX7_plainWish_6 : decode cX7_plainWish 6 = .ok (.tableswitch 136 1 6 #[38, 58, 70, 38, 94, 120], 38) := by decide +kernel
theorem dX7_plainWish_44 : decode cX7_plainWish 44 = .ok (.aload_n 0, 1) := by decide +kernel
theorem dX7_plainWish_45 : decode cX7_plainWish 45 = .ok (.bipush 9, 2) := by decide +kernel
theorem dX7_plainWish_47 : decode cX7_plainWish 47 = .ok (.aload_n 0, 1) := by decide +kernel
theorem dX7_plainWish_48 : decode cX7_plainWish 48 = .ok (.getfield 29, 3) := by decide +kernel
theorem dX7_plainWish_51 : decode cX7_plainWish 51 = .ok (.iload_n 1, 1) := by decide +kernel
theorem dX7_plainWish_52 : decode cX7_plainWish 52 = .ok (.iaload, 1) := by decide +kernel
theorem dX7_plainWish_53 : decode cX7_plainWish 53 = .ok (.aload_n 0, 1) := by decide +kernel
theorem dX7_plainWish_54 : decode cX7_plainWish 54 = .ok (.getfield 26, 3) := by decide +kernel
theorem dX7_plainWish_57 : decode cX7_plainWish 57 = .ok (.iload_n 1, 1) := by decide +kernel
theorem dX7_plainWish_58 : decode cX7_plainWish 58 = .ok (.iaload, 1) := by decide +kernel
theorem dX7_plainWish_59 : decode cX7_plainWish 59 = .ok (.iadd, 1) := by decide +kernel
theorem dX7_plainWish_60 : decode cX7_plainWish 60 = .ok (.invokevirtual 315, 3) := by decide +kernel
theorem dX7_plainWish_63 : decode cX7_plainWish 63 = .ok (.ireturn, 1) := by decide +kernel
theorem dX7_plainWish_64 : decode cX7_plainWish 64 = .ok (.aload_n 0, 1) := by decide +kernel
theorem dX7_plainWish_65 : decode cX7_plainWish 65 = .ok (.bipush 9, 2) := by decide +kernel
theorem dX7_plainWish_67 : decode cX7_plainWish 67 = .ok (.aload_n 0, 1) := by decide +kernel
theorem dX7_plainWish_68 : decode cX7_plainWish 68 = .ok (.iload_n 1, 1) := by decide +kernel
theorem dX7_plainWish_69 : decode cX7_plainWish 69 = .ok (.invokevirtual 318, 3) := by decide +kernel
theorem dX7_plainWish_72 : decode cX7_plainWish 72 = .ok (.invokevirtual 315, 3) := by decide +kernel
theorem dX7_plainWish_75 : decode cX7_plainWish 75 = .ok (.ireturn, 1) := by decide +kernel
theorem dX7_plainWish_76 : decode cX7_plainWish 76 = .ok (.aload_n 0, 1) := by decide +kernel
theorem dX7_plainWish_77 : decode cX7_plainWish 77 = .ok (.getfield 16, 3) := by decide +kernel
theorem dX7_plainWish_80 : decode cX7_plainWish 80 = .ok (.aload_n 0, 1) := by decide +kernel
theorem dX7_plainWish_81 : decode cX7_plainWish 81 = .ok (.getfield 7, 3) := by decide +kernel
theorem dX7_plainWish_84 : decode cX7_plainWish 84 = .ok (.irem, 1) := by decide +kernel
theorem dX7_plainWish_85 : decode cX7_plainWish 85 = .ok (.iload_n 1, 1) := by decide +kernel
theorem dX7_plainWish_86 : decode cX7_plainWish 86 = .ok (.if_icmp .ne 7, 3) := by decide +kernel
theorem dX7_plainWish_89 : decode cX7_plainWish 89 = .ok (.iconst 0, 1) := by decide +kernel
theorem dX7_plainWish_90 : decode cX7_plainWish 90 = .ok (.goto 9, 3) := by decide +kernel
theorem dX7_plainWish_93 : decode cX7_plainWish 93 = .ok (.aload_n 0, 1) := by decide +kernel
theorem dX7_plainWish_94 : decode cX7_plainWish 94 = .ok (.getfield 29, 3) := by decide +kernel
theorem dX7_plainWish_97 : decode cX7_plainWish 97 = .ok (.iload_n 1, 1) := by decide +kernel
theorem dX7_plainWish_98 : decode cX7_plainWish 98 = .ok (.iaload, 1) := by decide +kernel
theorem dX7_plainWish_99 : decode cX7_plainWish 99 = .ok (.ireturn, 1) := by decide +kernel
theorem dX7_plainWish_100 : decode cX7_plainWish 100 = .ok (.aload_n 0, 1) := by decide +kernel
theorem dX7_plainWish_101 : decode cX7_plainWish 101 = .ok (.getfield 26, 3) := by decide +kernel
theorem dX7_plainWish_104 : decode cX7_plainWish 104 = .ok (.iload_n 1, 1) := by decide +kernel
theorem dX7_plainWish_105 : decode cX7_plainWish 105 = .ok (.iaload, 1) := by decide +kernel
theorem dX7_plainWish_106 : decode cX7_plainWish 106 = .ok (.iconst 5, 1) := by decide +kernel
theorem dX7_plainWish_107 : decode cX7_plainWish 107 = .ok (.if_icmp .ge 7, 3) := by decide +kernel
theorem dX7_plainWish_110 : decode cX7_plainWish 110 = .ok (.iconst 0, 1) := by decide +kernel
theorem dX7_plainWish_111 : decode cX7_plainWish 111 = .ok (.goto 14, 3) := by decide +kernel
theorem dX7_plainWish_114 : decode cX7_plainWish 114 = .ok (.aload_n 0, 1) := by decide +kernel
theorem dX7_plainWish_115 : decode cX7_plainWish 115 = .ok (.bipush 9, 2) := by decide +kernel
theorem dX7_plainWish_117 : decode cX7_plainWish 117 = .ok (.aload_n 0, 1) := by decide +kernel
theorem dX7_plainWish_118 : decode cX7_plainWish 118 = .ok (.iload_n 1, 1) := by decide +kernel
theorem dX7_plainWish_119 : decode cX7_plainWish 119 = .ok (.invokevirtual 318, 3) := by decide +kernel
theorem dX7_plainWish_122 : decode cX7_plainWish 122 = .ok (.invokevirtual 315, 3) := by decide +kernel
theorem dX7_plainWish_125 : decode cX7_plainWish 125 = .ok (.ireturn, 1) := by decide +kernel
theorem dX7_plainWish_126 : decode cX7_plainWish 126 = .ok (.aload_n 0, 1) := by decide +kernel
theorem dX7_plainWish_127 : decode cX7_plainWish 127 = .ok (.getfield 38, 3) := by decide +kernel
theorem dX7_plainWish_130 : decode cX7_plainWish 130 = .ok (.iconst 4, 1) := by decide +kernel
theorem dX7_plainWish_131 : decode cX7_plainWish 131 = .ok (.iload_n 1, 1) := by decide +kernel
theorem dX7_plainWish_132 : decode cX7_plainWish 132 = .ok (.imul, 1) := by decide +kernel
theorem dX7_plainWish_133 : decode cX7_plainWish 133 = .ok (.aload_n 0, 1) := by decide +kernel
theorem dX7_plainWish_134 : decode cX7_plainWish 134 = .ok (.getfield 16, 3) := by decide +kernel
theorem dX7_plainWish_137 : decode cX7_plainWish 137 = .ok (.iconst 4, 1) := by decide +kernel
theorem dX7_plainWish_138 : decode cX7_plainWish 138 = .ok (.irem, 1) := by decide +kernel
theorem dX7_plainWish_139 : decode cX7_plainWish 139 = .ok (.iadd, 1) := by decide +kernel
theorem dX7_plainWish_140 : decode cX7_plainWish 140 = .ok (.iaload, 1) := by decide +kernel
theorem dX7_plainWish_141 : decode cX7_plainWish 141 = .ok (.ireturn, 1) := by decide +kernel
theorem dX7_plainWish_142 : decode cX7_plainWish 142 = .ok (.aload_n 0, 1) := by decide +kernel
theorem dX7_plainWish_143 : decode cX7_plainWish 143 = .ok (.getfield 29, 3) := by decide +kernel
theorem dX7_plainWish_146 : decode cX7_plainWish 146 = .ok (.iload_n 1, 1) := by decide +kernel
theorem dX7_plainWish_147 : decode cX7_plainWish 147 = .ok (.iaload, 1) := by decide +kernel
theorem dX7_plainWish_148 : decode cX7_plainWish 148 = .ok (.ireturn, 1) := by decide +kernel
theorem dX7_bestWish_0 : decode cX7_bestWish 0 = .ok (.iconst 0, 1) := by decide +kernel
theorem dX7_bestWish_1 : decode cX7_bestWish 1 = .ok (.istore_n 2, 1) := by decide +kernel
theorem dX7_bestWish_2 : decode cX7_bestWish 2 = .ok (.iconst 0, 1) := by decide +kernel
theorem dX7_bestWish_3 : decode cX7_bestWish 3 = .ok (.istore_n 3, 1) := by decide +kernel
theorem dX7_bestWish_4 : decode cX7_bestWish 4 = .ok (.iconst 0, 1) := by decide +kernel
theorem dX7_bestWish_5 : decode cX7_bestWish 5 = .ok (.istore 4, 2) := by decide +kernel
theorem dX7_bestWish_7 : decode cX7_bestWish 7 = .ok (.iload 4, 2) := by decide +kernel
theorem dX7_bestWish_9 : decode cX7_bestWish 9 = .ok (.bipush 10, 2) := by decide +kernel
theorem dX7_bestWish_11 : decode cX7_bestWish 11 = .ok (.if_icmp .ge 83, 3) := by decide +kernel
theorem dX7_bestWish_14 : decode cX7_bestWish 14 = .ok (.iconst 0, 1) := by decide +kernel
theorem dX7_bestWish_15 : decode cX7_bestWish 15 = .ok (.istore 5, 2) := by decide +kernel
theorem dX7_bestWish_17 : decode cX7_bestWish 17 = .ok (.iload 5, 2) := by decide +kernel
theorem dX7_bestWish_19 : decode cX7_bestWish 19 = .ok (.aload_n 0, 1) := by decide +kernel
theorem dX7_bestWish_20 : decode cX7_bestWish 20 = .ok (.getfield 7, 3) := by decide +kernel
theorem dX7_bestWish_23 : decode cX7_bestWish 23 = .ok (.if_icmp .ge 33, 3) := by decide +kernel
theorem dX7_bestWish_26 : decode cX7_bestWish 26 = .ok (.aload_n 0, 1) := by decide +kernel
theorem dX7_bestWish_27 : decode cX7_bestWish 27 = .ok (.getfield 103, 3) := by decide +kernel
theorem dX7_bestWish_30 : decode cX7_bestWish 30 = .ok (.iload 5, 2) := by decide +kernel
theorem dX7_bestWish_32 : decode cX7_bestWish 32 = .ok (.iload 5, 2) := by decide +kernel
theorem dX7_bestWish_34 : decode cX7_bestWish 34 = .ok (.iload_n 1, 1) := by decide +kernel
theorem dX7_bestWish_35 : decode cX7_bestWish 35 = .ok (.if_icmp .ne 8, 3) := by decide +kernel
theorem dX7_bestWish_38 : decode cX7_bestWish 38 = .ok (.iload 4, 2) := by decide +kernel
theorem dX7_bestWish_40 : decode cX7_bestWish 40 = .ok (.goto 9, 3) := by decide +kernel
theorem dX7_bestWish_43 : decode cX7_bestWish 43 = .ok (.aload_n 0, 1) := by decide +kernel
theorem dX7_bestWish_44 : decode cX7_bestWish 44 = .ok (.iload 5, 2) := by decide +kernel
theorem dX7_bestWish_46 : decode cX7_bestWish 46 = .ok (.invokevirtual 321, 3) := by decide +kernel
theorem dX7_bestWish_49 : decode cX7_bestWish 49 = .ok (.iastore, 1) := by decide +kernel
theorem dX7_bestWish_50 : decode cX7_bestWish 50 = .ok (.iinc 5 1, 3) := by decide +kernel
theorem dX7_bestWish_53 : decode cX7_bestWish 53 = .ok (.goto (-36), 3) := by decide +kernel
theorem dX7_bestWish_56 : decode cX7_bestWish 56 = .ok (.aload_n 0, 1) := by decide +kernel
theorem dX7_bestWish_57 : decode cX7_bestWish 57 = .ok (.invokevirtual 324, 3) := by decide +kernel
theorem dX7_bestWish_60 : decode cX7_bestWish 60 = .ok (.iload 4, 2) := by decide +kernel
theorem dX7_bestWish_62 : decode cX7_bestWish 62 = .ok (.ifCond .le 16, 3) := by decide +kernel
theorem dX7_bestWish_65 : decode cX7_bestWish 65 = .ok (.aload_n 0, 1) := by decide +kernel
theorem dX7_bestWish_66 : decode cX7_bestWish 66 = .ok (.getfield 109, 3) := by decide +kernel
theorem dX7_bestWish_69 : decode cX7_bestWish 69 = .ok (.iload_n 1, 1) := by decide +kernel
theorem dX7_bestWish_70 : decode cX7_bestWish 70 = .ok (.iaload, 1) := by decide +kernel
theorem dX7_bestWish_71 : decode cX7_bestWish 71 = .ok (.iload_n 3, 1) := by decide +kernel
theorem dX7_bestWish_72 : decode cX7_bestWish 72 = .ok (.if_icmp .gt 6, 3) := by decide +kernel
theorem dX7_bestWish_75 : decode cX7_bestWish 75 = .ok (.goto 13, 3) := by decide +kernel
theorem dX7_bestWish_78 : decode cX7_bestWish 78 = .ok (.iload 4, 2) := by decide +kernel
theorem dX7_bestWish_80 : decode cX7_bestWish 80 = .ok (.istore_n 2, 1) := by decide +kernel
theorem dX7_bestWish_81 : decode cX7_bestWish 81 = .ok (.aload_n 0, 1) := by decide +kernel
theorem dX7_bestWish_82 : decode cX7_bestWish 82 = .ok (.getfield 109, 3) := by decide +kernel
theorem dX7_bestWish_85 : decode cX7_bestWish 85 = .ok (.iload_n 1, 1) := by decide +kernel
theorem dX7_bestWish_86 : decode cX7_bestWish 86 = .ok (.iaload, 1) := by decide +kernel
theorem dX7_bestWish_87 : decode cX7_bestWish 87 = .ok (.istore_n 3, 1) := by decide +kernel
theorem dX7_bestWish_88 : decode cX7_bestWish 88 = .ok (.iinc 4 1, 3) := by decide +kernel
theorem dX7_bestWish_91 : decode cX7_bestWish 91 = .ok (.goto (-84), 3) := by decide +kernel
theorem dX7_bestWish_94 : decode cX7_bestWish 94 = .ok (.iload_n 2, 1) := by decide +kernel
theorem dX7_bestWish_95 : decode cX7_bestWish 95 = .ok (.ireturn, 1) := by decide +kernel
theorem dX7_wishOf_0 : decode cX7_wishOf 0 = .ok (.aload_n 0, 1) := by decide +kernel
theorem dX7_wishOf_1 : decode cX7_wishOf 1 = .ok (.getfield 22, 3) := by decide +kernel
theorem dX7_wishOf_4 : decode cX7_wishOf 4 = .ok (.iload_n 1, 1) := by decide +kernel
theorem dX7_wishOf_5 : decode cX7_wishOf 5 = .ok (.iaload, 1) := by decide +kernel
theorem dX7_wishOf_6 : decode cX7_wishOf 6 = .ok (.iconst 4, 1) := by decide +kernel
theorem dX7_wishOf_7 : decode cX7_wishOf 7 = .ok (.if_icmp .ne 11, 3) := by decide +kernel
theorem dX7_wishOf_10 : decode cX7_wishOf 10 = .ok (.aload_n 0, 1) := by decide +kernel
theorem dX7_wishOf_11 : decode cX7_wishOf 11 = .ok (.iload_n 1, 1) := by decide +kernel
theorem dX7_wishOf_12 : decode cX7_wishOf 12 = .ok (.invokevirtual 327, 3) := by decide +kernel
theorem dX7_wishOf_15 : decode cX7_wishOf 15 = .ok (.goto 8, 3) := by decide +kernel
theorem dX7_wishOf_18 : decode cX7_wishOf 18 = .ok (.aload_n 0, 1) := by decide +kernel
theorem dX7_wishOf_19 : decode cX7_wishOf 19 = .ok (.iload_n 1, 1) := by decide +kernel
theorem dX7_wishOf_20 : decode cX7_wishOf 20 = .ok (.invokevirtual 321, 3) := by decide +kernel
theorem dX7_wishOf_23 : decode cX7_wishOf 23 = .ok (.ireturn, 1) := by decide +kernel
theorem dX7_layWishes_0 : decode cX7_layWishes 0 = .ok (.iconst 0, 1) := by decide +kernel
theorem dX7_layWishes_1 : decode cX7_layWishes 1 = .ok (.istore_n 1, 1) := by decide +kernel
theorem dX7_layWishes_2 : decode cX7_layWishes 2 = .ok (.iload_n 1, 1) := by decide +kernel
theorem dX7_layWishes_3 : decode cX7_layWishes 3 = .ok (.aload_n 0, 1) := by decide +kernel
theorem dX7_layWishes_4 : decode cX7_layWishes 4 = .ok (.getfield 7, 3) := by decide +kernel
theorem dX7_layWishes_7 : decode cX7_layWishes 7 = .ok (.if_icmp .ge 20, 3) := by decide +kernel
theorem dX7_layWishes_10 : decode cX7_layWishes 10 = .ok (.aload_n 0, 1) := by decide +kernel
theorem dX7_layWishes_11 : decode cX7_layWishes 11 = .ok (.getfield 115, 3) := by decide +kernel
theorem dX7_layWishes_14 : decode cX7_layWishes 14 = .ok (.iload_n 1, 1) := by decide +kernel
theorem dX7_layWishes_15 : decode cX7_layWishes 15 = .ok (.aload_n 0, 1) := by decide +kernel
theorem dX7_layWishes_16 : decode cX7_layWishes 16 = .ok (.iload_n 1, 1) := by decide +kernel
theorem dX7_layWishes_17 : decode cX7_layWishes 17 = .ok (.invokevirtual 330, 3) := by decide +kernel
theorem dX7_layWishes_20 : decode cX7_layWishes 20 = .ok (.iastore, 1) := by decide +kernel
theorem dX7_layWishes_21 : decode cX7_layWishes 21 = .ok (.iinc 1 1, 3) := by decide +kernel
theorem dX7_layWishes_24 : decode cX7_layWishes 24 = .ok (.goto (-22), 3) := by decide +kernel
theorem dX7_layWishes_27 : decode cX7_layWishes 27 = .ok (.iconst 0, 1) := by decide +kernel
theorem dX7_layWishes_28 : decode cX7_layWishes 28 = .ok (.istore_n 1, 1) := by decide +kernel
theorem dX7_layWishes_29 : decode cX7_layWishes 29 = .ok (.iload_n 1, 1) := by decide +kernel
theorem dX7_layWishes_30 : decode cX7_layWishes 30 = .ok (.aload_n 0, 1) := by decide +kernel
theorem dX7_layWishes_31 : decode cX7_layWishes 31 = .ok (.getfield 7, 3) := by decide +kernel
theorem dX7_layWishes_34 : decode cX7_layWishes 34 = .ok (.if_icmp .ge 21, 3) := by decide +kernel
theorem dX7_layWishes_37 : decode cX7_layWishes 37 = .ok (.aload_n 0, 1) := by decide +kernel
theorem dX7_layWishes_38 : decode cX7_layWishes 38 = .ok (.getfield 103, 3) := by decide +kernel
theorem dX7_layWishes_41 : decode cX7_layWishes 41 = .ok (.iload_n 1, 1) := by decide +kernel
theorem dX7_layWishes_42 : decode cX7_layWishes 42 = .ok (.aload_n 0, 1) := by decide +kernel
theorem dX7_layWishes_43 : decode cX7_layWishes 43 = .ok (.getfield 115, 3) := by decide +kernel
theorem dX7_layWishes_46 : decode cX7_layWishes 46 = .ok (.iload_n 1, 1) := by decide +kernel
theorem dX7_layWishes_47 : decode cX7_layWishes 47 = .ok (.iaload, 1) := by decide +kernel
theorem dX7_layWishes_48 : decode cX7_layWishes 48 = .ok (.iastore, 1) := by decide +kernel
theorem dX7_layWishes_49 : decode cX7_layWishes 49 = .ok (.iinc 1 1, 3) := by decide +kernel
theorem dX7_layWishes_52 : decode cX7_layWishes 52 = .ok (.goto (-23), 3) := by decide +kernel
theorem dX7_layWishes_55 : decode cX7_layWishes 55 = .ok (.return_, 1) := by decide +kernel
theorem dX7_goSupper_0 : decode cX7_goSupper 0 = .ok (.aload_n 0, 1) := by decide +kernel
theorem dX7_goSupper_1 : decode cX7_goSupper 1 = .ok (.getfield 7, 3) := by decide +kernel
theorem dX7_goSupper_4 : decode cX7_goSupper 4 = .ok (.ifCond .ne 4, 3) := by decide +kernel
theorem dX7_goSupper_7 : decode cX7_goSupper 7 = .ok (.return_, 1) := by decide +kernel
theorem dX7_goSupper_8 : decode cX7_goSupper 8 = .ok (.aload_n 0, 1) := by decide +kernel
theorem dX7_goSupper_9 : decode cX7_goSupper 9 = .ok (.invokevirtual 333, 3) := by decide +kernel
theorem dX7_goSupper_12 : decode cX7_goSupper 12 = .ok (.aload_n 0, 1) := by decide +kernel
theorem dX7_goSupper_13 : decode cX7_goSupper 13 = .ok (.getfield 118, 3) := by decide +kernel
theorem dX7_goSupper_16 : decode cX7_goSupper 16 = .ok (.ifCond .lt 48, 3) := by decide +kernel
theorem dX7_goSupper_19 : decode cX7_goSupper 19 = .ok (.aload_n 0, 1) := by decide +kernel
theorem dX7_goSupper_20 : decode cX7_goSupper 20 = .ok (.getfield 103, 3) := by decide +kernel
theorem dX7_goSupper_23 : decode cX7_goSupper 23 = .ok (.aload_n 0, 1) := by decide +kernel
theorem dX7_goSupper_24 : decode cX7_goSupper 24 = .ok (.getfield 118, 3) := by decide +kernel
theorem dX7_goSupper_27 : decode cX7_goSupper 27 = .ok (.aload_n 0, 1) := by decide +kernel
theorem dX7_goSupper_28 : decode cX7_goSupper 28 = .ok (.getfield 16, 3) := by decide +kernel
theorem dX7_goSupper_31 : decode cX7_goSupper 31 = .ok (.iconst 2, 1) := by decide +kernel
theorem dX7_goSupper_32 : decode cX7_goSupper 32 = .ok (.irem, 1) := by decide +kernel
theorem dX7_goSupper_33 : decode cX7_goSupper 33 = .ok (.ifCond .ne 7, 3) := by decide +kernel
theorem dX7_goSupper_36 : decode cX7_goSupper 36 = .ok (.iconst 0, 1) := by decide +kernel
theorem dX7_goSupper_37 : decode cX7_goSupper 37 = .ok (.goto 5, 3) := by decide +kernel
theorem dX7_goSupper_40 : decode cX7_goSupper 40 = .ok (.bipush 9, 2) := by decide +kernel
theorem dX7_goSupper_42 : decode cX7_goSupper 42 = .ok (.iastore, 1) := by decide +kernel
theorem dX7_goSupper_43 : decode cX7_goSupper 43 = .ok (.aload_n 0, 1) := by decide +kernel
theorem dX7_goSupper_44 : decode cX7_goSupper 44 = .ok (.getfield 103, 3) := by decide +kernel
theorem dX7_goSupper_47 : decode cX7_goSupper 47 = .ok (.aload_n 0, 1) := by decide +kernel
theorem dX7_goSupper_48 : decode cX7_goSupper 48 = .ok (.getfield 121, 3) := by decide +kernel
theorem dX7_goSupper_51 : decode cX7_goSupper 51 = .ok (.bipush 9, 2) := by decide +kernel
theorem dX7_goSupper_53 : decode cX7_goSupper 53 = .ok (.aload_n 0, 1) := by decide +kernel
theorem dX7_goSupper_54 : decode cX7_goSupper 54 = .ok (.getfield 103, 3) := by decide +kernel
theorem dX7_goSupper_57 : decode cX7_goSupper 57 = .ok (.aload_n 0, 1) := by decide +kernel
theorem dX7_goSupper_58 : decode cX7_goSupper 58 = .ok (.getfield 118, 3) := by decide +kernel
theorem dX7_goSupper_61 : decode cX7_goSupper 61 = .ok (.iaload, 1) := by decide +kernel
theorem dX7_goSupper_62 : decode cX7_goSupper 62 = .ok (.isub, 1) := by decide +kernel
theorem dX7_goSupper_63 : decode cX7_goSupper 63 = .ok (.iastore, 1) := by decide +kernel
theorem dX7_goSupper_64 : decode cX7_goSupper 64 = .ok (.aload_n 0, 1) := by decide +kernel
theorem dX7_goSupper_65 : decode cX7_goSupper 65 = .ok (.invokevirtual 324, 3) := by decide +kernel
theorem dX7_goSupper_68 : decode cX7_goSupper 68 = .ok (.aload_n 0, 1) := by decide +kernel
theorem dX7_goSupper_69 : decode cX7_goSupper 69 = .ok (.aload_n 0, 1) := by decide +kernel
theorem dX7_goSupper_70 : decode cX7_goSupper 70 = .ok (.getfield 112, 3) := by decide +kernel
theorem dX7_goSupper_73 : decode cX7_goSupper 73 = .ok (.putfield 19, 3) := by decide +kernel
theorem dX7_goSupper_76 : decode cX7_goSupper 76 = .ok (.aload_n 0, 1) := by decide +kernel
theorem dX7_goSupper_77 : decode cX7_goSupper 77 = .ok (.getfield 124, 3) := by decide +kernel
theorem dX7_goSupper_80 : decode cX7_goSupper 80 = .ok (.aload_n 0, 1) := by decide +kernel
theorem dX7_goSupper_81 : decode cX7_goSupper 81 = .ok (.getfield 19, 3) := by decide +kernel
theorem dX7_goSupper_84 : decode cX7_goSupper 84 = .ok (.dup2, 1) := by decide +kernel
theorem dX7_goSupper_85 : decode cX7_goSupper 85 = .ok (.iaload, 1) := by decide +kernel
theorem dX7_goSupper_86 : decode cX7_goSupper 86 = .ok (.iconst 1, 1) := by decide +kernel
theorem dX7_goSupper_87 : decode cX7_goSupper 87 = .ok (.iadd, 1) := by decide +kernel
theorem dX7_goSupper_88 : decode cX7_goSupper 88 = .ok (.iastore, 1) := by decide +kernel
theorem dX7_goSupper_89 : decode cX7_goSupper 89 = .ok (.iconst 0, 1) := by decide +kernel
theorem dX7_goSupper_90 : decode cX7_goSupper 90 = .ok (.istore_n 1, 1) := by decide +kernel
theorem dX7_goSupper_91 : decode cX7_goSupper 91 = .ok (.iconst 0, 1) := by decide +kernel
theorem dX7_goSupper_92 : decode cX7_goSupper 92 = .ok (.istore_n 2, 1) := by decide +kernel
theorem dX7_goSupper_93 : decode cX7_goSupper 93 = .ok (.iload_n 2, 1) := by decide +kernel
theorem dX7_goSupper_94 : decode cX7_goSupper 94 = .ok (.aload_n 0, 1) := by decide +kernel
theorem dX7_goSupper_95 : decode cX7_goSupper 95 = .ok (.getfield 7, 3) := by decide +kernel
theorem dX7_goSupper_98 : decode cX7_goSupper 98 = .ok (.if_icmp .ge 45, 3) := by decide +kernel
theorem dX7_goSupper_101 : decode cX7_goSupper 101 = .ok (.aload_n 0, 1) := by decide +kernel
theorem dX7_goSupper_102 : decode cX7_goSupper 102 = .ok (.getfield 32, 3) := by decide +kernel
theorem dX7_goSupper_105 : decode cX7_goSupper 105 = .ok (.iload_n 2, 1) := by decide +kernel
theorem dX7_goSupper_106 : decode cX7_goSupper 106 = .ok (.aload_n 0, 1) := by decide +kernel
theorem dX7_goSupper_107 : decode cX7_goSupper 107 = .ok (.getfield 106, 3) := by decide +kernel
theorem dX7_goSupper_110 : decode cX7_goSupper 110 = .ok (.iload_n 2, 1) := by decide +kernel
theorem dX7_goSupper_111 : decode cX7_goSupper 111 = .ok (.iaload, 1) := by decide +kernel
theorem dX7_goSupper_112 : decode cX7_goSupper 112 = .ok (.iastore, 1) := by decide +kernel
theorem dX7_goSupper_113 : decode cX7_goSupper 113 = .ok (.aload_n 0, 1) := by decide +kernel
theorem dX7_goSupper_114 : decode cX7_goSupper 114 = .ok (.getfield 35, 3) := by decide +kernel
theorem dX7_goSupper_117 : decode cX7_goSupper 117 = .ok (.iload_n 2, 1) := by decide +kernel
theorem dX7_goSupper_118 : decode cX7_goSupper 118 = .ok (.dup2, 1) := by decide +kernel
theorem dX7_goSupper_119 : decode cX7_goSupper 119 = .ok (.iaload, 1) := by decide +kernel
theorem dX7_goSupper_120 : decode cX7_goSupper 120 = .ok (.aload_n 0, 1) := by decide +kernel
theorem dX7_goSupper_121 : decode cX7_goSupper 121 = .ok (.getfield 109, 3) := by decide +kernel
theorem dX7_goSupper_124 : decode cX7_goSupper 124 = .ok (.iload_n 2, 1) := by decide +kernel
theorem dX7_goSupper_125 : decode cX7_goSupper 125 = .ok (.iaload, 1) := by decide +kernel
theorem dX7_goSupper_126 : decode cX7_goSupper 126 = .ok (.iadd, 1) := by decide +kernel
theorem dX7_goSupper_127 : decode cX7_goSupper 127 = .ok (.iastore, 1) := by decide +kernel
theorem dX7_goSupper_128 : decode cX7_goSupper 128 = .ok (.iload_n 1, 1) := by decide +kernel
theorem dX7_goSupper_129 : decode cX7_goSupper 129 = .ok (.aload_n 0, 1) := by decide +kernel
theorem dX7_goSupper_130 : decode cX7_goSupper 130 = .ok (.getfield 106, 3) := by decide +kernel
theorem dX7_goSupper_133 : decode cX7_goSupper 133 = .ok (.iload_n 2, 1) := by decide +kernel
theorem dX7_goSupper_134 : decode cX7_goSupper 134 = .ok (.iaload, 1) := by decide +kernel
theorem dX7_goSupper_135 : decode cX7_goSupper 135 = .ok (.iadd, 1) := by decide +kernel
theorem dX7_goSupper_136 : decode cX7_goSupper 136 = .ok (.istore_n 1, 1) := by decide +kernel
theorem dX7_goSupper_137 : decode cX7_goSupper 137 = .ok (.iinc 2 1, 3) := by decide +kernel
theorem dX7_goSupper_140 : decode cX7_goSupper 140 = .ok (.goto (-47), 3) := by decide +kernel
theorem dX7_goSupper_143 : decode cX7_goSupper 143 = .ok (.aload_n 0, 1) := by decide +kernel
theorem dX7_goSupper_144 : decode cX7_goSupper 144 = .ok (.aload_n 0, 1) := by decide +kernel
theorem dX7_goSupper_145 : decode cX7_goSupper 145 = .ok (.bipush 99, 2) := by decide +kernel
theorem dX7_goSupper_147 : decode cX7_goSupper 147 = .ok (.aload_n 0, 1) := by decide +kernel
theorem dX7_goSupper_148 : decode cX7_goSupper 148 = .ok (.getfield 13, 3) := by decide +kernel
theorem dX7_goSupper_151 : decode cX7_goSupper 151 = .ok (.iload_n 1, 1) := by decide +kernel
theorem dX7_goSupper_152 : decode cX7_goSupper 152 = .ok (.isub, 1) := by decide +kernel
theorem dX7_goSupper_153 : decode cX7_goSupper 153 = .ok (.aload_n 0, 1) := by decide +kernel
theorem dX7_goSupper_154 : decode cX7_goSupper 154 = .ok (.iconst 2, 1) := by decide +kernel
theorem dX7_goSupper_155 : decode cX7_goSupper 155 = .ok (.bipush 8, 2) := by decide +kernel
theorem dX7_goSupper_157 : decode cX7_goSupper 157 = .ok (.invokevirtual 293, 3) := by decide +kernel
theorem dX7_goSupper_160 : decode cX7_goSupper 160 = .ok (.iadd, 1) := by decide +kernel
theorem dX7_goSupper_161 : decode cX7_goSupper 161 = .ok (.invokevirtual 315, 3) := by decide +kernel
theorem dX7_goSupper_164 : decode cX7_goSupper 164 = .ok (.putfield 13, 3) := by decide +kernel
theorem dX7_goSupper_167 : decode cX7_goSupper 167 = .ok (.aload_n 0, 1) := by decide +kernel
theorem dX7_goSupper_168 : decode cX7_goSupper 168 = .ok (.dup, 1) := by decide +kernel
theorem dX7_goSupper_169 : decode cX7_goSupper 169 = .ok (.getfield 16, 3) := by decide +kernel
theorem dX7_goSupper_172 : decode cX7_goSupper 172 = .ok (.iconst 1, 1) := by decide +kernel
theorem dX7_goSupper_173 : decode cX7_goSupper 173 = .ok (.iadd, 1) := by decide +kernel
theorem dX7_goSupper_174 : decode cX7_goSupper 174 = .ok (.putfield 16, 3) := by decide +kernel
theorem dX7_goSupper_177 : decode cX7_goSupper 177 = .ok (.return_, 1) := by decide +kernel
theorem dX7_supper_0 : decode cX7_supper 0 = .ok (.aload_n 0, 1) := by decide +kernel
theorem dX7_supper_1 : decode cX7_supper 1 = .ok (.getfield 16, 3) := by decide +kernel
theorem dX7_supper_4 : decode cX7_supper 4 = .ok (.sipush 9999, 3) := by decide +kernel
theorem dX7_supper_7 : decode cX7_supper 7 = .ok (.if_icmp .ne 6, 3) := by decide +kernel
theorem dX7_supper_10 : decode cX7_supper 10 = .ok (.bipush (-3), 2) := by decide +kernel
theorem dX7_supper_12 : decode cX7_supper 12 = .ok (.ireturn, 1) := by decide +kernel
theorem dX7_supper_13 : decode cX7_supper 13 = .ok (.aload_n 0, 1) := by decide +kernel
theorem dX7_supper_14 : decode cX7_supper 14 = .ok (.invokevirtual 336, 3) := by decide +kernel
theorem dX7_supper_17 : decode cX7_supper 17 = .ok (.aload_n 0, 1) := by decide +kernel
theorem dX7_supper_18 : decode cX7_supper 18 = .ok (.getfield 7, 3) := by decide +kernel
theorem dX7_supper_21 : decode cX7_supper 21 = .ok (.ifCond .ne 8, 3) := by decide +kernel
theorem dX7_supper_24 : decode cX7_supper 24 = .ok (.bipush (-5), 2) := by decide +kernel
theorem dX7_supper_26 : decode cX7_supper 26 = .ok (.goto 7, 3) := by decide +kernel
theorem dX7_supper_29 : decode cX7_supper 29 = .ok (.aload_n 0, 1) := by decide +kernel
theorem dX7_supper_30 : decode cX7_supper 30 = .ok (.getfield 19, 3) := by decide +kernel
theorem dX7_supper_33 : decode cX7_supper 33 = .ok (.ireturn, 1) := by decide +kernel
theorem dX7_of_0 : decode cX7_of 0 = .ok (.aload_n 0, 1) := by decide +kernel
theorem dX7_of_1 : decode cX7_of 1 = .ok (.iload_n 1, 1) := by decide +kernel
theorem dX7_of_2 : decode cX7_of 2 = .ok (.invokevirtual 220, 3) := by decide +kernel
theorem dX7_of_5 : decode cX7_of 5 = .ok (.ifCond .ne 7, 3) := by decide +kernel
theorem dX7_of_8 : decode cX7_of 8 = .ok (.ldc_w 339, 3) := by decide +kernel
theorem dX7_of_11 : decode cX7_of 11 = .ok (.ireturn, 1) := by decide +kernel
theorem dX7_of_12 : decode cX7_of 12 = .ok (.aload_n 0, 1) := by decide +kernel
theorem dX7_of_13 : decode cX7_of 13 = .ok (.iload_n 2, 1) := by decide +kernel
theorem dX7_of_14 : decode cX7_of 14 = .ok (.bipush 11, 2) := by decide +kernel
theorem dX7_of_16 : decode cX7_of 16 = .ok (.bipush 19, 2) := by decide +kernel
theorem dX7_of_18 : decode cX7_of 18 = .ok (.invokevirtual 212, 3) := by decide +kernel
theorem dX7_of_21 : decode cX7_of 21 = .ok (.ifCond .eq 13, 3) := by decide +kernel
theorem dX7_of_24 : decode cX7_of 24 = .ok (.aload_n 0, 1) := by decide +kernel
theorem dX7_of_25 : decode cX7_of 25 = .ok (.iload_n 1, 1) := by decide +kernel
theorem dX7_of_26 : decode cX7_of 26 = .ok (.iload_n 2, 1) := by decide +kernel
theorem dX7_of_27 : decode cX7_of 27 = .ok (.bipush 10, 2) := by decide +kernel
theorem dX7_of_29 : decode cX7_of 29 = .ok (.isub, 1) := by decide +kernel
theorem dX7_of_30 : decode cX7_of 30 = .ok (.invokevirtual 312, 3) := by decide +kernel
theorem dX7_of_33 : decode cX7_of 33 = .ok (.ireturn, 1) := by decide +kernel
theorem dX7_of_34 : decode cX7_of 34 = .ok (.iload_n 2, 1) := by decide +kernel
theorem dX7_of_35 : decode cX7_of 35 = .ok (.tableswitch 94 0 6 #[41, 48, 55, 62, 69, 76, 82], 41) := by decide +kernel
theorem dX7_of_76 : decode cX7_of 76 = .ok (.aload_n 0, 1) := by decide +kernel
theorem dX7_of_77 : decode cX7_of 77 = .ok (.getfield 22, 3) := by decide +kernel
theorem dX7_of_80 : decode cX7_of 80 = .ok (.iload_n 1, 1) := by decide +kernel
theorem dX7_of_81 : decode cX7_of 81 = .ok (.iaload, 1) := by decide +kernel
theorem dX7_of_82 : decode cX7_of 82 = .ok (.ireturn, 1) := by decide +kernel
theorem dX7_of_83 : decode cX7_of 83 = .ok (.aload_n 0, 1) := by decide +kernel
theorem dX7_of_84 : decode cX7_of 84 = .ok (.getfield 26, 3) := by decide +kernel
theorem dX7_of_87 : decode cX7_of 87 = .ok (.iload_n 1, 1) := by decide +kernel
theorem dX7_of_88 : decode cX7_of 88 = .ok (.iaload, 1) := by decide +kernel
theorem dX7_of_89 : decode cX7_of 89 = .ok (.ireturn, 1) := by decide +kernel
theorem dX7_of_90 : decode cX7_of 90 = .ok (.aload_n 0, 1) := by decide +kernel
theorem dX7_of_91 : decode cX7_of 91 = .ok (.getfield 29, 3) := by decide +kernel
theorem dX7_of_94 : decode cX7_of 94 = .ok (.iload_n 1, 1) := by decide +kernel
theorem dX7_of_95 : decode cX7_of 95 = .ok (.iaload, 1) := by decide +kernel
theorem dX7_of_96 : decode cX7_of 96 = .ok (.ireturn, 1) := by decide +kernel
theorem dX7_of_97 : decode cX7_of 97 = .ok (.aload_n 0, 1) := by decide +kernel
theorem dX7_of_98 : decode cX7_of 98 = .ok (.getfield 32, 3) := by decide +kernel
theorem dX7_of_101 : decode cX7_of 101 = .ok (.iload_n 1, 1) := by decide +kernel
theorem dX7_of_102 : decode cX7_of 102 = .ok (.iaload, 1) := by decide +kernel
theorem dX7_of_103 : decode cX7_of 103 = .ok (.ireturn, 1) := by decide +kernel
theorem dX7_of_104 : decode cX7_of 104 = .ok (.aload_n 0, 1) := by decide +kernel
theorem dX7_of_105 : decode cX7_of 105 = .ok (.getfield 35, 3) := by decide +kernel
theorem dX7_of_108 : decode cX7_of 108 = .ok (.iload_n 1, 1) := by decide +kernel
theorem dX7_of_109 : decode cX7_of 109 = .ok (.iaload, 1) := by decide +kernel
theorem dX7_of_110 : decode cX7_of 110 = .ok (.ireturn, 1) := by decide +kernel
theorem dX7_of_111 : decode cX7_of 111 = .ok (.aload_n 0, 1) := by decide +kernel
theorem dX7_of_112 : decode cX7_of 112 = .ok (.iload_n 1, 1) := by decide +kernel
theorem dX7_of_113 : decode cX7_of 113 = .ok (.invokevirtual 330, 3) := by decide +kernel
theorem dX7_of_116 : decode cX7_of 116 = .ok (.ireturn, 1) := by decide +kernel
theorem dX7_of_117 : decode cX7_of 117 = .ok (.aload_n 0, 1) := by decide +kernel
theorem dX7_of_118 : decode cX7_of 118 = .ok (.iload_n 1, 1) := by decide +kernel
theorem dX7_of_119 : decode cX7_of 119 = .ok (.aload_n 0, 1) := by decide +kernel
theorem dX7_of_120 : decode cX7_of 120 = .ok (.getfield 32, 3) := by decide +kernel
theorem dX7_of_123 : decode cX7_of 123 = .ok (.iload_n 1, 1) := by decide +kernel
theorem dX7_of_124 : decode cX7_of 124 = .ok (.iaload, 1) := by decide +kernel
theorem dX7_of_125 : decode cX7_of 125 = .ok (.invokevirtual 309, 3) := by decide +kernel
theorem dX7_of_128 : decode cX7_of 128 = .ok (.ireturn, 1) := by decide +kernel
theorem dX7_of_129 : decode cX7_of 129 = .ok (.ldc_w 339, 3) := by decide +kernel
theorem dX7_of_132 : decode cX7_of 132 = .ok (.ireturn, 1) := by decide +kernel
theorem dX7_told_0 : decode cX7_told 0 = .ok (.iload_n 1, 1) := by decide +kernel
theorem dX7_told_1 : decode cX7_told 1 = .ok (.tableswitch 84 0 5 #[39, 47, 52, 57, 62, 67], 39) := by decide +kernel
theorem dX7_told_40 : decode cX7_told 40 = .ok (.aload_n 0, 1) := by decide +kernel
theorem dX7_told_41 : decode cX7_told 41 = .ok (.iconst 2, 1) := by decide +kernel
theorem dX7_told_42 : decode cX7_told 42 = .ok (.bipush 8, 2) := by decide +kernel
theorem dX7_told_44 : decode cX7_told 44 = .ok (.invokevirtual 293, 3) := by decide +kernel
theorem dX7_told_47 : decode cX7_told 47 = .ok (.ireturn, 1) := by decide +kernel
theorem dX7_told_48 : decode cX7_told 48 = .ok (.aload_n 0, 1) := by decide +kernel
theorem dX7_told_49 : decode cX7_told 49 = .ok (.invokevirtual 300, 3) := by decide +kernel
theorem dX7_told_52 : decode cX7_told 52 = .ok (.ireturn, 1) := by decide +kernel
theorem dX7_told_53 : decode cX7_told 53 = .ok (.aload_n 0, 1) := by decide +kernel
theorem dX7_told_54 : decode cX7_told 54 = .ok (.invokevirtual 297, 3) := by decide +kernel
theorem dX7_told_57 : decode cX7_told 57 = .ok (.ireturn, 1) := by decide +kernel
theorem dX7_told_58 : decode cX7_told 58 = .ok (.aload_n 0, 1) := by decide +kernel
theorem dX7_told_59 : decode cX7_told 59 = .ok (.getfield 13, 3) := by decide +kernel
theorem dX7_told_62 : decode cX7_told 62 = .ok (.ireturn, 1) := by decide +kernel
theorem dX7_told_63 : decode cX7_told 63 = .ok (.aload_n 0, 1) := by decide +kernel
theorem dX7_told_64 : decode cX7_told 64 = .ok (.getfield 16, 3) := by decide +kernel
theorem dX7_told_67 : decode cX7_told 67 = .ok (.ireturn, 1) := by decide +kernel
theorem dX7_told_68 : decode cX7_told 68 = .ok (.aload_n 0, 1) := by decide +kernel
theorem dX7_told_69 : decode cX7_told 69 = .ok (.getfield 19, 3) := by decide +kernel
theorem dX7_told_72 : decode cX7_told 72 = .ok (.ifCond .ge 8, 3) := by decide +kernel
theorem dX7_told_75 : decode cX7_told 75 = .ok (.bipush (-5), 2) := by decide +kernel
theorem dX7_told_77 : decode cX7_told 77 = .ok (.goto 7, 3) := by decide +kernel
theorem dX7_told_80 : decode cX7_told 80 = .ok (.aload_n 0, 1) := by decide +kernel
theorem dX7_told_81 : decode cX7_told 81 = .ok (.getfield 19, 3) := by decide +kernel
theorem dX7_told_84 : decode cX7_told 84 = .ok (.ireturn, 1) := by decide +kernel
theorem dX7_told_85 : decode cX7_told 85 = .ok (.iconst (-1), 1) := by decide +kernel
theorem dX7_told_86 : decode cX7_told 86 = .ok (.ireturn, 1) := by decide +kernel
theorem dX7_keep_0 : decode cX7_keep 0 = .ok (.iconst 0, 1) := by decide +kernel
theorem dX7_keep_1 : decode cX7_keep 1 = .ok (.istore_n 1, 1) := by decide +kernel
theorem dX7_keep_2 : decode cX7_keep 2 = .ok (.iload_n 1, 1) := by decide +kernel
theorem dX7_keep_3 : decode cX7_keep 3 = .ok (.bipush 6, 2) := by decide +kernel
theorem dX7_keep_5 : decode cX7_keep 5 = .ok (.if_icmp .ge 40, 3) := by decide +kernel
theorem dX7_keep_8 : decode cX7_keep 8 = .ok (.aload_n 0, 1) := by decide +kernel
theorem dX7_keep_9 : decode cX7_keep 9 = .ok (.getfield 127, 3) := by decide +kernel
theorem dX7_keep_12 : decode cX7_keep 12 = .ok (.iload_n 1, 1) := by decide +kernel
theorem dX7_keep_13 : decode cX7_keep 13 = .ok (.aload_n 0, 1) := by decide +kernel
theorem dX7_keep_14 : decode cX7_keep 14 = .ok (.getfield 32, 3) := by decide +kernel
theorem dX7_keep_17 : decode cX7_keep 17 = .ok (.iload_n 1, 1) := by decide +kernel
theorem dX7_keep_18 : decode cX7_keep 18 = .ok (.iaload, 1) := by decide +kernel
theorem dX7_keep_19 : decode cX7_keep 19 = .ok (.iastore, 1) := by decide +kernel
theorem dX7_keep_20 : decode cX7_keep 20 = .ok (.aload_n 0, 1) := by decide +kernel
theorem dX7_keep_21 : decode cX7_keep 21 = .ok (.getfield 130, 3) := by decide +kernel
theorem dX7_keep_24 : decode cX7_keep 24 = .ok (.iload_n 1, 1) := by decide +kernel
theorem dX7_keep_25 : decode cX7_keep 25 = .ok (.aload_n 0, 1) := by decide +kernel
theorem dX7_keep_26 : decode cX7_keep 26 = .ok (.getfield 35, 3) := by decide +kernel
theorem dX7_keep_29 : decode cX7_keep 29 = .ok (.iload_n 1, 1) := by decide +kernel
theorem dX7_keep_30 : decode cX7_keep 30 = .ok (.iaload, 1) := by decide +kernel
theorem dX7_keep_31 : decode cX7_keep 31 = .ok (.iastore, 1) := by decide +kernel
theorem dX7_keep_32 : decode cX7_keep 32 = .ok (.aload_n 0, 1) := by decide +kernel
theorem dX7_keep_33 : decode cX7_keep 33 = .ok (.getfield 124, 3) := by decide +kernel
theorem dX7_keep_36 : decode cX7_keep 36 = .ok (.iload_n 1, 1) := by decide +kernel
theorem dX7_keep_37 : decode cX7_keep 37 = .ok (.iconst 0, 1) := by decide +kernel
theorem dX7_keep_38 : decode cX7_keep 38 = .ok (.iastore, 1) := by decide +kernel
theorem dX7_keep_39 : decode cX7_keep 39 = .ok (.iinc 1 1, 3) := by decide +kernel
theorem dX7_keep_42 : decode cX7_keep 42 = .ok (.goto (-40), 3) := by decide +kernel
theorem dX7_keep_45 : decode cX7_keep 45 = .ok (.aload_n 0, 1) := by decide +kernel
theorem dX7_keep_46 : decode cX7_keep 46 = .ok (.aload_n 0, 1) := by decide +kernel
theorem dX7_keep_47 : decode cX7_keep 47 = .ok (.getfield 13, 3) := by decide +kernel
theorem dX7_keep_50 : decode cX7_keep 50 = .ok (.putfield 133, 3) := by decide +kernel
theorem dX7_keep_53 : decode cX7_keep 53 = .ok (.aload_n 0, 1) := by decide +kernel
theorem dX7_keep_54 : decode cX7_keep 54 = .ok (.aload_n 0, 1) := by decide +kernel
theorem dX7_keep_55 : decode cX7_keep 55 = .ok (.getfield 16, 3) := by decide +kernel
theorem dX7_keep_58 : decode cX7_keep 58 = .ok (.putfield 136, 3) := by decide +kernel
theorem dX7_keep_61 : decode cX7_keep 61 = .ok (.aload_n 0, 1) := by decide +kernel
theorem dX7_keep_62 : decode cX7_keep 62 = .ok (.aload_n 0, 1) := by decide +kernel
theorem dX7_keep_63 : decode cX7_keep 63 = .ok (.getfield 19, 3) := by decide +kernel
theorem dX7_keep_66 : decode cX7_keep 66 = .ok (.putfield 139, 3) := by decide +kernel
theorem dX7_keep_69 : decode cX7_keep 69 = .ok (.return_, 1) := by decide +kernel
theorem dX7_putBack_0 : decode cX7_putBack 0 = .ok (.iconst 0, 1) := by decide +kernel
theorem dX7_putBack_1 : decode cX7_putBack 1 = .ok (.istore_n 1, 1) := by decide +kernel
theorem dX7_putBack_2 : decode cX7_putBack 2 = .ok (.iload_n 1, 1) := by decide +kernel
theorem dX7_putBack_3 : decode cX7_putBack 3 = .ok (.bipush 6, 2) := by decide +kernel
theorem dX7_putBack_5 : decode cX7_putBack 5 = .ok (.if_icmp .ge 33, 3) := by decide +kernel
theorem dX7_putBack_8 : decode cX7_putBack 8 = .ok (.aload_n 0, 1) := by decide +kernel
theorem dX7_putBack_9 : decode cX7_putBack 9 = .ok (.getfield 32, 3) := by decide +kernel
theorem dX7_putBack_12 : decode cX7_putBack 12 = .ok (.iload_n 1, 1) := by decide +kernel
theorem dX7_putBack_13 : decode cX7_putBack 13 = .ok (.aload_n 0, 1) := by decide +kernel
theorem dX7_putBack_14 : decode cX7_putBack 14 = .ok (.getfield 127, 3) := by decide +kernel
theorem dX7_putBack_17 : decode cX7_putBack 17 = .ok (.iload_n 1, 1) := by decide +kernel
theorem dX7_putBack_18 : decode cX7_putBack 18 = .ok (.iaload, 1) := by decide +kernel
theorem dX7_putBack_19 : decode cX7_putBack 19 = .ok (.iastore, 1) := by decide +kernel
theorem dX7_putBack_20 : decode cX7_putBack 20 = .ok (.aload_n 0, 1) := by decide +kernel
theorem dX7_putBack_21 : decode cX7_putBack 21 = .ok (.getfield 35, 3) := by decide +kernel
theorem dX7_putBack_24 : decode cX7_putBack 24 = .ok (.iload_n 1, 1) := by decide +kernel
theorem dX7_putBack_25 : decode cX7_putBack 25 = .ok (.aload_n 0, 1) := by decide +kernel
theorem dX7_putBack_26 : decode cX7_putBack 26 = .ok (.getfield 130, 3) := by decide +kernel
theorem dX7_putBack_29 : decode cX7_putBack 29 = .ok (.iload_n 1, 1) := by decide +kernel
theorem dX7_putBack_30 : decode cX7_putBack 30 = .ok (.iaload, 1) := by decide +kernel
theorem dX7_putBack_31 : decode cX7_putBack 31 = .ok (.iastore, 1) := by decide +kernel
theorem dX7_putBack_32 : decode cX7_putBack 32 = .ok (.iinc 1 1, 3) := by decide +kernel
theorem dX7_putBack_35 : decode cX7_putBack 35 = .ok (.goto (-33), 3) := by decide +kernel
theorem dX7_putBack_38 : decode cX7_putBack 38 = .ok (.aload_n 0, 1) := by decide +kernel
theorem dX7_putBack_39 : decode cX7_putBack 39 = .ok (.aload_n 0, 1) := by decide +kernel
theorem dX7_putBack_40 : decode cX7_putBack 40 = .ok (.getfield 133, 3) := by decide +kernel
theorem dX7_putBack_43 : decode cX7_putBack 43 = .ok (.putfield 13, 3) := by decide +kernel
theorem dX7_putBack_46 : decode cX7_putBack 46 = .ok (.aload_n 0, 1) := by decide +kernel
theorem dX7_putBack_47 : decode cX7_putBack 47 = .ok (.aload_n 0, 1) := by decide +kernel
theorem dX7_putBack_48 : decode cX7_putBack 48 = .ok (.getfield 136, 3) := by decide +kernel
theorem dX7_putBack_51 : decode cX7_putBack 51 = .ok (.putfield 16, 3) := by decide +kernel
theorem dX7_putBack_54 : decode cX7_putBack 54 = .ok (.aload_n 0, 1) := by decide +kernel
theorem dX7_putBack_55 : decode cX7_putBack 55 = .ok (.aload_n 0, 1) := by decide +kernel
theorem dX7_putBack_56 : decode cX7_putBack 56 = .ok (.getfield 139, 3) := by decide +kernel
theorem dX7_putBack_59 : decode cX7_putBack 59 = .ok (.putfield 19, 3) := by decide +kernel
theorem dX7_putBack_62 : decode cX7_putBack 62 = .ok (.return_, 1) := by decide +kernel
theorem dX7_goOn_0 : decode cX7_goOn 0 = .ok (.iconst 0, 1) := by decide +kernel
theorem dX7_goOn_1 : decode cX7_goOn 1 = .ok (.istore_n 2, 1) := by decide +kernel
theorem dX7_goOn_2 : decode cX7_goOn 2 = .ok (.iload_n 2, 1) := by decide +kernel
theorem dX7_goOn_3 : decode cX7_goOn 3 = .ok (.iload_n 1, 1) := by decide +kernel
theorem dX7_goOn_4 : decode cX7_goOn 4 = .ok (.if_icmp .ge 13, 3) := by decide +kernel
theorem dX7_goOn_7 : decode cX7_goOn 7 = .ok (.aload_n 0, 1) := by decide +kernel
theorem dX7_goOn_8 : decode cX7_goOn 8 = .ok (.invokevirtual 336, 3) := by decide +kernel
theorem dX7_goOn_11 : decode cX7_goOn 11 = .ok (.iinc 2 1, 3) := by decide +kernel
theorem dX7_goOn_14 : decode cX7_goOn 14 = .ok (.goto (-12), 3) := by decide +kernel
theorem dX7_goOn_17 : decode cX7_goOn 17 = .ok (.return_, 1) := by decide +kernel
theorem dX7_run_0 : decode cX7_run 0 = .ok (.aload_n 0, 1) := by decide +kernel
theorem dX7_run_1 : decode cX7_run 1 = .ok (.iload_n 2, 1) := by decide +kernel
theorem dX7_run_2 : decode cX7_run 2 = .ok (.iconst 0, 1) := by decide +kernel
theorem dX7_run_3 : decode cX7_run 3 = .ok (.iconst 1, 1) := by decide +kernel
theorem dX7_run_4 : decode cX7_run 4 = .ok (.invokevirtual 212, 3) := by decide +kernel
theorem dX7_run_7 : decode cX7_run 7 = .ok (.ifCond .ne 41, 3) := by decide +kernel
theorem dX7_run_10 : decode cX7_run 10 = .ok (.aload_n 0, 1) := by decide +kernel
theorem dX7_run_11 : decode cX7_run 11 = .ok (.iload_n 2, 1) := by decide +kernel
theorem dX7_run_12 : decode cX7_run 12 = .ok (.bipush 10, 2) := by decide +kernel
theorem dX7_run_14 : decode cX7_run 14 = .ok (.bipush 9, 2) := by decide +kernel
theorem dX7_run_16 : decode cX7_run 16 = .ok (.aload_n 0, 1) := by decide +kernel
theorem dX7_run_17 : decode cX7_run 17 = .ok (.getfield 7, 3) := by decide +kernel
theorem dX7_run_20 : decode cX7_run 20 = .ok (.iadd, 1) := by decide +kernel
theorem dX7_run_21 : decode cX7_run 21 = .ok (.invokevirtual 212, 3) := by decide +kernel
theorem dX7_run_24 : decode cX7_run 24 = .ok (.ifCond .ne 24, 3) := by decide +kernel
theorem dX7_run_27 : decode cX7_run 27 = .ok (.aload_n 0, 1) := by decide +kernel
theorem dX7_run_28 : decode cX7_run 28 = .ok (.iload_n 2, 1) := by decide +kernel
theorem dX7_run_29 : decode cX7_run 29 = .ok (.bipush 20, 2) := by decide +kernel
theorem dX7_run_31 : decode cX7_run 31 = .ok (.bipush 19, 2) := by decide +kernel
theorem dX7_run_33 : decode cX7_run 33 = .ok (.aload_n 0, 1) := by decide +kernel
theorem dX7_run_34 : decode cX7_run 34 = .ok (.getfield 7, 3) := by decide +kernel
theorem dX7_run_37 : decode cX7_run 37 = .ok (.iadd, 1) := by decide +kernel
theorem dX7_run_38 : decode cX7_run 38 = .ok (.invokevirtual 212, 3) := by decide +kernel
theorem dX7_run_41 : decode cX7_run 41 = .ok (.ifCond .ne 7, 3) := by decide +kernel
theorem dX7_run_44 : decode cX7_run 44 = .ok (.ldc_w 339, 3) := by decide +kernel
theorem dX7_run_47 : decode cX7_run 47 = .ok (.ireturn, 1) := by decide +kernel
theorem dX7_run_48 : decode cX7_run 48 = .ok (.aload_n 0, 1) := by decide +kernel
theorem dX7_run_49 : decode cX7_run 49 = .ok (.iload_n 1, 1) := by decide +kernel
theorem dX7_run_50 : decode cX7_run 50 = .ok (.iconst 0, 1) := by decide +kernel
theorem dX7_run_51 : decode cX7_run 51 = .ok (.bipush 60, 2) := by decide +kernel
theorem dX7_run_53 : decode cX7_run 53 = .ok (.invokevirtual 212, 3) := by decide +kernel
theorem dX7_run_56 : decode cX7_run 56 = .ok (.ifCond .ne 7, 3) := by decide +kernel
theorem dX7_run_59 : decode cX7_run 59 = .ok (.ldc_w 340, 3) := by decide +kernel
theorem dX7_run_62 : decode cX7_run 62 = .ok (.ireturn, 1) := by decide +kernel
theorem dX7_run_63 : decode cX7_run 63 = .ok (.aload_n 0, 1) := by decide +kernel
theorem dX7_run_64 : decode cX7_run 64 = .ok (.invokevirtual 341, 3) := by decide +kernel
theorem dX7_run_67 : decode cX7_run 67 = .ok (.aload_n 0, 1) := by decide +kernel
theorem dX7_run_68 : decode cX7_run 68 = .ok (.iload_n 1, 1) := by decide +kernel
theorem dX7_run_69 : decode cX7_run 69 = .ok (.invokevirtual 344, 3) := by decide +kernel
theorem dX7_run_72 : decode cX7_run 72 = .ok (.iload_n 2, 1) := by decide +kernel
theorem dX7_run_73 : decode cX7_run 73 = .ok (.ifCond .ne 10, 3) := by decide +kernel
theorem dX7_run_76 : decode cX7_run 76 = .ok (.aload_n 0, 1) := by decide +kernel
theorem dX7_run_77 : decode cX7_run 77 = .ok (.getfield 13, 3) := by decide +kernel
theorem dX7_run_80 : decode cX7_run 80 = .ok (.goto 54, 3) := by decide +kernel
theorem dX7_run_83 : decode cX7_run 83 = .ok (.iload_n 2, 1) := by decide +kernel
theorem dX7_run_84 : decode cX7_run 84 = .ok (.iconst 1, 1) := by decide +kernel
theorem dX7_run_85 : decode cX7_run 85 = .ok (.if_icmp .ne 22, 3) := by decide +kernel
theorem dX7_run_88 : decode cX7_run 88 = .ok (.aload_n 0, 1) := by decide +kernel
theorem dX7_run_89 : decode cX7_run 89 = .ok (.getfield 19, 3) := by decide +kernel
theorem dX7_run_92 : decode cX7_run 92 = .ok (.ifCond .ge 8, 3) := by decide +kernel
theorem dX7_run_95 : decode cX7_run 95 = .ok (.bipush (-5), 2) := by decide +kernel
theorem dX7_run_97 : decode cX7_run 97 = .ok (.goto 37, 3) := by decide +kernel
theorem dX7_run_100 : decode cX7_run 100 = .ok (.aload_n 0, 1) := by decide +kernel
theorem dX7_run_101 : decode cX7_run 101 = .ok (.getfield 19, 3) := by decide +kernel
theorem dX7_run_104 : decode cX7_run 104 = .ok (.goto 30, 3) := by decide +kernel
theorem dX7_run_107 : decode cX7_run 107 = .ok (.iload_n 2, 1) := by decide +kernel
theorem dX7_run_108 : decode cX7_run 108 = .ok (.bipush 20, 2) := by decide +kernel
theorem dX7_run_110 : decode cX7_run 110 = .ok (.if_icmp .ge 15, 3) := by decide +kernel
theorem dX7_run_113 : decode cX7_run 113 = .ok (.aload_n 0, 1) := by decide +kernel
theorem dX7_run_114 : decode cX7_run 114 = .ok (.getfield 35, 3) := by decide +kernel
theorem dX7_run_117 : decode cX7_run 117 = .ok (.iload_n 2, 1) := by decide +kernel
theorem dX7_run_118 : decode cX7_run 118 = .ok (.bipush 10, 2) := by decide +kernel
theorem dX7_run_120 : decode cX7_run 120 = .ok (.isub, 1) := by decide +kernel
theorem dX7_run_121 : decode cX7_run 121 = .ok (.iaload, 1) := by decide +kernel
theorem dX7_run_122 : decode cX7_run 122 = .ok (.goto 12, 3) := by decide +kernel
theorem dX7_run_125 : decode cX7_run 125 = .ok (.aload_n 0, 1) := by decide +kernel
theorem dX7_run_126 : decode cX7_run 126 = .ok (.getfield 124, 3) := by decide +kernel
theorem dX7_run_129 : decode cX7_run 129 = .ok (.iload_n 2, 1) := by decide +kernel
theorem dX7_run_130 : decode cX7_run 130 = .ok (.bipush 20, 2) := by decide +kernel
theorem dX7_run_132 : decode cX7_run 132 = .ok (.isub, 1) := by decide +kernel
theorem dX7_run_133 : decode cX7_run 133 = .ok (.iaload, 1) := by decide +kernel
theorem dX7_run_134 : decode cX7_run 134 = .ok (.istore_n 3, 1) := by decide +kernel
theorem dX7_run_135 : decode cX7_run 135 = .ok (.aload_n 0, 1) := by decide +kernel
theorem dX7_run_136 : decode cX7_run 136 = .ok (.invokevirtual 347, 3) := by decide +kernel
theorem dX7_run_139 : decode cX7_run 139 = .ok (.iload_n 3, 1) := by decide +kernel
theorem dX7_run_140 : decode cX7_run 140 = .ok (.ireturn, 1) := by decide +kernel
theorem dX7_isAsKept_0 : decode cX7_isAsKept 0 = .ok (.iconst 0, 1) := by decide +kernel
theorem dX7_isAsKept_1 : decode cX7_isAsKept 1 = .ok (.istore_n 1, 1) := by decide +kernel
theorem dX7_isAsKept_2 : decode cX7_isAsKept 2 = .ok (.iload_n 1, 1) := by decide +kernel
theorem dX7_isAsKept_3 : decode cX7_isAsKept 3 = .ok (.aload_n 0, 1) := by decide +kernel
theorem dX7_isAsKept_4 : decode cX7_isAsKept 4 = .ok (.getfield 7, 3) := by decide +kernel
theorem dX7_isAsKept_7 : decode cX7_isAsKept 7 = .ok (.if_icmp .ge 26, 3) := by decide +kernel
theorem dX7_isAsKept_10 : decode cX7_isAsKept 10 = .ok (.aload_n 0, 1) := by decide +kernel
theorem dX7_isAsKept_11 : decode cX7_isAsKept 11 = .ok (.getfield 32, 3) := by decide +kernel
theorem dX7_isAsKept_14 : decode cX7_isAsKept 14 = .ok (.iload_n 1, 1) := by decide +kernel
theorem dX7_isAsKept_15 : decode cX7_isAsKept 15 = .ok (.iaload, 1) := by decide +kernel
theorem dX7_isAsKept_16 : decode cX7_isAsKept 16 = .ok (.aload_n 0, 1) := by decide +kernel
theorem dX7_isAsKept_17 : decode cX7_isAsKept 17 = .ok (.getfield 127, 3) := by decide +kernel
theorem dX7_isAsKept_20 : decode cX7_isAsKept 20 = .ok (.iload_n 1, 1) := by decide +kernel
theorem dX7_isAsKept_21 : decode cX7_isAsKept 21 = .ok (.iaload, 1) := by decide +kernel
theorem dX7_isAsKept_22 : decode cX7_isAsKept 22 = .ok (.if_icmp .eq 5, 3) := by decide +kernel
theorem dX7_isAsKept_25 : decode cX7_isAsKept 25 = .ok (.iconst 0, 1) := by decide +kernel
theorem dX7_isAsKept_26 : decode cX7_isAsKept 26 = .ok (.ireturn, 1) := by decide +kernel
theorem dX7_isAsKept_27 : decode cX7_isAsKept 27 = .ok (.iinc 1 1, 3) := by decide +kernel
theorem dX7_isAsKept_30 : decode cX7_isAsKept 30 = .ok (.goto (-28), 3) := by decide +kernel
theorem dX7_isAsKept_33 : decode cX7_isAsKept 33 = .ok (.aload_n 0, 1) := by decide +kernel
theorem dX7_isAsKept_34 : decode cX7_isAsKept 34 = .ok (.getfield 13, 3) := by decide +kernel
theorem dX7_isAsKept_37 : decode cX7_isAsKept 37 = .ok (.aload_n 0, 1) := by decide +kernel
theorem dX7_isAsKept_38 : decode cX7_isAsKept 38 = .ok (.getfield 133, 3) := by decide +kernel
theorem dX7_isAsKept_41 : decode cX7_isAsKept 41 = .ok (.if_icmp .ne 7, 3) := by decide +kernel
theorem dX7_isAsKept_44 : decode cX7_isAsKept 44 = .ok (.iconst 1, 1) := by decide +kernel
theorem dX7_isAsKept_45 : decode cX7_isAsKept 45 = .ok (.goto 4, 3) := by decide +kernel
theorem dX7_isAsKept_48 : decode cX7_isAsKept 48 = .ok (.iconst 0, 1) := by decide +kernel
theorem dX7_isAsKept_49 : decode cX7_isAsKept 49 = .ok (.ireturn, 1) := by decide +kernel
theorem dX7_round_0 : decode cX7_round 0 = .ok (.aload_n 0, 1) := by decide +kernel
theorem dX7_round_1 : decode cX7_round 1 = .ok (.invokevirtual 341, 3) := by decide +kernel
theorem dX7_round_4 : decode cX7_round 4 = .ok (.bipush (-5), 2) := by decide +kernel
theorem dX7_round_6 : decode cX7_round 6 = .ok (.istore_n 1, 1) := by decide +kernel
theorem dX7_round_7 : decode cX7_round 7 = .ok (.iconst 1, 1) := by decide +kernel
theorem dX7_round_8 : decode cX7_round 8 = .ok (.istore_n 2, 1) := by decide +kernel
theorem dX7_round_9 : decode cX7_round 9 = .ok (.iload_n 2, 1) := by decide +kernel
theorem dX7_round_10 : decode cX7_round 10 = .ok (.bipush 61, 2) := by decide +kernel
theorem dX7_round_12 : decode cX7_round 12 = .ok (.if_icmp .ge 31, 3) := by decide +kernel
theorem dX7_round_15 : decode cX7_round 15 = .ok (.iload_n 1, 1) := by decide +kernel
theorem dX7_round_16 : decode cX7_round 16 = .ok (.ifCond .ge 27, 3) := by decide +kernel
theorem dX7_round_19 : decode cX7_round 19 = .ok (.aload_n 0, 1) := by decide +kernel
theorem dX7_round_20 : decode cX7_round 20 = .ok (.invokevirtual 336, 3) := by decide +kernel
theorem dX7_round_23 : decode cX7_round 23 = .ok (.aload_n 0, 1) := by decide +kernel
theorem dX7_round_24 : decode cX7_round 24 = .ok (.invokevirtual 350, 3) := by decide +kernel
theorem dX7_round_27 : decode cX7_round 27 = .ok (.ifCond .eq 7, 3) := by decide +kernel
theorem dX7_round_30 : decode cX7_round 30 = .ok (.iload_n 2, 1) := by decide +kernel
theorem dX7_round_31 : decode cX7_round 31 = .ok (.goto 5, 3) := by decide +kernel
theorem dX7_round_34 : decode cX7_round 34 = .ok (.bipush (-5), 2) := by decide +kernel
theorem dX7_round_36 : decode cX7_round 36 = .ok (.istore_n 1, 1) := by decide +kernel
theorem dX7_round_37 : decode cX7_round 37 = .ok (.iinc 2 1, 3) := by decide +kernel
theorem dX7_round_40 : decode cX7_round 40 = .ok (.goto (-31), 3) := by decide +kernel
theorem dX7_round_43 : decode cX7_round 43 = .ok (.aload_n 0, 1) := by decide +kernel
theorem dX7_round_44 : decode cX7_round 44 = .ok (.invokevirtual 347, 3) := by decide +kernel
theorem dX7_round_47 : decode cX7_round 47 = .ok (.iload_n 1, 1) := by decide +kernel
theorem dX7_round_48 : decode cX7_round 48 = .ok (.ireturn, 1) := by decide +kernel
theorem dX7_layRow_0 : decode cX7_layRow 0 = .ok (.iload_n 1, 1) := by decide +kernel
theorem dX7_layRow_1 : decode cX7_layRow 1 = .ok (.istore_n 2, 1) := by decide +kernel
theorem dX7_layRow_2 : decode cX7_layRow 2 = .ok (.aload_n 0, 1) := by decide +kernel
theorem dX7_layRow_3 : decode cX7_layRow 3 = .ok (.getfield 7, 3) := by decide +kernel
theorem dX7_layRow_6 : decode cX7_layRow 6 = .ok (.iconst 1, 1) := by decide +kernel
theorem dX7_layRow_7 : decode cX7_layRow 7 = .ok (.isub, 1) := by decide +kernel
theorem dX7_layRow_8 : decode cX7_layRow 8 = .ok (.istore_n 3, 1) := by decide +kernel
theorem dX7_layRow_9 : decode cX7_layRow 9 = .ok (.iload_n 3, 1) := by decide +kernel
theorem dX7_layRow_10 : decode cX7_layRow 10 = .ok (.ifCond .lt 22, 3) := by decide +kernel
theorem dX7_layRow_13 : decode cX7_layRow 13 = .ok (.aload_n 0, 1) := by decide +kernel
theorem dX7_layRow_14 : decode cX7_layRow 14 = .ok (.getfield 103, 3) := by decide +kernel
theorem dX7_layRow_17 : decode cX7_layRow 17 = .ok (.iload_n 3, 1) := by decide +kernel
theorem dX7_layRow_18 : decode cX7_layRow 18 = .ok (.iload_n 2, 1) := by decide +kernel
theorem dX7_layRow_19 : decode cX7_layRow 19 = .ok (.iconst 4, 1) := by decide +kernel
theorem dX7_layRow_20 : decode cX7_layRow 20 = .ok (.irem, 1) := by decide +kernel
theorem dX7_layRow_21 : decode cX7_layRow 21 = .ok (.iastore, 1) := by decide +kernel
theorem dX7_layRow_22 : decode cX7_layRow 22 = .ok (.iload_n 2, 1) := by decide +kernel
theorem dX7_layRow_23 : decode cX7_layRow 23 = .ok (.iconst 4, 1) := by decide +kernel
theorem dX7_layRow_24 : decode cX7_layRow 24 = .ok (.idiv, 1) := by decide +kernel
theorem dX7_layRow_25 : decode cX7_layRow 25 = .ok (.istore_n 2, 1) := by decide +kernel
theorem dX7_layRow_26 : decode cX7_layRow 26 = .ok (.iinc 3 (-1), 3) := by decide +kernel
theorem dX7_layRow_29 : decode cX7_layRow 29 = .ok (.goto (-20), 3) := by decide +kernel
theorem dX7_layRow_32 : decode cX7_layRow 32 = .ok (.return_, 1) := by decide +kernel
theorem dX7_rowsNow_0 : decode cX7_rowsNow 0 = .ok (.iconst 1, 1) := by decide +kernel
theorem dX7_rowsNow_1 : decode cX7_rowsNow 1 = .ok (.istore_n 1, 1) := by decide +kernel
theorem dX7_rowsNow_2 : decode cX7_rowsNow 2 = .ok (.iconst 0, 1) := by decide +kernel
theorem dX7_rowsNow_3 : decode cX7_rowsNow 3 = .ok (.istore_n 2, 1) := by decide +kernel
theorem dX7_rowsNow_4 : decode cX7_rowsNow 4 = .ok (.iload_n 2, 1) := by decide +kernel
theorem dX7_rowsNow_5 : decode cX7_rowsNow 5 = .ok (.aload_n 0, 1) := by decide +kernel
theorem dX7_rowsNow_6 : decode cX7_rowsNow 6 = .ok (.getfield 7, 3) := by decide +kernel
theorem dX7_rowsNow_9 : decode cX7_rowsNow 9 = .ok (.if_icmp .ge 13, 3) := by decide +kernel
theorem dX7_rowsNow_12 : decode cX7_rowsNow 12 = .ok (.iload_n 1, 1) := by decide +kernel
theorem dX7_rowsNow_13 : decode cX7_rowsNow 13 = .ok (.iconst 4, 1) := by decide +kernel
theorem dX7_rowsNow_14 : decode cX7_rowsNow 14 = .ok (.imul, 1) := by decide +kernel
theorem dX7_rowsNow_15 : decode cX7_rowsNow 15 = .ok (.istore_n 1, 1) := by decide +kernel
theorem dX7_rowsNow_16 : decode cX7_rowsNow 16 = .ok (.iinc 2 1, 3) := by decide +kernel
theorem dX7_rowsNow_19 : decode cX7_rowsNow 19 = .ok (.goto (-15), 3) := by decide +kernel
theorem dX7_rowsNow_22 : decode cX7_rowsNow 22 = .ok (.iload_n 1, 1) := by decide +kernel
theorem dX7_rowsNow_23 : decode cX7_rowsNow 23 = .ok (.ireturn, 1) := by decide +kernel
theorem dX7_isStill_0 : decode cX7_isStill 0 = .ok (.aload_n 0, 1) := by decide +kernel
theorem dX7_isStill_1 : decode cX7_isStill 1 = .ok (.iload_n 1, 1) := by decide +kernel
theorem dX7_isStill_2 : decode cX7_isStill 2 = .ok (.invokevirtual 353, 3) := by decide +kernel
theorem dX7_isStill_5 : decode cX7_isStill 5 = .ok (.aload_n 0, 1) := by decide +kernel
theorem dX7_isStill_6 : decode cX7_isStill 6 = .ok (.invokevirtual 324, 3) := by decide +kernel
theorem dX7_isStill_9 : decode cX7_isStill 9 = .ok (.iconst 0, 1) := by decide +kernel
theorem dX7_isStill_10 : decode cX7_isStill 10 = .ok (.istore_n 2, 1) := by decide +kernel
theorem dX7_isStill_11 : decode cX7_isStill 11 = .ok (.iload_n 2, 1) := by decide +kernel
theorem dX7_isStill_12 : decode cX7_isStill 12 = .ok (.aload_n 0, 1) := by decide +kernel
theorem dX7_isStill_13 : decode cX7_isStill 13 = .ok (.getfield 7, 3) := by decide +kernel
theorem dX7_isStill_16 : decode cX7_isStill 16 = .ok (.if_icmp .ge 21, 3) := by decide +kernel
theorem dX7_isStill_19 : decode cX7_isStill 19 = .ok (.aload_n 0, 1) := by decide +kernel
theorem dX7_isStill_20 : decode cX7_isStill 20 = .ok (.getfield 142, 3) := by decide +kernel
theorem dX7_isStill_23 : decode cX7_isStill 23 = .ok (.iload_n 2, 1) := by decide +kernel
theorem dX7_isStill_24 : decode cX7_isStill 24 = .ok (.aload_n 0, 1) := by decide +kernel
theorem dX7_isStill_25 : decode cX7_isStill 25 = .ok (.getfield 109, 3) := by decide +kernel
theorem dX7_isStill_28 : decode cX7_isStill 28 = .ok (.iload_n 2, 1) := by decide +kernel
theorem dX7_isStill_29 : decode cX7_isStill 29 = .ok (.iaload, 1) := by decide +kernel
theorem dX7_isStill_30 : decode cX7_isStill 30 = .ok (.iastore, 1) := by decide +kernel
theorem dX7_isStill_31 : decode cX7_isStill 31 = .ok (.iinc 2 1, 3) := by decide +kernel
theorem dX7_isStill_34 : decode cX7_isStill 34 = .ok (.goto (-23), 3) := by decide +kernel
theorem dX7_isStill_37 : decode cX7_isStill 37 = .ok (.iconst 0, 1) := by decide +kernel
theorem dX7_isStill_38 : decode cX7_isStill 38 = .ok (.istore_n 2, 1) := by decide +kernel
theorem dX7_isStill_39 : decode cX7_isStill 39 = .ok (.iload_n 2, 1) := by decide +kernel
theorem dX7_isStill_40 : decode cX7_isStill 40 = .ok (.aload_n 0, 1) := by decide +kernel
theorem dX7_isStill_41 : decode cX7_isStill 41 = .ok (.getfield 7, 3) := by decide +kernel
theorem dX7_isStill_44 : decode cX7_isStill 44 = .ok (.if_icmp .ge 67, 3) := by decide +kernel
theorem dX7_isStill_47 : decode cX7_isStill 47 = .ok (.aload_n 0, 1) := by decide +kernel
theorem dX7_isStill_48 : decode cX7_isStill 48 = .ok (.getfield 103, 3) := by decide +kernel
theorem dX7_isStill_51 : decode cX7_isStill 51 = .ok (.iload_n 2, 1) := by decide +kernel
theorem dX7_isStill_52 : decode cX7_isStill 52 = .ok (.iaload, 1) := by decide +kernel
theorem dX7_isStill_53 : decode cX7_isStill 53 = .ok (.istore_n 3, 1) := by decide +kernel
theorem dX7_isStill_54 : decode cX7_isStill 54 = .ok (.iconst 0, 1) := by decide +kernel
theorem dX7_isStill_55 : decode cX7_isStill 55 = .ok (.istore 4, 2) := by decide +kernel
theorem dX7_isStill_57 : decode cX7_isStill 57 = .ok (.iload 4, 2) := by decide +kernel
theorem dX7_isStill_59 : decode cX7_isStill 59 = .ok (.iconst 4, 1) := by decide +kernel
theorem dX7_isStill_60 : decode cX7_isStill 60 = .ok (.if_icmp .ge 38, 3) := by decide +kernel
theorem dX7_isStill_63 : decode cX7_isStill 63 = .ok (.aload_n 0, 1) := by decide +kernel
theorem dX7_isStill_64 : decode cX7_isStill 64 = .ok (.getfield 103, 3) := by decide +kernel
theorem dX7_isStill_67 : decode cX7_isStill 67 = .ok (.iload_n 2, 1) := by decide +kernel
theorem dX7_isStill_68 : decode cX7_isStill 68 = .ok (.iload 4, 2) := by decide +kernel
theorem dX7_isStill_70 : decode cX7_isStill 70 = .ok (.iastore, 1) := by decide +kernel
theorem dX7_isStill_71 : decode cX7_isStill 71 = .ok (.aload_n 0, 1) := by decide +kernel
theorem dX7_isStill_72 : decode cX7_isStill 72 = .ok (.invokevirtual 324, 3) := by decide +kernel
theorem dX7_isStill_75 : decode cX7_isStill 75 = .ok (.aload_n 0, 1) := by decide +kernel
theorem dX7_isStill_76 : decode cX7_isStill 76 = .ok (.getfield 109, 3) := by decide +kernel
theorem dX7_isStill_79 : decode cX7_isStill 79 = .ok (.iload_n 2, 1) := by decide +kernel
theorem dX7_isStill_80 : decode cX7_isStill 80 = .ok (.iaload, 1) := by decide +kernel
theorem dX7_isStill_81 : decode cX7_isStill 81 = .ok (.aload_n 0, 1) := by decide +kernel
theorem dX7_isStill_82 : decode cX7_isStill 82 = .ok (.getfield 142, 3) := by decide +kernel
theorem dX7_isStill_85 : decode cX7_isStill 85 = .ok (.iload_n 2, 1) := by decide +kernel
theorem dX7_isStill_86 : decode cX7_isStill 86 = .ok (.iaload, 1) := by decide +kernel
theorem dX7_isStill_87 : decode cX7_isStill 87 = .ok (.if_icmp .le 5, 3) := by decide +kernel
theorem dX7_isStill_90 : decode cX7_isStill 90 = .ok (.iconst 0, 1) := by decide +kernel
theorem dX7_isStill_91 : decode cX7_isStill 91 = .ok (.ireturn, 1) := by decide +kernel
theorem dX7_isStill_92 : decode cX7_isStill 92 = .ok (.iinc 4 1, 3) := by decide +kernel
theorem dX7_isStill_95 : decode cX7_isStill 95 = .ok (.goto (-38), 3) := by decide +kernel
theorem dX7_isStill_98 : decode cX7_isStill 98 = .ok (.aload_n 0, 1) := by decide +kernel
theorem dX7_isStill_99 : decode cX7_isStill 99 = .ok (.getfield 103, 3) := by decide +kernel
theorem dX7_isStill_102 : decode cX7_isStill 102 = .ok (.iload_n 2, 1) := by decide +kernel
theorem dX7_isStill_103 : decode cX7_isStill 103 = .ok (.iload_n 3, 1) := by decide +kernel
theorem dX7_isStill_104 : decode cX7_isStill 104 = .ok (.iastore, 1) := by decide +kernel
theorem dX7_isStill_105 : decode cX7_isStill 105 = .ok (.iinc 2 1, 3) := by decide +kernel
theorem dX7_isStill_108 : decode cX7_isStill 108 = .ok (.goto (-69), 3) := by decide +kernel
theorem dX7_isStill_111 : decode cX7_isStill 111 = .ok (.iconst 1, 1) := by decide +kernel
theorem dX7_isStill_112 : decode cX7_isStill 112 = .ok (.ireturn, 1) := by decide +kernel
theorem dX7_digit_0 : decode cX7_digit 0 = .ok (.iload_n 1, 1) := by decide +kernel
theorem dX7_digit_1 : decode cX7_digit 1 = .ok (.istore_n 3, 1) := by decide +kernel
theorem dX7_digit_2 : decode cX7_digit 2 = .ok (.aload_n 0, 1) := by decide +kernel
theorem dX7_digit_3 : decode cX7_digit 3 = .ok (.getfield 7, 3) := by decide +kernel
theorem dX7_digit_6 : decode cX7_digit 6 = .ok (.iconst 1, 1) := by decide +kernel
theorem dX7_digit_7 : decode cX7_digit 7 = .ok (.isub, 1) := by decide +kernel
theorem dX7_digit_8 : decode cX7_digit 8 = .ok (.istore 4, 2) := by decide +kernel
theorem dX7_digit_10 : decode cX7_digit 10 = .ok (.iload 4, 2) := by decide +kernel
theorem dX7_digit_12 : decode cX7_digit 12 = .ok (.iload_n 2, 1) := by decide +kernel
theorem dX7_digit_13 : decode cX7_digit 13 = .ok (.if_icmp .le 13, 3) := by decide +kernel
theorem dX7_digit_16 : decode cX7_digit 16 = .ok (.iload_n 3, 1) := by decide +kernel
theorem dX7_digit_17 : decode cX7_digit 17 = .ok (.iconst 4, 1) := by decide +kernel
theorem dX7_digit_18 : decode cX7_digit 18 = .ok (.idiv, 1) := by decide +kernel
theorem dX7_digit_19 : decode cX7_digit 19 = .ok (.istore_n 3, 1) := by decide +kernel
theorem dX7_digit_20 : decode cX7_digit 20 = .ok (.iinc 4 (-1), 3) := by decide +kernel
theorem dX7_digit_23 : decode cX7_digit 23 = .ok (.goto (-13), 3) := by decide +kernel
theorem dX7_digit_26 : decode cX7_digit 26 = .ok (.iload_n 3, 1) := by decide +kernel
theorem dX7_digit_27 : decode cX7_digit 27 = .ok (.iconst 4, 1) := by decide +kernel
theorem dX7_digit_28 : decode cX7_digit 28 = .ok (.irem, 1) := by decide +kernel
theorem dX7_digit_29 : decode cX7_digit 29 = .ok (.ireturn, 1) := by decide +kernel
theorem dX7_still_0 : decode cX7_still 0 = .ok (.iload_n 1, 1) := by decide +kernel
theorem dX7_still_1 : decode cX7_still 1 = .ok (.ifCond .eq 24, 3) := by decide +kernel
theorem dX7_still_4 : decode cX7_still 4 = .ok (.aload_n 0, 1) := by decide +kernel
theorem dX7_still_5 : decode cX7_still 5 = .ok (.iload_n 1, 1) := by decide +kernel
theorem dX7_still_6 : decode cX7_still 6 = .ok (.bipush 10, 2) := by decide +kernel
theorem dX7_still_8 : decode cX7_still 8 = .ok (.bipush 9, 2) := by decide +kernel
theorem dX7_still_10 : decode cX7_still 10 = .ok (.aload_n 0, 1) := by decide +kernel
theorem dX7_still_11 : decode cX7_still 11 = .ok (.getfield 7, 3) := by decide +kernel
theorem dX7_still_14 : decode cX7_still 14 = .ok (.iadd, 1) := by decide +kernel
theorem dX7_still_15 : decode cX7_still 15 = .ok (.invokevirtual 212, 3) := by decide +kernel
theorem dX7_still_18 : decode cX7_still 18 = .ok (.ifCond .ne 7, 3) := by decide +kernel
theorem dX7_still_21 : decode cX7_still 21 = .ok (.ldc_w 339, 3) := by decide +kernel
theorem dX7_still_24 : decode cX7_still 24 = .ok (.ireturn, 1) := by decide +kernel
theorem dX7_still_25 : decode cX7_still 25 = .ok (.aload_n 0, 1) := by decide +kernel
theorem dX7_still_26 : decode cX7_still 26 = .ok (.getfield 7, 3) := by decide +kernel
theorem dX7_still_29 : decode cX7_still 29 = .ok (.iconst 4, 1) := by decide +kernel
theorem dX7_still_30 : decode cX7_still 30 = .ok (.if_icmp .le 6, 3) := by decide +kernel
theorem dX7_still_33 : decode cX7_still 33 = .ok (.bipush (-9), 2) := by decide +kernel
theorem dX7_still_35 : decode cX7_still 35 = .ok (.ireturn, 1) := by decide +kernel
theorem dX7_still_36 : decode cX7_still 36 = .ok (.iconst 0, 1) := by decide +kernel
theorem dX7_still_37 : decode cX7_still 37 = .ok (.istore_n 2, 1) := by decide +kernel
theorem dX7_still_38 : decode cX7_still 38 = .ok (.iconst (-1), 1) := by decide +kernel
theorem dX7_still_39 : decode cX7_still 39 = .ok (.istore_n 3, 1) := by decide +kernel
theorem dX7_still_40 : decode cX7_still 40 = .ok (.iconst 0, 1) := by decide +kernel
theorem dX7_still_41 : decode cX7_still 41 = .ok (.istore 4, 2) := by decide +kernel
theorem dX7_still_43 : decode cX7_still 43 = .ok (.iload 4, 2) := by decide +kernel
theorem dX7_still_45 : decode cX7_still 45 = .ok (.aload_n 0, 1) := by decide +kernel
theorem dX7_still_46 : decode cX7_still 46 = .ok (.invokevirtual 356, 3) := by decide +kernel
theorem dX7_still_49 : decode cX7_still 49 = .ok (.if_icmp .ge 31, 3) := by decide +kernel
theorem dX7_still_52 : decode cX7_still 52 = .ok (.aload_n 0, 1) := by decide +kernel
theorem dX7_still_53 : decode cX7_still 53 = .ok (.iload 4, 2) := by decide +kernel
theorem dX7_still_55 : decode cX7_still 55 = .ok (.invokevirtual 359, 3) := by decide +kernel
theorem dX7_still_58 : decode cX7_still 58 = .ok (.ifCond .ne 6, 3) := by decide +kernel
theorem dX7_still_61 : decode cX7_still 61 = .ok (.goto 13, 3) := by decide +kernel
theorem dX7_still_64 : decode cX7_still 64 = .ok (.iload_n 2, 1) := by decide +kernel
theorem dX7_still_65 : decode cX7_still 65 = .ok (.ifCond .ne 6, 3) := by decide +kernel
theorem dX7_still_68 : decode cX7_still 68 = .ok (.iload 4, 2) := by decide +kernel
theorem dX7_still_70 : decode cX7_still 70 = .ok (.istore_n 3, 1) := by decide +kernel
theorem dX7_still_71 : decode cX7_still 71 = .ok (.iinc 2 1, 3) := by decide +kernel
theorem dX7_still_74 : decode cX7_still 74 = .ok (.iinc 4 1, 3) := by decide +kernel
theorem dX7_still_77 : decode cX7_still 77 = .ok (.goto (-34), 3) := by decide +kernel
theorem dX7_still_80 : decode cX7_still 80 = .ok (.iload_n 1, 1) := by decide +kernel
theorem dX7_still_81 : decode cX7_still 81 = .ok (.ifCond .ne 7, 3) := by decide +kernel
theorem dX7_still_84 : decode cX7_still 84 = .ok (.iload_n 2, 1) := by decide +kernel
theorem dX7_still_85 : decode cX7_still 85 = .ok (.goto 21, 3) := by decide +kernel
theorem dX7_still_88 : decode cX7_still 88 = .ok (.iload_n 3, 1) := by decide +kernel
theorem dX7_still_89 : decode cX7_still 89 = .ok (.ifCond .ge 8, 3) := by decide +kernel
theorem dX7_still_92 : decode cX7_still 92 = .ok (.bipush (-5), 2) := by decide +kernel
theorem dX7_still_94 : decode cX7_still 94 = .ok (.goto 12, 3) := by decide +kernel
theorem dX7_still_97 : decode cX7_still 97 = .ok (.aload_n 0, 1) := by decide +kernel
theorem dX7_still_98 : decode cX7_still 98 = .ok (.iload_n 3, 1) := by decide +kernel
theorem dX7_still_99 : decode cX7_still 99 = .ok (.iload_n 1, 1) := by decide +kernel
theorem dX7_still_100 : decode cX7_still 100 = .ok (.bipush 10, 2) := by decide +kernel
theorem dX7_still_102 : decode cX7_still 102 = .ok (.isub, 1) := by decide +kernel
theorem dX7_still_103 : decode cX7_still 103 = .ok (.invokevirtual 362, 3) := by decide +kernel
theorem dX7_still_106 : decode cX7_still 106 = .ok (.ireturn, 1) := by decide +kernel
theorem dX7_allBest_0 : decode cX7_allBest 0 = .ok (.iload_n 1, 1) := by decide +kernel
theorem dX7_allBest_1 : decode cX7_allBest 1 = .ok (.ifCond .eq 24, 3) := by decide +kernel
theorem dX7_allBest_4 : decode cX7_allBest 4 = .ok (.aload_n 0, 1) := by decide +kernel
theorem dX7_allBest_5 : decode cX7_allBest 5 = .ok (.iload_n 1, 1) := by decide +kernel
theorem dX7_allBest_6 : decode cX7_allBest 6 = .ok (.bipush 10, 2) := by decide +kernel
theorem dX7_allBest_8 : decode cX7_allBest 8 = .ok (.bipush 9, 2) := by decide +kernel
theorem dX7_allBest_10 : decode cX7_allBest 10 = .ok (.aload_n 0, 1) := by decide +kernel
theorem dX7_allBest_11 : decode cX7_allBest 11 = .ok (.getfield 7, 3) := by decide +kernel
theorem dX7_allBest_14 : decode cX7_allBest 14 = .ok (.iadd, 1) := by decide +kernel
theorem dX7_allBest_15 : decode cX7_allBest 15 = .ok (.invokevirtual 212, 3) := by decide +kernel
theorem dX7_allBest_18 : decode cX7_allBest 18 = .ok (.ifCond .ne 7, 3) := by decide +kernel
theorem dX7_allBest_21 : decode cX7_allBest 21 = .ok (.ldc_w 339, 3) := by decide +kernel
theorem dX7_allBest_24 : decode cX7_allBest 24 = .ok (.ireturn, 1) := by decide +kernel
theorem dX7_allBest_25 : decode cX7_allBest 25 = .ok (.aload_n 0, 1) := by decide +kernel
theorem dX7_allBest_26 : decode cX7_allBest 26 = .ok (.getfield 7, 3) := by decide +kernel
theorem dX7_allBest_29 : decode cX7_allBest 29 = .ok (.iconst 4, 1) := by decide +kernel
theorem dX7_allBest_30 : decode cX7_allBest 30 = .ok (.if_icmp .le 6, 3) := by decide +kernel
theorem dX7_allBest_33 : decode cX7_allBest 33 = .ok (.bipush (-9), 2) := by decide +kernel
theorem dX7_allBest_35 : decode cX7_allBest 35 = .ok (.ireturn, 1) := by decide +kernel
theorem dX7_allBest_36 : decode cX7_allBest 36 = .ok (.iconst (-1), 1) := by decide +kernel
theorem dX7_allBest_37 : decode cX7_allBest 37 = .ok (.istore_n 2, 1) := by decide +kernel
theorem dX7_allBest_38 : decode cX7_allBest 38 = .ok (.iconst 0, 1) := by decide +kernel
theorem dX7_allBest_39 : decode cX7_allBest 39 = .ok (.istore_n 3, 1) := by decide +kernel
theorem dX7_allBest_40 : decode cX7_allBest 40 = .ok (.iconst 0, 1) := by decide +kernel
theorem dX7_allBest_41 : decode cX7_allBest 41 = .ok (.istore 4, 2) := by decide +kernel
theorem dX7_allBest_43 : decode cX7_allBest 43 = .ok (.iload 4, 2) := by decide +kernel
theorem dX7_allBest_45 : decode cX7_allBest 45 = .ok (.aload_n 0, 1) := by decide +kernel
theorem dX7_allBest_46 : decode cX7_allBest 46 = .ok (.invokevirtual 356, 3) := by decide +kernel
theorem dX7_allBest_49 : decode cX7_allBest 49 = .ok (.if_icmp .ge 71, 3) := by decide +kernel
theorem dX7_allBest_52 : decode cX7_allBest 52 = .ok (.aload_n 0, 1) := by decide +kernel
theorem dX7_allBest_53 : decode cX7_allBest 53 = .ok (.iload 4, 2) := by decide +kernel
theorem dX7_allBest_55 : decode cX7_allBest 55 = .ok (.invokevirtual 353, 3) := by decide +kernel
theorem dX7_allBest_58 : decode cX7_allBest 58 = .ok (.aload_n 0, 1) := by decide +kernel
theorem dX7_allBest_59 : decode cX7_allBest 59 = .ok (.invokevirtual 324, 3) := by decide +kernel
theorem dX7_allBest_62 : decode cX7_allBest 62 = .ok (.iconst 0, 1) := by decide +kernel
theorem dX7_allBest_63 : decode cX7_allBest 63 = .ok (.istore 5, 2) := by decide +kernel
theorem dX7_allBest_65 : decode cX7_allBest 65 = .ok (.iconst 0, 1) := by decide +kernel
theorem dX7_allBest_66 : decode cX7_allBest 66 = .ok (.istore 6, 2) := by decide +kernel
theorem dX7_allBest_68 : decode cX7_allBest 68 = .ok (.iload 6, 2) := by decide +kernel
theorem dX7_allBest_70 : decode cX7_allBest 70 = .ok (.aload_n 0, 1) := by decide +kernel
theorem dX7_allBest_71 : decode cX7_allBest 71 = .ok (.getfield 7, 3) := by decide +kernel
theorem dX7_allBest_74 : decode cX7_allBest 74 = .ok (.if_icmp .ge 21, 3) := by decide +kernel
theorem dX7_allBest_77 : decode cX7_allBest 77 = .ok (.iload 5, 2) := by decide +kernel
theorem dX7_allBest_79 : decode cX7_allBest 79 = .ok (.aload_n 0, 1) := by decide +kernel
theorem dX7_allBest_80 : decode cX7_allBest 80 = .ok (.getfield 109, 3) := by decide +kernel
theorem dX7_allBest_83 : decode cX7_allBest 83 = .ok (.iload 6, 2) := by decide +kernel
theorem dX7_allBest_85 : decode cX7_allBest 85 = .ok (.iaload, 1) := by decide +kernel
theorem dX7_allBest_86 : decode cX7_allBest 86 = .ok (.iadd, 1) := by decide +kernel
theorem dX7_allBest_87 : decode cX7_allBest 87 = .ok (.istore 5, 2) := by decide +kernel
theorem dX7_allBest_89 : decode cX7_allBest 89 = .ok (.iinc 6 1, 3) := by decide +kernel
theorem dX7_allBest_92 : decode cX7_allBest 92 = .ok (.goto (-24), 3) := by decide +kernel
theorem dX7_allBest_95 : decode cX7_allBest 95 = .ok (.iload_n 2, 1) := by decide +kernel
theorem dX7_allBest_96 : decode cX7_allBest 96 = .ok (.ifCond .lt 12, 3) := by decide +kernel
theorem dX7_allBest_99 : decode cX7_allBest 99 = .ok (.iload 5, 2) := by decide +kernel
theorem dX7_allBest_101 : decode cX7_allBest 101 = .ok (.iload_n 3, 1) := by decide +kernel
theorem dX7_allBest_102 : decode cX7_allBest 102 = .ok (.if_icmp .gt 6, 3) := by decide +kernel
theorem dX7_allBest_105 : decode cX7_allBest 105 = .ok (.goto 9, 3) := by decide +kernel
theorem dX7_allBest_108 : decode cX7_allBest 108 = .ok (.iload 4, 2) := by decide +kernel
theorem dX7_allBest_110 : decode cX7_allBest 110 = .ok (.istore_n 2, 1) := by decide +kernel
theorem dX7_allBest_111 : decode cX7_allBest 111 = .ok (.iload 5, 2) := by decide +kernel
theorem dX7_allBest_113 : decode cX7_allBest 113 = .ok (.istore_n 3, 1) := by decide +kernel
theorem dX7_allBest_114 : decode cX7_allBest 114 = .ok (.iinc 4 1, 3) := by decide +kernel
theorem dX7_allBest_117 : decode cX7_allBest 117 = .ok (.goto (-74), 3) := by decide +kernel
theorem dX7_allBest_120 : decode cX7_allBest 120 = .ok (.iload_n 1, 1) := by decide +kernel
theorem dX7_allBest_121 : decode cX7_allBest 121 = .ok (.ifCond .ne 7, 3) := by decide +kernel
theorem dX7_allBest_124 : decode cX7_allBest 124 = .ok (.iload_n 3, 1) := by decide +kernel
theorem dX7_allBest_125 : decode cX7_allBest 125 = .ok (.goto 12, 3) := by decide +kernel
theorem dX7_allBest_128 : decode cX7_allBest 128 = .ok (.aload_n 0, 1) := by decide +kernel
theorem dX7_allBest_129 : decode cX7_allBest 129 = .ok (.iload_n 2, 1) := by decide +kernel
theorem dX7_allBest_130 : decode cX7_allBest 130 = .ok (.iload_n 1, 1) := by decide +kernel
theorem dX7_allBest_131 : decode cX7_allBest 131 = .ok (.bipush 10, 2) := by decide +kernel
theorem dX7_allBest_133 : decode cX7_allBest 133 = .ok (.isub, 1) := by decide +kernel
theorem dX7_allBest_134 : decode cX7_allBest 134 = .ok (.invokevirtual 362, 3) := by decide +kernel
theorem dX7_allBest_137 : decode cX7_allBest 137 = .ok (.ireturn, 1) := by decide +kernel
theorem dX7_allGlad_0 : decode cX7_allGlad 0 = .ok (.iconst 0, 1) := by decide +kernel
theorem dX7_allGlad_1 : decode cX7_allGlad 1 = .ok (.istore_n 1, 1) := by decide +kernel
theorem dX7_allGlad_2 : decode cX7_allGlad 2 = .ok (.iconst 0, 1) := by decide +kernel
theorem dX7_allGlad_3 : decode cX7_allGlad 3 = .ok (.istore_n 2, 1) := by decide +kernel
theorem dX7_allGlad_4 : decode cX7_allGlad 4 = .ok (.iload_n 2, 1) := by decide +kernel
theorem dX7_allGlad_5 : decode cX7_allGlad 5 = .ok (.aload_n 0, 1) := by decide +kernel
theorem dX7_allGlad_6 : decode cX7_allGlad 6 = .ok (.getfield 7, 3) := by decide +kernel
theorem dX7_allGlad_9 : decode cX7_allGlad 9 = .ok (.if_icmp .ge 18, 3) := by decide +kernel
theorem dX7_allGlad_12 : decode cX7_allGlad 12 = .ok (.iload_n 1, 1) := by decide +kernel
theorem dX7_allGlad_13 : decode cX7_allGlad 13 = .ok (.aload_n 0, 1) := by decide +kernel
theorem dX7_allGlad_14 : decode cX7_allGlad 14 = .ok (.getfield 35, 3) := by decide +kernel
theorem dX7_allGlad_17 : decode cX7_allGlad 17 = .ok (.iload_n 2, 1) := by decide +kernel
theorem dX7_allGlad_18 : decode cX7_allGlad 18 = .ok (.iaload, 1) := by decide +kernel
theorem dX7_allGlad_19 : decode cX7_allGlad 19 = .ok (.iadd, 1) := by decide +kernel
theorem dX7_allGlad_20 : decode cX7_allGlad 20 = .ok (.istore_n 1, 1) := by decide +kernel
theorem dX7_allGlad_21 : decode cX7_allGlad 21 = .ok (.iinc 2 1, 3) := by decide +kernel
theorem dX7_allGlad_24 : decode cX7_allGlad 24 = .ok (.goto (-20), 3) := by decide +kernel
theorem dX7_allGlad_27 : decode cX7_allGlad 27 = .ok (.iload_n 1, 1) := by decide +kernel
theorem dX7_allGlad_28 : decode cX7_allGlad 28 = .ok (.ireturn, 1) := by decide +kernel
theorem dX7_laws_0 : decode cX7_laws 0 = .ok (.aload_n 0, 1) := by decide +kernel
theorem dX7_laws_1 : decode cX7_laws 1 = .ok (.iload_n 1, 1) := by decide +kernel
theorem dX7_laws_2 : decode cX7_laws 2 = .ok (.iconst 0, 1) := by decide +kernel
theorem dX7_laws_3 : decode cX7_laws 3 = .ok (.bipush 60, 2) := by decide +kernel
theorem dX7_laws_5 : decode cX7_laws 5 = .ok (.invokevirtual 212, 3) := by decide +kernel
theorem dX7_laws_8 : decode cX7_laws 8 = .ok (.ifCond .ne 6, 3) := by decide +kernel
theorem dX7_laws_11 : decode cX7_laws 11 = .ok (.bipush (-2), 2) := by decide +kernel
theorem dX7_laws_13 : decode cX7_laws 13 = .ok (.ireturn, 1) := by decide +kernel
theorem dX7_laws_14 : decode cX7_laws 14 = .ok (.iconst (-1), 1) := by decide +kernel
theorem dX7_laws_15 : decode cX7_laws 15 = .ok (.istore_n 2, 1) := by decide +kernel
theorem dX7_laws_16 : decode cX7_laws 16 = .ok (.iconst 0, 1) := by decide +kernel
theorem dX7_laws_17 : decode cX7_laws 17 = .ok (.istore_n 3, 1) := by decide +kernel
theorem dX7_laws_18 : decode cX7_laws 18 = .ok (.iconst 0, 1) := by decide +kernel
theorem dX7_laws_19 : decode cX7_laws 19 = .ok (.istore 4, 2) := by decide +kernel
theorem dX7_laws_21 : decode cX7_laws 21 = .ok (.iload 4, 2) := by decide +kernel
theorem dX7_laws_23 : decode cX7_laws 23 = .ok (.iconst 3, 1) := by decide +kernel
theorem dX7_laws_24 : decode cX7_laws 24 = .ok (.if_icmp .ge 53, 3) := by decide +kernel
theorem dX7_laws_27 : decode cX7_laws 27 = .ok (.aload_n 0, 1) := by decide +kernel
theorem dX7_laws_28 : decode cX7_laws 28 = .ok (.iload 4, 2) := by decide +kernel
theorem dX7_laws_30 : decode cX7_laws 30 = .ok (.putfield 100, 3) := by decide +kernel
theorem dX7_laws_33 : decode cX7_laws 33 = .ok (.aload_n 0, 1) := by decide +kernel
theorem dX7_laws_34 : decode cX7_laws 34 = .ok (.invokevirtual 341, 3) := by decide +kernel
theorem dX7_laws_37 : decode cX7_laws 37 = .ok (.aload_n 0, 1) := by decide +kernel
theorem dX7_laws_38 : decode cX7_laws 38 = .ok (.iload_n 1, 1) := by decide +kernel
theorem dX7_laws_39 : decode cX7_laws 39 = .ok (.invokevirtual 344, 3) := by decide +kernel
theorem dX7_laws_42 : decode cX7_laws 42 = .ok (.aload_n 0, 1) := by decide +kernel
theorem dX7_laws_43 : decode cX7_laws 43 = .ok (.invokevirtual 365, 3) := by decide +kernel
theorem dX7_laws_46 : decode cX7_laws 46 = .ok (.istore 5, 2) := by decide +kernel
theorem dX7_laws_48 : decode cX7_laws 48 = .ok (.aload_n 0, 1) := by decide +kernel
theorem dX7_laws_49 : decode cX7_laws 49 = .ok (.invokevirtual 347, 3) := by decide +kernel
theorem dX7_laws_52 : decode cX7_laws 52 = .ok (.iload_n 2, 1) := by decide +kernel
theorem dX7_laws_53 : decode cX7_laws 53 = .ok (.ifCond .lt 12, 3) := by decide +kernel
theorem dX7_laws_56 : decode cX7_laws 56 = .ok (.iload 5, 2) := by decide +kernel
theorem dX7_laws_58 : decode cX7_laws 58 = .ok (.iload_n 3, 1) := by decide +kernel
theorem dX7_laws_59 : decode cX7_laws 59 = .ok (.if_icmp .gt 6, 3) := by decide +kernel
theorem dX7_laws_62 : decode cX7_laws 62 = .ok (.goto 9, 3) := by decide +kernel
theorem dX7_laws_65 : decode cX7_laws 65 = .ok (.iload 4, 2) := by decide +kernel
theorem dX7_laws_67 : decode cX7_laws 67 = .ok (.istore_n 2, 1) := by decide +kernel
theorem dX7_laws_68 : decode cX7_laws 68 = .ok (.iload 5, 2) := by decide +kernel
theorem dX7_laws_70 : decode cX7_laws 70 = .ok (.istore_n 3, 1) := by decide +kernel
theorem dX7_laws_71 : decode cX7_laws 71 = .ok (.iinc 4 1, 3) := by decide +kernel
theorem dX7_laws_74 : decode cX7_laws 74 = .ok (.goto (-53), 3) := by decide +kernel
theorem dX7_laws_77 : decode cX7_laws 77 = .ok (.aload_n 0, 1) := by decide +kernel
theorem dX7_laws_78 : decode cX7_laws 78 = .ok (.iconst (-1), 1) := by decide +kernel
theorem dX7_laws_79 : decode cX7_laws 79 = .ok (.putfield 100, 3) := by decide +kernel
theorem dX7_laws_82 : decode cX7_laws 82 = .ok (.iload_n 2, 1) := by decide +kernel
theorem dX7_laws_83 : decode cX7_laws 83 = .ok (.ireturn, 1) := by decide +kernel
theorem dX7_gladBehind_0 : decode cX7_gladBehind 0 = .ok (.aload_n 0, 1) := by decide +kernel
theorem dX7_gladBehind_1 : decode cX7_gladBehind 1 = .ok (.invokevirtual 341, 3) := by decide +kernel
theorem dX7_gladBehind_4 : decode cX7_gladBehind 4 = .ok (.aload_n 0, 1) := by decide +kernel
theorem dX7_gladBehind_5 : decode cX7_gladBehind 5 = .ok (.iload_n 2, 1) := by decide +kernel
theorem dX7_gladBehind_6 : decode cX7_gladBehind 6 = .ok (.invokevirtual 344, 3) := by decide +kernel
theorem dX7_gladBehind_9 : decode cX7_gladBehind 9 = .ok (.aload_n 0, 1) := by decide +kernel
theorem dX7_gladBehind_10 : decode cX7_gladBehind 10 = .ok (.getfield 35, 3) := by decide +kernel
theorem dX7_gladBehind_13 : decode cX7_gladBehind 13 = .ok (.iload_n 1, 1) := by decide +kernel
theorem dX7_gladBehind_14 : decode cX7_gladBehind 14 = .ok (.iaload, 1) := by decide +kernel
theorem dX7_gladBehind_15 : decode cX7_gladBehind 15 = .ok (.istore_n 3, 1) := by decide +kernel
theorem dX7_gladBehind_16 : decode cX7_gladBehind 16 = .ok (.aload_n 0, 1) := by decide +kernel
theorem dX7_gladBehind_17 : decode cX7_gladBehind 17 = .ok (.invokevirtual 347, 3) := by decide +kernel
theorem dX7_gladBehind_20 : decode cX7_gladBehind 20 = .ok (.iload_n 3, 1) := by decide +kernel
theorem dX7_gladBehind_21 : decode cX7_gladBehind 21 = .ok (.ireturn, 1) := by decide +kernel
theorem dX7_cook_0 : decode cX7_cook 0 = .ok (.aload_n 0, 1) := by decide +kernel
theorem dX7_cook_1 : decode cX7_cook 1 = .ok (.iload_n 1, 1) := by decide +kernel
theorem dX7_cook_2 : decode cX7_cook 2 = .ok (.invokevirtual 220, 3) := by decide +kernel
theorem dX7_cook_5 : decode cX7_cook 5 = .ok (.ifCond .ne 7, 3) := by decide +kernel
theorem dX7_cook_8 : decode cX7_cook 8 = .ok (.ldc_w 339, 3) := by decide +kernel
theorem dX7_cook_11 : decode cX7_cook 11 = .ok (.ireturn, 1) := by decide +kernel
theorem dX7_cook_12 : decode cX7_cook 12 = .ok (.aload_n 0, 1) := by decide +kernel
theorem dX7_cook_13 : decode cX7_cook 13 = .ok (.iload_n 2, 1) := by decide +kernel
theorem dX7_cook_14 : decode cX7_cook 14 = .ok (.iconst 0, 1) := by decide +kernel
theorem dX7_cook_15 : decode cX7_cook 15 = .ok (.bipush 60, 2) := by decide +kernel
theorem dX7_cook_17 : decode cX7_cook 17 = .ok (.invokevirtual 212, 3) := by decide +kernel
theorem dX7_cook_20 : decode cX7_cook 20 = .ok (.ifCond .ne 7, 3) := by decide +kernel
theorem dX7_cook_23 : decode cX7_cook 23 = .ok (.ldc_w 340, 3) := by decide +kernel
theorem dX7_cook_26 : decode cX7_cook 26 = .ok (.ireturn, 1) := by decide +kernel
theorem dX7_cook_27 : decode cX7_cook 27 = .ok (.aload_n 0, 1) := by decide +kernel
theorem dX7_cook_28 : decode cX7_cook 28 = .ok (.iload_n 1, 1) := by decide +kernel
theorem dX7_cook_29 : decode cX7_cook 29 = .ok (.iload_n 2, 1) := by decide +kernel
theorem dX7_cook_30 : decode cX7_cook 30 = .ok (.invokevirtual 368, 3) := by decide +kernel
theorem dX7_cook_33 : decode cX7_cook 33 = .ok (.istore_n 3, 1) := by decide +kernel
theorem dX7_cook_34 : decode cX7_cook 34 = .ok (.aload_n 0, 1) := by decide +kernel
theorem dX7_cook_35 : decode cX7_cook 35 = .ok (.iconst 1, 1) := by decide +kernel
theorem dX7_cook_36 : decode cX7_cook 36 = .ok (.putfield 96, 3) := by decide +kernel
theorem dX7_cook_39 : decode cX7_cook 39 = .ok (.aload_n 0, 1) := by decide +kernel
theorem dX7_cook_40 : decode cX7_cook 40 = .ok (.iload_n 1, 1) := by decide +kernel
theorem dX7_cook_41 : decode cX7_cook 41 = .ok (.iload_n 2, 1) := by decide +kernel
theorem dX7_cook_42 : decode cX7_cook 42 = .ok (.invokevirtual 368, 3) := by decide +kernel
theorem dX7_cook_45 : decode cX7_cook 45 = .ok (.istore 4, 2) := by decide +kernel
theorem dX7_cook_47 : decode cX7_cook 47 = .ok (.aload_n 0, 1) := by decide +kernel
theorem dX7_cook_48 : decode cX7_cook 48 = .ok (.iconst 0, 1) := by decide +kernel
theorem dX7_cook_49 : decode cX7_cook 49 = .ok (.putfield 96, 3) := by decide +kernel
theorem dX7_cook_52 : decode cX7_cook 52 = .ok (.iload 4, 2) := by decide +kernel
theorem dX7_cook_54 : decode cX7_cook 54 = .ok (.iload_n 3, 1) := by decide +kernel
theorem dX7_cook_55 : decode cX7_cook 55 = .ok (.isub, 1) := by decide +kernel
theorem dX7_cook_56 : decode cX7_cook 56 = .ok (.ireturn, 1) := by decide +kernel
theorem dX7_isEnough_0 : decode cX7_isEnough 0 = .ok (.aload_n 0, 1) := by decide +kernel
theorem dX7_isEnough_1 : decode cX7_isEnough 1 = .ok (.invokevirtual 341, 3) := by decide +kernel
theorem dX7_isEnough_4 : decode cX7_isEnough 4 = .ok (.aload_n 0, 1) := by decide +kernel
theorem dX7_isEnough_5 : decode cX7_isEnough 5 = .ok (.iload_n 1, 1) := by decide +kernel
theorem dX7_isEnough_6 : decode cX7_isEnough 6 = .ok (.putfield 13, 3) := by decide +kernel
theorem dX7_isEnough_9 : decode cX7_isEnough 9 = .ok (.iconst 1, 1) := by decide +kernel
theorem dX7_isEnough_10 : decode cX7_isEnough 10 = .ok (.istore_n 3, 1) := by decide +kernel
theorem dX7_isEnough_11 : decode cX7_isEnough 11 = .ok (.iconst 0, 1) := by decide +kernel
theorem dX7_isEnough_12 : decode cX7_isEnough 12 = .ok (.istore 4, 2) := by decide +kernel
theorem dX7_isEnough_14 : decode cX7_isEnough 14 = .ok (.iload 4, 2) := by decide +kernel
theorem dX7_isEnough_16 : decode cX7_isEnough 16 = .ok (.iload_n 2, 1) := by decide +kernel
theorem dX7_isEnough_17 : decode cX7_isEnough 17 = .ok (.if_icmp .ge 70, 3) := by decide +kernel
theorem dX7_isEnough_20 : decode cX7_isEnough 20 = .ok (.iload_n 3, 1) := by decide +kernel
theorem dX7_isEnough_21 : decode cX7_isEnough 21 = .ok (.ifCond .eq 66, 3) := by decide +kernel
theorem dX7_isEnough_24 : decode cX7_isEnough 24 = .ok (.aload_n 0, 1) := by decide +kernel
theorem dX7_isEnough_25 : decode cX7_isEnough 25 = .ok (.invokevirtual 333, 3) := by decide +kernel
theorem dX7_isEnough_28 : decode cX7_isEnough 28 = .ok (.aload_n 0, 1) := by decide +kernel
theorem dX7_isEnough_29 : decode cX7_isEnough 29 = .ok (.invokevirtual 324, 3) := by decide +kernel
theorem dX7_isEnough_32 : decode cX7_isEnough 32 = .ok (.iconst 0, 1) := by decide +kernel
theorem dX7_isEnough_33 : decode cX7_isEnough 33 = .ok (.istore 5, 2) := by decide +kernel
theorem dX7_isEnough_35 : decode cX7_isEnough 35 = .ok (.iload 5, 2) := by decide +kernel
theorem dX7_isEnough_37 : decode cX7_isEnough 37 = .ok (.aload_n 0, 1) := by decide +kernel
theorem dX7_isEnough_38 : decode cX7_isEnough 38 = .ok (.getfield 7, 3) := by decide +kernel
theorem dX7_isEnough_41 : decode cX7_isEnough 41 = .ok (.if_icmp .ge 36, 3) := by decide +kernel
theorem dX7_isEnough_44 : decode cX7_isEnough 44 = .ok (.iload_n 3, 1) := by decide +kernel
theorem dX7_isEnough_45 : decode cX7_isEnough 45 = .ok (.ifCond .eq 24, 3) := by decide +kernel
theorem dX7_isEnough_48 : decode cX7_isEnough 48 = .ok (.aload_n 0, 1) := by decide +kernel
theorem dX7_isEnough_49 : decode cX7_isEnough 49 = .ok (.getfield 106, 3) := by decide +kernel
theorem dX7_isEnough_52 : decode cX7_isEnough 52 = .ok (.iload 5, 2) := by decide +kernel
theorem dX7_isEnough_54 : decode cX7_isEnough 54 = .ok (.iaload, 1) := by decide +kernel
theorem dX7_isEnough_55 : decode cX7_isEnough 55 = .ok (.aload_n 0, 1) := by decide +kernel
theorem dX7_isEnough_56 : decode cX7_isEnough 56 = .ok (.getfield 103, 3) := by decide +kernel
theorem dX7_isEnough_59 : decode cX7_isEnough 59 = .ok (.iload 5, 2) := by decide +kernel
theorem dX7_isEnough_61 : decode cX7_isEnough 61 = .ok (.iaload, 1) := by decide +kernel
theorem dX7_isEnough_62 : decode cX7_isEnough 62 = .ok (.if_icmp .ne 7, 3) := by decide +kernel
theorem dX7_isEnough_65 : decode cX7_isEnough 65 = .ok (.iconst 1, 1) := by decide +kernel
theorem dX7_isEnough_66 : decode cX7_isEnough 66 = .ok (.goto 4, 3) := by decide +kernel
theorem dX7_isEnough_69 : decode cX7_isEnough 69 = .ok (.iconst 0, 1) := by decide +kernel
theorem dX7_isEnough_70 : decode cX7_isEnough 70 = .ok (.istore_n 3, 1) := by decide +kernel
theorem dX7_isEnough_71 : decode cX7_isEnough 71 = .ok (.iinc 5 1, 3) := by decide +kernel
theorem dX7_isEnough_74 : decode cX7_isEnough 74 = .ok (.goto (-39), 3) := by decide +kernel
theorem dX7_isEnough_77 : decode cX7_isEnough 77 = .ok (.aload_n 0, 1) := by decide +kernel
theorem dX7_isEnough_78 : decode cX7_isEnough 78 = .ok (.invokevirtual 336, 3) := by decide +kernel
theorem dX7_isEnough_81 : decode cX7_isEnough 81 = .ok (.iinc 4 1, 3) := by decide +kernel
theorem dX7_isEnough_84 : decode cX7_isEnough 84 = .ok (.goto (-70), 3) := by decide +kernel
theorem dX7_isEnough_87 : decode cX7_isEnough 87 = .ok (.aload_n 0, 1) := by decide +kernel
theorem dX7_isEnough_88 : decode cX7_isEnough 88 = .ok (.invokevirtual 347, 3) := by decide +kernel
theorem dX7_isEnough_91 : decode cX7_isEnough 91 = .ok (.iload_n 3, 1) := by decide +kernel
theorem dX7_isEnough_92 : decode cX7_isEnough 92 = .ok (.ireturn, 1) := by decide +kernel
theorem dX7_thin_0 : decode cX7_thin 0 = .ok (.aload_n 0, 1) := by decide +kernel
theorem dX7_thin_1 : decode cX7_thin 1 = .ok (.iload_n 1, 1) := by decide +kernel
theorem dX7_thin_2 : decode cX7_thin 2 = .ok (.iconst 0, 1) := by decide +kernel
theorem dX7_thin_3 : decode cX7_thin 3 = .ok (.bipush 8, 2) := by decide +kernel
theorem dX7_thin_5 : decode cX7_thin 5 = .ok (.invokevirtual 212, 3) := by decide +kernel
theorem dX7_thin_8 : decode cX7_thin 8 = .ok (.ifCond .ne 6, 3) := by decide +kernel
theorem dX7_thin_11 : decode cX7_thin 11 = .ok (.bipush (-2), 2) := by decide +kernel
theorem dX7_thin_13 : decode cX7_thin 13 = .ok (.ireturn, 1) := by decide +kernel
theorem dX7_thin_14 : decode cX7_thin 14 = .ok (.iconst 0, 1) := by decide +kernel
theorem dX7_thin_15 : decode cX7_thin 15 = .ok (.istore_n 2, 1) := by decide +kernel
theorem dX7_thin_16 : decode cX7_thin 16 = .ok (.iload_n 2, 1) := by decide +kernel
theorem dX7_thin_17 : decode cX7_thin 17 = .ok (.bipush 100, 2) := by decide +kernel
theorem dX7_thin_19 : decode cX7_thin 19 = .ok (.if_icmp .ge 20, 3) := by decide +kernel
theorem dX7_thin_22 : decode cX7_thin 22 = .ok (.aload_n 0, 1) := by decide +kernel
theorem dX7_thin_23 : decode cX7_thin 23 = .ok (.iload_n 2, 1) := by decide +kernel
theorem dX7_thin_24 : decode cX7_thin 24 = .ok (.iload_n 1, 1) := by decide +kernel
theorem dX7_thin_25 : decode cX7_thin 25 = .ok (.invokevirtual 371, 3) := by decide +kernel
theorem dX7_thin_28 : decode cX7_thin 28 = .ok (.ifCond .eq 5, 3) := by decide +kernel
theorem dX7_thin_31 : decode cX7_thin 31 = .ok (.iload_n 2, 1) := by decide +kernel
theorem dX7_thin_32 : decode cX7_thin 32 = .ok (.ireturn, 1) := by decide +kernel
theorem dX7_thin_33 : decode cX7_thin 33 = .ok (.iinc 2 1, 3) := by decide +kernel
theorem dX7_thin_36 : decode cX7_thin 36 = .ok (.goto (-20), 3) := by decide +kernel
theorem dX7_thin_39 : decode cX7_thin 39 = .ok (.bipush (-5), 2) := by decide +kernel
theorem dX7_thin_41 : decode cX7_thin 41 = .ok (.ireturn, 1) := by decide +kernel
theorem dX7_pact_0 : decode cX7_pact 0 = .ok (.aload_n 0, 1) := by decide +kernel
theorem dX7_pact_1 : decode cX7_pact 1 = .ok (.iload_n 1, 1) := by decide +kernel
theorem dX7_pact_2 : decode cX7_pact 2 = .ok (.invokevirtual 220, 3) := by decide +kernel
theorem dX7_pact_5 : decode cX7_pact 5 = .ok (.ifCond .eq 11, 3) := by decide +kernel
theorem dX7_pact_8 : decode cX7_pact 8 = .ok (.aload_n 0, 1) := by decide +kernel
theorem dX7_pact_9 : decode cX7_pact 9 = .ok (.iload_n 2, 1) := by decide +kernel
theorem dX7_pact_10 : decode cX7_pact 10 = .ok (.invokevirtual 220, 3) := by decide +kernel
theorem dX7_pact_13 : decode cX7_pact 13 = .ok (.ifCond .ne 7, 3) := by decide +kernel
theorem dX7_pact_16 : decode cX7_pact 16 = .ok (.ldc_w 339, 3) := by decide +kernel
theorem dX7_pact_19 : decode cX7_pact 19 = .ok (.ireturn, 1) := by decide +kernel
theorem dX7_pact_20 : decode cX7_pact 20 = .ok (.iload_n 1, 1) := by decide +kernel
theorem dX7_pact_21 : decode cX7_pact 21 = .ok (.iload_n 2, 1) := by decide +kernel
theorem dX7_pact_22 : decode cX7_pact 22 = .ok (.if_icmp .eq 14, 3) := by decide +kernel
theorem dX7_pact_25 : decode cX7_pact 25 = .ok (.aload_n 0, 1) := by decide +kernel
theorem dX7_pact_26 : decode cX7_pact 26 = .ok (.iload_n 3, 1) := by decide +kernel
theorem dX7_pact_27 : decode cX7_pact 27 = .ok (.iconst 0, 1) := by decide +kernel
theorem dX7_pact_28 : decode cX7_pact 28 = .ok (.bipush 60, 2) := by decide +kernel
theorem dX7_pact_30 : decode cX7_pact 30 = .ok (.invokevirtual 212, 3) := by decide +kernel
theorem dX7_pact_33 : decode cX7_pact 33 = .ok (.ifCond .ne 7, 3) := by decide +kernel
theorem dX7_pact_36 : decode cX7_pact 36 = .ok (.ldc_w 340, 3) := by decide +kernel
theorem dX7_pact_39 : decode cX7_pact 39 = .ok (.ireturn, 1) := by decide +kernel
theorem dX7_pact_40 : decode cX7_pact 40 = .ok (.aload_n 0, 1) := by decide +kernel
theorem dX7_pact_41 : decode cX7_pact 41 = .ok (.iload_n 1, 1) := by decide +kernel
theorem dX7_pact_42 : decode cX7_pact 42 = .ok (.iload_n 3, 1) := by decide +kernel
theorem dX7_pact_43 : decode cX7_pact 43 = .ok (.invokevirtual 368, 3) := by decide +kernel
theorem dX7_pact_46 : decode cX7_pact 46 = .ok (.aload_n 0, 1) := by decide +kernel
theorem dX7_pact_47 : decode cX7_pact 47 = .ok (.iload_n 2, 1) := by decide +kernel
theorem dX7_pact_48 : decode cX7_pact 48 = .ok (.iload_n 3, 1) := by decide +kernel
theorem dX7_pact_49 : decode cX7_pact 49 = .ok (.invokevirtual 368, 3) := by decide +kernel
theorem dX7_pact_52 : decode cX7_pact 52 = .ok (.iadd, 1) := by decide +kernel
theorem dX7_pact_53 : decode cX7_pact 53 = .ok (.istore 4, 2) := by decide +kernel
theorem dX7_pact_55 : decode cX7_pact 55 = .ok (.aload_n 0, 1) := by decide +kernel
theorem dX7_pact_56 : decode cX7_pact 56 = .ok (.aload_n 0, 1) := by decide +kernel
theorem dX7_pact_57 : decode cX7_pact 57 = .ok (.iload_n 1, 1) := by decide +kernel
theorem dX7_pact_58 : decode cX7_pact 58 = .ok (.iload_n 2, 1) := by decide +kernel
theorem dX7_pact_59 : decode cX7_pact 59 = .ok (.invokevirtual 315, 3) := by decide +kernel
theorem dX7_pact_62 : decode cX7_pact 62 = .ok (.putfield 118, 3) := by decide +kernel
theorem dX7_pact_65 : decode cX7_pact 65 = .ok (.aload_n 0, 1) := by decide +kernel
theorem dX7_pact_66 : decode cX7_pact 66 = .ok (.iload_n 1, 1) := by decide +kernel
theorem dX7_pact_67 : decode cX7_pact 67 = .ok (.iload_n 2, 1) := by decide +kernel
theorem dX7_pact_68 : decode cX7_pact 68 = .ok (.iadd, 1) := by decide +kernel
theorem dX7_pact_69 : decode cX7_pact 69 = .ok (.aload_n 0, 1) := by decide +kernel
theorem dX7_pact_70 : decode cX7_pact 70 = .ok (.getfield 118, 3) := by decide +kernel
theorem dX7_pact_73 : decode cX7_pact 73 = .ok (.isub, 1) := by decide +kernel
theorem dX7_pact_74 : decode cX7_pact 74 = .ok (.putfield 121, 3) := by decide +kernel
theorem dX7_pact_77 : decode cX7_pact 77 = .ok (.aload_n 0, 1) := by decide +kernel
theorem dX7_pact_78 : decode cX7_pact 78 = .ok (.iload_n 1, 1) := by decide +kernel
theorem dX7_pact_79 : decode cX7_pact 79 = .ok (.iload_n 3, 1) := by decide +kernel
theorem dX7_pact_80 : decode cX7_pact 80 = .ok (.invokevirtual 368, 3) := by decide +kernel
theorem dX7_pact_83 : decode cX7_pact 83 = .ok (.aload_n 0, 1) := by decide +kernel
theorem dX7_pact_84 : decode cX7_pact 84 = .ok (.iload_n 2, 1) := by decide +kernel
theorem dX7_pact_85 : decode cX7_pact 85 = .ok (.iload_n 3, 1) := by decide +kernel
theorem dX7_pact_86 : decode cX7_pact 86 = .ok (.invokevirtual 368, 3) := by decide +kernel
theorem dX7_pact_89 : decode cX7_pact 89 = .ok (.iadd, 1) := by decide +kernel
theorem dX7_pact_90 : decode cX7_pact 90 = .ok (.istore 5, 2) := by decide +kernel
theorem dX7_pact_92 : decode cX7_pact 92 = .ok (.aload_n 0, 1) := by decide +kernel
theorem dX7_pact_93 : decode cX7_pact 93 = .ok (.iconst (-1), 1) := by decide +kernel
theorem dX7_pact_94 : decode cX7_pact 94 = .ok (.putfield 118, 3) := by decide +kernel
theorem dX7_pact_97 : decode cX7_pact 97 = .ok (.aload_n 0, 1) := by decide +kernel
theorem dX7_pact_98 : decode cX7_pact 98 = .ok (.iconst (-1), 1) := by decide +kernel
theorem dX7_pact_99 : decode cX7_pact 99 = .ok (.putfield 121, 3) := by decide +kernel
theorem dX7_pact_102 : decode cX7_pact 102 = .ok (.iload 5, 2) := by decide +kernel
theorem dX7_pact_104 : decode cX7_pact 104 = .ok (.iload 4, 2) := by decide +kernel
theorem dX7_pact_106 : decode cX7_pact 106 = .ok (.isub, 1) := by decide +kernel
theorem dX7_pact_107 : decode cX7_pact 107 = .ok (.ireturn, 1) := by decide +kernel
theorem dX7_guest_0 : decode cX7_guest 0 = .ok (.aload_n 0, 1) := by decide +kernel
theorem dX7_guest_1 : decode cX7_guest 1 = .ok (.iload_n 1, 1) := by decide +kernel
theorem dX7_guest_2 : decode cX7_guest 2 = .ok (.iconst 0, 1) := by decide +kernel
theorem dX7_guest_3 : decode cX7_guest 3 = .ok (.bipush 9, 2) := by decide +kernel
theorem dX7_guest_5 : decode cX7_guest 5 = .ok (.invokevirtual 212, 3) := by decide +kernel
theorem dX7_guest_8 : decode cX7_guest 8 = .ok (.ifCond .ne 6, 3) := by decide +kernel
theorem dX7_guest_11 : decode cX7_guest 11 = .ok (.bipush (-2), 2) := by decide +kernel
theorem dX7_guest_13 : decode cX7_guest 13 = .ok (.ireturn, 1) := by decide +kernel
theorem dX7_guest_14 : decode cX7_guest 14 = .ok (.aload_n 0, 1) := by decide +kernel
theorem dX7_guest_15 : decode cX7_guest 15 = .ok (.getfield 7, 3) := by decide +kernel
theorem dX7_guest_18 : decode cX7_guest 18 = .ok (.iconst 5, 1) := by decide +kernel
theorem dX7_guest_19 : decode cX7_guest 19 = .ok (.if_icmp .ne 6, 3) := by decide +kernel
theorem dX7_guest_22 : decode cX7_guest 22 = .ok (.bipush (-3), 2) := by decide +kernel
theorem dX7_guest_24 : decode cX7_guest 24 = .ok (.ireturn, 1) := by decide +kernel
theorem dX7_guest_25 : decode cX7_guest 25 = .ok (.aload_n 0, 1) := by decide +kernel
theorem dX7_guest_26 : decode cX7_guest 26 = .ok (.aload_n 0, 1) := by decide +kernel
theorem dX7_guest_27 : decode cX7_guest 27 = .ok (.getfield 7, 3) := by decide +kernel
theorem dX7_guest_30 : decode cX7_guest 30 = .ok (.iconst 0, 1) := by decide +kernel
theorem dX7_guest_31 : decode cX7_guest 31 = .ok (.iconst 0, 1) := by decide +kernel
theorem dX7_guest_32 : decode cX7_guest 32 = .ok (.iload_n 1, 1) := by decide +kernel
theorem dX7_guest_33 : decode cX7_guest 33 = .ok (.invokevirtual 216, 3) := by decide +kernel
theorem dX7_guest_36 : decode cX7_guest 36 = .ok (.aload_n 0, 1) := by decide +kernel
theorem dX7_guest_37 : decode cX7_guest 37 = .ok (.dup, 1) := by decide +kernel
theorem dX7_guest_38 : decode cX7_guest 38 = .ok (.getfield 7, 3) := by decide +kernel
theorem dX7_guest_41 : decode cX7_guest 41 = .ok (.iconst 1, 1) := by decide +kernel
theorem dX7_guest_42 : decode cX7_guest 42 = .ok (.iadd, 1) := by decide +kernel
theorem dX7_guest_43 : decode cX7_guest 43 = .ok (.putfield 7, 3) := by decide +kernel
theorem dX7_guest_46 : decode cX7_guest 46 = .ok (.aload_n 0, 1) := by decide +kernel
theorem dX7_guest_47 : decode cX7_guest 47 = .ok (.invokevirtual 333, 3) := by decide +kernel
theorem dX7_guest_50 : decode cX7_guest 50 = .ok (.aload_n 0, 1) := by decide +kernel
theorem dX7_guest_51 : decode cX7_guest 51 = .ok (.invokevirtual 324, 3) := by decide +kernel
theorem dX7_guest_54 : decode cX7_guest 54 = .ok (.aload_n 0, 1) := by decide +kernel
theorem dX7_guest_55 : decode cX7_guest 55 = .ok (.dup, 1) := by decide +kernel
theorem dX7_guest_56 : decode cX7_guest 56 = .ok (.getfield 7, 3) := by decide +kernel
theorem dX7_guest_59 : decode cX7_guest 59 = .ok (.iconst 1, 1) := by decide +kernel
theorem dX7_guest_60 : decode cX7_guest 60 = .ok (.isub, 1) := by decide +kernel
theorem dX7_guest_61 : decode cX7_guest 61 = .ok (.putfield 7, 3) := by decide +kernel
theorem dX7_guest_64 : decode cX7_guest 64 = .ok (.aload_n 0, 1) := by decide +kernel
theorem dX7_guest_65 : decode cX7_guest 65 = .ok (.getfield 112, 3) := by decide +kernel
theorem dX7_guest_68 : decode cX7_guest 68 = .ok (.ireturn, 1) := by decide +kernel
theorem dX7_divisor_0 : decode cX7_divisor 0 = .ok (.lload_n 1, 1) := by decide +kernel
theorem dX7_divisor_1 : decode cX7_divisor 1 = .ok (.lconst 0, 1) := by decide +kernel
theorem dX7_divisor_2 : decode cX7_divisor 2 = .ok (.lcmp, 1) := by decide +kernel
theorem dX7_divisor_3 : decode cX7_divisor 3 = .ok (.ifCond .ge 8, 3) := by decide +kernel
theorem dX7_divisor_6 : decode cX7_divisor 6 = .ok (.lload_n 1, 1) := by decide +kernel
theorem dX7_divisor_7 : decode cX7_divisor 7 = .ok (.lneg, 1) := by decide +kernel
theorem dX7_divisor_8 : decode cX7_divisor 8 = .ok (.goto 4, 3) := by decide +kernel
theorem dX7_divisor_11 : decode cX7_divisor 11 = .ok (.lload_n 1, 1) := by decide +kernel
theorem dX7_divisor_12 : decode cX7_divisor 12 = .ok (.lstore 5, 2) := by decide +kernel
theorem dX7_divisor_14 : decode cX7_divisor 14 = .ok (.lload_n 3, 1) := by decide +kernel
theorem dX7_divisor_15 : decode cX7_divisor 15 = .ok (.lstore 7, 2) := by decide +kernel
theorem dX7_divisor_17 : decode cX7_divisor 17 = .ok (.lload 7, 2) := by decide +kernel
theorem dX7_divisor_19 : decode cX7_divisor 19 = .ok (.lconst 0, 1) := by decide +kernel
theorem dX7_divisor_20 : decode cX7_divisor 20 = .ok (.lcmp, 1) := by decide +kernel
theorem dX7_divisor_21 : decode cX7_divisor 21 = .ok (.ifCond .eq 21, 3) := by decide +kernel
theorem dX7_divisor_24 : decode cX7_divisor 24 = .ok (.lload 5, 2) := by decide +kernel
theorem dX7_divisor_26 : decode cX7_divisor 26 = .ok (.lload 7, 2) := by decide +kernel
theorem dX7_divisor_28 : decode cX7_divisor 28 = .ok (.lrem, 1) := by decide +kernel
theorem dX7_divisor_29 : decode cX7_divisor 29 = .ok (.lstore 9, 2) := by decide +kernel
theorem dX7_divisor_31 : decode cX7_divisor 31 = .ok (.lload 7, 2) := by decide +kernel
theorem dX7_divisor_33 : decode cX7_divisor 33 = .ok (.lstore 5, 2) := by decide +kernel
theorem dX7_divisor_35 : decode cX7_divisor 35 = .ok (.lload 9, 2) := by decide +kernel
theorem dX7_divisor_37 : decode cX7_divisor 37 = .ok (.lstore 7, 2) := by decide +kernel
theorem dX7_divisor_39 : decode cX7_divisor 39 = .ok (.goto (-22), 3) := by decide +kernel
theorem dX7_divisor_42 : decode cX7_divisor 42 = .ok (.lload 5, 2) := by decide +kernel
theorem dX7_divisor_44 : decode cX7_divisor 44 = .ok (.lreturn, 1) := by decide +kernel
theorem dX7_lowest_0 : decode cX7_lowest 0 = .ok (.aload_n 0, 1) := by decide +kernel
theorem dX7_lowest_1 : decode cX7_lowest 1 = .ok (.lload_n 1, 1) := by decide +kernel
theorem dX7_lowest_2 : decode cX7_lowest 2 = .ok (.lload_n 3, 1) := by decide +kernel
theorem dX7_lowest_3 : decode cX7_lowest 3 = .ok (.invokevirtual 374, 3) := by decide +kernel
theorem dX7_lowest_6 : decode cX7_lowest 6 = .ok (.lstore 6, 2) := by decide +kernel
theorem dX7_lowest_8 : decode cX7_lowest 8 = .ok (.iload 5, 2) := by decide +kernel
theorem dX7_lowest_10 : decode cX7_lowest 10 = .ok (.ifCond .ne 10, 3) := by decide +kernel
theorem dX7_lowest_13 : decode cX7_lowest 13 = .ok (.lload_n 1, 1) := by decide +kernel
theorem dX7_lowest_14 : decode cX7_lowest 14 = .ok (.lload 6, 2) := by decide +kernel
theorem dX7_lowest_16 : decode cX7_lowest 16 = .ok (.ldiv, 1) := by decide +kernel
theorem dX7_lowest_17 : decode cX7_lowest 17 = .ok (.goto 7, 3) := by decide +kernel
theorem dX7_lowest_20 : decode cX7_lowest 20 = .ok (.lload_n 3, 1) := by decide +kernel
theorem dX7_lowest_21 : decode cX7_lowest 21 = .ok (.lload 6, 2) := by decide +kernel
theorem dX7_lowest_23 : decode cX7_lowest 23 = .ok (.ldiv, 1) := by decide +kernel
theorem dX7_lowest_24 : decode cX7_lowest 24 = .ok (.lreturn, 1) := by decide +kernel
theorem dX7_odds_0 : decode cX7_odds 0 = .ok (.aload_n 0, 1) := by decide +kernel
theorem dX7_odds_1 : decode cX7_odds 1 = .ok (.iload_n 1, 1) := by decide +kernel
theorem dX7_odds_2 : decode cX7_odds 2 = .ok (.invokevirtual 220, 3) := by decide +kernel
theorem dX7_odds_5 : decode cX7_odds 5 = .ok (.ifCond .eq 13, 3) := by decide +kernel
theorem dX7_odds_8 : decode cX7_odds 8 = .ok (.aload_n 0, 1) := by decide +kernel
theorem dX7_odds_9 : decode cX7_odds 9 = .ok (.iload_n 2, 1) := by decide +kernel
theorem dX7_odds_10 : decode cX7_odds 10 = .ok (.iconst 0, 1) := by decide +kernel
theorem dX7_odds_11 : decode cX7_odds 11 = .ok (.iconst 1, 1) := by decide +kernel
theorem dX7_odds_12 : decode cX7_odds 12 = .ok (.invokevirtual 212, 3) := by decide +kernel
theorem dX7_odds_15 : decode cX7_odds 15 = .ok (.ifCond .ne 7, 3) := by decide +kernel
theorem dX7_odds_18 : decode cX7_odds 18 = .ok (.ldc2_w 378, 3) := by decide +kernel
theorem dX7_odds_21 : decode cX7_odds 21 = .ok (.lreturn, 1) := by decide +kernel
theorem dX7_odds_22 : decode cX7_odds 22 = .ok (.aload_n 0, 1) := by decide +kernel
theorem dX7_odds_23 : decode cX7_odds 23 = .ok (.invokevirtual 333, 3) := by decide +kernel
theorem dX7_odds_26 : decode cX7_odds 26 = .ok (.aload_n 0, 1) := by decide +kernel
theorem dX7_odds_27 : decode cX7_odds 27 = .ok (.invokevirtual 324, 3) := by decide +kernel
theorem dX7_odds_30 : decode cX7_odds 30 = .ok (.aload_n 0, 1) := by decide +kernel
theorem dX7_odds_31 : decode cX7_odds 31 = .ok (.invokevirtual 297, 3) := by decide +kernel
theorem dX7_odds_34 : decode cX7_odds 34 = .ok (.istore_n 3, 1) := by decide +kernel
theorem dX7_odds_35 : decode cX7_odds 35 = .ok (.iconst 0, 1) := by decide +kernel
theorem dX7_odds_36 : decode cX7_odds 36 = .ok (.istore 4, 2) := by decide +kernel
theorem dX7_odds_38 : decode cX7_odds 38 = .ok (.iconst 0, 1) := by decide +kernel
theorem dX7_odds_39 : decode cX7_odds 39 = .ok (.istore 5, 2) := by decide +kernel
theorem dX7_odds_41 : decode cX7_odds 41 = .ok (.iload 5, 2) := by decide +kernel
theorem dX7_odds_43 : decode cX7_odds 43 = .ok (.aload_n 0, 1) := by decide +kernel
theorem dX7_odds_44 : decode cX7_odds 44 = .ok (.getfield 7, 3) := by decide +kernel
theorem dX7_odds_47 : decode cX7_odds 47 = .ok (.if_icmp .ge 42, 3) := by decide +kernel
theorem dX7_odds_50 : decode cX7_odds 50 = .ok (.iload 4, 2) := by decide +kernel
theorem dX7_odds_52 : decode cX7_odds 52 = .ok (.aload_n 0, 1) := by decide +kernel
theorem dX7_odds_53 : decode cX7_odds 53 = .ok (.getfield 106, 3) := by decide +kernel
theorem dX7_odds_56 : decode cX7_odds 56 = .ok (.iload 5, 2) := by decide +kernel
theorem dX7_odds_58 : decode cX7_odds 58 = .ok (.iaload, 1) := by decide +kernel
