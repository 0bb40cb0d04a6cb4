theorem dX6_eater_3 : decode cX6_eater 3 = .ok (.invokestatic 78, 3) := by decide +kernel
theorem dX6_eater_6 : decode cX6_eater 6 = .ok (.ifCond .ne 5, 3) := by decide +kernel
theorem dX6_eater_9 : decode cX6_eater 9 = .ok (.iconst (-1), 1) := by decide +kernel
theorem dX6_eater_10 : decode cX6_eater 10 = .ok (.ireturn, 1) := by decide +kernel
theorem dX6_eater_11 : decode cX6_eater 11 = .ok (.iload_n 2, 1) := by decide +kernel
theorem dX6_eater_12 : decode cX6_eater 12 = .ok (.bipush 9, 2) := by decide +kernel
theorem dX6_eater_14 : decode cX6_eater 14 = .ok (.invokestatic 78, 3) := by decide +kernel
theorem dX6_eater_17 : decode cX6_eater 17 = .ok (.ifCond .eq 12, 3) := by decide +kernel
theorem dX6_eater_20 : decode cX6_eater 20 = .ok (.iload_n 3, 1) := by decide +kernel
theorem dX6_eater_21 : decode cX6_eater 21 = .ok (.bipush 9, 2) := by decide +kernel
theorem dX6_eater_23 : decode cX6_eater 23 = .ok (.invokestatic 78, 3) := by decide +kernel
theorem dX6_eater_26 : decode cX6_eater 26 = .ok (.ifCond .ne 6, 3) := by decide +kernel
theorem dX6_eater_29 : decode cX6_eater 29 = .ok (.bipush (-2), 2) := by decide +kernel
theorem dX6_eater_31 : decode cX6_eater 31 = .ok (.ireturn, 1) := by decide +kernel
theorem dX6_eater_32 : decode cX6_eater 32 = .ok (.aload_n 0, 1) := by decide +kernel
theorem dX6_eater_33 : decode cX6_eater 33 = .ok (.getfield 12, 3) := by decide +kernel
theorem dX6_eater_36 : decode cX6_eater 36 = .ok (.getfield 82, 3) := by decide +kernel
theorem dX6_eater_39 : decode cX6_eater 39 = .ok (.iconst 5, 1) := by decide +kernel
theorem dX6_eater_40 : decode cX6_eater 40 = .ok (.if_icmp .lt 6, 3) := by decide +kernel
theorem dX6_eater_43 : decode cX6_eater 43 = .ok (.bipush (-4), 2) := by decide +kernel
theorem dX6_eater_45 : decode cX6_eater 45 = .ok (.ireturn, 1) := by decide +kernel
theorem dX6_eater_46 : decode cX6_eater 46 = .ok (.aload_n 0, 1) := by decide +kernel
theorem dX6_eater_47 : decode cX6_eater 47 = .ok (.getfield 12, 3) := by decide +kernel
theorem dX6_eater_50 : decode cX6_eater 50 = .ok (.iload_n 1, 1) := by decide +kernel
theorem dX6_eater_51 : decode cX6_eater 51 = .ok (.iload_n 2, 1) := by decide +kernel
theorem dX6_eater_52 : decode cX6_eater 52 = .ok (.iload_n 3, 1) := by decide +kernel
theorem dX6_eater_53 : decode cX6_eater 53 = .ok (.invokevirtual 85, 3) := by decide +kernel
theorem dX6_eater_56 : decode cX6_eater 56 = .ok (.ireturn, 1) := by decide +kernel
theorem dX6_of_0 : decode cX6_of 0 = .ok (.aload_n 0, 1) := by decide +kernel
theorem dX6_of_1 : decode cX6_of 1 = .ok (.iload_n 1, 1) := by decide +kernel
theorem dX6_of_2 : decode cX6_of 2 = .ok (.invokevirtual 89, 3) := by decide +kernel
theorem dX6_of_5 : decode cX6_of 5 = .ok (.ifCond .ne 6, 3) := by decide +kernel
theorem dX6_of_8 : decode cX6_of 8 = .ok (.ldc 93, 2) := by decide +kernel
theorem dX6_of_10 : decode cX6_of 10 = .ok (.ireturn, 1) := by decide +kernel
theorem dX6_of_11 : decode cX6_of 11 = .ok (.iload_n 2, 1) := by decide +kernel
theorem dX6_of_12 : decode cX6_of 12 = .ok (.tableswitch 86 0 4 #[36, 46, 56, 66, 76], 36) := by decide +kernel
theorem dX6_of_48 : decode cX6_of 48 = .ok (.aload_n 0, 1) := by decide +kernel
theorem dX6_of_49 : decode cX6_of 49 = .ok (.getfield 12, 3) := by decide +kernel
theorem dX6_of_52 : decode cX6_of 52 = .ok (.getfield 94, 3) := by decide +kernel
theorem dX6_of_55 : decode cX6_of 55 = .ok (.iload_n 1, 1) := by decide +kernel
theorem dX6_of_56 : decode cX6_of 56 = .ok (.iaload, 1) := by decide +kernel
theorem dX6_of_57 : decode cX6_of 57 = .ok (.ireturn, 1) := by decide +kernel
theorem dX6_of_58 : decode cX6_of 58 = .ok (.aload_n 0, 1) := by decide +kernel
theorem dX6_of_59 : decode cX6_of 59 = .ok (.getfield 12, 3) := by decide +kernel
theorem dX6_of_62 : decode cX6_of 62 = .ok (.getfield 97, 3) := by decide +kernel
theorem dX6_of_65 : decode cX6_of 65 = .ok (.iload_n 1, 1) := by decide +kernel
theorem dX6_of_66 : decode cX6_of 66 = .ok (.iaload, 1) := by decide +kernel
theorem dX6_of_67 : decode cX6_of 67 = .ok (.ireturn, 1) := by decide +kernel
theorem dX6_of_68 : decode cX6_of 68 = .ok (.aload_n 0, 1) := by decide +kernel
theorem dX6_of_69 : decode cX6_of 69 = .ok (.getfield 12, 3) := by decide +kernel
theorem dX6_of_72 : decode cX6_of 72 = .ok (.getfield 100, 3) := by decide +kernel
theorem dX6_of_75 : decode cX6_of 75 = .ok (.iload_n 1, 1) := by decide +kernel
theorem dX6_of_76 : decode cX6_of 76 = .ok (.iaload, 1) := by decide +kernel
theorem dX6_of_77 : decode cX6_of 77 = .ok (.ireturn, 1) := by decide +kernel
theorem dX6_of_78 : decode cX6_of 78 = .ok (.aload_n 0, 1) := by decide +kernel
theorem dX6_of_79 : decode cX6_of 79 = .ok (.getfield 12, 3) := by decide +kernel
theorem dX6_of_82 : decode cX6_of 82 = .ok (.getfield 103, 3) := by decide +kernel
theorem dX6_of_85 : decode cX6_of 85 = .ok (.iload_n 1, 1) := by decide +kernel
theorem dX6_of_86 : decode cX6_of 86 = .ok (.iaload, 1) := by decide +kernel
theorem dX6_of_87 : decode cX6_of 87 = .ok (.ireturn, 1) := by decide +kernel
theorem dX6_of_88 : decode cX6_of 88 = .ok (.aload_n 0, 1) := by decide +kernel
theorem dX6_of_89 : decode cX6_of 89 = .ok (.getfield 12, 3) := by decide +kernel
theorem dX6_of_92 : decode cX6_of 92 = .ok (.getfield 106, 3) := by decide +kernel
theorem dX6_of_95 : decode cX6_of 95 = .ok (.iload_n 1, 1) := by decide +kernel
theorem dX6_of_96 : decode cX6_of 96 = .ok (.iaload, 1) := by decide +kernel
theorem dX6_of_97 : decode cX6_of 97 = .ok (.ireturn, 1) := by decide +kernel
theorem dX6_of_98 : decode cX6_of 98 = .ok (.aload_n 0, 1) := by decide +kernel
theorem dX6_of_99 : decode cX6_of 99 = .ok (.iload_n 1, 1) := by decide +kernel
theorem dX6_of_100 : decode cX6_of 100 = .ok (.iload_n 2, 1) := by decide +kernel
theorem dX6_of_101 : decode cX6_of 101 = .ok (.invokevirtual 109, 3) := by decide +kernel
theorem dX6_of_104 : decode cX6_of 104 = .ok (.ireturn, 1) := by decide +kernel
theorem dX6_reckonedOf_0 : decode cX6_reckonedOf 0 = .ok (.aload_n 0, 1) := by decide +kernel
theorem dX6_reckonedOf_1 : decode cX6_reckonedOf 1 = .ok (.getfield 38, 3) := by decide +kernel
theorem dX6_reckonedOf_4 : decode cX6_reckonedOf 4 = .ok (.aload_n 0, 1) := by decide +kernel
theorem dX6_reckonedOf_5 : decode cX6_reckonedOf 5 = .ok (.getfield 12, 3) := by decide +kernel
theorem dX6_reckonedOf_8 : decode cX6_reckonedOf 8 = .ok (.aload_n 0, 1) := by decide +kernel
theorem dX6_reckonedOf_9 : decode cX6_reckonedOf 9 = .ok (.invokevirtual 113, 3) := by decide +kernel
theorem dX6_reckonedOf_12 : decode cX6_reckonedOf 12 = .ok (.invokevirtual 117, 3) := by decide +kernel
theorem dX6_reckonedOf_15 : decode cX6_reckonedOf 15 = .ok (.iload_n 2, 1) := by decide +kernel
theorem dX6_reckonedOf_16 : decode cX6_reckonedOf 16 = .ok (.iconst 5, 1) := by decide +kernel
theorem dX6_reckonedOf_17 : decode cX6_reckonedOf 17 = .ok (.if_icmp .ne 12, 3) := by decide +kernel
theorem dX6_reckonedOf_20 : decode cX6_reckonedOf 20 = .ok (.aload_n 0, 1) := by decide +kernel
theorem dX6_reckonedOf_21 : decode cX6_reckonedOf 21 = .ok (.getfield 38, 3) := by decide +kernel
theorem dX6_reckonedOf_24 : decode cX6_reckonedOf 24 = .ok (.iload_n 1, 1) := by decide +kernel
theorem dX6_reckonedOf_25 : decode cX6_reckonedOf 25 = .ok (.invokevirtual 121, 3) := by decide +kernel
theorem dX6_reckonedOf_28 : decode cX6_reckonedOf 28 = .ok (.ireturn, 1) := by decide +kernel
theorem dX6_reckonedOf_29 : decode cX6_reckonedOf 29 = .ok (.iload_n 2, 1) := by decide +kernel
theorem dX6_reckonedOf_30 : decode cX6_reckonedOf 30 = .ok (.bipush 6, 2) := by decide +kernel
theorem dX6_reckonedOf_32 : decode cX6_reckonedOf 32 = .ok (.if_icmp .ne 22, 3) := by decide +kernel
theorem dX6_reckonedOf_35 : decode cX6_reckonedOf 35 = .ok (.aload_n 0, 1) := by decide +kernel
theorem dX6_reckonedOf_36 : decode cX6_reckonedOf 36 = .ok (.getfield 38, 3) := by decide +kernel
theorem dX6_reckonedOf_39 : decode cX6_reckonedOf 39 = .ok (.iconst 1, 1) := by decide +kernel
theorem dX6_reckonedOf_40 : decode cX6_reckonedOf 40 = .ok (.iload_n 1, 1) := by decide +kernel
theorem dX6_reckonedOf_41 : decode cX6_reckonedOf 41 = .ok (.aload_n 0, 1) := by decide +kernel
theorem dX6_reckonedOf_42 : decode cX6_reckonedOf 42 = .ok (.getfield 12, 3) := by decide +kernel
theorem dX6_reckonedOf_45 : decode cX6_reckonedOf 45 = .ok (.getfield 103, 3) := by decide +kernel
theorem dX6_reckonedOf_48 : decode cX6_reckonedOf 48 = .ok (.iload_n 1, 1) := by decide +kernel
theorem dX6_reckonedOf_49 : decode cX6_reckonedOf 49 = .ok (.iaload, 1) := by decide +kernel
theorem dX6_reckonedOf_50 : decode cX6_reckonedOf 50 = .ok (.invokevirtual 125, 3) := by decide +kernel
theorem dX6_reckonedOf_53 : decode cX6_reckonedOf 53 = .ok (.ireturn, 1) := by decide +kernel
theorem dX6_reckonedOf_54 : decode cX6_reckonedOf 54 = .ok (.iload_n 2, 1) := by decide +kernel
theorem dX6_reckonedOf_55 : decode cX6_reckonedOf 55 = .ok (.bipush 11, 2) := by decide +kernel
theorem dX6_reckonedOf_57 : decode cX6_reckonedOf 57 = .ok (.if_icmp .lt 9, 3) := by decide +kernel
theorem dX6_reckonedOf_60 : decode cX6_reckonedOf 60 = .ok (.iload_n 2, 1) := by decide +kernel
theorem dX6_reckonedOf_61 : decode cX6_reckonedOf 61 = .ok (.bipush 19, 2) := by decide +kernel
theorem dX6_reckonedOf_63 : decode cX6_reckonedOf 63 = .ok (.if_icmp .le 6, 3) := by decide +kernel
theorem dX6_reckonedOf_66 : decode cX6_reckonedOf 66 = .ok (.ldc 93, 2) := by decide +kernel
theorem dX6_reckonedOf_68 : decode cX6_reckonedOf 68 = .ok (.ireturn, 1) := by decide +kernel
theorem dX6_reckonedOf_69 : decode cX6_reckonedOf 69 = .ok (.aload_n 0, 1) := by decide +kernel
theorem dX6_reckonedOf_70 : decode cX6_reckonedOf 70 = .ok (.getfield 38, 3) := by decide +kernel
theorem dX6_reckonedOf_73 : decode cX6_reckonedOf 73 = .ok (.iconst 0, 1) := by decide +kernel
theorem dX6_reckonedOf_74 : decode cX6_reckonedOf 74 = .ok (.iload_n 1, 1) := by decide +kernel
theorem dX6_reckonedOf_75 : decode cX6_reckonedOf 75 = .ok (.iload_n 2, 1) := by decide +kernel
theorem dX6_reckonedOf_76 : decode cX6_reckonedOf 76 = .ok (.bipush 10, 2) := by decide +kernel
theorem dX6_reckonedOf_78 : decode cX6_reckonedOf 78 = .ok (.isub, 1) := by decide +kernel
theorem dX6_reckonedOf_79 : decode cX6_reckonedOf 79 = .ok (.invokevirtual 125, 3) := by decide +kernel
theorem dX6_reckonedOf_82 : decode cX6_reckonedOf 82 = .ok (.ireturn, 1) := by decide +kernel
theorem dX6_hunger_0 : decode cX6_hunger 0 = .ok (.aload_n 0, 1) := by decide +kernel
theorem dX6_hunger_1 : decode cX6_hunger 1 = .ok (.iload_n 1, 1) := by decide +kernel
theorem dX6_hunger_2 : decode cX6_hunger 2 = .ok (.invokevirtual 89, 3) := by decide +kernel
theorem dX6_hunger_5 : decode cX6_hunger 5 = .ok (.ifCond .ne 5, 3) := by decide +kernel
theorem dX6_hunger_8 : decode cX6_hunger 8 = .ok (.iconst (-1), 1) := by decide +kernel
theorem dX6_hunger_9 : decode cX6_hunger 9 = .ok (.ireturn, 1) := by decide +kernel
theorem dX6_hunger_10 : decode cX6_hunger 10 = .ok (.iload_n 2, 1) := by decide +kernel
theorem dX6_hunger_11 : decode cX6_hunger 11 = .ok (.bipush 9, 2) := by decide +kernel
theorem dX6_hunger_13 : decode cX6_hunger 13 = .ok (.invokestatic 78, 3) := by decide +kernel
theorem dX6_hunger_16 : decode cX6_hunger 16 = .ok (.ifCond .ne 6, 3) := by decide +kernel
theorem dX6_hunger_19 : decode cX6_hunger 19 = .ok (.bipush (-2), 2) := by decide +kernel
theorem dX6_hunger_21 : decode cX6_hunger 21 = .ok (.ireturn, 1) := by decide +kernel
theorem dX6_hunger_22 : decode cX6_hunger 22 = .ok (.aload_n 0, 1) := by decide +kernel
theorem dX6_hunger_23 : decode cX6_hunger 23 = .ok (.getfield 12, 3) := by decide +kernel
theorem dX6_hunger_26 : decode cX6_hunger 26 = .ok (.getfield 100, 3) := by decide +kernel
theorem dX6_hunger_29 : decode cX6_hunger 29 = .ok (.iload_n 1, 1) := by decide +kernel
theorem dX6_hunger_30 : decode cX6_hunger 30 = .ok (.iaload, 1) := by decide +kernel
theorem dX6_hunger_31 : decode cX6_hunger 31 = .ok (.istore_n 3, 1) := by decide +kernel
theorem dX6_hunger_32 : decode cX6_hunger 32 = .ok (.aload_n 0, 1) := by decide +kernel
theorem dX6_hunger_33 : decode cX6_hunger 33 = .ok (.getfield 12, 3) := by decide +kernel
theorem dX6_hunger_36 : decode cX6_hunger 36 = .ok (.getfield 100, 3) := by decide +kernel
theorem dX6_hunger_39 : decode cX6_hunger 39 = .ok (.iload_n 1, 1) := by decide +kernel
theorem dX6_hunger_40 : decode cX6_hunger 40 = .ok (.iload_n 2, 1) := by decide +kernel
theorem dX6_hunger_41 : decode cX6_hunger 41 = .ok (.iastore, 1) := by decide +kernel
theorem dX6_hunger_42 : decode cX6_hunger 42 = .ok (.iload_n 3, 1) := by decide +kernel
theorem dX6_hunger_43 : decode cX6_hunger 43 = .ok (.ireturn, 1) := by decide +kernel
theorem dX6_row_0 : decode cX6_row 0 = .ok (.aload_n 0, 1) := by decide +kernel
theorem dX6_row_1 : decode cX6_row 1 = .ok (.iload_n 1, 1) := by decide +kernel
theorem dX6_row_2 : decode cX6_row 2 = .ok (.invokevirtual 89, 3) := by decide +kernel
theorem dX6_row_5 : decode cX6_row 5 = .ok (.ifCond .eq 11, 3) := by decide +kernel
theorem dX6_row_8 : decode cX6_row 8 = .ok (.iload_n 2, 1) := by decide +kernel
theorem dX6_row_9 : decode cX6_row 9 = .ok (.iconst 3, 1) := by decide +kernel
theorem dX6_row_10 : decode cX6_row 10 = .ok (.invokestatic 78, 3) := by decide +kernel
theorem dX6_row_13 : decode cX6_row 13 = .ok (.ifCond .ne 5, 3) := by decide +kernel
theorem dX6_row_16 : decode cX6_row 16 = .ok (.iconst (-1), 1) := by decide +kernel
theorem dX6_row_17 : decode cX6_row 17 = .ok (.ireturn, 1) := by decide +kernel
theorem dX6_row_18 : decode cX6_row 18 = .ok (.iload_n 3, 1) := by decide +kernel
theorem dX6_row_19 : decode cX6_row 19 = .ok (.bipush 9, 2) := by decide +kernel
theorem dX6_row_21 : decode cX6_row 21 = .ok (.invokestatic 78, 3) := by decide +kernel
theorem dX6_row_24 : decode cX6_row 24 = .ok (.ifCond .ne 6, 3) := by decide +kernel
theorem dX6_row_27 : decode cX6_row 27 = .ok (.bipush (-2), 2) := by decide +kernel
theorem dX6_row_29 : decode cX6_row 29 = .ok (.ireturn, 1) := by decide +kernel
theorem dX6_row_30 : decode cX6_row 30 = .ok (.aload_n 0, 1) := by decide +kernel
theorem dX6_row_31 : decode cX6_row 31 = .ok (.getfield 12, 3) := by decide +kernel
theorem dX6_row_34 : decode cX6_row 34 = .ok (.getfield 94, 3) := by decide +kernel
theorem dX6_row_37 : decode cX6_row 37 = .ok (.iload_n 1, 1) := by decide +kernel
theorem dX6_row_38 : decode cX6_row 38 = .ok (.iaload, 1) := by decide +kernel
theorem dX6_row_39 : decode cX6_row 39 = .ok (.bipush 6, 2) := by decide +kernel
theorem dX6_row_41 : decode cX6_row 41 = .ok (.if_icmp .eq 6, 3) := by decide +kernel
theorem dX6_row_44 : decode cX6_row 44 = .ok (.bipush (-3), 2) := by decide +kernel
theorem dX6_row_46 : decode cX6_row 46 = .ok (.ireturn, 1) := by decide +kernel
theorem dX6_row_47 : decode cX6_row 47 = .ok (.aload_n 0, 1) := by decide +kernel
theorem dX6_row_48 : decode cX6_row 48 = .ok (.getfield 12, 3) := by decide +kernel
theorem dX6_row_51 : decode cX6_row 51 = .ok (.getfield 128, 3) := by decide +kernel
theorem dX6_row_54 : decode cX6_row 54 = .ok (.iload_n 1, 1) := by decide +kernel
theorem dX6_row_55 : decode cX6_row 55 = .ok (.iconst 4, 1) := by decide +kernel
theorem dX6_row_56 : decode cX6_row 56 = .ok (.imul, 1) := by decide +kernel
theorem dX6_row_57 : decode cX6_row 57 = .ok (.iload_n 2, 1) := by decide +kernel
theorem dX6_row_58 : decode cX6_row 58 = .ok (.iadd, 1) := by decide +kernel
theorem dX6_row_59 : decode cX6_row 59 = .ok (.iaload, 1) := by decide +kernel
theorem dX6_row_60 : decode cX6_row 60 = .ok (.istore 4, 2) := by decide +kernel
theorem dX6_row_62 : decode cX6_row 62 = .ok (.aload_n 0, 1) := by decide +kernel
theorem dX6_row_63 : decode cX6_row 63 = .ok (.getfield 12, 3) := by decide +kernel
theorem dX6_row_66 : decode cX6_row 66 = .ok (.getfield 128, 3) := by decide +kernel
theorem dX6_row_69 : decode cX6_row 69 = .ok (.iload_n 1, 1) := by decide +kernel
theorem dX6_row_70 : decode cX6_row 70 = .ok (.iconst 4, 1) := by decide +kernel
theorem dX6_row_71 : decode cX6_row 71 = .ok (.imul, 1) := by decide +kernel
theorem dX6_row_72 : decode cX6_row 72 = .ok (.iload_n 2, 1) := by decide +kernel
theorem dX6_row_73 : decode cX6_row 73 = .ok (.iadd, 1) := by decide +kernel
theorem dX6_row_74 : decode cX6_row 74 = .ok (.iload_n 3, 1) := by decide +kernel
theorem dX6_row_75 : decode cX6_row 75 = .ok (.iastore, 1) := by decide +kernel
theorem dX6_row_76 : decode cX6_row 76 = .ok (.iload 4, 2) := by decide +kernel
theorem dX6_row_78 : decode cX6_row 78 = .ok (.ireturn, 1) := by decide +kernel
theorem dX6_bin_0 : decode cX6_bin 0 = .ok (.iload_n 1, 1) := by decide +kernel
theorem dX6_bin_1 : decode cX6_bin 1 = .ok (.bipush 99, 2) := by decide +kernel
theorem dX6_bin_3 : decode cX6_bin 3 = .ok (.invokestatic 78, 3) := by decide +kernel
theorem dX6_bin_6 : decode cX6_bin 6 = .ok (.ifCond .ne 6, 3) := by decide +kernel
theorem dX6_bin_9 : decode cX6_bin 9 = .ok (.bipush (-2), 2) := by decide +kernel
theorem dX6_bin_11 : decode cX6_bin 11 = .ok (.ireturn, 1) := by decide +kernel
theorem dX6_bin_12 : decode cX6_bin 12 = .ok (.aload_n 0, 1) := by decide +kernel
theorem dX6_bin_13 : decode cX6_bin 13 = .ok (.getfield 12, 3) := by decide +kernel
theorem dX6_bin_16 : decode cX6_bin 16 = .ok (.getfield 131, 3) := by decide +kernel
theorem dX6_bin_19 : decode cX6_bin 19 = .ok (.istore_n 2, 1) := by decide +kernel
theorem dX6_bin_20 : decode cX6_bin 20 = .ok (.aload_n 0, 1) := by decide +kernel
theorem dX6_bin_21 : decode cX6_bin 21 = .ok (.getfield 12, 3) := by decide +kernel
theorem dX6_bin_24 : decode cX6_bin 24 = .ok (.iload_n 1, 1) := by decide +kernel
theorem dX6_bin_25 : decode cX6_bin 25 = .ok (.putfield 131, 3) := by decide +kernel
theorem dX6_bin_28 : decode cX6_bin 28 = .ok (.iload_n 2, 1) := by decide +kernel
theorem dX6_bin_29 : decode cX6_bin 29 = .ok (.ireturn, 1) := by decide +kernel
theorem dX6_feed_0 : decode cX6_feed 0 = .ok (.iload_n 1, 1) := by decide +kernel
theorem dX6_feed_1 : decode cX6_feed 1 = .ok (.bipush 127, 2) := by decide +kernel
theorem dX6_feed_3 : decode cX6_feed 3 = .ok (.invokestatic 78, 3) := by decide +kernel
theorem dX6_feed_6 : decode cX6_feed 6 = .ok (.ifCond .ne 6, 3) := by decide +kernel
theorem dX6_feed_9 : decode cX6_feed 9 = .ok (.bipush (-2), 2) := by decide +kernel
theorem dX6_feed_11 : decode cX6_feed 11 = .ok (.ireturn, 1) := by decide +kernel
theorem dX6_feed_12 : decode cX6_feed 12 = .ok (.aload_n 0, 1) := by decide +kernel
theorem dX6_feed_13 : decode cX6_feed 13 = .ok (.getfield 45, 3) := by decide +kernel
theorem dX6_feed_16 : decode cX6_feed 16 = .ok (.getfield 134, 3) := by decide +kernel
theorem dX6_feed_19 : decode cX6_feed 19 = .ok (.bipush 100, 2) := by decide +kernel
theorem dX6_feed_21 : decode cX6_feed 21 = .ok (.if_icmp .lt 6, 3) := by decide +kernel
theorem dX6_feed_24 : decode cX6_feed 24 = .ok (.bipush (-4), 2) := by decide +kernel
theorem dX6_feed_26 : decode cX6_feed 26 = .ok (.ireturn, 1) := by decide +kernel
theorem dX6_feed_27 : decode cX6_feed 27 = .ok (.aload_n 0, 1) := by decide +kernel
theorem dX6_feed_28 : decode cX6_feed 28 = .ok (.getfield 45, 3) := by decide +kernel
theorem dX6_feed_31 : decode cX6_feed 31 = .ok (.iload_n 1, 1) := by decide +kernel
theorem dX6_feed_32 : decode cX6_feed 32 = .ok (.i2c, 1) := by decide +kernel
theorem dX6_feed_33 : decode cX6_feed 33 = .ok (.invokevirtual 137, 3) := by decide +kernel
theorem dX6_feed_36 : decode cX6_feed 36 = .ok (.ireturn, 1) := by decide +kernel
theorem dX6_house_0 : decode cX6_house 0 = .ok (.aload_n 0, 1) := by decide +kernel
theorem dX6_house_1 : decode cX6_house 1 = .ok (.getfield 69, 3) := by decide +kernel
theorem dX6_house_4 : decode cX6_house 4 = .ok (.bipush 6, 2) := by decide +kernel
theorem dX6_house_6 : decode cX6_house 6 = .ok (.if_icmp .lt 6, 3) := by decide +kernel
theorem dX6_house_9 : decode cX6_house 9 = .ok (.bipush (-4), 2) := by decide +kernel
theorem dX6_house_11 : decode cX6_house 11 = .ok (.ireturn, 1) := by decide +kernel
theorem dX6_house_12 : decode cX6_house 12 = .ok (.aload_n 0, 1) := by decide +kernel
theorem dX6_house_13 : decode cX6_house 13 = .ok (.getfield 45, 3) := by decide +kernel
theorem dX6_house_16 : decode cX6_house 16 = .ok (.aload_n 0, 1) := by decide +kernel
theorem dX6_house_17 : decode cX6_house 17 = .ok (.getfield 31, 3) := by decide +kernel
theorem dX6_house_20 : decode cX6_house 20 = .ok (.aload_n 0, 1) := by decide +kernel
theorem dX6_house_21 : decode cX6_house 21 = .ok (.getfield 69, 3) := by decide +kernel
theorem dX6_house_24 : decode cX6_house 24 = .ok (.aaload, 1) := by decide +kernel
theorem dX6_house_25 : decode cX6_house 25 = .ok (.invokevirtual 141, 3) := by decide +kernel
theorem dX6_house_28 : decode cX6_house 28 = .ok (.istore_n 1, 1) := by decide +kernel
theorem dX6_house_29 : decode cX6_house 29 = .ok (.aload_n 0, 1) := by decide +kernel
theorem dX6_house_30 : decode cX6_house 30 = .ok (.getfield 45, 3) := by decide +kernel
theorem dX6_house_33 : decode cX6_house 33 = .ok (.iconst 0, 1) := by decide +kernel
theorem dX6_house_34 : decode cX6_house 34 = .ok (.putfield 134, 3) := by decide +kernel
theorem dX6_house_37 : decode cX6_house 37 = .ok (.iload_n 1, 1) := by decide +kernel
theorem dX6_house_38 : decode cX6_house 38 = .ok (.ifCond .lt 8, 3) := by decide +kernel
theorem dX6_house_41 : decode cX6_house 41 = .ok (.bipush (-10), 2) := by decide +kernel
theorem dX6_house_43 : decode cX6_house 43 = .ok (.iload_n 1, 1) := by decide +kernel
theorem dX6_house_44 : decode cX6_house 44 = .ok (.isub, 1) := by decide +kernel
theorem dX6_house_45 : decode cX6_house 45 = .ok (.ireturn, 1) := by decide +kernel
theorem dX6_house_46 : decode cX6_house 46 = .ok (.aload_n 0, 1) := by decide +kernel
theorem dX6_house_47 : decode cX6_house 47 = .ok (.getfield 12, 3) := by decide +kernel
theorem dX6_house_50 : decode cX6_house 50 = .ok (.aload_n 0, 1) := by decide +kernel
theorem dX6_house_51 : decode cX6_house 51 = .ok (.getfield 69, 3) := by decide +kernel
theorem dX6_house_54 : decode cX6_house 54 = .ok (.putfield 145, 3) := by decide +kernel
theorem dX6_house_57 : decode cX6_house 57 = .ok (.aload_n 0, 1) := by decide +kernel
theorem dX6_house_58 : decode cX6_house 58 = .ok (.dup, 1) := by decide +kernel
theorem dX6_house_59 : decode cX6_house 59 = .ok (.getfield 69, 3) := by decide +kernel
theorem dX6_house_62 : decode cX6_house 62 = .ok (.iconst 1, 1) := by decide +kernel
theorem dX6_house_63 : decode cX6_house 63 = .ok (.iadd, 1) := by decide +kernel
theorem dX6_house_64 : decode cX6_house 64 = .ok (.putfield 69, 3) := by decide +kernel
theorem dX6_house_67 : decode cX6_house 67 = .ok (.aload_n 0, 1) := by decide +kernel
theorem dX6_house_68 : decode cX6_house 68 = .ok (.getfield 12, 3) := by decide +kernel
theorem dX6_house_71 : decode cX6_house 71 = .ok (.getfield 145, 3) := by decide +kernel
theorem dX6_house_74 : decode cX6_house 74 = .ok (.ireturn, 1) := by decide +kernel
theorem dX6_told_0 : decode cX6_told 0 = .ok (.iload_n 1, 1) := by decide +kernel
theorem dX6_told_1 : decode cX6_told 1 = .ok (.tableswitch 87 0 5 #[39, 47, 55, 63, 71, 79], 39) := by decide +kernel
theorem dX6_told_40 : decode cX6_told 40 = .ok (.aload_n 0, 1) := by decide +kernel
theorem dX6_told_41 : decode cX6_told 41 = .ok (.invokevirtual 113, 3) := by decide +kernel
theorem dX6_told_44 : decode cX6_told 44 = .ok (.getfield 148, 3) := by decide +kernel
theorem dX6_told_47 : decode cX6_told 47 = .ok (.ireturn, 1) := by decide +kernel
theorem dX6_told_48 : decode cX6_told 48 = .ok (.aload_n 0, 1) := by decide +kernel
theorem dX6_told_49 : decode cX6_told 49 = .ok (.invokevirtual 113, 3) := by decide +kernel
theorem dX6_told_52 : decode cX6_told 52 = .ok (.getfield 151, 3) := by decide +kernel
theorem dX6_told_55 : decode cX6_told 55 = .ok (.ireturn, 1) := by decide +kernel
theorem dX6_told_56 : decode cX6_told 56 = .ok (.aload_n 0, 1) := by decide +kernel
theorem dX6_told_57 : decode cX6_told 57 = .ok (.invokevirtual 113, 3) := by decide +kernel
theorem dX6_told_60 : decode cX6_told 60 = .ok (.getfield 154, 3) := by decide +kernel
theorem dX6_told_63 : decode cX6_told 63 = .ok (.ireturn, 1) := by decide +kernel
theorem dX6_told_64 : decode cX6_told 64 = .ok (.aload_n 0, 1) := by decide +kernel
theorem dX6_told_65 : decode cX6_told 65 = .ok (.getfield 12, 3) := by decide +kernel
theorem dX6_told_68 : decode cX6_told 68 = .ok (.getfield 131, 3) := by decide +kernel
theorem dX6_told_71 : decode cX6_told 71 = .ok (.ireturn, 1) := by decide +kernel
theorem dX6_told_72 : decode cX6_told 72 = .ok (.aload_n 0, 1) := by decide +kernel
theorem dX6_told_73 : decode cX6_told 73 = .ok (.getfield 12, 3) := by decide +kernel
theorem dX6_told_76 : decode cX6_told 76 = .ok (.getfield 157, 3) := by decide +kernel
theorem dX6_told_79 : decode cX6_told 79 = .ok (.ireturn, 1) := by decide +kernel
theorem dX6_told_80 : decode cX6_told 80 = .ok (.aload_n 0, 1) := by decide +kernel
theorem dX6_told_81 : decode cX6_told 81 = .ok (.getfield 12, 3) := by decide +kernel
theorem dX6_told_84 : decode cX6_told 84 = .ok (.getfield 160, 3) := by decide +kernel
theorem dX6_told_87 : decode cX6_told 87 = .ok (.ireturn, 1) := by decide +kernel
theorem dX6_told_88 : decode cX6_told 88 = .ok (.iconst (-1), 1) := by decide +kernel
theorem dX6_told_89 : decode cX6_told 89 = .ok (.ireturn, 1) := by decide +kernel
theorem dX6_supper_0 : decode cX6_supper 0 = .ok (.aload_n 0, 1) := by decide +kernel
theorem dX6_supper_1 : decode cX6_supper 1 = .ok (.getfield 12, 3) := by decide +kernel
theorem dX6_supper_4 : decode cX6_supper 4 = .ok (.getfield 157, 3) := by decide +kernel
theorem dX6_supper_7 : decode cX6_supper 7 = .ok (.sipush 9999, 3) := by decide +kernel
theorem dX6_supper_10 : decode cX6_supper 10 = .ok (.if_icmp .lt 6, 3) := by decide +kernel
theorem dX6_supper_13 : decode cX6_supper 13 = .ok (.bipush (-3), 2) := by decide +kernel
theorem dX6_supper_15 : decode cX6_supper 15 = .ok (.ireturn, 1) := by decide +kernel
theorem dX6_supper_16 : decode cX6_supper 16 = .ok (.aload_n 0, 1) := by decide +kernel
theorem dX6_supper_17 : decode cX6_supper 17 = .ok (.getfield 38, 3) := by decide +kernel
theorem dX6_supper_20 : decode cX6_supper 20 = .ok (.aload_n 0, 1) := by decide +kernel
theorem dX6_supper_21 : decode cX6_supper 21 = .ok (.getfield 12, 3) := by decide +kernel
theorem dX6_supper_24 : decode cX6_supper 24 = .ok (.aload_n 0, 1) := by decide +kernel
theorem dX6_supper_25 : decode cX6_supper 25 = .ok (.invokevirtual 113, 3) := by decide +kernel
theorem dX6_supper_28 : decode cX6_supper 28 = .ok (.invokevirtual 163, 3) := by decide +kernel
theorem dX6_supper_31 : decode cX6_supper 31 = .ok (.aload_n 0, 1) := by decide +kernel
theorem dX6_supper_32 : decode cX6_supper 32 = .ok (.getfield 12, 3) := by decide +kernel
theorem dX6_supper_35 : decode cX6_supper 35 = .ok (.getfield 160, 3) := by decide +kernel
theorem dX6_supper_38 : decode cX6_supper 38 = .ok (.ireturn, 1) := by decide +kernel
theorem dX6_run_0 : decode cX6_run 0 = .ok (.aload_n 0, 1) := by decide +kernel
theorem dX6_run_1 : decode cX6_run 1 = .ok (.iload_n 2, 1) := by decide +kernel
theorem dX6_run_2 : decode cX6_run 2 = .ok (.bipush 10, 2) := by decide +kernel
theorem dX6_run_4 : decode cX6_run 4 = .ok (.isub, 1) := by decide +kernel
theorem dX6_run_5 : decode cX6_run 5 = .ok (.invokevirtual 89, 3) := by decide +kernel
theorem dX6_run_8 : decode cX6_run 8 = .ok (.ifCond .ne 14, 3) := by decide +kernel
theorem dX6_run_11 : decode cX6_run 11 = .ok (.aload_n 0, 1) := by decide +kernel
theorem dX6_run_12 : decode cX6_run 12 = .ok (.iload_n 2, 1) := by decide +kernel
theorem dX6_run_13 : decode cX6_run 13 = .ok (.bipush 20, 2) := by decide +kernel
theorem dX6_run_15 : decode cX6_run 15 = .ok (.isub, 1) := by decide +kernel
theorem dX6_run_16 : decode cX6_run 16 = .ok (.invokevirtual 89, 3) := by decide +kernel
theorem dX6_run_19 : decode cX6_run 19 = .ok (.ifCond .eq 7, 3) := by decide +kernel
theorem dX6_run_22 : decode cX6_run 22 = .ok (.iconst 1, 1) := by decide +kernel
theorem dX6_run_23 : decode cX6_run 23 = .ok (.goto 4, 3) := by decide +kernel
theorem dX6_run_26 : decode cX6_run 26 = .ok (.iconst 0, 1) := by decide +kernel
theorem dX6_run_27 : decode cX6_run 27 = .ok (.istore_n 3, 1) := by decide +kernel
theorem dX6_run_28 : decode cX6_run 28 = .ok (.iload_n 2, 1) := by decide +kernel
theorem dX6_run_29 : decode cX6_run 29 = .ok (.iconst 1, 1) := by decide +kernel
theorem dX6_run_30 : decode cX6_run 30 = .ok (.invokestatic 78, 3) := by decide +kernel
theorem dX6_run_33 : decode cX6_run 33 = .ok (.ifCond .ne 10, 3) := by decide +kernel
theorem dX6_run_36 : decode cX6_run 36 = .ok (.iload_n 3, 1) := by decide +kernel
theorem dX6_run_37 : decode cX6_run 37 = .ok (.ifCond .ne 6, 3) := by decide +kernel
theorem dX6_run_40 : decode cX6_run 40 = .ok (.ldc 93, 2) := by decide +kernel
theorem dX6_run_42 : decode cX6_run 42 = .ok (.ireturn, 1) := by decide +kernel
theorem dX6_run_43 : decode cX6_run 43 = .ok (.iload_n 1, 1) := by decide +kernel
theorem dX6_run_44 : decode cX6_run 44 = .ok (.bipush 60, 2) := by decide +kernel
theorem dX6_run_46 : decode cX6_run 46 = .ok (.invokestatic 78, 3) := by decide +kernel
theorem dX6_run_49 : decode cX6_run 49 = .ok (.ifCond .ne 6, 3) := by decide +kernel
theorem dX6_run_52 : decode cX6_run 52 = .ok (.ldc 166, 2) := by decide +kernel
theorem dX6_run_54 : decode cX6_run 54 = .ok (.ireturn, 1) := by decide +kernel
theorem dX6_run_55 : decode cX6_run 55 = .ok (.aload_n 0, 1) := by decide +kernel
theorem dX6_run_56 : decode cX6_run 56 = .ok (.iload_n 2, 1) := by decide +kernel
theorem dX6_run_57 : decode cX6_run 57 = .ok (.bipush 20, 2) := by decide +kernel
theorem dX6_run_59 : decode cX6_run 59 = .ok (.isub, 1) := by decide +kernel
theorem dX6_run_60 : decode cX6_run 60 = .ok (.invokevirtual 89, 3) := by decide +kernel
theorem dX6_run_63 : decode cX6_run 63 = .ok (.ifCond .eq 13, 3) := by decide +kernel
theorem dX6_run_66 : decode cX6_run 66 = .ok (.aload_n 0, 1) := by decide +kernel
theorem dX6_run_67 : decode cX6_run 67 = .ok (.iload_n 2, 1) := by decide +kernel
theorem dX6_run_68 : decode cX6_run 68 = .ok (.bipush 20, 2) := by decide +kernel
theorem dX6_run_70 : decode cX6_run 70 = .ok (.isub, 1) := by decide +kernel
theorem dX6_run_71 : decode cX6_run 71 = .ok (.iload_n 1, 1) := by decide +kernel
theorem dX6_run_72 : decode cX6_run 72 = .ok (.invokevirtual 167, 3) := by decide +kernel
theorem dX6_run_75 : decode cX6_run 75 = .ok (.ireturn, 1) := by decide +kernel
theorem dX6_run_76 : decode cX6_run 76 = .ok (.aload_n 0, 1) := by decide +kernel
theorem dX6_run_77 : decode cX6_run 77 = .ok (.iload_n 1, 1) := by decide +kernel
theorem dX6_run_78 : decode cX6_run 78 = .ok (.invokevirtual 170, 3) := by decide +kernel
theorem dX6_run_81 : decode cX6_run 81 = .ok (.iload_n 2, 1) := by decide +kernel
theorem dX6_run_82 : decode cX6_run 82 = .ok (.ifCond .ne 11, 3) := by decide +kernel
theorem dX6_run_85 : decode cX6_run 85 = .ok (.aload_n 0, 1) := by decide +kernel
theorem dX6_run_86 : decode cX6_run 86 = .ok (.getfield 21, 3) := by decide +kernel
theorem dX6_run_89 : decode cX6_run 89 = .ok (.getfield 131, 3) := by decide +kernel
theorem dX6_run_92 : decode cX6_run 92 = .ok (.ireturn, 1) := by decide +kernel
theorem dX6_run_93 : decode cX6_run 93 = .ok (.iload_n 2, 1) := by decide +kernel
theorem dX6_run_94 : decode cX6_run 94 = .ok (.iconst 1, 1) := by decide +kernel
theorem dX6_run_95 : decode cX6_run 95 = .ok (.if_icmp .ne 13, 3) := by decide +kernel
theorem dX6_run_98 : decode cX6_run 98 = .ok (.aload_n 0, 1) := by decide +kernel
theorem dX6_run_99 : decode cX6_run 99 = .ok (.getfield 21, 3) := by decide +kernel
theorem dX6_run_102 : decode cX6_run 102 = .ok (.getfield 160, 3) := by decide +kernel
theorem dX6_run_105 : decode cX6_run 105 = .ok (.goto 15, 3) := by decide +kernel
theorem dX6_run_108 : decode cX6_run 108 = .ok (.aload_n 0, 1) := by decide +kernel
theorem dX6_run_109 : decode cX6_run 109 = .ok (.getfield 21, 3) := by decide +kernel
theorem dX6_run_112 : decode cX6_run 112 = .ok (.getfield 106, 3) := by decide +kernel
theorem dX6_run_115 : decode cX6_run 115 = .ok (.iload_n 2, 1) := by decide +kernel
theorem dX6_run_116 : decode cX6_run 116 = .ok (.bipush 10, 2) := by decide +kernel
theorem dX6_run_118 : decode cX6_run 118 = .ok (.isub, 1) := by decide +kernel
theorem dX6_run_119 : decode cX6_run 119 = .ok (.iaload, 1) := by decide +kernel
theorem dX6_run_120 : decode cX6_run 120 = .ok (.ireturn, 1) := by decide +kernel
theorem dX6_timesBaker_0 : decode cX6_timesBaker 0 = .ok (.iconst 0, 1) := by decide +kernel
theorem dX6_timesBaker_1 : decode cX6_timesBaker 1 = .ok (.istore_n 3, 1) := by decide +kernel
theorem dX6_timesBaker_2 : decode cX6_timesBaker 2 = .ok (.aload_n 0, 1) := by decide +kernel
theorem dX6_timesBaker_3 : decode cX6_timesBaker 3 = .ok (.getfield 21, 3) := by decide +kernel
theorem dX6_timesBaker_6 : decode cX6_timesBaker 6 = .ok (.aload_n 0, 1) := by decide +kernel
theorem dX6_timesBaker_7 : decode cX6_timesBaker 7 = .ok (.getfield 12, 3) := by decide +kernel
theorem dX6_timesBaker_10 : decode cX6_timesBaker 10 = .ok (.invokevirtual 174, 3) := by decide +kernel
theorem dX6_timesBaker_13 : decode cX6_timesBaker 13 = .ok (.iconst 0, 1) := by decide +kernel
theorem dX6_timesBaker_14 : decode cX6_timesBaker 14 = .ok (.istore 4, 2) := by decide +kernel
theorem dX6_timesBaker_16 : decode cX6_timesBaker 16 = .ok (.iload 4, 2) := by decide +kernel
theorem dX6_timesBaker_18 : decode cX6_timesBaker 18 = .ok (.iload_n 2, 1) := by decide +kernel
theorem dX6_timesBaker_19 : decode cX6_timesBaker 19 = .ok (.if_icmp .ge 43, 3) := by decide +kernel
theorem dX6_timesBaker_22 : decode cX6_timesBaker 22 = .ok (.aload_n 0, 1) := by decide +kernel
theorem dX6_timesBaker_23 : decode cX6_timesBaker 23 = .ok (.getfield 38, 3) := by decide +kernel
theorem dX6_timesBaker_26 : decode cX6_timesBaker 26 = .ok (.aload_n 0, 1) := by decide +kernel
theorem dX6_timesBaker_27 : decode cX6_timesBaker 27 = .ok (.getfield 21, 3) := by decide +kernel
theorem dX6_timesBaker_30 : decode cX6_timesBaker 30 = .ok (.aload_n 0, 1) := by decide +kernel
theorem dX6_timesBaker_31 : decode cX6_timesBaker 31 = .ok (.invokevirtual 113, 3) := by decide +kernel
theorem dX6_timesBaker_34 : decode cX6_timesBaker 34 = .ok (.invokevirtual 163, 3) := by decide +kernel
theorem dX6_timesBaker_37 : decode cX6_timesBaker 37 = .ok (.iload_n 3, 1) := by decide +kernel
theorem dX6_timesBaker_38 : decode cX6_timesBaker 38 = .ok (.aload_n 0, 1) := by decide +kernel
theorem dX6_timesBaker_39 : decode cX6_timesBaker 39 = .ok (.getfield 21, 3) := by decide +kernel
theorem dX6_timesBaker_42 : decode cX6_timesBaker 42 = .ok (.getfield 160, 3) := by decide +kernel
theorem dX6_timesBaker_45 : decode cX6_timesBaker 45 = .ok (.iload_n 1, 1) := by decide +kernel
theorem dX6_timesBaker_46 : decode cX6_timesBaker 46 = .ok (.if_icmp .ne 7, 3) := by decide +kernel
theorem dX6_timesBaker_49 : decode cX6_timesBaker 49 = .ok (.iconst 1, 1) := by decide +kernel
theorem dX6_timesBaker_50 : decode cX6_timesBaker 50 = .ok (.goto 4, 3) := by decide +kernel
theorem dX6_timesBaker_53 : decode cX6_timesBaker 53 = .ok (.iconst 0, 1) := by decide +kernel
theorem dX6_timesBaker_54 : decode cX6_timesBaker 54 = .ok (.iadd, 1) := by decide +kernel
theorem dX6_timesBaker_55 : decode cX6_timesBaker 55 = .ok (.istore_n 3, 1) := by decide +kernel
theorem dX6_timesBaker_56 : decode cX6_timesBaker 56 = .ok (.iinc 4 1, 3) := by decide +kernel
theorem dX6_timesBaker_59 : decode cX6_timesBaker 59 = .ok (.goto (-43), 3) := by decide +kernel
theorem dX6_timesBaker_62 : decode cX6_timesBaker 62 = .ok (.iload_n 3, 1) := by decide +kernel
theorem dX6_timesBaker_63 : decode cX6_timesBaker 63 = .ok (.ireturn, 1) := by decide +kernel
theorem dX6_round_0 : decode cX6_round 0 = .ok (.aload_n 0, 1) := by decide +kernel
theorem dX6_round_1 : decode cX6_round 1 = .ok (.getfield 21, 3) := by decide +kernel
theorem dX6_round_4 : decode cX6_round 4 = .ok (.aload_n 0, 1) := by decide +kernel
theorem dX6_round_5 : decode cX6_round 5 = .ok (.getfield 12, 3) := by decide +kernel
theorem dX6_round_8 : decode cX6_round 8 = .ok (.invokevirtual 174, 3) := by decide +kernel
theorem dX6_round_11 : decode cX6_round 11 = .ok (.iconst 1, 1) := by decide +kernel
theorem dX6_round_12 : decode cX6_round 12 = .ok (.istore_n 1, 1) := by decide +kernel
theorem dX6_round_13 : decode cX6_round 13 = .ok (.iload_n 1, 1) := by decide +kernel
theorem dX6_round_14 : decode cX6_round 14 = .ok (.bipush 60, 2) := by decide +kernel
theorem dX6_round_16 : decode cX6_round 16 = .ok (.if_icmp .gt 40, 3) := by decide +kernel
theorem dX6_round_19 : decode cX6_round 19 = .ok (.aload_n 0, 1) := by decide +kernel
theorem dX6_round_20 : decode cX6_round 20 = .ok (.getfield 38, 3) := by decide +kernel
theorem dX6_round_23 : decode cX6_round 23 = .ok (.aload_n 0, 1) := by decide +kernel
theorem dX6_round_24 : decode cX6_round 24 = .ok (.getfield 21, 3) := by decide +kernel
theorem dX6_round_27 : decode cX6_round 27 = .ok (.aload_n 0, 1) := by decide +kernel
theorem dX6_round_28 : decode cX6_round 28 = .ok (.invokevirtual 113, 3) := by decide +kernel
theorem dX6_round_31 : decode cX6_round 31 = .ok (.invokevirtual 163, 3) := by decide +kernel
theorem dX6_round_34 : decode cX6_round 34 = .ok (.aload_n 0, 1) := by decide +kernel
theorem dX6_round_35 : decode cX6_round 35 = .ok (.getfield 21, 3) := by decide +kernel
theorem dX6_round_38 : decode cX6_round 38 = .ok (.aload_n 0, 1) := by decide +kernel
theorem dX6_round_39 : decode cX6_round 39 = .ok (.getfield 12, 3) := by decide +kernel
theorem dX6_round_42 : decode cX6_round 42 = .ok (.invokevirtual 178, 3) := by decide +kernel
theorem dX6_round_45 : decode cX6_round 45 = .ok (.ifCond .eq 5, 3) := by decide +kernel
theorem dX6_round_48 : decode cX6_round 48 = .ok (.iload_n 1, 1) := by decide +kernel
theorem dX6_round_49 : decode cX6_round 49 = .ok (.ireturn, 1) := by decide +kernel
theorem dX6_round_50 : decode cX6_round 50 = .ok (.iinc 1 1, 3) := by decide +kernel
theorem dX6_round_53 : decode cX6_round 53 = .ok (.goto (-40), 3) := by decide +kernel
theorem dX6_round_56 : decode cX6_round 56 = .ok (.bipush (-5), 2) := by decide +kernel
theorem dX6_round_58 : decode cX6_round 58 = .ok (.ireturn, 1) := by decide +kernel
theorem dX6_still_0 : decode cX6_still 0 = .ok (.iload_n 1, 1) := by decide +kernel
theorem dX6_still_1 : decode cX6_still 1 = .ok (.ifCond .eq 17, 3) := by decide +kernel
theorem dX6_still_4 : decode cX6_still 4 = .ok (.aload_n 0, 1) := by decide +kernel
theorem dX6_still_5 : decode cX6_still 5 = .ok (.iload_n 1, 1) := by decide +kernel
theorem dX6_still_6 : decode cX6_still 6 = .ok (.bipush 10, 2) := by decide +kernel
theorem dX6_still_8 : decode cX6_still 8 = .ok (.isub, 1) := by decide +kernel
theorem dX6_still_9 : decode cX6_still 9 = .ok (.invokevirtual 89, 3) := by decide +kernel
theorem dX6_still_12 : decode cX6_still 12 = .ok (.ifCond .ne 6, 3) := by decide +kernel
theorem dX6_still_15 : decode cX6_still 15 = .ok (.ldc 93, 2) := by decide +kernel
theorem dX6_still_17 : decode cX6_still 17 = .ok (.ireturn, 1) := by decide +kernel
theorem dX6_still_18 : decode cX6_still 18 = .ok (.aload_n 0, 1) := by decide +kernel
theorem dX6_still_19 : decode cX6_still 19 = .ok (.getfield 12, 3) := by decide +kernel
theorem dX6_still_22 : decode cX6_still 22 = .ok (.getfield 82, 3) := by decide +kernel
theorem dX6_still_25 : decode cX6_still 25 = .ok (.iconst 5, 1) := by decide +kernel
theorem dX6_still_26 : decode cX6_still 26 = .ok (.if_icmp .lt 6, 3) := by decide +kernel
theorem dX6_still_29 : decode cX6_still 29 = .ok (.bipush (-9), 2) := by decide +kernel
theorem dX6_still_31 : decode cX6_still 31 = .ok (.ireturn, 1) := by decide +kernel
theorem dX6_still_32 : decode cX6_still 32 = .ok (.iconst 0, 1) := by decide +kernel
theorem dX6_still_33 : decode cX6_still 33 = .ok (.istore_n 2, 1) := by decide +kernel
theorem dX6_still_34 : decode cX6_still 34 = .ok (.aload_n 0, 1) := by decide +kernel
theorem dX6_still_35 : decode cX6_still 35 = .ok (.getfield 38, 3) := by decide +kernel
theorem dX6_still_38 : decode cX6_still 38 = .ok (.aload_n 0, 1) := by decide +kernel
theorem dX6_still_39 : decode cX6_still 39 = .ok (.getfield 12, 3) := by decide +kernel
theorem dX6_still_42 : decode cX6_still 42 = .ok (.aload_n 0, 1) := by decide +kernel
theorem dX6_still_43 : decode cX6_still 43 = .ok (.invokevirtual 113, 3) := by decide +kernel
theorem dX6_still_46 : decode cX6_still 46 = .ok (.invokevirtual 117, 3) := by decide +kernel
theorem dX6_still_49 : decode cX6_still 49 = .ok (.iconst 0, 1) := by decide +kernel
theorem dX6_still_50 : decode cX6_still 50 = .ok (.istore_n 3, 1) := by decide +kernel
theorem dX6_still_51 : decode cX6_still 51 = .ok (.iload_n 3, 1) := by decide +kernel
theorem dX6_still_52 : decode cX6_still 52 = .ok (.aload_n 0, 1) := by decide +kernel
theorem dX6_still_53 : decode cX6_still 53 = .ok (.invokevirtual 182, 3) := by decide +kernel
theorem dX6_still_56 : decode cX6_still 56 = .ok (.if_icmp .ge 37, 3) := by decide +kernel
theorem dX6_still_59 : decode cX6_still 59 = .ok (.aload_n 0, 1) := by decide +kernel
theorem dX6_still_60 : decode cX6_still 60 = .ok (.iload_n 3, 1) := by decide +kernel
theorem dX6_still_61 : decode cX6_still 61 = .ok (.invokevirtual 186, 3) := by decide +kernel
theorem dX6_still_64 : decode cX6_still 64 = .ok (.aload_n 0, 1) := by decide +kernel
theorem dX6_still_65 : decode cX6_still 65 = .ok (.invokevirtual 189, 3) := by decide +kernel
theorem dX6_still_68 : decode cX6_still 68 = .ok (.ifCond .eq 19, 3) := by decide +kernel
theorem dX6_still_71 : decode cX6_still 71 = .ok (.aload_n 0, 1) := by decide +kernel
theorem dX6_still_72 : decode cX6_still 72 = .ok (.iload_n 2, 1) := by decide +kernel
theorem dX6_still_73 : decode cX6_still 73 = .ok (.ifCond .ne 7, 3) := by decide +kernel
theorem dX6_still_76 : decode cX6_still 76 = .ok (.iconst 1, 1) := by decide +kernel
theorem dX6_still_77 : decode cX6_still 77 = .ok (.goto 4, 3) := by decide +kernel
theorem dX6_still_80 : decode cX6_still 80 = .ok (.iconst 0, 1) := by decide +kernel
theorem dX6_still_81 : decode cX6_still 81 = .ok (.invokevirtual 193, 3) := by decide +kernel
theorem dX6_still_84 : decode cX6_still 84 = .ok (.iinc 2 1, 3) := by decide +kernel
theorem dX6_still_87 : decode cX6_still 87 = .ok (.iinc 3 1, 3) := by decide +kernel
theorem dX6_still_90 : decode cX6_still 90 = .ok (.goto (-39), 3) := by decide +kernel
theorem dX6_still_93 : decode cX6_still 93 = .ok (.iload_n 1, 1) := by decide +kernel
theorem dX6_still_94 : decode cX6_still 94 = .ok (.ifCond .ne 5, 3) := by decide +kernel
theorem dX6_still_97 : decode cX6_still 97 = .ok (.iload_n 2, 1) := by decide +kernel
theorem dX6_still_98 : decode cX6_still 98 = .ok (.ireturn, 1) := by decide +kernel
theorem dX6_still_99 : decode cX6_still 99 = .ok (.iload_n 2, 1) := by decide +kernel
theorem dX6_still_100 : decode cX6_still 100 = .ok (.ifCond .ne 8, 3) := by decide +kernel
theorem dX6_still_103 : decode cX6_still 103 = .ok (.bipush (-5), 2) := by decide +kernel
theorem dX6_still_105 : decode cX6_still 105 = .ok (.goto 12, 3) := by decide +kernel
theorem dX6_still_108 : decode cX6_still 108 = .ok (.aload_n 0, 1) := by decide +kernel
theorem dX6_still_109 : decode cX6_still 109 = .ok (.getfield 66, 3) := by decide +kernel
theorem dX6_still_112 : decode cX6_still 112 = .ok (.iload_n 1, 1) := by decide +kernel
theorem dX6_still_113 : decode cX6_still 113 = .ok (.bipush 10, 2) := by decide +kernel
theorem dX6_still_115 : decode cX6_still 115 = .ok (.isub, 1) := by decide +kernel
theorem dX6_still_116 : decode cX6_still 116 = .ok (.iaload, 1) := by decide +kernel
theorem dX6_still_117 : decode cX6_still 117 = .ok (.ireturn, 1) := by decide +kernel
theorem dX6_allBest_0 : decode cX6_allBest 0 = .ok (.iload_n 1, 1) := by decide +kernel
theorem dX6_allBest_1 : decode cX6_allBest 1 = .ok (.ifCond .eq 17, 3) := by decide +kernel
theorem dX6_allBest_4 : decode cX6_allBest 4 = .ok (.aload_n 0, 1) := by decide +kernel
theorem dX6_allBest_5 : decode cX6_allBest 5 = .ok (.iload_n 1, 1) := by decide +kernel
theorem dX6_allBest_6 : decode cX6_allBest 6 = .ok (.bipush 10, 2) := by decide +kernel
theorem dX6_allBest_8 : decode cX6_allBest 8 = .ok (.isub, 1) := by decide +kernel
theorem dX6_allBest_9 : decode cX6_allBest 9 = .ok (.invokevirtual 89, 3) := by decide +kernel
theorem dX6_allBest_12 : decode cX6_allBest 12 = .ok (.ifCond .ne 6, 3) := by decide +kernel
theorem dX6_allBest_15 : decode cX6_allBest 15 = .ok (.ldc 93, 2) := by decide +kernel
theorem dX6_allBest_17 : decode cX6_allBest 17 = .ok (.ireturn, 1) := by decide +kernel
theorem dX6_allBest_18 : decode cX6_allBest 18 = .ok (.aload_n 0, 1) := by decide +kernel
theorem dX6_allBest_19 : decode cX6_allBest 19 = .ok (.getfield 12, 3) := by decide +kernel
theorem dX6_allBest_22 : decode cX6_allBest 22 = .ok (.getfield 82, 3) := by decide +kernel
theorem dX6_allBest_25 : decode cX6_allBest 25 = .ok (.iconst 5, 1) := by decide +kernel
theorem dX6_allBest_26 : decode cX6_allBest 26 = .ok (.if_icmp .lt 6, 3) := by decide +kernel
theorem dX6_allBest_29 : decode cX6_allBest 29 = .ok (.bipush (-9), 2) := by decide +kernel
theorem dX6_allBest_31 : decode cX6_allBest 31 = .ok (.ireturn, 1) := by decide +kernel
theorem dX6_allBest_32 : decode cX6_allBest 32 = .ok (.iconst 0, 1) := by decide +kernel
theorem dX6_allBest_33 : decode cX6_allBest 33 = .ok (.istore_n 2, 1) := by decide +kernel
theorem dX6_allBest_34 : decode cX6_allBest 34 = .ok (.aload_n 0, 1) := by decide +kernel
theorem dX6_allBest_35 : decode cX6_allBest 35 = .ok (.getfield 38, 3) := by decide +kernel
theorem dX6_allBest_38 : decode cX6_allBest 38 = .ok (.aload_n 0, 1) := by decide +kernel
theorem dX6_allBest_39 : decode cX6_allBest 39 = .ok (.getfield 12, 3) := by decide +kernel
theorem dX6_allBest_42 : decode cX6_allBest 42 = .ok (.aload_n 0, 1) := by decide +kernel
theorem dX6_allBest_43 : decode cX6_allBest 43 = .ok (.invokevirtual 113, 3) := by decide +kernel
theorem dX6_allBest_46 : decode cX6_allBest 46 = .ok (.invokevirtual 117, 3) := by decide +kernel
theorem dX6_allBest_49 : decode cX6_allBest 49 = .ok (.iconst 0, 1) := by decide +kernel
theorem dX6_allBest_50 : decode cX6_allBest 50 = .ok (.istore_n 3, 1) := by decide +kernel
theorem dX6_allBest_51 : decode cX6_allBest 51 = .ok (.iload_n 3, 1) := by decide +kernel
theorem dX6_allBest_52 : decode cX6_allBest 52 = .ok (.aload_n 0, 1) := by decide +kernel
theorem dX6_allBest_53 : decode cX6_allBest 53 = .ok (.invokevirtual 182, 3) := by decide +kernel
theorem dX6_allBest_56 : decode cX6_allBest 56 = .ok (.if_icmp .ge 69, 3) := by decide +kernel
theorem dX6_allBest_59 : decode cX6_allBest 59 = .ok (.aload_n 0, 1) := by decide +kernel
theorem dX6_allBest_60 : decode cX6_allBest 60 = .ok (.iload_n 3, 1) := by decide +kernel
theorem dX6_allBest_61 : decode cX6_allBest 61 = .ok (.invokevirtual 186, 3) := by decide +kernel
theorem dX6_allBest_64 : decode cX6_allBest 64 = .ok (.aload_n 0, 1) := by decide +kernel
theorem dX6_allBest_65 : decode cX6_allBest 65 = .ok (.getfield 38, 3) := by decide +kernel
theorem dX6_allBest_68 : decode cX6_allBest 68 = .ok (.aload_n 0, 1) := by decide +kernel
theorem dX6_allBest_69 : decode cX6_allBest 69 = .ok (.getfield 62, 3) := by decide +kernel
theorem dX6_allBest_72 : decode cX6_allBest 72 = .ok (.invokevirtual 197, 3) := by decide +kernel
theorem dX6_allBest_75 : decode cX6_allBest 75 = .ok (.aload_n 0, 1) := by decide +kernel
theorem dX6_allBest_76 : decode cX6_allBest 76 = .ok (.getfield 38, 3) := by decide +kernel
theorem dX6_allBest_79 : decode cX6_allBest 79 = .ok (.invokevirtual 201, 3) := by decide +kernel
theorem dX6_allBest_82 : decode cX6_allBest 82 = .ok (.istore 4, 2) := by decide +kernel
theorem dX6_allBest_84 : decode cX6_allBest 84 = .ok (.iload_n 3, 1) := by decide +kernel
theorem dX6_allBest_85 : decode cX6_allBest 85 = .ok (.ifCond .eq 9, 3) := by decide +kernel
theorem dX6_allBest_88 : decode cX6_allBest 88 = .ok (.iload 4, 2) := by decide +kernel
theorem dX6_allBest_90 : decode cX6_allBest 90 = .ok (.iload_n 2, 1) := by decide +kernel
theorem dX6_allBest_91 : decode cX6_allBest 91 = .ok (.if_icmp .le 7, 3) := by decide +kernel
theorem dX6_allBest_94 : decode cX6_allBest 94 = .ok (.iconst 1, 1) := by decide +kernel
theorem dX6_allBest_95 : decode cX6_allBest 95 = .ok (.goto 4, 3) := by decide +kernel
theorem dX6_allBest_98 : decode cX6_allBest 98 = .ok (.iconst 0, 1) := by decide +kernel
theorem dX6_allBest_99 : decode cX6_allBest 99 = .ok (.istore 5, 2) := by decide +kernel
theorem dX6_allBest_101 : decode cX6_allBest 101 = .ok (.aload_n 0, 1) := by decide +kernel
theorem dX6_allBest_102 : decode cX6_allBest 102 = .ok (.iload 5, 2) := by decide +kernel
theorem dX6_allBest_104 : decode cX6_allBest 104 = .ok (.invokevirtual 193, 3) := by decide +kernel
theorem dX6_allBest_107 : decode cX6_allBest 107 = .ok (.iload 5, 2) := by decide +kernel
theorem dX6_allBest_109 : decode cX6_allBest 109 = .ok (.ifCond .eq 8, 3) := by decide +kernel
theorem dX6_allBest_112 : decode cX6_allBest 112 = .ok (.iload 4, 2) := by decide +kernel
theorem dX6_allBest_114 : decode cX6_allBest 114 = .ok (.goto 4, 3) := by decide +kernel
theorem dX6_allBest_117 : decode cX6_allBest 117 = .ok (.iload_n 2, 1) := by decide +kernel
theorem dX6_allBest_118 : decode cX6_allBest 118 = .ok (.istore_n 2, 1) := by decide +kernel
theorem dX6_allBest_119 : decode cX6_allBest 119 = .ok (.iinc 3 1, 3) := by decide +kernel
theorem dX6_allBest_122 : decode cX6_allBest 122 = .ok (.goto (-71), 3) := by decide +kernel
theorem dX6_allBest_125 : decode cX6_allBest 125 = .ok (.iload_n 1, 1) := by decide +kernel
theorem dX6_allBest_126 : decode cX6_allBest 126 = .ok (.ifCond .ne 7, 3) := by decide +kernel
theorem dX6_allBest_129 : decode cX6_allBest 129 = .ok (.iload_n 2, 1) := by decide +kernel
theorem dX6_allBest_130 : decode cX6_allBest 130 = .ok (.goto 12, 3) := by decide +kernel
theorem dX6_allBest_133 : decode cX6_allBest 133 = .ok (.aload_n 0, 1) := by decide +kernel
theorem dX6_allBest_134 : decode cX6_allBest 134 = .ok (.getfield 66, 3) := by decide +kernel
theorem dX6_allBest_137 : decode cX6_allBest 137 = .ok (.iload_n 1, 1) := by decide +kernel
theorem dX6_allBest_138 : decode cX6_allBest 138 = .ok (.bipush 10, 2) := by decide +kernel
theorem dX6_allBest_140 : decode cX6_allBest 140 = .ok (.isub, 1) := by decide +kernel
theorem dX6_allBest_141 : decode cX6_allBest 141 = .ok (.iaload, 1) := by decide +kernel
theorem dX6_allBest_142 : decode cX6_allBest 142 = .ok (.ireturn, 1) := by decide +kernel
theorem dX6_rowsInAll_0 : decode cX6_rowsInAll 0 = .ok (.iconst 1, 1) := by decide +kernel
theorem dX6_rowsInAll_1 : decode cX6_rowsInAll 1 = .ok (.iconst 2, 1) := by decide +kernel
theorem dX6_rowsInAll_2 : decode cX6_rowsInAll 2 = .ok (.aload_n 0, 1) := by decide +kernel
theorem dX6_rowsInAll_3 : decode cX6_rowsInAll 3 = .ok (.getfield 12, 3) := by decide +kernel
theorem dX6_rowsInAll_6 : decode cX6_rowsInAll 6 = .ok (.getfield 82, 3) := by decide +kernel
theorem dX6_rowsInAll_9 : decode cX6_rowsInAll 9 = .ok (.imul, 1) := by decide +kernel
theorem dX6_rowsInAll_10 : decode cX6_rowsInAll 10 = .ok (.ishl, 1) := by decide +kernel
theorem dX6_rowsInAll_11 : decode cX6_rowsInAll 11 = .ok (.ireturn, 1) := by decide +kernel
theorem dX6_becomesRow_0 : decode cX6_becomesRow 0 = .ok (.iconst 0, 1) := by decide +kernel
theorem dX6_becomesRow_1 : decode cX6_becomesRow 1 = .ok (.istore_n 2, 1) := by decide +kernel
theorem dX6_becomesRow_2 : decode cX6_becomesRow 2 = .ok (.iload_n 2, 1) := by decide +kernel
theorem dX6_becomesRow_3 : decode cX6_becomesRow 3 = .ok (.aload_n 0, 1) := by decide +kernel
theorem dX6_becomesRow_4 : decode cX6_becomesRow 4 = .ok (.getfield 12, 3) := by decide +kernel
theorem dX6_becomesRow_7 : decode cX6_becomesRow 7 = .ok (.getfield 82, 3) := by decide +kernel
theorem dX6_becomesRow_10 : decode cX6_becomesRow 10 = .ok (.if_icmp .ge 32, 3) := by decide +kernel
theorem dX6_becomesRow_13 : decode cX6_becomesRow 13 = .ok (.aload_n 0, 1) := by decide +kernel
theorem dX6_becomesRow_14 : decode cX6_becomesRow 14 = .ok (.getfield 62, 3) := by decide +kernel
theorem dX6_becomesRow_17 : decode cX6_becomesRow 17 = .ok (.iload_n 2, 1) := by decide +kernel
theorem dX6_becomesRow_18 : decode cX6_becomesRow 18 = .ok (.iload_n 1, 1) := by decide +kernel
theorem dX6_becomesRow_19 : decode cX6_becomesRow 19 = .ok (.iconst 2, 1) := by decide +kernel
theorem dX6_becomesRow_20 : decode cX6_becomesRow 20 = .ok (.aload_n 0, 1) := by decide +kernel
theorem dX6_becomesRow_21 : decode cX6_becomesRow 21 = .ok (.getfield 12, 3) := by decide +kernel
theorem dX6_becomesRow_24 : decode cX6_becomesRow 24 = .ok (.getfield 82, 3) := by decide +kernel
theorem dX6_becomesRow_27 : decode cX6_becomesRow 27 = .ok (.iconst 1, 1) := by decide +kernel
theorem dX6_becomesRow_28 : decode cX6_becomesRow 28 = .ok (.isub, 1) := by decide +kernel
theorem dX6_becomesRow_29 : decode cX6_becomesRow 29 = .ok (.iload_n 2, 1) := by decide +kernel
theorem dX6_becomesRow_30 : decode cX6_becomesRow 30 = .ok (.isub, 1) := by decide +kernel
theorem dX6_becomesRow_31 : decode cX6_becomesRow 31 = .ok (.imul, 1) := by decide +kernel
theorem dX6_becomesRow_32 : decode cX6_becomesRow 32 = .ok (.ishr, 1) := by decide +kernel
theorem dX6_becomesRow_33 : decode cX6_becomesRow 33 = .ok (.iconst 3, 1) := by decide +kernel
theorem dX6_becomesRow_34 : decode cX6_becomesRow 34 = .ok (.iand, 1) := by decide +kernel
theorem dX6_becomesRow_35 : decode cX6_becomesRow 35 = .ok (.iastore, 1) := by decide +kernel
theorem dX6_becomesRow_36 : decode cX6_becomesRow 36 = .ok (.iinc 2 1, 3) := by decide +kernel
theorem dX6_becomesRow_39 : decode cX6_becomesRow 39 = .ok (.goto (-37), 3) := by decide +kernel
theorem dX6_becomesRow_42 : decode cX6_becomesRow 42 = .ok (.return_, 1) := by decide +kernel
theorem dX6_keepIf_0 : decode cX6_keepIf 0 = .ok (.iload_n 1, 1) := by decide +kernel
theorem dX6_keepIf_1 : decode cX6_keepIf 1 = .ok (.ifCond .eq 17, 3) := by decide +kernel
theorem dX6_keepIf_4 : decode cX6_keepIf 4 = .ok (.aload_n 0, 1) := by decide +kernel
theorem dX6_keepIf_5 : decode cX6_keepIf 5 = .ok (.getfield 62, 3) := by decide +kernel
theorem dX6_keepIf_8 : decode cX6_keepIf 8 = .ok (.iconst 0, 1) := by decide +kernel
theorem dX6_keepIf_9 : decode cX6_keepIf 9 = .ok (.aload_n 0, 1) := by decide +kernel
theorem dX6_keepIf_10 : decode cX6_keepIf 10 = .ok (.getfield 66, 3) := by decide +kernel
theorem dX6_keepIf_13 : decode cX6_keepIf 13 = .ok (.iconst 0, 1) := by decide +kernel
theorem dX6_keepIf_14 : decode cX6_keepIf 14 = .ok (.iconst 5, 1) := by decide +kernel
theorem dX6_keepIf_15 : decode cX6_keepIf 15 = .ok (.invokestatic 204, 3) := by decide +kernel
theorem dX6_keepIf_18 : decode cX6_keepIf 18 = .ok (.return_, 1) := by decide +kernel
theorem dX6_nobodyGains_0 : decode cX6_nobodyGains 0 = .ok (.iconst 0, 1) := by decide +kernel
theorem dX6_nobodyGains_1 : decode cX6_nobodyGains 1 = .ok (.istore_n 1, 1) := by decide +kernel
theorem dX6_nobodyGains_2 : decode cX6_nobodyGains 2 = .ok (.iload_n 1, 1) := by decide +kernel
theorem dX6_nobodyGains_3 : decode cX6_nobodyGains 3 = .ok (.aload_n 0, 1) := by decide +kernel
theorem dX6_nobodyGains_4 : decode cX6_nobodyGains 4 = .ok (.getfield 12, 3) := by decide +kernel
theorem dX6_nobodyGains_7 : decode cX6_nobodyGains 7 = .ok (.getfield 82, 3) := by decide +kernel
theorem dX6_nobodyGains_10 : decode cX6_nobodyGains 10 = .ok (.if_icmp .ge 19, 3) := by decide +kernel
theorem dX6_nobodyGains_13 : decode cX6_nobodyGains 13 = .ok (.aload_n 0, 1) := by decide +kernel
theorem dX6_nobodyGains_14 : decode cX6_nobodyGains 14 = .ok (.iload_n 1, 1) := by decide +kernel
theorem dX6_nobodyGains_15 : decode cX6_nobodyGains 15 = .ok (.invokevirtual 210, 3) := by decide +kernel
theorem dX6_nobodyGains_18 : decode cX6_nobodyGains 18 = .ok (.ifCond .eq 5, 3) := by decide +kernel
theorem dX6_nobodyGains_21 : decode cX6_nobodyGains 21 = .ok (.iconst 0, 1) := by decide +kernel
theorem dX6_nobodyGains_22 : decode cX6_nobodyGains 22 = .ok (.ireturn, 1) := by decide +kernel
theorem dX6_nobodyGains_23 : decode cX6_nobodyGains 23 = .ok (.iinc 1 1, 3) := by decide +kernel
theorem dX6_nobodyGains_26 : decode cX6_nobodyGains 26 = .ok (.goto (-24), 3) := by decide +kernel
theorem dX6_nobodyGains_29 : decode cX6_nobodyGains 29 = .ok (.iconst 1, 1) := by decide +kernel
theorem dX6_nobodyGains_30 : decode cX6_nobodyGains 30 = .ok (.ireturn, 1) := by decide +kernel
theorem dX6_gains_0 : decode cX6_gains 0 = .ok (.aload_n 0, 1) := by decide +kernel
theorem dX6_gains_1 : decode cX6_gains 1 = .ok (.getfield 62, 3) := by decide +kernel
theorem dX6_gains_4 : decode cX6_gains 4 = .ok (.iload_n 1, 1) := by decide +kernel
theorem dX6_gains_5 : decode cX6_gains 5 = .ok (.iaload, 1) := by decide +kernel
theorem dX6_gains_6 : decode cX6_gains 6 = .ok (.istore_n 2, 1) := by decide +kernel
theorem dX6_gains_7 : decode cX6_gains 7 = .ok (.aload_n 0, 1) := by decide +kernel
theorem dX6_gains_8 : decode cX6_gains 8 = .ok (.getfield 38, 3) := by decide +kernel
theorem dX6_gains_11 : decode cX6_gains 11 = .ok (.aload_n 0, 1) := by decide +kernel
theorem dX6_gains_12 : decode cX6_gains 12 = .ok (.getfield 62, 3) := by decide +kernel
theorem dX6_gains_15 : decode cX6_gains 15 = .ok (.invokevirtual 197, 3) := by decide +kernel
theorem dX6_gains_18 : decode cX6_gains 18 = .ok (.aload_n 0, 1) := by decide +kernel
theorem dX6_gains_19 : decode cX6_gains 19 = .ok (.getfield 38, 3) := by decide +kernel
theorem dX6_gains_22 : decode cX6_gains 22 = .ok (.iload_n 1, 1) := by decide +kernel
theorem dX6_gains_23 : decode cX6_gains 23 = .ok (.invokevirtual 213, 3) := by decide +kernel
theorem dX6_gains_26 : decode cX6_gains 26 = .ok (.istore_n 3, 1) := by decide +kernel
theorem dX6_gains_27 : decode cX6_gains 27 = .ok (.iconst 0, 1) := by decide +kernel
theorem dX6_gains_28 : decode cX6_gains 28 = .ok (.istore 4, 2) := by decide +kernel
theorem dX6_gains_30 : decode cX6_gains 30 = .ok (.iconst 0, 1) := by decide +kernel
theorem dX6_gains_31 : decode cX6_gains 31 = .ok (.istore 5, 2) := by decide +kernel
theorem dX6_gains_33 : decode cX6_gains 33 = .ok (.iload 5, 2) := by decide +kernel
theorem dX6_gains_35 : decode cX6_gains 35 = .ok (.iconst 3, 1) := by decide +kernel
theorem dX6_gains_36 : decode cX6_gains 36 = .ok (.if_icmp .gt 52, 3) := by decide +kernel
theorem dX6_gains_39 : decode cX6_gains 39 = .ok (.iload 4, 2) := by decide +kernel
theorem dX6_gains_41 : decode cX6_gains 41 = .ok (.ifCond .ne 47, 3) := by decide +kernel
theorem dX6_gains_44 : decode cX6_gains 44 = .ok (.aload_n 0, 1) := by decide +kernel
theorem dX6_gains_45 : decode cX6_gains 45 = .ok (.getfield 62, 3) := by decide +kernel
theorem dX6_gains_48 : decode cX6_gains 48 = .ok (.iload_n 1, 1) := by decide +kernel
theorem dX6_gains_49 : decode cX6_gains 49 = .ok (.iload 5, 2) := by decide +kernel
theorem dX6_gains_51 : decode cX6_gains 51 = .ok (.iastore, 1) := by decide +kernel
theorem dX6_gains_52 : decode cX6_gains 52 = .ok (.aload_n 0, 1) := by decide +kernel
theorem dX6_gains_53 : decode cX6_gains 53 = .ok (.getfield 38, 3) := by decide +kernel
theorem dX6_gains_56 : decode cX6_gains 56 = .ok (.aload_n 0, 1) := by decide +kernel
theorem dX6_gains_57 : decode cX6_gains 57 = .ok (.getfield 62, 3) := by decide +kernel
theorem dX6_gains_60 : decode cX6_gains 60 = .ok (.invokevirtual 197, 3) := by decide +kernel
theorem dX6_gains_63 : decode cX6_gains 63 = .ok (.aload_n 0, 1) := by decide +kernel
theorem dX6_gains_64 : decode cX6_gains 64 = .ok (.getfield 38, 3) := by decide +kernel
theorem dX6_gains_67 : decode cX6_gains 67 = .ok (.iload_n 1, 1) := by decide +kernel
theorem dX6_gains_68 : decode cX6_gains 68 = .ok (.invokevirtual 213, 3) := by decide +kernel
theorem dX6_gains_71 : decode cX6_gains 71 = .ok (.iload_n 3, 1) := by decide +kernel
theorem dX6_gains_72 : decode cX6_gains 72 = .ok (.if_icmp .le 7, 3) := by decide +kernel
theorem dX6_gains_75 : decode cX6_gains 75 = .ok (.iconst 1, 1) := by decide +kernel
theorem dX6_gains_76 : decode cX6_gains 76 = .ok (.goto 4, 3) := by decide +kernel
theorem dX6_gains_79 : decode cX6_gains 79 = .ok (.iconst 0, 1) := by decide +kernel
theorem dX6_gains_80 : decode cX6_gains 80 = .ok (.istore 4, 2) := by decide +kernel
theorem dX6_gains_82 : decode cX6_gains 82 = .ok (.iinc 5 1, 3) := by decide +kernel
theorem dX6_gains_85 : decode cX6_gains 85 = .ok (.goto (-52), 3) := by decide +kernel
theorem dX6_gains_88 : decode cX6_gains 88 = .ok (.aload_n 0, 1) := by decide +kernel
theorem dX6_gains_89 : decode cX6_gains 89 = .ok (.getfield 62, 3) := by decide +kernel
theorem dX6_gains_92 : decode cX6_gains 92 = .ok (.iload_n 1, 1) := by decide +kernel
theorem dX6_gains_93 : decode cX6_gains 93 = .ok (.iload_n 2, 1) := by decide +kernel
theorem dX6_gains_94 : decode cX6_gains 94 = .ok (.iastore, 1) := by decide +kernel
theorem dX6_gains_95 : decode cX6_gains 95 = .ok (.iload 4, 2) := by decide +kernel
theorem dX6_gains_97 : decode cX6_gains 97 = .ok (.ireturn, 1) := by decide +kernel
theorem dX6_laws_0 : decode cX6_laws 0 = .ok (.iload_n 1, 1) := by decide +kernel
theorem dX6_laws_1 : decode cX6_laws 1 = .ok (.bipush 60, 2) := by decide +kernel
theorem dX6_laws_3 : decode cX6_laws 3 = .ok (.invokestatic 78, 3) := by decide +kernel
theorem dX6_laws_6 : decode cX6_laws 6 = .ok (.ifCond .ne 6, 3) := by decide +kernel
theorem dX6_laws_9 : decode cX6_laws 9 = .ok (.bipush (-2), 2) := by decide +kernel
theorem dX6_laws_11 : decode cX6_laws 11 = .ok (.ireturn, 1) := by decide +kernel
theorem dX6_laws_12 : decode cX6_laws 12 = .ok (.iconst 0, 1) := by decide +kernel
theorem dX6_laws_13 : decode cX6_laws 13 = .ok (.istore_n 2, 1) := by decide +kernel
theorem dX6_laws_14 : decode cX6_laws 14 = .ok (.iconst 0, 1) := by decide +kernel
theorem dX6_laws_15 : decode cX6_laws 15 = .ok (.istore_n 3, 1) := by decide +kernel
theorem dX6_laws_16 : decode cX6_laws 16 = .ok (.iconst 0, 1) := by decide +kernel
theorem dX6_laws_17 : decode cX6_laws 17 = .ok (.istore 4, 2) := by decide +kernel
theorem dX6_laws_19 : decode cX6_laws 19 = .ok (.iload 4, 2) := by decide +kernel
theorem dX6_laws_21 : decode cX6_laws 21 = .ok (.iconst 3, 1) := by decide +kernel
theorem dX6_laws_22 : decode cX6_laws 22 = .ok (.if_icmp .ge 49, 3) := by decide +kernel
theorem dX6_laws_25 : decode cX6_laws 25 = .ok (.aload_n 0, 1) := by decide +kernel
theorem dX6_laws_26 : decode cX6_laws 26 = .ok (.getfield 38, 3) := by decide +kernel
theorem dX6_laws_29 : decode cX6_laws 29 = .ok (.iload 4, 2) := by decide +kernel
theorem dX6_laws_31 : decode cX6_laws 31 = .ok (.putfield 216, 3) := by decide +kernel
theorem dX6_laws_34 : decode cX6_laws 34 = .ok (.aload_n 0, 1) := by decide +kernel
theorem dX6_laws_35 : decode cX6_laws 35 = .ok (.iload_n 1, 1) := by decide +kernel
theorem dX6_laws_36 : decode cX6_laws 36 = .ok (.invokevirtual 170, 3) := by decide +kernel
theorem dX6_laws_39 : decode cX6_laws 39 = .ok (.aload_n 0, 1) := by decide +kernel
theorem dX6_laws_40 : decode cX6_laws 40 = .ok (.getfield 21, 3) := by decide +kernel
theorem dX6_laws_43 : decode cX6_laws 43 = .ok (.invokevirtual 219, 3) := by decide +kernel
theorem dX6_laws_46 : decode cX6_laws 46 = .ok (.istore 5, 2) := by decide +kernel
theorem dX6_laws_48 : decode cX6_laws 48 = .ok (.iload 4, 2) := by decide +kernel
theorem dX6_laws_50 : decode cX6_laws 50 = .ok (.ifCond .eq 9, 3) := by decide +kernel
theorem dX6_laws_53 : decode cX6_laws 53 = .ok (.iload 5, 2) := by decide +kernel
theorem dX6_laws_55 : decode cX6_laws 55 = .ok (.iload_n 3, 1) := by decide +kernel
theorem dX6_laws_56 : decode cX6_laws 56 = .ok (.if_icmp .le 9, 3) := by decide +kernel
theorem dX6_laws_59 : decode cX6_laws 59 = .ok (.iload 4, 2) := by decide +kernel
theorem dX6_laws_61 : decode cX6_laws 61 = .ok (.istore_n 2, 1) := by decide +kernel
theorem dX6_laws_62 : decode cX6_laws 62 = .ok (.iload 5, 2) := by decide +kernel
theorem dX6_laws_64 : decode cX6_laws 64 = .ok (.istore_n 3, 1) := by decide +kernel
theorem dX6_laws_65 : decode cX6_laws 65 = .ok (.iinc 4 1, 3) := by decide +kernel
theorem dX6_laws_68 : decode cX6_laws 68 = .ok (.goto (-49), 3) := by decide +kernel
theorem dX6_laws_71 : decode cX6_laws 71 = .ok (.aload_n 0, 1) := by decide +kernel
theorem dX6_laws_72 : decode cX6_laws 72 = .ok (.getfield 38, 3) := by decide +kernel
theorem dX6_laws_75 : decode cX6_laws 75 = .ok (.iconst (-1), 1) := by decide +kernel
theorem dX6_laws_76 : decode cX6_laws 76 = .ok (.putfield 216, 3) := by decide +kernel
theorem dX6_laws_79 : decode cX6_laws 79 = .ok (.iload_n 2, 1) := by decide +kernel
theorem dX6_laws_80 : decode cX6_laws 80 = .ok (.ireturn, 1) := by decide +kernel
theorem dX6_cook_0 : decode cX6_cook 0 = .ok (.aload_n 0, 1) := by decide +kernel
theorem dX6_cook_1 : decode cX6_cook 1 = .ok (.iload_n 1, 1) := by decide +kernel
theorem dX6_cook_2 : decode cX6_cook 2 = .ok (.invokevirtual 89, 3) := by decide +kernel
theorem dX6_cook_5 : decode cX6_cook 5 = .ok (.ifCond .ne 6, 3) := by decide +kernel
theorem dX6_cook_8 : decode cX6_cook 8 = .ok (.ldc 93, 2) := by decide +kernel
theorem dX6_cook_10 : decode cX6_cook 10 = .ok (.ireturn, 1) := by decide +kernel
theorem dX6_cook_11 : decode cX6_cook 11 = .ok (.iload_n 2, 1) := by decide +kernel
theorem dX6_cook_12 : decode cX6_cook 12 = .ok (.bipush 60, 2) := by decide +kernel
theorem dX6_cook_14 : decode cX6_cook 14 = .ok (.invokestatic 78, 3) := by decide +kernel
theorem dX6_cook_17 : decode cX6_cook 17 = .ok (.ifCond .ne 6, 3) := by decide +kernel
theorem dX6_cook_20 : decode cX6_cook 20 = .ok (.ldc 166, 2) := by decide +kernel
theorem dX6_cook_22 : decode cX6_cook 22 = .ok (.ireturn, 1) := by decide +kernel
theorem dX6_cook_23 : decode cX6_cook 23 = .ok (.aload_n 0, 1) := by decide +kernel
theorem dX6_cook_24 : decode cX6_cook 24 = .ok (.getfield 38, 3) := by decide +kernel
theorem dX6_cook_27 : decode cX6_cook 27 = .ok (.iconst 1, 1) := by decide +kernel
theorem dX6_cook_28 : decode cX6_cook 28 = .ok (.putfield 222, 3) := by decide +kernel
theorem dX6_cook_31 : decode cX6_cook 31 = .ok (.aload_n 0, 1) := by decide +kernel
theorem dX6_cook_32 : decode cX6_cook 32 = .ok (.iload_n 2, 1) := by decide +kernel
theorem dX6_cook_33 : decode cX6_cook 33 = .ok (.invokevirtual 170, 3) := by decide +kernel
theorem dX6_cook_36 : decode cX6_cook 36 = .ok (.aload_n 0, 1) := by decide +kernel
theorem dX6_cook_37 : decode cX6_cook 37 = .ok (.getfield 38, 3) := by decide +kernel
theorem dX6_cook_40 : decode cX6_cook 40 = .ok (.iconst 0, 1) := by decide +kernel
theorem dX6_cook_41 : decode cX6_cook 41 = .ok (.putfield 222, 3) := by decide +kernel
theorem dX6_cook_44 : decode cX6_cook 44 = .ok (.aload_n 0, 1) := by decide +kernel
theorem dX6_cook_45 : decode cX6_cook 45 = .ok (.getfield 21, 3) := by decide +kernel
theorem dX6_cook_48 : decode cX6_cook 48 = .ok (.getfield 106, 3) := by decide +kernel
theorem dX6_cook_51 : decode cX6_cook 51 = .ok (.iload_n 1, 1) := by decide +kernel
theorem dX6_cook_52 : decode cX6_cook 52 = .ok (.iaload, 1) := by decide +kernel
theorem dX6_cook_53 : decode cX6_cook 53 = .ok (.istore_n 3, 1) := by decide +kernel
theorem dX6_cook_54 : decode cX6_cook 54 = .ok (.aload_n 0, 1) := by decide +kernel
theorem dX6_cook_55 : decode cX6_cook 55 = .ok (.iload_n 2, 1) := by decide +kernel
theorem dX6_cook_56 : decode cX6_cook 56 = .ok (.invokevirtual 170, 3) := by decide +kernel
theorem dX6_cook_59 : decode cX6_cook 59 = .ok (.iload_n 3, 1) := by decide +kernel
theorem dX6_cook_60 : decode cX6_cook 60 = .ok (.aload_n 0, 1) := by decide +kernel
theorem dX6_cook_61 : decode cX6_cook 61 = .ok (.getfield 21, 3) := by decide +kernel
theorem dX6_cook_64 : decode cX6_cook 64 = .ok (.getfield 106, 3) := by decide +kernel
theorem dX6_cook_67 : decode cX6_cook 67 = .ok (.iload_n 1, 1) := by decide +kernel
theorem dX6_cook_68 : decode cX6_cook 68 = .ok (.iaload, 1) := by decide +kernel
theorem dX6_cook_69 : decode cX6_cook 69 = .ok (.isub, 1) := by decide +kernel
theorem dX6_cook_70 : decode cX6_cook 70 = .ok (.ireturn, 1) := by decide +kernel
theorem dX6_thin_0 : decode cX6_thin 0 = .ok (.iload_n 1, 1) := by decide +kernel
theorem dX6_thin_1 : decode cX6_thin 1 = .ok (.bipush 8, 2) := by decide +kernel
theorem dX6_thin_3 : decode cX6_thin 3 = .ok (.invokestatic 78, 3) := by decide +kernel
theorem dX6_thin_6 : decode cX6_thin 6 = .ok (.ifCond .ne 6, 3) := by decide +kernel
theorem dX6_thin_9 : decode cX6_thin 9 = .ok (.bipush (-2), 2) := by decide +kernel
theorem dX6_thin_11 : decode cX6_thin 11 = .ok (.ireturn, 1) := by decide +kernel
theorem dX6_thin_12 : decode cX6_thin 12 = .ok (.iconst 0, 1) := by decide +kernel
theorem dX6_thin_13 : decode cX6_thin 13 = .ok (.istore_n 2, 1) := by decide +kernel
theorem dX6_thin_14 : decode cX6_thin 14 = .ok (.iload_n 2, 1) := by decide +kernel
theorem dX6_thin_15 : decode cX6_thin 15 = .ok (.bipush 99, 2) := by decide +kernel
theorem dX6_thin_17 : decode cX6_thin 17 = .ok (.if_icmp .gt 20, 3) := by decide +kernel
theorem dX6_thin_20 : decode cX6_thin 20 = .ok (.aload_n 0, 1) := by decide +kernel
theorem dX6_thin_21 : decode cX6_thin 21 = .ok (.iload_n 2, 1) := by decide +kernel
theorem dX6_thin_22 : decode cX6_thin 22 = .ok (.iload_n 1, 1) := by decide +kernel
theorem dX6_thin_23 : decode cX6_thin 23 = .ok (.invokevirtual 225, 3) := by decide +kernel
theorem dX6_thin_26 : decode cX6_thin 26 = .ok (.ifCond .eq 5, 3) := by decide +kernel
theorem dX6_thin_29 : decode cX6_thin 29 = .ok (.iload_n 2, 1) := by decide +kernel
theorem dX6_thin_30 : decode cX6_thin 30 = .ok (.ireturn, 1) := by decide +kernel
theorem dX6_thin_31 : decode cX6_thin 31 = .ok (.iinc 2 1, 3) := by decide +kernel
theorem dX6_thin_34 : decode cX6_thin 34 = .ok (.goto (-20), 3) := by decide +kernel
theorem dX6_thin_37 : decode cX6_thin 37 = .ok (.bipush (-5), 2) := by decide +kernel
theorem dX6_thin_39 : decode cX6_thin 39 = .ok (.ireturn, 1) := by decide +kernel
theorem dX6_lasts_0 : decode cX6_lasts 0 = .ok (.aload_n 0, 1) := by decide +kernel
theorem dX6_lasts_1 : decode cX6_lasts 1 = .ok (.getfield 21, 3) := by decide +kernel
theorem dX6_lasts_4 : decode cX6_lasts 4 = .ok (.aload_n 0, 1) := by decide +kernel
theorem dX6_lasts_5 : decode cX6_lasts 5 = .ok (.getfield 12, 3) := by decide +kernel
theorem dX6_lasts_8 : decode cX6_lasts 8 = .ok (.invokevirtual 174, 3) := by decide +kernel
theorem dX6_lasts_11 : decode cX6_lasts 11 = .ok (.aload_n 0, 1) := by decide +kernel
theorem dX6_lasts_12 : decode cX6_lasts 12 = .ok (.getfield 21, 3) := by decide +kernel
theorem dX6_lasts_15 : decode cX6_lasts 15 = .ok (.iload_n 1, 1) := by decide +kernel
theorem dX6_lasts_16 : decode cX6_lasts 16 = .ok (.putfield 131, 3) := by decide +kernel
theorem dX6_lasts_19 : decode cX6_lasts 19 = .ok (.iconst 0, 1) := by decide +kernel
theorem dX6_lasts_20 : decode cX6_lasts 20 = .ok (.istore_n 3, 1) := by decide +kernel
theorem dX6_lasts_21 : decode cX6_lasts 21 = .ok (.iload_n 3, 1) := by decide +kernel
theorem dX6_lasts_22 : decode cX6_lasts 22 = .ok (.iload_n 2, 1) := by decide +kernel
theorem dX6_lasts_23 : decode cX6_lasts 23 = .ok (.if_icmp .ge 36, 3) := by decide +kernel
theorem dX6_lasts_26 : decode cX6_lasts 26 = .ok (.aload_n 0, 1) := by decide +kernel
theorem dX6_lasts_27 : decode cX6_lasts 27 = .ok (.getfield 38, 3) := by decide +kernel
theorem dX6_lasts_30 : decode cX6_lasts 30 = .ok (.aload_n 0, 1) := by decide +kernel
theorem dX6_lasts_31 : decode cX6_lasts 31 = .ok (.getfield 21, 3) := by decide +kernel
theorem dX6_lasts_34 : decode cX6_lasts 34 = .ok (.aload_n 0, 1) := by decide +kernel
theorem dX6_lasts_35 : decode cX6_lasts 35 = .ok (.invokevirtual 113, 3) := by decide +kernel
theorem dX6_lasts_38 : decode cX6_lasts 38 = .ok (.invokevirtual 163, 3) := by decide +kernel
theorem dX6_lasts_41 : decode cX6_lasts 41 = .ok (.aload_n 0, 1) := by decide +kernel
theorem dX6_lasts_42 : decode cX6_lasts 42 = .ok (.getfield 38, 3) := by decide +kernel
theorem dX6_lasts_45 : decode cX6_lasts 45 = .ok (.invokevirtual 228, 3) := by decide +kernel
theorem dX6_lasts_48 : decode cX6_lasts 48 = .ok (.ifCond .eq 5, 3) := by decide +kernel
theorem dX6_lasts_51 : decode cX6_lasts 51 = .ok (.iconst 0, 1) := by decide +kernel
theorem dX6_lasts_52 : decode cX6_lasts 52 = .ok (.ireturn, 1) := by decide +kernel
theorem dX6_lasts_53 : decode cX6_lasts 53 = .ok (.iinc 3 1, 3) := by decide +kernel
theorem dX6_lasts_56 : decode cX6_lasts 56 = .ok (.goto (-35), 3) := by decide +kernel
theorem dX6_lasts_59 : decode cX6_lasts 59 = .ok (.iconst 1, 1) := by decide +kernel
theorem dX6_lasts_60 : decode cX6_lasts 60 = .ok (.ireturn, 1) := by decide +kernel
theorem dX6_pact_0 : decode cX6_pact 0 = .ok (.aload_n 0, 1) := by decide +kernel
theorem dX6_pact_1 : decode cX6_pact 1 = .ok (.iload_n 1, 1) := by decide +kernel
theorem dX6_pact_2 : decode cX6_pact 2 = .ok (.invokevirtual 89, 3) := by decide +kernel
theorem dX6_pact_5 : decode cX6_pact 5 = .ok (.ifCond .eq 11, 3) := by decide +kernel
theorem dX6_pact_8 : decode cX6_pact 8 = .ok (.aload_n 0, 1) := by decide +kernel
theorem dX6_pact_9 : decode cX6_pact 9 = .ok (.iload_n 2, 1) := by decide +kernel
theorem dX6_pact_10 : decode cX6_pact 10 = .ok (.invokevirtual 89, 3) := by decide +kernel
theorem dX6_pact_13 : decode cX6_pact 13 = .ok (.ifCond .ne 6, 3) := by decide +kernel
theorem dX6_pact_16 : decode cX6_pact 16 = .ok (.ldc 93, 2) := by decide +kernel
theorem dX6_pact_18 : decode cX6_pact 18 = .ok (.ireturn, 1) := by decide +kernel
theorem dX6_pact_19 : decode cX6_pact 19 = .ok (.iload_n 1, 1) := by decide +kernel
theorem dX6_pact_20 : decode cX6_pact 20 = .ok (.iload_n 2, 1) := by decide +kernel
theorem dX6_pact_21 : decode cX6_pact 21 = .ok (.if_icmp .eq 12, 3) := by decide +kernel
theorem dX6_pact_24 : decode cX6_pact 24 = .ok (.iload_n 3, 1) := by decide +kernel
theorem dX6_pact_25 : decode cX6_pact 25 = .ok (.bipush 60, 2) := by decide +kernel
theorem dX6_pact_27 : decode cX6_pact 27 = .ok (.invokestatic 78, 3) := by decide +kernel
theorem dX6_pact_30 : decode cX6_pact 30 = .ok (.ifCond .ne 6, 3) := by decide +kernel
theorem dX6_pact_33 : decode cX6_pact 33 = .ok (.ldc 166, 2) := by decide +kernel
theorem dX6_pact_35 : decode cX6_pact 35 = .ok (.ireturn, 1) := by decide +kernel
theorem dX6_pact_36 : decode cX6_pact 36 = .ok (.aload_n 0, 1) := by decide +kernel
theorem dX6_pact_37 : decode cX6_pact 37 = .ok (.getfield 38, 3) := by decide +kernel
theorem dX6_pact_40 : decode cX6_pact 40 = .ok (.iload_n 1, 1) := by decide +kernel
theorem dX6_pact_41 : decode cX6_pact 41 = .ok (.iload_n 2, 1) := by decide +kernel
theorem dX6_pact_42 : decode cX6_pact 42 = .ok (.invokestatic 231, 3) := by decide +kernel
theorem dX6_pact_45 : decode cX6_pact 45 = .ok (.iload_n 1, 1) := by decide +kernel
theorem dX6_pact_46 : decode cX6_pact 46 = .ok (.iload_n 2, 1) := by decide +kernel
theorem dX6_pact_47 : decode cX6_pact 47 = .ok (.invokestatic 236, 3) := by decide +kernel
theorem dX6_pact_50 : decode cX6_pact 50 = .ok (.invokevirtual 239, 3) := by decide +kernel
theorem dX6_pact_53 : decode cX6_pact 53 = .ok (.aload_n 0, 1) := by decide +kernel
theorem dX6_pact_54 : decode cX6_pact 54 = .ok (.iload_n 3, 1) := by decide +kernel
theorem dX6_pact_55 : decode cX6_pact 55 = .ok (.invokevirtual 170, 3) := by decide +kernel
theorem dX6_pact_58 : decode cX6_pact 58 = .ok (.aload_n 0, 1) := by decide +kernel
theorem dX6_pact_59 : decode cX6_pact 59 = .ok (.getfield 38, 3) := by decide +kernel
theorem dX6_pact_62 : decode cX6_pact 62 = .ok (.iconst (-1), 1) := by decide +kernel
theorem dX6_pact_63 : decode cX6_pact 63 = .ok (.iconst (-1), 1) := by decide +kernel
theorem dX6_pact_64 : decode cX6_pact 64 = .ok (.invokevirtual 239, 3) := by decide +kernel
theorem dX6_pact_67 : decode cX6_pact 67 = .ok (.aload_n 0, 1) := by decide +kernel
theorem dX6_pact_68 : decode cX6_pact 68 = .ok (.getfield 21, 3) := by decide +kernel
theorem dX6_pact_71 : decode cX6_pact 71 = .ok (.getfield 106, 3) := by decide +kernel
theorem dX6_pact_74 : decode cX6_pact 74 = .ok (.iload_n 1, 1) := by decide +kernel
theorem dX6_pact_75 : decode cX6_pact 75 = .ok (.iaload, 1) := by decide +kernel
theorem dX6_pact_76 : decode cX6_pact 76 = .ok (.aload_n 0, 1) := by decide +kernel
theorem dX6_pact_77 : decode cX6_pact 77 = .ok (.getfield 21, 3) := by decide +kernel
theorem dX6_pact_80 : decode cX6_pact 80 = .ok (.getfield 106, 3) := by decide +kernel
theorem dX6_pact_83 : decode cX6_pact 83 = .ok (.iload_n 2, 1) := by decide +kernel
theorem dX6_pact_84 : decode cX6_pact 84 = .ok (.iaload, 1) := by decide +kernel
theorem dX6_pact_85 : decode cX6_pact 85 = .ok (.iadd, 1) := by decide +kernel
theorem dX6_pact_86 : decode cX6_pact 86 = .ok (.istore 4, 2) := by decide +kernel
theorem dX6_pact_88 : decode cX6_pact 88 = .ok (.aload_n 0, 1) := by decide +kernel
theorem dX6_pact_89 : decode cX6_pact 89 = .ok (.iload_n 3, 1) := by decide +kernel
theorem dX6_pact_90 : decode cX6_pact 90 = .ok (.invokevirtual 170, 3) := by decide +kernel
theorem dX6_pact_93 : decode cX6_pact 93 = .ok (.iload 4, 2) := by decide +kernel
theorem dX6_pact_95 : decode cX6_pact 95 = .ok (.aload_n 0, 1) := by decide +kernel
theorem dX6_pact_96 : decode cX6_pact 96 = .ok (.getfield 21, 3) := by decide +kernel
theorem dX6_pact_99 : decode cX6_pact 99 = .ok (.getfield 106, 3) := by decide +kernel
theorem dX6_pact_102 : decode cX6_pact 102 = .ok (.iload_n 1, 1) := by decide +kernel
theorem dX6_pact_103 : decode cX6_pact 103 = .ok (.iaload, 1) := by decide +kernel
theorem dX6_pact_104 : decode cX6_pact 104 = .ok (.isub, 1) := by decide +kernel
theorem dX6_pact_105 : decode cX6_pact 105 = .ok (.aload_n 0, 1) := by decide +kernel
theorem dX6_pact_106 : decode cX6_pact 106 = .ok (.getfield 21, 3) := by decide +kernel
theorem dX6_pact_109 : decode cX6_pact 109 = .ok (.getfield 106, 3) := by decide +kernel
theorem dX6_pact_112 : decode cX6_pact 112 = .ok (.iload_n 2, 1) := by decide +kernel
theorem dX6_pact_113 : decode cX6_pact 113 = .ok (.iaload, 1) := by decide +kernel
theorem dX6_pact_114 : decode cX6_pact 114 = .ok (.isub, 1) := by decide +kernel
theorem dX6_pact_115 : decode cX6_pact 115 = .ok (.ireturn, 1) := by decide +kernel
theorem dX6_guest_0 : decode cX6_guest 0 = .ok (.iload_n 1, 1) := by decide +kernel
theorem dX6_guest_1 : decode cX6_guest 1 = .ok (.bipush 9, 2) := by decide +kernel
theorem dX6_guest_3 : decode cX6_guest 3 = .ok (.invokestatic 78, 3) := by decide +kernel
theorem dX6_guest_6 : decode cX6_guest 6 = .ok (.ifCond .ne 6, 3) := by decide +kernel
theorem dX6_guest_9 : decode cX6_guest 9 = .ok (.bipush (-2), 2) := by decide +kernel
theorem dX6_guest_11 : decode cX6_guest 11 = .ok (.ireturn, 1) := by decide +kernel
theorem dX6_guest_12 : decode cX6_guest 12 = .ok (.aload_n 0, 1) := by decide +kernel
theorem dX6_guest_13 : decode cX6_guest 13 = .ok (.getfield 12, 3) := by decide +kernel
theorem dX6_guest_16 : decode cX6_guest 16 = .ok (.getfield 82, 3) := by decide +kernel
theorem dX6_guest_19 : decode cX6_guest 19 = .ok (.iconst 5, 1) := by decide +kernel
theorem dX6_guest_20 : decode cX6_guest 20 = .ok (.if_icmp .lt 6, 3) := by decide +kernel
theorem dX6_guest_23 : decode cX6_guest 23 = .ok (.bipush (-3), 2) := by decide +kernel
theorem dX6_guest_25 : decode cX6_guest 25 = .ok (.ireturn, 1) := by decide +kernel
theorem dX6_guest_26 : decode cX6_guest 26 = .ok (.aload_n 0, 1) := by decide +kernel
theorem dX6_guest_27 : decode cX6_guest 27 = .ok (.getfield 21, 3) := by decide +kernel
theorem dX6_guest_30 : decode cX6_guest 30 = .ok (.aload_n 0, 1) := by decide +kernel
theorem dX6_guest_31 : decode cX6_guest 31 = .ok (.getfield 12, 3) := by decide +kernel
theorem dX6_guest_34 : decode cX6_guest 34 = .ok (.invokevirtual 174, 3) := by decide +kernel
theorem dX6_guest_37 : decode cX6_guest 37 = .ok (.aload_n 0, 1) := by decide +kernel
theorem dX6_guest_38 : decode cX6_guest 38 = .ok (.getfield 21, 3) := by decide +kernel
theorem dX6_guest_41 : decode cX6_guest 41 = .ok (.iconst 0, 1) := by decide +kernel
theorem dX6_guest_42 : decode cX6_guest 42 = .ok (.iconst 0, 1) := by decide +kernel
theorem dX6_guest_43 : decode cX6_guest 43 = .ok (.iload_n 1, 1) := by decide +kernel
theorem dX6_guest_44 : decode cX6_guest 44 = .ok (.invokevirtual 85, 3) := by decide +kernel
theorem dX6_guest_47 : decode cX6_guest 47 = .ok (.pop, 1) := by decide +kernel
theorem dX6_guest_48 : decode cX6_guest 48 = .ok (.aload_n 0, 1) := by decide +kernel
theorem dX6_guest_49 : decode cX6_guest 49 = .ok (.getfield 38, 3) := by decide +kernel
theorem dX6_guest_52 : decode cX6_guest 52 = .ok (.aload_n 0, 1) := by decide +kernel
theorem dX6_guest_53 : decode cX6_guest 53 = .ok (.getfield 21, 3) := by decide +kernel
theorem dX6_guest_56 : decode cX6_guest 56 = .ok (.aload_n 0, 1) := by decide +kernel
theorem dX6_guest_57 : decode cX6_guest 57 = .ok (.invokevirtual 113, 3) := by decide +kernel
theorem dX6_guest_60 : decode cX6_guest 60 = .ok (.invokevirtual 163, 3) := by decide +kernel
theorem dX6_guest_63 : decode cX6_guest 63 = .ok (.aload_n 0, 1) := by decide +kernel
theorem dX6_guest_64 : decode cX6_guest 64 = .ok (.getfield 21, 3) := by decide +kernel
theorem dX6_guest_67 : decode cX6_guest 67 = .ok (.getfield 160, 3) := by decide +kernel
theorem dX6_guest_70 : decode cX6_guest 70 = .ok (.ireturn, 1) := by decide +kernel
theorem dX6_odds_0 : decode cX6_odds 0 = .ok (.aload_n 0, 1) := by decide +kernel
theorem dX6_odds_1 : decode cX6_odds 1 = .ok (.iload_n 1, 1) := by decide +kernel
theorem dX6_odds_2 : decode cX6_odds 2 = .ok (.invokevirtual 89, 3) := by decide +kernel
theorem dX6_odds_5 : decode cX6_odds 5 = .ok (.ifCond .eq 11, 3) := by decide +kernel
theorem dX6_odds_8 : decode cX6_odds 8 = .ok (.iload_n 2, 1) := by decide +kernel
theorem dX6_odds_9 : decode cX6_odds 9 = .ok (.iconst 1, 1) := by decide +kernel
theorem dX6_odds_10 : decode cX6_odds 10 = .ok (.invokestatic 78, 3) := by decide +kernel
theorem dX6_odds_13 : decode cX6_odds 13 = .ok (.ifCond .ne 7, 3) := by decide +kernel
theorem dX6_odds_16 : decode cX6_odds 16 = .ok (.ldc2_w 243, 3) := by decide +kernel
theorem dX6_odds_19 : decode cX6_odds 19 = .ok (.lreturn, 1) := by decide +kernel
theorem dX6_odds_20 : decode cX6_odds 20 = .ok (.aload_n 0, 1) := by decide +kernel
theorem dX6_odds_21 : decode cX6_odds 21 = .ok (.iconst 1, 1) := by decide +kernel
theorem dX6_odds_22 : decode cX6_odds 22 = .ok (.invokevirtual 170, 3) := by decide +kernel
theorem dX6_odds_25 : decode cX6_odds 25 = .ok (.aload_n 0, 1) := by decide +kernel
theorem dX6_odds_26 : decode cX6_odds 26 = .ok (.getfield 38, 3) := by decide +kernel
theorem dX6_odds_29 : decode cX6_odds 29 = .ok (.iload_n 1, 1) := by decide +kernel
theorem dX6_odds_30 : decode cX6_odds 30 = .ok (.invokevirtual 245, 3) := by decide +kernel
theorem dX6_odds_33 : decode cX6_odds 33 = .ok (.ifCond .eq 7, 3) := by decide +kernel
theorem dX6_odds_36 : decode cX6_odds 36 = .ok (.lconst 1, 1) := by decide +kernel
theorem dX6_odds_37 : decode cX6_odds 37 = .ok (.goto 4, 3) := by decide +kernel
theorem dX6_odds_40 : decode cX6_odds 40 = .ok (.lconst 0, 1) := by decide +kernel
theorem dX6_odds_41 : decode cX6_odds 41 = .ok (.aload_n 0, 1) := by decide +kernel
theorem dX6_odds_42 : decode cX6_odds 42 = .ok (.getfield 38, 3) := by decide +kernel
theorem dX6_odds_45 : decode cX6_odds 45 = .ok (.invokevirtual 248, 3) := by decide +kernel
theorem dX6_odds_48 : decode cX6_odds 48 = .ok (.i2l, 1) := by decide +kernel
theorem dX6_odds_49 : decode cX6_odds 49 = .ok (.iload_n 2, 1) := by decide +kernel
theorem dX6_odds_50 : decode cX6_odds 50 = .ok (.invokestatic 251, 3) := by decide +kernel
theorem dX6_odds_53 : decode cX6_odds 53 = .ok (.lreturn, 1) := by decide +kernel
theorem dX6_mean_0 : decode cX6_mean 0 = .ok (.iload_n 1, 1) := by decide +kernel
theorem dX6_mean_1 : decode cX6_mean 1 = .ok (.iconst 1, 1) := by decide +kernel
theorem dX6_mean_2 : decode cX6_mean 2 = .ok (.if_icmp .lt 27, 3) := by decide +kernel
theorem dX6_mean_5 : decode cX6_mean 5 = .ok (.iload_n 1, 1) := by decide +kernel
theorem dX6_mean_6 : decode cX6_mean 6 = .ok (.bipush 60, 2) := by decide +kernel
theorem dX6_mean_8 : decode cX6_mean 8 = .ok (.if_icmp .gt 21, 3) := by decide +kernel
theorem dX6_mean_11 : decode cX6_mean 11 = .ok (.iload_n 2, 1) := by decide +kernel
theorem dX6_mean_12 : decode cX6_mean 12 = .ok (.iconst 1, 1) := by decide +kernel
theorem dX6_mean_13 : decode cX6_mean 13 = .ok (.invokestatic 78, 3) := by decide +kernel
theorem dX6_mean_16 : decode cX6_mean 16 = .ok (.ifCond .eq 13, 3) := by decide +kernel
theorem dX6_mean_19 : decode cX6_mean 19 = .ok (.aload_n 0, 1) := by decide +kernel
theorem dX6_mean_20 : decode cX6_mean 20 = .ok (.getfield 12, 3) := by decide +kernel
theorem dX6_mean_23 : decode cX6_mean 23 = .ok (.getfield 82, 3) := by decide +kernel
theorem dX6_mean_26 : decode cX6_mean 26 = .ok (.ifCond .ne 7, 3) := by decide +kernel
theorem dX6_mean_29 : decode cX6_mean 29 = .ok (.ldc2_w 243, 3) := by decide +kernel
theorem dX6_mean_32 : decode cX6_mean 32 = .ok (.lreturn, 1) := by decide +kernel
theorem dX6_mean_33 : decode cX6_mean 33 = .ok (.aload_n 0, 1) := by decide +kernel
theorem dX6_mean_34 : decode cX6_mean 34 = .ok (.iload_n 1, 1) := by decide +kernel
theorem dX6_mean_35 : decode cX6_mean 35 = .ok (.invokevirtual 170, 3) := by decide +kernel
theorem dX6_mean_38 : decode cX6_mean 38 = .ok (.aload_n 0, 1) := by decide +kernel
theorem dX6_mean_39 : decode cX6_mean 39 = .ok (.getfield 21, 3) := by decide +kernel
theorem dX6_mean_42 : decode cX6_mean 42 = .ok (.invokevirtual 219, 3) := by decide +kernel
theorem dX6_mean_45 : decode cX6_mean 45 = .ok (.aload_n 0, 1) := by decide +kernel
theorem dX6_mean_46 : decode cX6_mean 46 = .ok (.getfield 12, 3) := by decide +kernel
theorem dX6_mean_49 : decode cX6_mean 49 = .ok (.invokevirtual 219, 3) := by decide +kernel
theorem dX6_mean_52 : decode cX6_mean 52 = .ok (.isub, 1) := by decide +kernel
theorem dX6_mean_53 : decode cX6_mean 53 = .ok (.i2l, 1) := by decide +kernel
theorem dX6_mean_54 : decode cX6_mean 54 = .ok (.iload_n 1, 1) := by decide +kernel
theorem dX6_mean_55 : decode cX6_mean 55 = .ok (.aload_n 0, 1) := by decide +kernel
theorem dX6_mean_56 : decode cX6_mean 56 = .ok (.getfield 12, 3) := by decide +kernel
theorem dX6_mean_59 : decode cX6_mean 59 = .ok (.getfield 82, 3) := by decide +kernel
theorem dX6_mean_62 : decode cX6_mean 62 = .ok (.imul, 1) := by decide +kernel
theorem dX6_mean_63 : decode cX6_mean 63 = .ok (.i2l, 1) := by decide +kernel
theorem dX6_mean_64 : decode cX6_mean 64 = .ok (.iload_n 2, 1) := by decide +kernel
theorem dX6_mean_65 : decode cX6_mean 65 = .ok (.invokestatic 251, 3) := by decide +kernel
theorem dX6_mean_68 : decode cX6_mean 68 = .ok (.lreturn, 1) := by decide +kernel
theorem dX6_fraction_0 : decode cX6_fraction 0 = .ok (.lload_n 0, 1) := by decide +kernel
theorem dX6_fraction_1 : decode cX6_fraction 1 = .ok (.invokestatic 255, 3) := by decide +kernel
theorem dX6_fraction_4 : decode cX6_fraction 4 = .ok (.lstore 5, 2) := by decide +kernel
theorem dX6_fraction_6 : decode cX6_fraction 6 = .ok (.lload_n 2, 1) := by decide +kernel
theorem dX6_fraction_7 : decode cX6_fraction 7 = .ok (.lstore 7, 2) := by decide +kernel
theorem dX6_fraction_9 : decode cX6_fraction 9 = .ok (.iconst 0, 1) := by decide +kernel
theorem dX6_fraction_10 : decode cX6_fraction 10 = .ok (.istore 9, 2) := by decide +kernel
theorem dX6_fraction_12 : decode cX6_fraction 12 = .ok (.iload 9, 2) := by decide +kernel
theorem dX6_fraction_14 : decode cX6_fraction 14 = .ok (.bipush 100, 2) := by decide +kernel
theorem dX6_fraction_16 : decode cX6_fraction 16 = .ok (.if_icmp .ge 31, 3) := by decide +kernel
theorem dX6_fraction_19 : decode cX6_fraction 19 = .ok (.lload 7, 2) := by decide +kernel
theorem dX6_fraction_21 : decode cX6_fraction 21 = .ok (.lconst 0, 1) := by decide +kernel
theorem dX6_fraction_22 : decode cX6_fraction 22 = .ok (.lcmp, 1) := by decide +kernel
theorem dX6_fraction_23 : decode cX6_fraction 23 = .ok (.ifCond .le 24, 3) := by decide +kernel
theorem dX6_fraction_26 : decode cX6_fraction 26 = .ok (.lload 5, 2) := by decide +kernel
theorem dX6_fraction_28 : decode cX6_fraction 28 = .ok (.lload 7, 2) := by decide +kernel
theorem dX6_fraction_30 : decode cX6_fraction 30 = .ok (.lrem, 1) := by decide +kernel
theorem dX6_fraction_31 : decode cX6_fraction 31 = .ok (.lstore 10, 2) := by decide +kernel
theorem dX6_fraction_33 : decode cX6_fraction 33 = .ok (.lload 7, 2) := by decide +kernel
theorem dX6_fraction_35 : decode cX6_fraction 35 = .ok (.lstore 5, 2) := by decide +kernel
theorem dX6_fraction_37 : decode cX6_fraction 37 = .ok (.lload 10, 2) := by decide +kernel
theorem dX6_fraction_39 : decode cX6_fraction 39 = .ok (.lstore 7, 2) := by decide +kernel
theorem dX6_fraction_41 : decode cX6_fraction 41 = .ok (.iinc 9 1, 3) := by decide +kernel
theorem dX6_fraction_44 : decode cX6_fraction 44 = .ok (.goto (-32), 3) := by decide +kernel
theorem dX6_fraction_47 : decode cX6_fraction 47 = .ok (.lconst 1, 1) := by decide +kernel
theorem dX6_fraction_48 : decode cX6_fraction 48 = .ok (.lload 5, 2) := by decide +kernel
theorem dX6_fraction_50 : decode cX6_fraction 50 = .ok (.invokestatic 259, 3) := by decide +kernel
theorem dX6_fraction_53 : decode cX6_fraction 53 = .ok (.lstore 9, 2) := by decide +kernel
theorem dX6_fraction_55 : decode cX6_fraction 55 = .ok (.iload 4, 2) := by decide +kernel
theorem dX6_fraction_57 : decode cX6_fraction 57 = .ok (.ifCond .ne 7, 3) := by decide +kernel
theorem dX6_fraction_60 : decode cX6_fraction 60 = .ok (.lload_n 0, 1) := by decide +kernel
theorem dX6_fraction_61 : decode cX6_fraction 61 = .ok (.goto 4, 3) := by decide +kernel
theorem dX6_fraction_64 : decode cX6_fraction 64 = .ok (.lload_n 2, 1) := by decide +kernel
theorem dX6_fraction_65 : decode cX6_fraction 65 = .ok (.lload 9, 2) := by decide +kernel
theorem dX6_fraction_67 : decode cX6_fraction 67 = .ok (.ldiv, 1) := by decide +kernel
theorem dX6_fraction_68 : decode cX6_fraction 68 = .ok (.lreturn, 1) := by decide +kernel
theorem dX6_book_0 : decode cX6_book 0 = .ok (.iload_n 1, 1) := by decide +kernel
theorem dX6_book_1 : decode cX6_book 1 = .ok (.iconst (-1), 1) := by decide +kernel
theorem dX6_book_2 : decode cX6_book 2 = .ok (.if_icmp .lt 9, 3) := by decide +kernel
theorem dX6_book_5 : decode cX6_book 5 = .ok (.iload_n 1, 1) := by decide +kernel
theorem dX6_book_6 : decode cX6_book 6 = .ok (.bipush 99, 2) := by decide +kernel
theorem dX6_book_8 : decode cX6_book 8 = .ok (.if_icmp .le 6, 3) := by decide +kernel
theorem dX6_book_11 : decode cX6_book 11 = .ok (.bipush (-2), 2) := by decide +kernel
theorem dX6_book_13 : decode cX6_book 13 = .ok (.ireturn, 1) := by decide +kernel
theorem dX6_book_14 : decode cX6_book 14 = .ok (.iload_n 1, 1) := by decide +kernel
theorem dX6_book_15 : decode cX6_book 15 = .ok (.iconst (-1), 1) := by decide +kernel
theorem dX6_book_16 : decode cX6_book 16 = .ok (.if_icmp .ne 13, 3) := by decide +kernel
theorem dX6_book_19 : decode cX6_book 19 = .ok (.aload_n 0, 1) := by decide +kernel
theorem dX6_book_20 : decode cX6_book 20 = .ok (.getfield 12, 3) := by decide +kernel
theorem dX6_book_23 : decode cX6_book 23 = .ok (.iconst 0, 1) := by decide +kernel
theorem dX6_book_24 : decode cX6_book 24 = .ok (.putfield 262, 3) := by decide +kernel
theorem dX6_book_27 : decode cX6_book 27 = .ok (.iconst 0, 1) := by decide +kernel
theorem dX6_book_28 : decode cX6_book 28 = .ok (.ireturn, 1) := by decide +kernel
theorem dX6_book_29 : decode cX6_book 29 = .ok (.aload_n 0, 1) := by decide +kernel
theorem dX6_book_30 : decode cX6_book 30 = .ok (.getfield 12, 3) := by decide +kernel
theorem dX6_book_33 : decode cX6_book 33 = .ok (.getfield 262, 3) := by decide +kernel
theorem dX6_book_36 : decode cX6_book 36 = .ok (.bipush 12, 2) := by decide +kernel
theorem dX6_book_38 : decode cX6_book 38 = .ok (.if_icmp .lt 6, 3) := by decide +kernel
theorem dX6_book_41 : decode cX6_book 41 = .ok (.bipush (-4), 2) := by decide +kernel
theorem dX6_book_43 : decode cX6_book 43 = .ok (.ireturn, 1) := by decide +kernel
theorem dX6_book_44 : decode cX6_book 44 = .ok (.aload_n 0, 1) := by decide +kernel
theorem dX6_book_45 : decode cX6_book 45 = .ok (.getfield 12, 3) := by decide +kernel
theorem dX6_book_48 : decode cX6_book 48 = .ok (.getfield 265, 3) := by decide +kernel
theorem dX6_book_51 : decode cX6_book 51 = .ok (.aload_n 0, 1) := by decide +kernel
theorem dX6_book_52 : decode cX6_book 52 = .ok (.getfield 12, 3) := by decide +kernel
theorem dX6_book_55 : decode cX6_book 55 = .ok (.getfield 262, 3) := by decide +kernel
theorem dX6_book_58 : decode cX6_book 58 = .ok (.iload_n 1, 1) := by decide +kernel
theorem dX6_book_59 : decode cX6_book 59 = .ok (.iastore, 1) := by decide +kernel
theorem dX6_book_60 : decode cX6_book 60 = .ok (.aload_n 0, 1) := by decide +kernel
theorem dX6_book_61 : decode cX6_book 61 = .ok (.getfield 12, 3) := by decide +kernel
theorem dX6_book_64 : decode cX6_book 64 = .ok (.dup, 1) := by decide +kernel
theorem dX6_book_65 : decode cX6_book 65 = .ok (.getfield 262, 3) := by decide +kernel
theorem dX6_book_68 : decode cX6_book 68 = .ok (.iconst 1, 1) := by decide +kernel
theorem dX6_book_69 : decode cX6_book 69 = .ok (.iadd, 1) := by decide +kernel
theorem dX6_book_70 : decode cX6_book 70 = .ok (.putfield 262, 3) := by decide +kernel
theorem dX6_book_73 : decode cX6_book 73 = .ok (.aload_n 0, 1) := by decide +kernel
theorem dX6_book_74 : decode cX6_book 74 = .ok (.getfield 12, 3) := by decide +kernel
theorem dX6_book_77 : decode cX6_book 77 = .ok (.getfield 262, 3) := by decide +kernel
theorem dX6_book_80 : decode cX6_book 80 = .ok (.ireturn, 1) := by decide +kernel
theorem dX6_looked_0 : decode cX6_looked 0 = .ok (.aload_n 0, 1) := by decide +kernel
theorem dX6_looked_1 : decode cX6_looked 1 = .ok (.getfield 21, 3) := by decide +kernel
theorem dX6_looked_4 : decode cX6_looked 4 = .ok (.aload_n 0, 1) := by decide +kernel
theorem dX6_looked_5 : decode cX6_looked 5 = .ok (.getfield 12, 3) := by decide +kernel
theorem dX6_looked_8 : decode cX6_looked 8 = .ok (.invokevirtual 174, 3) := by decide +kernel
theorem dX6_looked_11 : decode cX6_looked 11 = .ok (.iconst 0, 1) := by decide +kernel
theorem dX6_looked_12 : decode cX6_looked 12 = .ok (.istore_n 1, 1) := by decide +kernel
theorem dX6_looked_13 : decode cX6_looked 13 = .ok (.iload_n 1, 1) := by decide +kernel
theorem dX6_looked_14 : decode cX6_looked 14 = .ok (.aload_n 0, 1) := by decide +kernel
theorem dX6_looked_15 : decode cX6_looked 15 = .ok (.getfield 12, 3) := by decide +kernel
theorem dX6_looked_18 : decode cX6_looked 18 = .ok (.getfield 262, 3) := by decide +kernel
theorem dX6_looked_21 : decode cX6_looked 21 = .ok (.if_icmp .ge 45, 3) := by decide +kernel
theorem dX6_looked_24 : decode cX6_looked 24 = .ok (.aload_n 0, 1) := by decide +kernel
theorem dX6_looked_25 : decode cX6_looked 25 = .ok (.getfield 38, 3) := by decide +kernel
theorem dX6_looked_28 : decode cX6_looked 28 = .ok (.aload_n 0, 1) := by decide +kernel
theorem dX6_looked_29 : decode cX6_looked 29 = .ok (.getfield 21, 3) := by decide +kernel
theorem dX6_looked_32 : decode cX6_looked 32 = .ok (.aload_n 0, 1) := by decide +kernel
theorem dX6_looked_33 : decode cX6_looked 33 = .ok (.invokevirtual 113, 3) := by decide +kernel
theorem dX6_looked_36 : decode cX6_looked 36 = .ok (.invokevirtual 163, 3) := by decide +kernel
theorem dX6_looked_39 : decode cX6_looked 39 = .ok (.aload_n 0, 1) := by decide +kernel
theorem dX6_looked_40 : decode cX6_looked 40 = .ok (.getfield 21, 3) := by decide +kernel
theorem dX6_looked_43 : decode cX6_looked 43 = .ok (.getfield 131, 3) := by decide +kernel
theorem dX6_looked_46 : decode cX6_looked 46 = .ok (.aload_n 0, 1) := by decide +kernel
theorem dX6_looked_47 : decode cX6_looked 47 = .ok (.getfield 12, 3) := by decide +kernel
theorem dX6_looked_50 : decode cX6_looked 50 = .ok (.getfield 265, 3) := by decide +kernel
theorem dX6_looked_53 : decode cX6_looked 53 = .ok (.iload_n 1, 1) := by decide +kernel
theorem dX6_looked_54 : decode cX6_looked 54 = .ok (.iaload, 1) := by decide +kernel
theorem dX6_looked_55 : decode cX6_looked 55 = .ok (.if_icmp .eq 5, 3) := by decide +kernel
theorem dX6_looked_58 : decode cX6_looked 58 = .ok (.iload_n 1, 1) := by decide +kernel
theorem dX6_looked_59 : decode cX6_looked 59 = .ok (.ireturn, 1) := by decide +kernel
theorem dX6_looked_60 : decode cX6_looked 60 = .ok (.iinc 1 1, 3) := by decide +kernel
theorem dX6_looked_63 : decode cX6_looked 63 = .ok (.goto (-50), 3) := by decide +kernel
theorem dX6_looked_66 : decode cX6_looked 66 = .ok (.bipush (-5), 2) := by decide +kernel
theorem dX6_looked_68 : decode cX6_looked 68 = .ok (.ireturn, 1) := by decide +kernel
theorem dX6_judge_0 : decode cX6_judge 0 = .ok (.iload_n 1, 1) := by decide +kernel
theorem dX6_judge_1 : decode cX6_judge 1 = .ok (.iconst 5, 1) := by decide +kernel
theorem dX6_judge_2 : decode cX6_judge 2 = .ok (.invokestatic 78, 3) := by decide +kernel
theorem dX6_judge_5 : decode cX6_judge 5 = .ok (.ifCond .ne 5, 3) := by decide +kernel
theorem dX6_judge_8 : decode cX6_judge 8 = .ok (.iconst (-1), 1) := by decide +kernel
theorem dX6_judge_9 : decode cX6_judge 9 = .ok (.ireturn, 1) := by decide +kernel
theorem dX6_judge_10 : decode cX6_judge 10 = .ok (.aload_n 0, 1) := by decide +kernel
theorem dX6_judge_11 : decode cX6_judge 11 = .ok (.getfield 58, 3) := by decide +kernel
theorem dX6_judge_14 : decode cX6_judge 14 = .ok (.iload_n 1, 1) := by decide +kernel
theorem dX6_judge_15 : decode cX6_judge 15 = .ok (.aaload, 1) := by decide +kernel
theorem dX6_judge_16 : decode cX6_judge 16 = .ok (.astore_n 3, 1) := by decide +kernel
theorem dX6_judge_17 : decode cX6_judge 17 = .ok (.aload_n 3, 1) := by decide +kernel
theorem dX6_judge_18 : decode cX6_judge 18 = .ok (.getfield 268, 3) := by decide +kernel
theorem dX6_judge_21 : decode cX6_judge 21 = .ok (.iconst (-1), 1) := by decide +kernel
theorem dX6_judge_22 : decode cX6_judge 22 = .ok (.if_icmp .eq 14, 3) := by decide +kernel
theorem dX6_judge_25 : decode cX6_judge 25 = .ok (.aload_n 3, 1) := by decide +kernel
theorem dX6_judge_26 : decode cX6_judge 26 = .ok (.getfield 268, 3) := by decide +kernel
theorem dX6_judge_29 : decode cX6_judge 29 = .ok (.iconst 2, 1) := by decide +kernel
theorem dX6_judge_30 : decode cX6_judge 30 = .ok (.if_icmp .eq 6, 3) := by decide +kernel
theorem dX6_judge_33 : decode cX6_judge 33 = .ok (.bipush (-12), 2) := by decide +kernel
theorem dX6_judge_35 : decode cX6_judge 35 = .ok (.ireturn, 1) := by decide +kernel
theorem dX6_judge_36 : decode cX6_judge 36 = .ok (.iconst 0, 1) := by decide +kernel
theorem dX6_judge_37 : decode cX6_judge 37 = .ok (.istore 4, 2) := by decide +kernel
theorem dX6_judge_39 : decode cX6_judge 39 = .ok (.iload 4, 2) := by decide +kernel
theorem dX6_judge_41 : decode cX6_judge 41 = .ok (.aload_n 0, 1) := by decide +kernel
theorem dX6_judge_42 : decode cX6_judge 42 = .ok (.getfield 12, 3) := by decide +kernel
theorem dX6_judge_45 : decode cX6_judge 45 = .ok (.getfield 82, 3) := by decide +kernel
theorem dX6_judge_48 : decode cX6_judge 48 = .ok (.if_icmp .ge 61, 3) := by decide +kernel
theorem dX6_judge_51 : decode cX6_judge 51 = .ok (.iload_n 2, 1) := by decide +kernel
theorem dX6_judge_52 : decode cX6_judge 52 = .ok (.aload_n 3, 1) := by decide +kernel
theorem dX6_judge_53 : decode cX6_judge 53 = .ok (.getfield 271, 3) := by decide +kernel
theorem dX6_judge_56 : decode cX6_judge 56 = .ok (.if_icmp .ge 14, 3) := by decide +kernel
theorem dX6_judge_59 : decode cX6_judge 59 = .ok (.aload_n 3, 1) := by decide +kernel
theorem dX6_judge_60 : decode cX6_judge 60 = .ok (.iload_n 2, 1) := by decide +kernel
theorem dX6_judge_61 : decode cX6_judge 61 = .ok (.iload 4, 2) := by decide +kernel
theorem dX6_judge_63 : decode cX6_judge 63 = .ok (.iadd, 1) := by decide +kernel
theorem dX6_judge_64 : decode cX6_judge 64 = .ok (.invokevirtual 272, 3) := by decide +kernel
theorem dX6_judge_67 : decode cX6_judge 67 = .ok (.ifCond .ne 9, 3) := by decide +kernel
theorem dX6_judge_70 : decode cX6_judge 70 = .ok (.bipush 100, 2) := by decide +kernel
theorem dX6_judge_72 : decode cX6_judge 72 = .ok (.iload 4, 2) := by decide +kernel
theorem dX6_judge_74 : decode cX6_judge 74 = .ok (.iadd, 1) := by decide +kernel
theorem dX6_judge_75 : decode cX6_judge 75 = .ok (.ireturn, 1) := by decide +kernel
theorem dX6_judge_76 : decode cX6_judge 76 = .ok (.aload_n 3, 1) := by decide +kernel
theorem dX6_judge_77 : decode cX6_judge 77 = .ok (.getfield 274, 3) := by decide +kernel
theorem dX6_judge_80 : decode cX6_judge 80 = .ok (.iload_n 2, 1) := by decide +kernel
theorem dX6_judge_81 : decode cX6_judge 81 = .ok (.iload 4, 2) := by decide +kernel
theorem dX6_judge_83 : decode cX6_judge 83 = .ok (.iadd, 1) := by decide +kernel
theorem dX6_judge_84 : decode cX6_judge 84 = .ok (.laload, 1) := by decide +kernel
theorem dX6_judge_85 : decode cX6_judge 85 = .ok (.aload_n 0, 1) := by decide +kernel
theorem dX6_judge_86 : decode cX6_judge 86 = .ok (.getfield 12, 3) := by decide +kernel
theorem dX6_judge_89 : decode cX6_judge 89 = .ok (.getfield 106, 3) := by decide +kernel
theorem dX6_judge_92 : decode cX6_judge 92 = .ok (.iload 4, 2) := by decide +kernel
theorem dX6_judge_94 : decode cX6_judge 94 = .ok (.iaload, 1) := by decide +kernel
theorem dX6_judge_95 : decode cX6_judge 95 = .ok (.i2l, 1) := by decide +kernel
theorem dX6_judge_96 : decode cX6_judge 96 = .ok (.lcmp, 1) := by decide +kernel
theorem dX6_judge_97 : decode cX6_judge 97 = .ok (.ifCond .eq 6, 3) := by decide +kernel
theorem dX6_judge_100 : decode cX6_judge 100 = .ok (.iload 4, 2) := by decide +kernel
theorem dX6_judge_102 : decode cX6_judge 102 = .ok (.ireturn, 1) := by decide +kernel
theorem dX6_judge_103 : decode cX6_judge 103 = .ok (.iinc 4 1, 3) := by decide +kernel
theorem dX6_judge_106 : decode cX6_judge 106 = .ok (.goto (-67), 3) := by decide +kernel
theorem dX6_judge_109 : decode cX6_judge 109 = .ok (.bipush (-5), 2) := by decide +kernel
theorem dX6_judge_111 : decode cX6_judge 111 = .ok (.ireturn, 1) := by decide +kernel
theorem dX6_image_0 : decode cX6_image 0 = .ok (.aload_n 0, 1) := by decide +kernel
theorem dX6_image_1 : decode cX6_image 1 = .ok (.getfield 18, 3) := by decide +kernel
theorem dX6_image_4 : decode cX6_image 4 = .ok (.aload_n 0, 1) := by decide +kernel
theorem dX6_image_5 : decode cX6_image 5 = .ok (.getfield 12, 3) := by decide +kernel
theorem dX6_image_8 : decode cX6_image 8 = .ok (.invokevirtual 174, 3) := by decide +kernel
theorem dX6_image_11 : decode cX6_image 11 = .ok (.aload_n 0, 1) := by decide +kernel
theorem dX6_image_12 : decode cX6_image 12 = .ok (.iconst 1, 1) := by decide +kernel
theorem dX6_image_13 : decode cX6_image 13 = .ok (.putfield 73, 3) := by decide +kernel
theorem dX6_image_16 : decode cX6_image 16 = .ok (.aload_n 0, 1) := by decide +kernel
theorem dX6_image_17 : decode cX6_image 17 = .ok (.getfield 18, 3) := by decide +kernel
theorem dX6_image_20 : decode cX6_image 20 = .ok (.getfield 82, 3) := by decide +kernel
theorem dX6_image_23 : decode cX6_image 23 = .ok (.ireturn, 1) := by decide +kernel
theorem dX6_undo_0 : decode cX6_undo 0 = .ok (.aload_n 0, 1) := by decide +kernel
theorem dX6_undo_1 : decode cX6_undo 1 = .ok (.getfield 73, 3) := by decide +kernel
theorem dX6_undo_4 : decode cX6_undo 4 = .ok (.ifCond .ne 6, 3) := by decide +kernel
theorem dX6_undo_7 : decode cX6_undo 7 = .ok (.bipush (-3), 2) := by decide +kernel
theorem dX6_undo_9 : decode cX6_undo 9 = .ok (.ireturn, 1) := by decide +kernel
theorem dX6_undo_10 : decode cX6_undo 10 = .ok (.aload_n 0, 1) := by decide +kernel
theorem dX6_undo_11 : decode cX6_undo 11 = .ok (.getfield 12, 3) := by decide +kernel
theorem dX6_undo_14 : decode cX6_undo 14 = .ok (.aload_n 0, 1) := by decide +kernel
theorem dX6_undo_15 : decode cX6_undo 15 = .ok (.getfield 18, 3) := by decide +kernel
theorem dX6_undo_18 : decode cX6_undo 18 = .ok (.invokevirtual 174, 3) := by decide +kernel
theorem dX6_undo_21 : decode cX6_undo 21 = .ok (.aload_n 0, 1) := by decide +kernel
theorem dX6_undo_22 : decode cX6_undo 22 = .ok (.getfield 12, 3) := by decide +kernel
theorem dX6_undo_25 : decode cX6_undo 25 = .ok (.getfield 82, 3) := by decide +kernel
theorem dX6_undo_28 : decode cX6_undo 28 = .ok (.ireturn, 1) := by decide +kernel
theorem dX6_act_0 : decode cX6_act 0 = .ok (.aload_n 0, 1) := by decide +kernel
theorem dX6_act_1 : decode cX6_act 1 = .ok (.getfield 52, 3) := by decide +kernel
theorem dX6_act_4 : decode cX6_act 4 = .ok (.iconst 0, 1) := by decide +kernel
theorem dX6_act_5 : decode cX6_act 5 = .ok (.putfield 278, 3) := by decide +kernel
theorem dX6_act_8 : decode cX6_act 8 = .ok (.aload_n 0, 1) := by decide +kernel
theorem dX6_act_9 : decode cX6_act 9 = .ok (.iload_n 1, 1) := by decide +kernel
theorem dX6_act_10 : decode cX6_act 10 = .ok (.invokevirtual 89, 3) := by decide +kernel
theorem dX6_act_13 : decode cX6_act 13 = .ok (.ifCond .eq 11, 3) := by decide +kernel
theorem dX6_act_16 : decode cX6_act 16 = .ok (.iload_n 2, 1) := by decide +kernel
theorem dX6_act_17 : decode cX6_act 17 = .ok (.iconst 2, 1) := by decide +kernel
theorem dX6_act_18 : decode cX6_act 18 = .ok (.invokestatic 78, 3) := by decide +kernel
theorem dX6_act_21 : decode cX6_act 21 = .ok (.ifCond .ne 5, 3) := by decide +kernel
theorem dX6_act_24 : decode cX6_act 24 = .ok (.iconst 0, 1) := by decide +kernel
theorem dX6_act_25 : decode cX6_act 25 = .ok (.ireturn, 1) := by decide +kernel
theorem dX6_act_26 : decode cX6_act 26 = .ok (.aload_n 0, 1) := by decide +kernel
theorem dX6_act_27 : decode cX6_act 27 = .ok (.getfield 52, 3) := by decide +kernel
theorem dX6_act_30 : decode cX6_act 30 = .ok (.iload_n 2, 1) := by decide +kernel
theorem dX6_act_31 : decode cX6_act 31 = .ok (.iload_n 3, 1) := by decide +kernel
theorem dX6_act_32 : decode cX6_act 32 = .ok (.aload_n 0, 1) := by decide +kernel
theorem dX6_act_33 : decode cX6_act 33 = .ok (.getfield 12, 3) := by decide +kernel
theorem dX6_act_36 : decode cX6_act 36 = .ok (.getfield 94, 3) := by decide +kernel
theorem dX6_act_39 : decode cX6_act 39 = .ok (.iload_n 1, 1) := by decide +kernel
theorem dX6_act_40 : decode cX6_act 40 = .ok (.iaload, 1) := by decide +kernel
theorem dX6_act_41 : decode cX6_act 41 = .ok (.iload_n 1, 1) := by decide +kernel
theorem dX6_act_42 : decode cX6_act 42 = .ok (.aload_n 0, 1) := by decide +kernel
theorem dX6_act_43 : decode cX6_act 43 = .ok (.getfield 12, 3) := by decide +kernel
theorem dX6_act_46 : decode cX6_act 46 = .ok (.getfield 97, 3) := by decide +kernel
theorem dX6_act_49 : decode cX6_act 49 = .ok (.iload_n 1, 1) := by decide +kernel
theorem dX6_act_50 : decode cX6_act 50 = .ok (.iaload, 1) := by decide +kernel
theorem dX6_act_51 : decode cX6_act 51 = .ok (.invokevirtual 281, 3) := by decide +kernel
theorem dX6_act_54 : decode cX6_act 54 = .ok (.ireturn, 1) := by decide +kernel
theorem dX6_trace_0 : decode cX6_trace 0 = .ok (.iload_n 1, 1) := by decide +kernel
theorem dX6_trace_1 : decode cX6_trace 1 = .ok (.aload_n 0, 1) := by decide +kernel
theorem dX6_trace_2 : decode cX6_trace 2 = .ok (.getfield 52, 3) := by decide +kernel
theorem dX6_trace_5 : decode cX6_trace 5 = .ok (.getfield 278, 3) := by decide +kernel
theorem dX6_trace_8 : decode cX6_trace 8 = .ok (.bipush 20, 2) := by decide +kernel
theorem dX6_trace_10 : decode cX6_trace 10 = .ok (.invokestatic 231, 3) := by decide +kernel
theorem dX6_trace_13 : decode cX6_trace 13 = .ok (.iconst 1, 1) := by decide +kernel
theorem dX6_trace_14 : decode cX6_trace 14 = .ok (.isub, 1) := by decide +kernel
theorem dX6_trace_15 : decode cX6_trace 15 = .ok (.invokestatic 78, 3) := by decide +kernel
theorem dX6_trace_18 : decode cX6_trace 18 = .ok (.ifCond .eq 15, 3) := by decide +kernel
theorem dX6_trace_21 : decode cX6_trace 21 = .ok (.aload_n 0, 1) := by decide +kernel
theorem dX6_trace_22 : decode cX6_trace 22 = .ok (.getfield 52, 3) := by decide +kernel
theorem dX6_trace_25 : decode cX6_trace 25 = .ok (.getfield 285, 3) := by decide +kernel
theorem dX6_trace_28 : decode cX6_trace 28 = .ok (.iload_n 1, 1) := by decide +kernel
theorem dX6_trace_29 : decode cX6_trace 29 = .ok (.iaload, 1) := by decide +kernel
theorem dX6_trace_30 : decode cX6_trace 30 = .ok (.goto 4, 3) := by decide +kernel
theorem dX6_trace_33 : decode cX6_trace 33 = .ok (.iconst (-1), 1) := by decide +kernel
theorem dX6_trace_34 : decode cX6_trace 34 = .ok (.ireturn, 1) := by decide +kernel
theorem dX6_taken_0 : decode cX6_taken 0 = .ok (.iload_n 2, 1) := by decide +kernel
theorem dX6_taken_1 : decode cX6_taken 1 = .ok (.bipush 6, 2) := by decide +kernel
theorem dX6_taken_3 : decode cX6_taken 3 = .ok (.invokestatic 78, 3) := by decide +kernel
theorem dX6_taken_6 : decode cX6_taken 6 = .ok (.ifCond .ne 6, 3) := by decide +kernel
theorem dX6_taken_9 : decode cX6_taken 9 = .ok (.bipush (-2), 2) := by decide +kernel
theorem dX6_taken_11 : decode cX6_taken 11 = .ok (.ireturn, 1) := by decide +kernel
theorem dX6_taken_12 : decode cX6_taken 12 = .ok (.aload_n 0, 1) := by decide +kernel
theorem dX6_taken_13 : decode cX6_taken 13 = .ok (.iload_n 1, 1) := by decide +kernel
theorem dX6_taken_14 : decode cX6_taken 14 = .ok (.invokevirtual 89, 3) := by decide +kernel
theorem dX6_taken_17 : decode cX6_taken 17 = .ok (.ifCond .ne 6, 3) := by decide +kernel
theorem dX6_taken_20 : decode cX6_taken 20 = .ok (.bipush (-11), 2) := by decide +kernel
theorem dX6_taken_22 : decode cX6_taken 22 = .ok (.ireturn, 1) := by decide +kernel
theorem dX6_taken_23 : decode cX6_taken 23 = .ok (.aload_n 0, 1) := by decide +kernel
theorem dX6_taken_24 : decode cX6_taken 24 = .ok (.getfield 52, 3) := by decide +kernel
theorem dX6_taken_27 : decode cX6_taken 27 = .ok (.aload_n 0, 1) := by decide +kernel
theorem dX6_taken_28 : decode cX6_taken 28 = .ok (.getfield 12, 3) := by decide +kernel
theorem dX6_taken_31 : decode cX6_taken 31 = .ok (.getfield 94, 3) := by decide +kernel
theorem dX6_taken_34 : decode cX6_taken 34 = .ok (.iload_n 1, 1) := by decide +kernel
theorem dX6_taken_35 : decode cX6_taken 35 = .ok (.iaload, 1) := by decide +kernel
theorem dX6_taken_36 : decode cX6_taken 36 = .ok (.iload_n 2, 1) := by decide +kernel
theorem dX6_taken_37 : decode cX6_taken 37 = .ok (.invokevirtual 288, 3) := by decide +kernel
theorem dX6_taken_40 : decode cX6_taken 40 = .ok (.ifCond .eq 15, 3) := by decide +kernel
theorem dX6_taken_43 : decode cX6_taken 43 = .ok (.aload_n 0, 1) := by decide +kernel
theorem dX6_taken_44 : decode cX6_taken 44 = .ok (.getfield 12, 3) := by decide +kernel
theorem dX6_taken_47 : decode cX6_taken 47 = .ok (.getfield 94, 3) := by decide +kernel
theorem dX6_taken_50 : decode cX6_taken 50 = .ok (.iload_n 1, 1) := by decide +kernel
theorem dX6_taken_51 : decode cX6_taken 51 = .ok (.iaload, 1) := by decide +kernel
theorem dX6_taken_52 : decode cX6_taken 52 = .ok (.goto 5, 3) := by decide +kernel
theorem dX6_taken_55 : decode cX6_taken 55 = .ok (.bipush (-12), 2) := by decide +kernel
theorem dX6_taken_57 : decode cX6_taken 57 = .ok (.ireturn, 1) := by decide +kernel
theorem dX6_count_0 : decode cX6_count 0 = .ok (.iload_n 1, 1) := by decide +kernel
theorem dX6_count_1 : decode cX6_count 1 = .ok (.tableswitch 72 0 4 #[35, 43, 48, 56, 64], 35) := by decide +kernel
theorem dX6_count_36 : decode cX6_count 36 = .ok (.aload_n 0, 1) := by decide +kernel
theorem dX6_count_37 : decode cX6_count 37 = .ok (.getfield 12, 3) := by decide +kernel
theorem dX6_count_40 : decode cX6_count 40 = .ok (.getfield 82, 3) := by decide +kernel
theorem dX6_count_43 : decode cX6_count 43 = .ok (.ireturn, 1) := by decide +kernel
theorem dX6_count_44 : decode cX6_count 44 = .ok (.aload_n 0, 1) := by decide +kernel
theorem dX6_count_45 : decode cX6_count 45 = .ok (.getfield 69, 3) := by decide +kernel
theorem dX6_count_48 : decode cX6_count 48 = .ok (.ireturn, 1) := by decide +kernel
theorem dX6_count_49 : decode cX6_count 49 = .ok (.aload_n 0, 1) := by decide +kernel
theorem dX6_count_50 : decode cX6_count 50 = .ok (.getfield 12, 3) := by decide +kernel
theorem dX6_count_53 : decode cX6_count 53 = .ok (.getfield 262, 3) := by decide +kernel
theorem dX6_count_56 : decode cX6_count 56 = .ok (.ireturn, 1) := by decide +kernel
theorem dX6_count_57 : decode cX6_count 57 = .ok (.aload_n 0, 1) := by decide +kernel
theorem dX6_count_58 : decode cX6_count 58 = .ok (.getfield 45, 3) := by decide +kernel
theorem dX6_count_61 : decode cX6_count 61 = .ok (.getfield 134, 3) := by decide +kernel
theorem dX6_count_64 : decode cX6_count 64 = .ok (.ireturn, 1) := by decide +kernel
theorem dX6_count_65 : decode cX6_count 65 = .ok (.aload_n 0, 1) := by decide +kernel
theorem dX6_count_66 : decode cX6_count 66 = .ok (.getfield 52, 3) := by decide +kernel
theorem dX6_count_69 : decode cX6_count 69 = .ok (.getfield 278, 3) := by decide +kernel
theorem dX6_count_72 : decode cX6_count 72 = .ok (.ireturn, 1) := by decide +kernel
theorem dX6_count_73 : decode cX6_count 73 = .ok (.bipush (-2), 2) := by decide +kernel
theorem dX6_count_75 : decode cX6_count 75 = .ok (.ireturn, 1) := by decide +kernel
theorem dX6_tape_0 : decode cX6_tape 0 = .ok (.iload_n 1, 1) := by decide +kernel
theorem dX6_tape_1 : decode cX6_tape 1 = .ok (.iconst 5, 1) := by decide +kernel
theorem dX6_tape_2 : decode cX6_tape 2 = .ok (.invokestatic 78, 3) := by decide +kernel
theorem dX6_tape_5 : decode cX6_tape 5 = .ok (.ifCond .ne 5, 3) := by decide +kernel
theorem dX6_tape_8 : decode cX6_tape 8 = .ok (.iconst (-1), 1) := by decide +kernel
theorem dX6_tape_9 : decode cX6_tape 9 = .ok (.ireturn, 1) := by decide +kernel
theorem dX6_tape_10 : decode cX6_tape 10 = .ok (.iload_n 2, 1) := by decide +kernel
theorem dX6_tape_11 : decode cX6_tape 11 = .ok (.iconst (-1), 1) := by decide +kernel
theorem dX6_tape_12 : decode cX6_tape 12 = .ok (.if_icmp .lt 18, 3) := by decide +kernel
theorem dX6_tape_15 : decode cX6_tape 15 = .ok (.iload_n 2, 1) := by decide +kernel
theorem dX6_tape_16 : decode cX6_tape 16 = .ok (.iconst 4, 1) := by decide +kernel
theorem dX6_tape_17 : decode cX6_tape 17 = .ok (.if_icmp .gt 13, 3) := by decide +kernel
theorem dX6_tape_20 : decode cX6_tape 20 = .ok (.iload_n 2, 1) := by decide +kernel
theorem dX6_tape_21 : decode cX6_tape 21 = .ok (.ifCond .lt 12, 3) := by decide +kernel
theorem dX6_tape_24 : decode cX6_tape 24 = .ok (.iload_n 3, 1) := by decide +kernel
theorem dX6_tape_25 : decode cX6_tape 25 = .ok (.bipush 60, 2) := by decide +kernel
theorem dX6_tape_27 : decode cX6_tape 27 = .ok (.if_icmp .le 6, 3) := by decide +kernel
theorem dX6_tape_30 : decode cX6_tape 30 = .ok (.bipush (-2), 2) := by decide +kernel
theorem dX6_tape_32 : decode cX6_tape 32 = .ok (.ireturn, 1) := by decide +kernel
theorem dX6_tape_33 : decode cX6_tape 33 = .ok (.iload_n 2, 1) := by decide +kernel
theorem dX6_tape_34 : decode cX6_tape 34 = .ok (.ifCond .lt 10, 3) := by decide +kernel
theorem dX6_tape_37 : decode cX6_tape 37 = .ok (.iload_n 3, 1) := by decide +kernel
theorem dX6_tape_38 : decode cX6_tape 38 = .ok (.ifCond .ge 6, 3) := by decide +kernel
theorem dX6_tape_41 : decode cX6_tape 41 = .ok (.bipush (-14), 2) := by decide +kernel
theorem dX6_tape_43 : decode cX6_tape 43 = .ok (.ireturn, 1) := by decide +kernel
theorem dX6_tape_44 : decode cX6_tape 44 = .ok (.aload_n 0, 1) := by decide +kernel
theorem dX6_tape_45 : decode cX6_tape 45 = .ok (.getfield 58, 3) := by decide +kernel
theorem dX6_tape_48 : decode cX6_tape 48 = .ok (.iload_n 1, 1) := by decide +kernel
theorem dX6_tape_49 : decode cX6_tape 49 = .ok (.aaload, 1) := by decide +kernel
theorem dX6_tape_50 : decode cX6_tape 50 = .ok (.iload_n 2, 1) := by decide +kernel
theorem dX6_tape_51 : decode cX6_tape 51 = .ok (.iload_n 2, 1) := by decide +kernel
theorem dX6_tape_52 : decode cX6_tape 52 = .ok (.ifCond .lt 7, 3) := by decide +kernel
theorem dX6_tape_55 : decode cX6_tape 55 = .ok (.iload_n 3, 1) := by decide +kernel
theorem dX6_tape_56 : decode cX6_tape 56 = .ok (.goto 4, 3) := by decide +kernel
theorem dX6_tape_59 : decode cX6_tape 59 = .ok (.iconst 0, 1) := by decide +kernel
theorem dX6_tape_60 : decode cX6_tape 60 = .ok (.invokevirtual 291, 3) := by decide +kernel
theorem dX6_tape_63 : decode cX6_tape 63 = .ok (.iconst 1, 1) := by decide +kernel
theorem dX6_tape_64 : decode cX6_tape 64 = .ok (.ireturn, 1) := by decide +kernel
theorem dX6_item_0 : decode cX6_item 0 = .ok (.iload_n 1, 1) := by decide +kernel
theorem dX6_item_1 : decode cX6_item 1 = .ok (.iconst 5, 1) := by decide +kernel
theorem dX6_item_2 : decode cX6_item 2 = .ok (.invokestatic 78, 3) := by decide +kernel
theorem dX6_item_5 : decode cX6_item 5 = .ok (.ifCond .ne 5, 3) := by decide +kernel
theorem dX6_item_8 : decode cX6_item 8 = .ok (.iconst (-1), 1) := by decide +kernel
theorem dX6_item_9 : decode cX6_item 9 = .ok (.ireturn, 1) := by decide +kernel
theorem dX6_item_10 : decode cX6_item 10 = .ok (.aload_n 0, 1) := by decide +kernel
theorem dX6_item_11 : decode cX6_item 11 = .ok (.getfield 58, 3) := by decide +kernel
theorem dX6_item_14 : decode cX6_item 14 = .ok (.iload_n 1, 1) := by decide +kernel
theorem dX6_item_15 : decode cX6_item 15 = .ok (.aaload, 1) := by decide +kernel
theorem dX6_item_16 : decode cX6_item 16 = .ok (.getfield 268, 3) := by decide +kernel
theorem dX6_item_19 : decode cX6_item 19 = .ok (.iconst (-1), 1) := by decide +kernel
theorem dX6_item_20 : decode cX6_item 20 = .ok (.if_icmp .ne 6, 3) := by decide +kernel
theorem dX6_item_23 : decode cX6_item 23 = .ok (.bipush (-11), 2) := by decide +kernel
theorem dX6_item_25 : decode cX6_item 25 = .ok (.ireturn, 1) := by decide +kernel
theorem dX6_item_26 : decode cX6_item 26 = .ok (.aload_n 0, 1) := by decide +kernel
theorem dX6_item_27 : decode cX6_item 27 = .ok (.getfield 58, 3) := by decide +kernel
theorem dX6_item_30 : decode cX6_item 30 = .ok (.iload_n 1, 1) := by decide +kernel
theorem dX6_item_31 : decode cX6_item 31 = .ok (.aaload, 1) := by decide +kernel
theorem dX6_item_32 : decode cX6_item 32 = .ok (.iload_n 2, 1) := by decide +kernel
theorem dX6_item_33 : decode cX6_item 33 = .ok (.invokevirtual 272, 3) := by decide +kernel
theorem dX6_item_36 : decode cX6_item 36 = .ok (.ifCond .ne 6, 3) := by decide +kernel
theorem dX6_item_39 : decode cX6_item 39 = .ok (.bipush (-13), 2) := by decide +kernel
theorem dX6_item_41 : decode cX6_item 41 = .ok (.ireturn, 1) := by decide +kernel
theorem dX6_item_42 : decode cX6_item 42 = .ok (.aload_n 0, 1) := by decide +kernel
theorem dX6_item_43 : decode cX6_item 43 = .ok (.getfield 58, 3) := by decide +kernel
theorem dX6_item_46 : decode cX6_item 46 = .ok (.iload_n 1, 1) := by decide +kernel
theorem dX6_item_47 : decode cX6_item 47 = .ok (.aaload, 1) := by decide +kernel
theorem dX6_item_48 : decode cX6_item 48 = .ok (.iload_n 2, 1) := by decide +kernel
theorem dX6_item_49 : decode cX6_item 49 = .ok (.lload_n 3, 1) := by decide +kernel
theorem dX6_item_50 : decode cX6_item 50 = .ok (.invokevirtual 294, 3) := by decide +kernel
theorem dX6_item_53 : decode cX6_item 53 = .ok (.iconst 1, 1) := by decide +kernel
theorem dX6_item_54 : decode cX6_item 54 = .ok (.ireturn, 1) := by decide +kernel
theorem dX6_read_0 : decode cX6_read 0 = .ok (.iload_n 1, 1) := by decide +kernel
theorem dX6_read_1 : decode cX6_read 1 = .ok (.iconst 5, 1) := by decide +kernel
theorem dX6_read_2 : decode cX6_read 2 = .ok (.invokestatic 78, 3) := by decide +kernel
theorem dX6_read_5 : decode cX6_read 5 = .ok (.ifCond .eq 16, 3) := by decide +kernel
theorem dX6_read_8 : decode cX6_read 8 = .ok (.aload_n 0, 1) := by decide +kernel
theorem dX6_read_9 : decode cX6_read 9 = .ok (.getfield 58, 3) := by decide +kernel
theorem dX6_read_12 : decode cX6_read 12 = .ok (.iload_n 1, 1) := by decide +kernel
theorem dX6_read_13 : decode cX6_read 13 = .ok (.aaload, 1) := by decide +kernel
theorem dX6_read_14 : decode cX6_read 14 = .ok (.iload_n 2, 1) := by decide +kernel
theorem dX6_read_15 : decode cX6_read 15 = .ok (.invokevirtual 272, 3) := by decide +kernel
theorem dX6_read_18 : decode cX6_read 18 = .ok (.ifCond .ne 7, 3) := by decide +kernel
theorem dX6_read_21 : decode cX6_read 21 = .ok (.ldc2_w 243, 3) := by decide +kernel
theorem dX6_read_24 : decode cX6_read 24 = .ok (.lreturn, 1) := by decide +kernel
theorem dX6_read_25 : decode cX6_read 25 = .ok (.aload_n 0, 1) := by decide +kernel
theorem dX6_read_26 : decode cX6_read 26 = .ok (.getfield 58, 3) := by decide +kernel
theorem dX6_read_29 : decode cX6_read 29 = .ok (.iload_n 1, 1) := by decide +kernel
theorem dX6_read_30 : decode cX6_read 30 = .ok (.aaload, 1) := by decide +kernel
theorem dX6_read_31 : decode cX6_read 31 = .ok (.getfield 274, 3) := by decide +kernel
theorem dX6_read_34 : decode cX6_read 34 = .ok (.iload_n 2, 1) := by decide +kernel
theorem dX6_read_35 : decode cX6_read 35 = .ok (.laload, 1) := by decide +kernel
theorem dX6_read_36 : decode cX6_read 36 = .ok (.lreturn, 1) := by decide +kernel
theorem dX6_shift_0 : decode cX6_shift 0 = .ok (.iload_n 1, 1) := by decide +kernel
theorem dX6_shift_1 : decode cX6_shift 1 = .ok (.iconst 5, 1) := by decide +kernel
theorem dX6_shift_2 : decode cX6_shift 2 = .ok (.invokestatic 78, 3) := by decide +kernel
theorem dX6_shift_5 : decode cX6_shift 5 = .ok (.ifCond .eq 11, 3) := by decide +kernel
theorem dX6_shift_8 : decode cX6_shift 8 = .ok (.iload_n 3, 1) := by decide +kernel
theorem dX6_shift_9 : decode cX6_shift 9 = .ok (.iconst 5, 1) := by decide +kernel
theorem dX6_shift_10 : decode cX6_shift 10 = .ok (.invokestatic 78, 3) := by decide +kernel
theorem dX6_shift_13 : decode cX6_shift 13 = .ok (.ifCond .ne 5, 3) := by decide +kernel
theorem dX6_shift_16 : decode cX6_shift 16 = .ok (.iconst (-1), 1) := by decide +kernel
theorem dX6_shift_17 : decode cX6_shift 17 = .ok (.ireturn, 1) := by decide +kernel
theorem dX6_shift_18 : decode cX6_shift 18 = .ok (.aload_n 0, 1) := by decide +kernel
theorem dX6_shift_19 : decode cX6_shift 19 = .ok (.getfield 58, 3) := by decide +kernel
theorem dX6_shift_22 : decode cX6_shift 22 = .ok (.iload_n 1, 1) := by decide +kernel
theorem dX6_shift_23 : decode cX6_shift 23 = .ok (.aaload, 1) := by decide +kernel
theorem dX6_shift_24 : decode cX6_shift 24 = .ok (.astore 6, 2) := by decide +kernel
theorem dX6_shift_26 : decode cX6_shift 26 = .ok (.aload_n 0, 1) := by decide +kernel
theorem dX6_shift_27 : decode cX6_shift 27 = .ok (.getfield 58, 3) := by decide +kernel
theorem dX6_shift_30 : decode cX6_shift 30 = .ok (.iload_n 3, 1) := by decide +kernel
theorem dX6_shift_31 : decode cX6_shift 31 = .ok (.aaload, 1) := by decide +kernel
theorem dX6_shift_32 : decode cX6_shift 32 = .ok (.astore 7, 2) := by decide +kernel
theorem dX6_shift_34 : decode cX6_shift 34 = .ok (.aload 6, 2) := by decide +kernel
theorem dX6_shift_36 : decode cX6_shift 36 = .ok (.getfield 268, 3) := by decide +kernel
theorem dX6_shift_39 : decode cX6_shift 39 = .ok (.iconst (-1), 1) := by decide +kernel
theorem dX6_shift_40 : decode cX6_shift 40 = .ok (.if_icmp .eq 12, 3) := by decide +kernel
theorem dX6_shift_43 : decode cX6_shift 43 = .ok (.aload 7, 2) := by decide +kernel
theorem dX6_shift_45 : decode cX6_shift 45 = .ok (.getfield 268, 3) := by decide +kernel
theorem dX6_shift_48 : decode cX6_shift 48 = .ok (.iconst (-1), 1) := by decide +kernel
theorem dX6_shift_49 : decode cX6_shift 49 = .ok (.if_icmp .ne 6, 3) := by decide +kernel
theorem dX6_shift_52 : decode cX6_shift 52 = .ok (.bipush (-11), 2) := by decide +kernel
theorem dX6_shift_54 : decode cX6_shift 54 = .ok (.ireturn, 1) := by decide +kernel
theorem dX6_shift_55 : decode cX6_shift 55 = .ok (.aload 6, 2) := by decide +kernel
theorem dX6_shift_57 : decode cX6_shift 57 = .ok (.getfield 268, 3) := by decide +kernel
theorem dX6_shift_60 : decode cX6_shift 60 = .ok (.aload 7, 2) := by decide +kernel
theorem dX6_shift_62 : decode cX6_shift 62 = .ok (.getfield 268, 3) := by decide +kernel
theorem dX6_shift_65 : decode cX6_shift 65 = .ok (.if_icmp .eq 6, 3) := by decide +kernel
theorem dX6_shift_68 : decode cX6_shift 68 = .ok (.bipush (-12), 2) := by decide +kernel
theorem dX6_shift_70 : decode cX6_shift 70 = .ok (.ireturn, 1) := by decide +kernel
theorem dX6_shift_71 : decode cX6_shift 71 = .ok (.aload 6, 2) := by decide +kernel
theorem dX6_shift_73 : decode cX6_shift 73 = .ok (.iload_n 2, 1) := by decide +kernel
theorem dX6_shift_74 : decode cX6_shift 74 = .ok (.iload 5, 2) := by decide +kernel
theorem dX6_shift_76 : decode cX6_shift 76 = .ok (.invokevirtual 298, 3) := by decide +kernel
theorem dX6_shift_79 : decode cX6_shift 79 = .ok (.ifCond .eq 15, 3) := by decide +kernel
theorem dX6_shift_82 : decode cX6_shift 82 = .ok (.aload 7, 2) := by decide +kernel
theorem dX6_shift_84 : decode cX6_shift 84 = .ok (.iload 4, 2) := by decide +kernel
theorem dX6_shift_86 : decode cX6_shift 86 = .ok (.iload 5, 2) := by decide +kernel
theorem dX6_shift_88 : decode cX6_shift 88 = .ok (.invokevirtual 298, 3) := by decide +kernel
theorem dX6_shift_91 : decode cX6_shift 91 = .ok (.ifCond .ne 6, 3) := by decide +kernel
theorem dX6_shift_94 : decode cX6_shift 94 = .ok (.bipush (-13), 2) := by decide +kernel
theorem dX6_shift_96 : decode cX6_shift 96 = .ok (.ireturn, 1) := by decide +kernel
theorem dX6_shift_97 : decode cX6_shift 97 = .ok (.aload 6, 2) := by decide +kernel
theorem dX6_shift_99 : decode cX6_shift 99 = .ok (.getfield 274, 3) := by decide +kernel
theorem dX6_shift_102 : decode cX6_shift 102 = .ok (.iload_n 2, 1) := by decide +kernel
theorem dX6_shift_103 : decode cX6_shift 103 = .ok (.aload 7, 2) := by decide +kernel
theorem dX6_shift_105 : decode cX6_shift 105 = .ok (.getfield 274, 3) := by decide +kernel
theorem dX6_shift_108 : decode cX6_shift 108 = .ok (.iload 4, 2) := by decide +kernel
theorem dX6_shift_110 : decode cX6_shift 110 = .ok (.iload 5, 2) := by decide +kernel
theorem dX6_shift_112 : decode cX6_shift 112 = .ok (.invokestatic 204, 3) := by decide +kernel
theorem dX6_shift_115 : decode cX6_shift 115 = .ok (.iload 5, 2) := by decide +kernel
theorem dX6_shift_117 : decode cX6_shift 117 = .ok (.ireturn, 1) := by decide +kernel
theorem dX6_within_0 : decode cX6_within 0 = .ok (.iload_n 0, 1) := by decide +kernel
theorem dX6_within_1 : decode cX6_within 1 = .ok (.ifCond .lt 12, 3) := by decide +kernel
theorem dX6_within_4 : decode cX6_within 4 = .ok (.iload_n 0, 1) := by decide +kernel
theorem dX6_within_5 : decode cX6_within 5 = .ok (.iload_n 1, 1) := by decide +kernel
theorem dX6_within_6 : decode cX6_within 6 = .ok (.if_icmp .gt 7, 3) := by decide +kernel
theorem dX6_within_9 : decode cX6_within 9 = .ok (.iconst 1, 1) := by decide +kernel
theorem dX6_within_10 : decode cX6_within 10 = .ok (.goto 4, 3) := by decide +kernel
theorem dX6_within_13 : decode cX6_within 13 = .ok (.iconst 0, 1) := by decide +kernel
theorem dX6_within_14 : decode cX6_within 14 = .ok (.ireturn, 1) := by decide +kernel
theorem dX6_isEater_0 : decode cX6_isEater 0 = .ok (.iload_n 1, 1) := by decide +kernel
theorem dX6_isEater_1 : decode cX6_isEater 1 = .ok (.ifCond .lt 18, 3) := by decide +kernel
theorem dX6_isEater_4 : decode cX6_isEater 4 = .ok (.iload_n 1, 1) := by decide +kernel
theorem dX6_isEater_5 : decode cX6_isEater 5 = .ok (.aload_n 0, 1) := by decide +kernel
theorem dX6_isEater_6 : decode cX6_isEater 6 = .ok (.getfield 12, 3) := by decide +kernel
theorem dX6_isEater_9 : decode cX6_isEater 9 = .ok (.getfield 82, 3) := by decide +kernel
theorem dX6_isEater_12 : decode cX6_isEater 12 = .ok (.if_icmp .ge 7, 3) := by decide +kernel
theorem dX6_isEater_15 : decode cX6_isEater 15 = .ok (.iconst 1, 1) := by decide +kernel
theorem dX6_isEater_16 : decode cX6_isEater 16 = .ok (.goto 4, 3) := by decide +kernel
theorem dX6_isEater_19 : decode cX6_isEater 19 = .ok (.iconst 0, 1) := by decide +kernel
theorem dX6_isEater_20 : decode cX6_isEater 20 = .ok (.ireturn, 1) := by decide +kernel
theorem dX6_holding_0 : decode cX6_holding 0 = .ok (.aload_n 0, 1) := by decide +kernel
theorem dX6_holding_1 : decode cX6_holding 1 = .ok (.getfield 12, 3) := by decide +kernel
theorem dX6_holding_4 : decode cX6_holding 4 = .ok (.getfield 145, 3) := by decide +kernel
theorem dX6_holding_7 : decode cX6_holding 7 = .ok (.aload_n 0, 1) := by decide +kernel
theorem dX6_holding_8 : decode cX6_holding 8 = .ok (.getfield 69, 3) := by decide +kernel
theorem dX6_holding_11 : decode cX6_holding 11 = .ok (.iconst 1, 1) := by decide +kernel
theorem dX6_holding_12 : decode cX6_holding 12 = .ok (.isub, 1) := by decide +kernel
theorem dX6_holding_13 : decode cX6_holding 13 = .ok (.invokestatic 78, 3) := by decide +kernel
theorem dX6_holding_16 : decode cX6_holding 16 = .ok (.ifCond .eq 18, 3) := by decide +kernel
theorem dX6_holding_19 : decode cX6_holding 19 = .ok (.aload_n 0, 1) := by decide +kernel
theorem dX6_holding_20 : decode cX6_holding 20 = .ok (.getfield 31, 3) := by decide +kernel
theorem dX6_holding_23 : decode cX6_holding 23 = .ok (.aload_n 0, 1) := by decide +kernel
theorem dX6_holding_24 : decode cX6_holding 24 = .ok (.getfield 12, 3) := by decide +kernel
theorem dX6_holding_27 : decode cX6_holding 27 = .ok (.getfield 145, 3) := by decide +kernel
theorem dX6_holding_30 : decode cX6_holding 30 = .ok (.aaload, 1) := by decide +kernel
theorem dX6_holding_31 : decode cX6_holding 31 = .ok (.goto 7, 3) := by decide +kernel
theorem dX6_holding_34 : decode cX6_holding 34 = .ok (.aload_n 0, 1) := by decide +kernel
theorem dX6_holding_35 : decode cX6_holding 35 = .ok (.getfield 27, 3) := by decide +kernel
theorem dX6_holding_38 : decode cX6_holding 38 = .ok (.areturn, 1) := by decide +kernel
theorem dX6_ahead_0 : decode cX6_ahead 0 = .ok (.aload_n 0, 1) := by decide +kernel
theorem dX6_ahead_1 : decode cX6_ahead 1 = .ok (.getfield 21, 3) := by decide +kernel
theorem dX6_ahead_4 : decode cX6_ahead 4 = .ok (.aload_n 0, 1) := by decide +kernel
theorem dX6_ahead_5 : decode cX6_ahead 5 = .ok (.getfield 12, 3) := by decide +kernel
theorem dX6_ahead_8 : decode cX6_ahead 8 = .ok (.invokevirtual 174, 3) := by decide +kernel
theorem dX6_ahead_11 : decode cX6_ahead 11 = .ok (.iconst 0, 1) := by decide +kernel
theorem dX6_ahead_12 : decode cX6_ahead 12 = .ok (.istore_n 2, 1) := by decide +kernel
theorem dX6_ahead_13 : decode cX6_ahead 13 = .ok (.iload_n 2, 1) := by decide +kernel
theorem dX6_ahead_14 : decode cX6_ahead 14 = .ok (.iload_n 1, 1) := by decide +kernel
theorem dX6_ahead_15 : decode cX6_ahead 15 = .ok (.if_icmp .ge 24, 3) := by decide +kernel
theorem dX6_ahead_18 : decode cX6_ahead 18 = .ok (.aload_n 0, 1) := by decide +kernel
theorem dX6_ahead_19 : decode cX6_ahead 19 = .ok (.getfield 38, 3) := by decide +kernel
theorem dX6_ahead_22 : decode cX6_ahead 22 = .ok (.aload_n 0, 1) := by decide +kernel
theorem dX6_ahead_23 : decode cX6_ahead 23 = .ok (.getfield 21, 3) := by decide +kernel
theorem dX6_ahead_26 : decode cX6_ahead 26 = .ok (.aload_n 0, 1) := by decide +kernel
theorem dX6_ahead_27 : decode cX6_ahead 27 = .ok (.invokevirtual 113, 3) := by decide +kernel
theorem dX6_ahead_30 : decode cX6_ahead 30 = .ok (.invokevirtual 163, 3) := by decide +kernel
theorem dX6_ahead_33 : decode cX6_ahead 33 = .ok (.iinc 2 1, 3) := by decide +kernel
theorem dX6_ahead_36 : decode cX6_ahead 36 = .ok (.goto (-23), 3) := by decide +kernel
theorem dX6_ahead_39 : decode cX6_ahead 39 = .ok (.return_, 1) := by decide +kernel
theorem dX7_init_0 : decode cX7_init 0 = .ok (.aload_n 0, 1) := by decide +kernel
theorem dX7_init_1 : decode cX7_init 1 = .ok (.invokespecial 1, 3) := by decide +kernel
theorem dX7_init_4 : decode cX7_init 4 = .ok (.aload_n 0, 1) := by decide +kernel
theorem dX7_init_5 : decode cX7_init 5 = .ok (.iconst 0, 1) := by decide +kernel
theorem dX7_init_6 : decode cX7_init 6 = .ok (.putfield 7, 3) := by decide +kernel
theorem dX7_init_9 : decode cX7_init 9 = .ok (.aload_n 0, 1) := by decide +kernel
theorem dX7_init_10 : decode cX7_init 10 = .ok (.bipush 20, 2) := by decide +kernel
theorem dX7_init_12 : decode cX7_init 12 = .ok (.putfield 13, 3) := by decide +kernel
theorem dX7_init_15 : decode cX7_init 15 = .ok (.aload_n 0, 1) := by decide +kernel
theorem dX7_init_16 : decode cX7_init 16 = .ok (.iconst 0, 1) := by decide +kernel
theorem dX7_init_17 : decode cX7_init 17 = .ok (.putfield 16, 3) := by decide +kernel
theorem dX7_init_20 : decode cX7_init 20 = .ok (.aload_n 0, 1) := by decide +kernel
theorem dX7_init_21 : decode cX7_init 21 = .ok (.iconst (-1), 1) := by decide +kernel
theorem dX7_init_22 : decode cX7_init 22 = .ok (.putfield 19, 3) := by decide +kernel
theorem dX7_init_25 : decode cX7_init 25 = .ok (.aload_n 0, 1) := by decide +kernel
theorem dX7_init_26 : decode cX7_init 26 = .ok (.bipush 6, 2) := by decide +kernel
theorem dX7_init_28 : decode cX7_init 28 = .ok (.newarray .int, 2) := by decide +kernel
theorem dX7_init_30 : decode cX7_init 30 = .ok (.putfield 22, 3) := by decide +kernel
theorem dX7_init_33 : decode cX7_init 33 = .ok (.aload_n 0, 1) := by decide +kernel
theorem dX7_init_34 : decode cX7_init 34 = .ok (.bipush 6, 2) := by decide +kernel
theorem dX7_init_36 : decode cX7_init 36 = .ok (.newarray .int, 2) := by decide +kernel
theorem dX7_init_38 : decode cX7_init 38 = .ok (.putfield 26, 3) := by decide +kernel
theorem dX7_init_41 : decode cX7_init 41 = .ok (.aload_n 0, 1) := by decide +kernel
theorem dX7_init_42 : decode cX7_init 42 = .ok (.bipush 6, 2) := by decide +kernel
theorem dX7_init_44 : decode cX7_init 44 = .ok (.newarray .int, 2) := by decide +kernel
theorem dX7_init_46 : decode cX7_init 46 = .ok (.putfield 29, 3) := by decide +kernel
theorem dX7_init_49 : decode cX7_init 49 = .ok (.aload_n 0, 1) := by decide +kernel
theorem dX7_init_50 : decode cX7_init 50 = .ok (.bipush 6, 2) := by decide +kernel
theorem dX7_init_52 : decode cX7_init 52 = .ok (.newarray .int, 2) := by decide +kernel
theorem dX7_init_54 : decode cX7_init 54 = .ok (.putfield 32, 3) := by decide +kernel
theorem dX7_init_57 : decode cX7_init 57 = .ok (.aload_n 0, 1) := by decide +kernel
theorem dX7_init_58 : decode cX7_init 58 = .ok (.bipush 6, 2) := by decide +kernel
theorem dX7_init_60 : decode cX7_init 60 = .ok (.newarray .int, 2) := by decide +kernel
theorem dX7_init_62 : decode cX7_init 62 = .ok (.putfield 35, 3) := by decide +kernel
theorem dX7_init_65 : decode cX7_init 65 = .ok (.aload_n 0, 1) := by decide +kernel
theorem dX7_init_66 : decode cX7_init 66 = .ok (.bipush 24, 2) := by decide +kernel
theorem dX7_init_68 : decode cX7_init 68 = .ok (.newarray .int, 2) := by decide +kernel
theorem dX7_init_70 : decode cX7_init 70 = .ok (.putfield 38, 3) := by decide +kernel
theorem dX7_init_73 : decode cX7_init 73 = .ok (.aload_n 0, 1) := by decide +kernel
theorem dX7_init_74 : decode cX7_init 74 = .ok (.iconst 0, 1) := by decide +kernel
theorem dX7_init_75 : decode cX7_init 75 = .ok (.putfield 41, 3) := by decide +kernel
theorem dX7_init_78 : decode cX7_init 78 = .ok (.aload_n 0, 1) := by decide +kernel
theorem dX7_init_79 : decode cX7_init 79 = .ok (.iconst (-1), 1) := by decide +kernel
theorem dX7_init_80 : decode cX7_init 80 = .ok (.putfield 44, 3) := by decide +kernel
theorem dX7_init_83 : decode cX7_init 83 = .ok (.aload_n 0, 1) := by decide +kernel
theorem dX7_init_84 : decode cX7_init 84 = .ok (.iconst 0, 1) := by decide +kernel
theorem dX7_init_85 : decode cX7_init 85 = .ok (.putfield 47, 3) := by decide +kernel
theorem dX7_init_88 : decode cX7_init 88 = .ok (.aload_n 0, 1) := by decide +kernel
theorem dX7_init_89 : decode cX7_init 89 = .ok (.iconst 0, 1) := by decide +kernel
theorem dX7_init_90 : decode cX7_init 90 = .ok (.putfield 50, 3) := by decide +kernel
theorem dX7_init_93 : decode cX7_init 93 = .ok (.aload_n 0, 1) := by decide +kernel
theorem dX7_init_94 : decode cX7_init 94 = .ok (.iconst 0, 1) := by decide +kernel
theorem dX7_init_95 : decode cX7_init 95 = .ok (.putfield 53, 3) := by decide +kernel
theorem dX7_init_98 : decode cX7_init 98 = .ok (.aload_n 0, 1) := by decide +kernel
theorem dX7_init_99 : decode cX7_init 99 = .ok (.bipush 100, 2) := by decide +kernel
theorem dX7_init_101 : decode cX7_init 101 = .ok (.newarray .int, 2) := by decide +kernel
theorem dX7_init_103 : decode cX7_init 103 = .ok (.putfield 56, 3) := by decide +kernel
theorem dX7_init_106 : decode cX7_init 106 = .ok (.aload_n 0, 1) := by decide +kernel
theorem dX7_init_107 : decode cX7_init 107 = .ok (.bipush 6, 2) := by decide +kernel
theorem dX7_init_109 : decode cX7_init 109 = .ok (.newarray .int, 2) := by decide +kernel
theorem dX7_init_111 : decode cX7_init 111 = .ok (.putfield 59, 3) := by decide +kernel
theorem dX7_init_114 : decode cX7_init 114 = .ok (.aload_n 0, 1) := by decide +kernel
theorem dX7_init_115 : decode cX7_init 115 = .ok (.bipush 60, 2) := by decide +kernel
theorem dX7_init_117 : decode cX7_init 117 = .ok (.newarray .int, 2) := by decide +kernel
theorem dX7_init_119 : decode cX7_init 119 = .ok (.putfield 62, 3) := by decide +kernel
theorem dX7_init_122 : decode cX7_init 122 = .ok (.aload_n 0, 1) := by decide +kernel
theorem dX7_init_123 : decode cX7_init 123 = .ok (.bipush 60, 2) := by decide +kernel
theorem dX7_init_125 : decode cX7_init 125 = .ok (.newarray .int, 2) := by decide +kernel
theorem dX7_init_127 : decode cX7_init 127 = .ok (.putfield 65, 3) := by decide +kernel
theorem dX7_init_130 : decode cX7_init 130 = .ok (.aload_n 0, 1) := by decide +kernel
theorem dX7_init_131 : decode cX7_init 131 = .ok (.bipush 60, 2) := by decide +kernel
theorem dX7_init_133 : decode cX7_init 133 = .ok (.newarray .int, 2) := by decide +kernel
theorem dX7_init_135 : decode cX7_init 135 = .ok (.putfield 68, 3) := by decide +kernel
theorem dX7_init_138 : decode cX7_init 138 = .ok (.aload_n 0, 1) := by decide +kernel
theorem dX7_init_139 : decode cX7_init 139 = .ok (.bipush 60, 2) := by decide +kernel
theorem dX7_init_141 : decode cX7_init 141 = .ok (.newarray .int, 2) := by decide +kernel
theorem dX7_init_143 : decode cX7_init 143 = .ok (.putfield 71, 3) := by decide +kernel
theorem dX7_init_146 : decode cX7_init 146 = .ok (.aload_n 0, 1) := by decide +kernel
theorem dX7_init_147 : decode cX7_init 147 = .ok (.sipush 600, 3) := by decide +kernel
theorem dX7_init_150 : decode cX7_init 150 = .ok (.newarray .int, 2) := by decide +kernel
theorem dX7_init_152 : decode cX7_init 152 = .ok (.putfield 74, 3) := by decide +kernel
theorem dX7_init_155 : decode cX7_init 155 = .ok (.aload_n 0, 1) := by decide +kernel
theorem dX7_init_156 : decode cX7_init 156 = .ok (.bipush 101, 2) := by decide +kernel
theorem dX7_init_158 : decode cX7_init 158 = .ok (.newarray .int, 2) := by decide +kernel
theorem dX7_init_160 : decode cX7_init 160 = .ok (.putfield 77, 3) := by decide +kernel
theorem dX7_init_163 : decode cX7_init 163 = .ok (.aload_n 0, 1) := by decide +kernel
theorem dX7_init_164 : decode cX7_init 164 = .ok (.iconst 0, 1) := by decide +kernel
theorem dX7_init_165 : decode cX7_init 165 = .ok (.putfield 80, 3) := by decide +kernel
theorem dX7_init_168 : decode cX7_init 168 = .ok (.aload_n 0, 1) := by decide +kernel
theorem dX7_init_169 : decode cX7_init 169 = .ok (.iconst 0, 1) := by decide +kernel
theorem dX7_init_170 : decode cX7_init 170 = .ok (.putfield 83, 3) := by decide +kernel
theorem dX7_init_173 : decode cX7_init 173 = .ok (.aload_n 0, 1) := by decide +kernel
theorem dX7_init_174 : decode cX7_init 174 = .ok (.iconst 0, 1) := by decide +kernel
theorem dX7_init_175 : decode cX7_init 175 = .ok (.putfield 86, 3) := by decide +kernel
theorem dX7_init_178 : decode cX7_init 178 = .ok (.aload_n 0, 1) := by decide +kernel
theorem dX7_init_179 : decode cX7_init 179 = .ok (.bipush 21, 2) := by decide +kernel
theorem dX7_init_181 : decode cX7_init 181 = .ok (.newarray .int, 2) := by decide +kernel
theorem dX7_init_183 : decode cX7_init 183 = .ok (.dup, 1) := by decide +kernel
theorem dX7_init_184 : decode cX7_init 184 = .ok (.iconst 0, 1) := by decide +kernel
theorem dX7_init_185 : decode cX7_init 185 = .ok (.bipush 119, 2) := by decide +kernel
theorem dX7_init_187 : decode cX7_init 187 = .ok (.iastore, 1) := by decide +kernel
theorem dX7_init_188 : decode cX7_init 188 = .ok (.dup, 1) := by decide +kernel
theorem dX7_init_189 : decode cX7_init 189 = .ok (.iconst 1, 1) := by decide +kernel
theorem dX7_init_190 : decode cX7_init 190 = .ok (.bipush 111, 2) := by decide +kernel
theorem dX7_init_192 : decode cX7_init 192 = .ok (.iastore, 1) := by decide +kernel
theorem dX7_init_193 : decode cX7_init 193 = .ok (.dup, 1) := by decide +kernel
theorem dX7_init_194 : decode cX7_init 194 = .ok (.iconst 2, 1) := by decide +kernel
theorem dX7_init_195 : decode cX7_init 195 = .ok (.bipush 114, 2) := by decide +kernel
theorem dX7_init_197 : decode cX7_init 197 = .ok (.iastore, 1) := by decide +kernel
theorem dX7_init_198 : decode cX7_init 198 = .ok (.dup, 1) := by decide +kernel
theorem dX7_init_199 : decode cX7_init 199 = .ok (.iconst 3, 1) := by decide +kernel
theorem dX7_init_200 : decode cX7_init 200 = .ok (.bipush 116, 2) := by decide +kernel
theorem dX7_init_202 : decode cX7_init 202 = .ok (.iastore, 1) := by decide +kernel
theorem dX7_init_203 : decode cX7_init 203 = .ok (.dup, 1) := by decide +kernel
theorem dX7_init_204 : decode cX7_init 204 = .ok (.iconst 4, 1) := by decide +kernel
theorem dX7_init_205 : decode cX7_init 205 = .ok (.bipush 104, 2) := by decide +kernel
theorem dX7_init_207 : decode cX7_init 207 = .ok (.iastore, 1) := by decide +kernel
theorem dX7_init_208 : decode cX7_init 208 = .ok (.dup, 1) := by decide +kernel
theorem dX7_init_209 : decode cX7_init 209 = .ok (.iconst 5, 1) := by decide +kernel
theorem dX7_init_210 : decode cX7_init 210 = .ok (.bipush 98, 2) := by decide +kernel
theorem dX7_init_212 : decode cX7_init 212 = .ok (.iastore, 1) := by decide +kernel
theorem dX7_init_213 : decode cX7_init 213 = .ok (.dup, 1) := by decide +kernel
theorem dX7_init_214 : decode cX7_init 214 = .ok (.bipush 6, 2) := by decide +kernel
theorem dX7_init_216 : decode cX7_init 216 = .ok (.bipush 97, 2) := by decide +kernel
theorem dX7_init_218 : decode cX7_init 218 = .ok (.iastore, 1) := by decide +kernel
theorem dX7_init_219 : decode cX7_init 219 = .ok (.dup, 1) := by decide +kernel
theorem dX7_init_220 : decode cX7_init 220 = .ok (.bipush 7, 2) := by decide +kernel
theorem dX7_init_222 : decode cX7_init 222 = .ok (.bipush 107, 2) := by decide +kernel
theorem dX7_init_224 : decode cX7_init 224 = .ok (.iastore, 1) := by decide +kernel
theorem dX7_init_225 : decode cX7_init 225 = .ok (.dup, 1) := by decide +kernel
theorem dX7_init_226 : decode cX7_init 226 = .ok (.bipush 8, 2) := by decide +kernel
theorem dX7_init_228 : decode cX7_init 228 = .ok (.bipush 101, 2) := by decide +kernel
theorem dX7_init_230 : decode cX7_init 230 = .ok (.iastore, 1) := by decide +kernel
theorem dX7_init_231 : decode cX7_init 231 = .ok (.dup, 1) := by decide +kernel
theorem dX7_init_232 : decode cX7_init 232 = .ok (.bipush 9, 2) := by decide +kernel
theorem dX7_init_234 : decode cX7_init 234 = .ok (.bipush 108, 2) := by decide +kernel
theorem dX7_init_236 : decode cX7_init 236 = .ok (.iastore, 1) := by decide +kernel
theorem dX7_init_237 : decode cX7_init 237 = .ok (.dup, 1) := by decide +kernel
theorem dX7_init_238 : decode cX7_init 238 = .ok (.bipush 10, 2) := by decide +kernel
theorem dX7_init_240 : decode cX7_init 240 = .ok (.bipush 111, 2) := by decide +kernel
theorem dX7_init_242 : decode cX7_init 242 = .ok (.iastore, 1) := by decide +kernel
theorem dX7_init_243 : decode cX7_init 243 = .ok (.dup, 1) := by decide +kernel
theorem dX7_init_244 : decode cX7_init 244 = .ok (.bipush 11, 2) := by decide +kernel
theorem dX7_init_246 : decode cX7_init 246 = .ok (.bipush 97, 2) := by decide +kernel
theorem dX7_init_248 : decode cX7_init 248 = .ok (.iastore, 1) := by decide +kernel
theorem dX7_init_249 : decode cX7_init 249 = .ok (.dup, 1) := by decide +kernel
theorem dX7_init_250 : decode cX7_init 250 = .ok (.bipush 12, 2) := by decide +kernel
theorem dX7_init_252 : decode cX7_init 252 = .ok (.bipush 102, 2) := by decide +kernel
theorem dX7_init_254 : decode cX7_init 254 = .ok (.iastore, 1) := by decide +kernel
theorem dX7_init_255 : decode cX7_init 255 = .ok (.dup, 1) := by decide +kernel
theorem dX7_init_256 : decode cX7_init 256 = .ok (.bipush 13, 2) := by decide +kernel
theorem dX7_init_258 : decode cX7_init 258 = .ok (.bipush 108, 2) := by decide +kernel
theorem dX7_init_260 : decode cX7_init 260 = .ok (.iastore, 1) := by decide +kernel
theorem dX7_init_261 : decode cX7_init 261 = .ok (.dup, 1) := by decide +kernel
theorem dX7_init_262 : decode cX7_init 262 = .ok (.bipush 14, 2) := by decide +kernel
theorem dX7_init_264 : decode cX7_init 264 = .ok (.bipush 97, 2) := by decide +kernel
theorem dX7_init_266 : decode cX7_init 266 = .ok (.iastore, 1) := by decide +kernel
theorem dX7_init_267 : decode cX7_init 267 = .ok (.dup, 1) := by decide +kernel
theorem dX7_init_268 : decode cX7_init 268 = .ok (.bipush 15, 2) := by decide +kernel
theorem dX7_init_270 : decode cX7_init 270 = .ok (.bipush 119, 2) := by decide +kernel
theorem dX7_init_272 : decode cX7_init 272 = .ok (.iastore, 1) := by decide +kernel
theorem dX7_init_273 : decode cX7_init 273 = .ok (.dup, 1) := by decide +kernel
theorem dX7_init_274 : decode cX7_init 274 = .ok (.bipush 16, 2) := by decide +kernel
theorem dX7_init_276 : decode cX7_init 276 = .ok (.bipush 115, 2) := by decide +kernel
theorem dX7_init_278 : decode cX7_init 278 = .ok (.iastore, 1) := by decide +kernel
theorem dX7_init_279 : decode cX7_init 279 = .ok (.dup, 1) := by decide +kernel
theorem dX7_init_280 : decode cX7_init 280 = .ok (.bipush 17, 2) := by decide +kernel
theorem dX7_init_282 : decode cX7_init 282 = .ok (.bipush 99, 2) := by decide +kernel
theorem dX7_init_284 : decode cX7_init 284 = .ok (.iastore, 1) := by decide +kernel
theorem dX7_init_285 : decode cX7_init 285 = .ok (.dup, 1) := by decide +kernel
theorem dX7_init_286 : decode cX7_init 286 = .ok (.bipush 18, 2) := by decide +kernel
theorem dX7_init_288 : decode cX7_init 288 = .ok (.bipush 97, 2) := by decide +kernel
theorem dX7_init_290 : decode cX7_init 290 = .ok (.iastore, 1) := by decide +kernel
theorem dX7_init_291 : decode cX7_init 291 = .ok (.dup, 1) := by decide +kernel
theorem dX7_init_292 : decode cX7_init 292 = .ok (.bipush 19, 2) := by decide +kernel
theorem dX7_init_294 : decode cX7_init 294 = .ok (.bipush 108, 2) := by decide +kernel
theorem dX7_init_296 : decode cX7_init 296 = .ok (.iastore, 1) := by decide +kernel
theorem dX7_init_297 : decode cX7_init 297 = .ok (.dup, 1) := by decide +kernel
theorem dX7_init_298 : decode cX7_init 298 = .ok (.bipush 20, 2) := by decide +kernel
theorem dX7_init_300 : decode cX7_init 300 = .ok (.bipush 101, 2) := by decide +kernel
theorem dX7_init_302 : decode cX7_init 302 = .ok (.iastore, 1) := by decide +kernel
theorem dX7_init_303 : decode cX7_init 303 = .ok (.putfield 89, 3) := by decide +kernel
theorem dX7_init_306 : decode cX7_init 306 = .ok (.aload_n 0, 1) := by decide +kernel
theorem dX7_init_307 : decode cX7_init 307 = .ok (.bipush 100, 2) := by decide +kernel
theorem dX7_init_309 : decode cX7_init 309 = .ok (.newarray .boolean, 2) := by decide +kernel
theorem dX7_init_311 : decode cX7_init 311 = .ok (.putfield 92, 3) := by decide +kernel
theorem dX7_init_314 : decode cX7_init 314 = .ok (.aload_n 0, 1) := by decide +kernel
theorem dX7_init_315 : decode cX7_init 315 = .ok (.iconst 0, 1) := by decide +kernel
theorem dX7_init_316 : decode cX7_init 316 = .ok (.putfield 96, 3) := by decide +kernel
theorem dX7_init_319 : decode cX7_init 319 = .ok (.aload_n 0, 1) := by decide +kernel
theorem dX7_init_320 : decode cX7_init 320 = .ok (.iconst (-1), 1) := by decide +kernel
theorem dX7_init_321 : decode cX7_init 321 = .ok (.putfield 100, 3) := by decide +kernel
theorem dX7_init_324 : decode cX7_init 324 = .ok (.aload_n 0, 1) := by decide +kernel
theorem dX7_init_325 : decode cX7_init 325 = .ok (.bipush 6, 2) := by decide +kernel
theorem dX7_init_327 : decode cX7_init 327 = .ok (.newarray .int, 2) := by decide +kernel
theorem dX7_init_329 : decode cX7_init 329 = .ok (.putfield 103, 3) := by decide +kernel
theorem dX7_init_332 : decode cX7_init 332 = .ok (.aload_n 0, 1) := by decide +kernel
theorem dX7_init_333 : decode cX7_init 333 = .ok (.bipush 6, 2) := by decide +kernel
theorem dX7_init_335 : decode cX7_init 335 = .ok (.newarray .int, 2) := by decide +kernel
theorem dX7_init_337 : decode cX7_init 337 = .ok (.putfield 106, 3) := by decide +kernel
theorem dX7_init_340 : decode cX7_init 340 = .ok (.aload_n 0, 1) := by decide +kernel
theorem dX7_init_341 : decode cX7_init 341 = .ok (.bipush 6, 2) := by decide +kernel
theorem dX7_init_343 : decode cX7_init 343 = .ok (.newarray .int, 2) := by decide +kernel
theorem dX7_init_345 : decode cX7_init 345 = .ok (.putfield 109, 3) := by decide +kernel
theorem dX7_init_348 : decode cX7_init 348 = .ok (.aload_n 0, 1) := by decide +kernel
theorem dX7_init_349 : decode cX7_init 349 = .ok (.iconst (-1), 1) := by decide +kernel
theorem dX7_init_350 : decode cX7_init 350 = .ok (.putfield 112, 3) := by decide +kernel
theorem dX7_init_353 : decode cX7_init 353 = .ok (.aload_n 0, 1) := by decide +kernel
theorem dX7_init_354 : decode cX7_init 354 = .ok (.bipush 6, 2) := by decide +kernel
theorem dX7_init_356 : decode cX7_init 356 = .ok (.newarray .int, 2) := by decide +kernel
theorem dX7_init_358 : decode cX7_init 358 = .ok (.putfield 115, 3) := by decide +kernel
theorem dX7_init_361 : decode cX7_init 361 = .ok (.aload_n 0, 1) := by decide +kernel
theorem dX7_init_362 : decode cX7_init 362 = .ok (.iconst (-1), 1) := by decide +kernel
theorem dX7_init_363 : decode cX7_init 363 = .ok (.putfield 118, 3) := by decide +kernel
theorem dX7_init_366 : decode cX7_init 366 = .ok (.aload_n 0, 1) := by decide +kernel
theorem dX7_init_367 : decode cX7_init 367 = .ok (.iconst (-1), 1) := by decide +kernel
theorem dX7_init_368 : decode cX7_init 368 = .ok (.putfield 121, 3) := by decide +kernel
theorem dX7_init_371 : decode cX7_init 371 = .ok (.aload_n 0, 1) := by decide +kernel
theorem dX7_init_372 : decode cX7_init 372 = .ok (.bipush 6, 2) := by decide +kernel
theorem dX7_init_374 : decode cX7_init 374 = .ok (.newarray .int, 2) := by decide +kernel
theorem dX7_init_376 : decode cX7_init 376 = .ok (.putfield 124, 3) := by decide +kernel
theorem dX7_init_379 : decode cX7_init 379 = .ok (.aload_n 0, 1) := by decide +kernel
theorem dX7_init_380 : decode cX7_init 380 = .ok (.bipush 6, 2) := by decide +kernel
theorem dX7_init_382 : decode cX7_init 382 = .ok (.newarray .int, 2) := by decide +kernel
theorem dX7_init_384 : decode cX7_init 384 = .ok (.putfield 127, 3) := by decide +kernel
theorem dX7_init_387 : decode cX7_init 387 = .ok (.aload_n 0, 1) := by decide +kernel
theorem dX7_init_388 : decode cX7_init 388 = .ok (.bipush 6, 2) := by decide +kernel
theorem dX7_init_390 : decode cX7_init 390 = .ok (.newarray .int, 2) := by decide +kernel
theorem dX7_init_392 : decode cX7_init 392 = .ok (.putfield 130, 3) := by decide +kernel
theorem dX7_init_395 : decode cX7_init 395 = .ok (.aload_n 0, 1) := by decide +kernel
theorem dX7_init_396 : decode cX7_init 396 = .ok (.iconst 0, 1) := by decide +kernel
theorem dX7_init_397 : decode cX7_init 397 = .ok (.putfield 133, 3) := by decide +kernel
theorem dX7_init_400 : decode cX7_init 400 = .ok (.aload_n 0, 1) := by decide +kernel
theorem dX7_init_401 : decode cX7_init 401 = .ok (.iconst 0, 1) := by decide +kernel
theorem dX7_init_402 : decode cX7_init 402 = .ok (.putfield 136, 3) := by decide +kernel
theorem dX7_init_405 : decode cX7_init 405 = .ok (.aload_n 0, 1) := by decide +kernel
theorem dX7_init_406 : decode cX7_init 406 = .ok (.iconst (-1), 1) := by decide +kernel
theorem dX7_init_407 : decode cX7_init 407 = .ok (.putfield 139, 3) := by decide +kernel
theorem dX7_init_410 : decode cX7_init 410 = .ok (.aload_n 0, 1) := by decide +kernel
theorem dX7_init_411 : decode cX7_init 411 = .ok (.bipush 6, 2) := by decide +kernel
theorem dX7_init_413 : decode cX7_init 413 = .ok (.newarray .int, 2) := by decide +kernel
theorem dX7_init_415 : decode cX7_init 415 = .ok (.putfield 142, 3) := by decide +kernel
theorem dX7_init_418 : decode cX7_init 418 = .ok (.aload_n 0, 1) := by decide +kernel
theorem dX7_init_419 : decode cX7_init 419 = .ok (.iconst 0, 1) := by decide +kernel
theorem dX7_init_420 : decode cX7_init 420 = .ok (.putfield 145, 3) := by decide +kernel
theorem dX7_init_423 : decode cX7_init 423 = .ok (.aload_n 0, 1) := by decide +kernel
theorem dX7_init_424 : decode cX7_init 424 = .ok (.bipush 12, 2) := by decide +kernel
theorem dX7_init_426 : decode cX7_init 426 = .ok (.newarray .int, 2) := by decide +kernel
theorem dX7_init_428 : decode cX7_init 428 = .ok (.putfield 148, 3) := by decide +kernel
theorem dX7_init_431 : decode cX7_init 431 = .ok (.aload_n 0, 1) := by decide +kernel
theorem dX7_init_432 : decode cX7_init 432 = .ok (.iconst 0, 1) := by decide +kernel
theorem dX7_init_433 : decode cX7_init 433 = .ok (.putfield 151, 3) := by decide +kernel
theorem dX7_init_436 : decode cX7_init 436 = .ok (.aload_n 0, 1) := by decide +kernel
theorem dX7_init_437 : decode cX7_init 437 = .ok (.iconst (-1), 1) := by decide +kernel
theorem dX7_init_438 : decode cX7_init 438 = .ok (.putfield 154, 3) := by decide +kernel
theorem dX7_init_441 : decode cX7_init 441 = .ok (.aload_n 0, 1) := by decide +kernel
theorem dX7_init_442 : decode cX7_init 442 = .ok (.iconst 0, 1) := by decide +kernel
theorem dX7_init_443 : decode cX7_init 443 = .ok (.putfield 157, 3) := by decide +kernel
theorem dX7_init_446 : decode cX7_init 446 = .ok (.aload_n 0, 1) := by decide +kernel
theorem dX7_init_447 : decode cX7_init 447 = .ok (.iconst 0, 1) := by decide +kernel
theorem dX7_init_448 : decode cX7_init 448 = .ok (.putfield 160, 3) := by decide +kernel
theorem dX7_init_451 : decode cX7_init 451 = .ok (.aload_n 0, 1) := by decide +kernel
theorem dX7_init_452 : decode cX7_init 452 = .ok (.iconst 0, 1) := by decide +kernel
theorem dX7_init_453 : decode cX7_init 453 = .ok (.putfield 163, 3) := by decide +kernel
theorem dX7_init_456 : decode cX7_init 456 = .ok (.aload_n 0, 1) := by decide +kernel
theorem dX7_init_457 : decode cX7_init 457 = .ok (.iconst (-1), 1) := by decide +kernel
theorem dX7_init_458 : decode cX7_init 458 = .ok (.putfield 166, 3) := by decide +kernel
theorem dX7_init_461 : decode cX7_init 461 = .ok (.aload_n 0, 1) := by decide +kernel
theorem dX7_init_462 : decode cX7_init 462 = .ok (.iconst 0, 1) := by decide +kernel
theorem dX7_init_463 : decode cX7_init 463 = .ok (.putfield 169, 3) := by decide +kernel
theorem dX7_init_466 : decode cX7_init 466 = .ok (.aload_n 0, 1) := by decide +kernel
theorem dX7_init_467 : decode cX7_init 467 = .ok (.bipush 6, 2) := by decide +kernel
theorem dX7_init_469 : decode cX7_init 469 = .ok (.newarray .int, 2) := by decide +kernel
theorem dX7_init_471 : decode cX7_init 471 = .ok (.putfield 172, 3) := by decide +kernel
theorem dX7_init_474 : decode cX7_init 474 = .ok (.aload_n 0, 1) := by decide +kernel
theorem dX7_init_475 : decode cX7_init 475 = .ok (.bipush 6, 2) := by decide +kernel
theorem dX7_init_477 : decode cX7_init 477 = .ok (.newarray .int, 2) := by decide +kernel
theorem dX7_init_479 : decode cX7_init 479 = .ok (.putfield 175, 3) := by decide +kernel
theorem dX7_init_482 : decode cX7_init 482 = .ok (.aload_n 0, 1) := by decide +kernel
theorem dX7_init_483 : decode cX7_init 483 = .ok (.bipush 6, 2) := by decide +kernel
theorem dX7_init_485 : decode cX7_init 485 = .ok (.newarray .int, 2) := by decide +kernel
theorem dX7_init_487 : decode cX7_init 487 = .ok (.putfield 178, 3) := by decide +kernel
theorem dX7_init_490 : decode cX7_init 490 = .ok (.aload_n 0, 1) := by decide +kernel
theorem dX7_init_491 : decode cX7_init 491 = .ok (.bipush 6, 2) := by decide +kernel
theorem dX7_init_493 : decode cX7_init 493 = .ok (.newarray .int, 2) := by decide +kernel
theorem dX7_init_495 : decode cX7_init 495 = .ok (.putfield 181, 3) := by decide +kernel
theorem dX7_init_498 : decode cX7_init 498 = .ok (.aload_n 0, 1) := by decide +kernel
theorem dX7_init_499 : decode cX7_init 499 = .ok (.bipush 6, 2) := by decide +kernel
theorem dX7_init_501 : decode cX7_init 501 = .ok (.newarray .int, 2) := by decide +kernel
theorem dX7_init_503 : decode cX7_init 503 = .ok (.putfield 184, 3) := by decide +kernel
theorem dX7_init_506 : decode cX7_init 506 = .ok (.aload_n 0, 1) := by decide +kernel
theorem dX7_init_507 : decode cX7_init 507 = .ok (.bipush 24, 2) := by decide +kernel
theorem dX7_init_509 : decode cX7_init 509 = .ok (.newarray .int, 2) := by decide +kernel
theorem dX7_init_511 : decode cX7_init 511 = .ok (.putfield 187, 3) := by decide +kernel
theorem dX7_init_514 : decode cX7_init 514 = .ok (.aload_n 0, 1) := by decide +kernel
theorem dX7_init_515 : decode cX7_init 515 = .ok (.bipush 12, 2) := by decide +kernel
theorem dX7_init_517 : decode cX7_init 517 = .ok (.newarray .int, 2) := by decide +kernel
theorem dX7_init_519 : decode cX7_init 519 = .ok (.putfield 190, 3) := by decide +kernel
theorem dX7_init_522 : decode cX7_init 522 = .ok (.aload_n 0, 1) := by decide +kernel
theorem dX7_init_523 : decode cX7_init 523 = .ok (.iconst 0, 1) := by decide +kernel
theorem dX7_init_524 : decode cX7_init 524 = .ok (.putfield 193, 3) := by decide +kernel
theorem dX7_init_527 : decode cX7_init 527 = .ok (.aload_n 0, 1) := by decide +kernel
theorem dX7_init_528 : decode cX7_init 528 = .ok (.bipush 20, 2) := by decide +kernel
theorem dX7_init_530 : decode cX7_init 530 = .ok (.newarray .int, 2) := by decide +kernel
theorem dX7_init_532 : decode cX7_init 532 = .ok (.putfield 196, 3) := by decide +kernel
theorem dX7_init_535 : decode cX7_init 535 = .ok (.aload_n 0, 1) := by decide +kernel
theorem dX7_init_536 : decode cX7_init 536 = .ok (.bipush 6, 2) := by decide +kernel
theorem dX7_init_538 : decode cX7_init 538 = .ok (.newarray .int, 2) := by decide +kernel
theorem dX7_init_540 : decode cX7_init 540 = .ok (.dup, 1) := by decide +kernel
theorem dX7_init_541 : decode cX7_init 541 = .ok (.iconst 0, 1) := by decide +kernel
theorem dX7_init_542 : decode cX7_init 542 = .ok (.iconst (-1), 1) := by decide +kernel
theorem dX7_init_543 : decode cX7_init 543 = .ok (.iastore, 1) := by decide +kernel
theorem dX7_init_544 : decode cX7_init 544 = .ok (.dup, 1) := by decide +kernel
theorem dX7_init_545 : decode cX7_init 545 = .ok (.iconst 1, 1) := by decide +kernel
theorem dX7_init_546 : decode cX7_init 546 = .ok (.iconst (-1), 1) := by decide +kernel
theorem dX7_init_547 : decode cX7_init 547 = .ok (.iastore, 1) := by decide +kernel
theorem dX7_init_548 : decode cX7_init 548 = .ok (.dup, 1) := by decide +kernel
theorem dX7_init_549 : decode cX7_init 549 = .ok (.iconst 2, 1) := by decide +kernel
theorem dX7_init_550 : decode cX7_init 550 = .ok (.iconst (-1), 1) := by decide +kernel
theorem dX7_init_551 : decode cX7_init 551 = .ok (.iastore, 1) := by decide +kernel
theorem dX7_init_552 : decode cX7_init 552 = .ok (.dup, 1) := by decide +kernel
theorem dX7_init_553 : decode cX7_init 553 = .ok (.iconst 3, 1) := by decide +kernel
theorem dX7_init_554 : decode cX7_init 554 = .ok (.iconst (-1), 1) := by decide +kernel
theorem dX7_init_555 : decode cX7_init 555 = .ok (.iastore, 1) := by decide +kernel
theorem dX7_init_556 : decode cX7_init 556 = .ok (.dup, 1) := by decide +kernel
theorem dX7_init_557 : decode cX7_init 557 = .ok (.iconst 4, 1) := by decide +kernel
theorem dX7_init_558 : decode cX7_init 558 = .ok (.iconst (-1), 1) := by decide +kernel
theorem dX7_init_559 : decode cX7_init 559 = .ok (.iastore, 1) := by decide +kernel
theorem dX7_init_560 : decode cX7_init 560 = .ok (.dup, 1) := by decide +kernel
theorem dX7_init_561 : decode cX7_init 561 = .ok (.iconst 5, 1) := by decide +kernel
theorem dX7_init_562 : decode cX7_init 562 = .ok (.iconst (-1), 1) := by decide +kernel
theorem dX7_init_563 : decode cX7_init 563 = .ok (.iastore, 1) := by decide +kernel
theorem dX7_init_564 : decode cX7_init 564 = .ok (.putfield 199, 3) := by decide +kernel
theorem dX7_init_567 : decode cX7_init 567 = .ok (.aload_n 0, 1) := by decide +kernel
theorem dX7_init_568 : decode cX7_init 568 = .ok (.bipush 6, 2) := by decide +kernel
theorem dX7_init_570 : decode cX7_init 570 = .ok (.newarray .int, 2) := by decide +kernel
theorem dX7_init_572 : decode cX7_init 572 = .ok (.putfield 202, 3) := by decide +kernel
theorem dX7_init_575 : decode cX7_init 575 = .ok (.aload_n 0, 1) := by decide +kernel
theorem dX7_init_576 : decode cX7_init 576 = .ok (.sipush 360, 3) := by decide +kernel
theorem dX7_init_579 : decode cX7_init 579 = .ok (.newarray .long, 2) := by decide +kernel
theorem dX7_init_581 : decode cX7_init 581 = .ok (.putfield 205, 3) := by decide +kernel
theorem dX7_init_584 : decode cX7_init 584 = .ok (.aload_n 0, 1) := by decide +kernel
theorem dX7_init_585 : decode cX7_init 585 = .ok (.bipush 60, 2) := by decide +kernel
theorem dX7_init_587 : decode cX7_init 587 = .ok (.newarray .long, 2) := by decide +kernel
theorem dX7_init_589 : decode cX7_init 589 = .ok (.putfield 209, 3) := by decide +kernel
theorem dX7_init_592 : decode cX7_init 592 = .ok (.return_, 1) := by decide +kernel
theorem dX7_in_0 : decode cX7_in 0 = .ok (.iload_n 1, 1) := by decide +kernel
theorem dX7_in_1 : decode cX7_in 1 = .ok (.iload_n 2, 1) := by decide +kernel
theorem dX7_in_2 : decode cX7_in 2 = .ok (.if_icmp .lt 12, 3) := by decide +kernel
theorem dX7_in_5 : decode cX7_in 5 = .ok (.iload_n 1, 1) := by decide +kernel
theorem dX7_in_6 : decode cX7_in 6 = .ok (.iload_n 3, 1) := by decide +kernel
theorem dX7_in_7 : decode cX7_in 7 = .ok (.if_icmp .gt 7, 3) := by decide +kernel
theorem dX7_in_10 : decode cX7_in 10 = .ok (.iconst 1, 1) := by decide +kernel
theorem dX7_in_11 : decode cX7_in 11 = .ok (.goto 4, 3) := by decide +kernel
theorem dX7_in_14 : decode cX7_in 14 = .ok (.iconst 0, 1) := by decide +kernel
theorem dX7_in_15 : decode cX7_in 15 = .ok (.ireturn, 1) := by decide +kernel
theorem dX7_isEater_0 : decode cX7_isEater 0 = .ok (.aload_n 0, 1) := by decide +kernel
theorem dX7_isEater_1 : decode cX7_isEater 1 = .ok (.iload_n 1, 1) := by decide +kernel
theorem dX7_isEater_2 : decode cX7_isEater 2 = .ok (.iconst 0, 1) := by decide +kernel
theorem dX7_isEater_3 : decode cX7_isEater 3 = .ok (.aload_n 0, 1) := by decide +kernel
theorem dX7_isEater_4 : decode cX7_isEater 4 = .ok (.getfield 7, 3) := by decide +kernel
theorem dX7_isEater_7 : decode cX7_isEater 7 = .ok (.iconst 1, 1) := by decide +kernel
theorem dX7_isEater_8 : decode cX7_isEater 8 = .ok (.isub, 1) := by decide +kernel
theorem dX7_isEater_9 : decode cX7_isEater 9 = .ok (.invokevirtual 212, 3) := by decide +kernel
theorem dX7_isEater_12 : decode cX7_isEater 12 = .ok (.ireturn, 1) := by decide +kernel
theorem dX7_lay_0 : decode cX7_lay 0 = .ok (.aload_n 0, 1) := by decide +kernel
theorem dX7_lay_1 : decode cX7_lay 1 = .ok (.getfield 22, 3) := by decide +kernel
theorem dX7_lay_4 : decode cX7_lay 4 = .ok (.iload_n 1, 1) := by decide +kernel
theorem dX7_lay_5 : decode cX7_lay 5 = .ok (.iload_n 2, 1) := by decide +kernel
theorem dX7_lay_6 : decode cX7_lay 6 = .ok (.iastore, 1) := by decide +kernel
theorem dX7_lay_7 : decode cX7_lay 7 = .ok (.aload_n 0, 1) := by decide +kernel
theorem dX7_lay_8 : decode cX7_lay 8 = .ok (.getfield 26, 3) := by decide +kernel
theorem dX7_lay_11 : decode cX7_lay 11 = .ok (.iload_n 1, 1) := by decide +kernel
theorem dX7_lay_12 : decode cX7_lay 12 = .ok (.iload_n 3, 1) := by decide +kernel
theorem dX7_lay_13 : decode cX7_lay 13 = .ok (.iastore, 1) := by decide +kernel
theorem dX7_lay_14 : decode cX7_lay 14 = .ok (.aload_n 0, 1) := by decide +kernel
theorem dX7_lay_15 : decode cX7_lay 15 = .ok (.getfield 29, 3) := by decide +kernel
theorem dX7_lay_18 : decode cX7_lay 18 = .ok (.iload_n 1, 1) := by decide +kernel
theorem dX7_lay_19 : decode cX7_lay 19 = .ok (.iload 4, 2) := by decide +kernel
theorem dX7_lay_21 : decode cX7_lay 21 = .ok (.iastore, 1) := by decide +kernel
theorem dX7_lay_22 : decode cX7_lay 22 = .ok (.aload_n 0, 1) := by decide +kernel
theorem dX7_lay_23 : decode cX7_lay 23 = .ok (.getfield 32, 3) := by decide +kernel
theorem dX7_lay_26 : decode cX7_lay 26 = .ok (.iload_n 1, 1) := by decide +kernel
theorem dX7_lay_27 : decode cX7_lay 27 = .ok (.iconst 0, 1) := by decide +kernel
theorem dX7_lay_28 : decode cX7_lay 28 = .ok (.iastore, 1) := by decide +kernel
theorem dX7_lay_29 : decode cX7_lay 29 = .ok (.aload_n 0, 1) := by decide +kernel
theorem dX7_lay_30 : decode cX7_lay 30 = .ok (.getfield 35, 3) := by decide +kernel
theorem dX7_lay_33 : decode cX7_lay 33 = .ok (.iload_n 1, 1) := by decide +kernel
theorem dX7_lay_34 : decode cX7_lay 34 = .ok (.iconst 0, 1) := by decide +kernel
theorem dX7_lay_35 : decode cX7_lay 35 = .ok (.iastore, 1) := by decide +kernel
theorem dX7_lay_36 : decode cX7_lay 36 = .ok (.iconst 0, 1) := by decide +kernel
theorem dX7_lay_37 : decode cX7_lay 37 = .ok (.istore 5, 2) := by decide +kernel
theorem dX7_lay_39 : decode cX7_lay 39 = .ok (.iload 5, 2) := by decide +kernel
theorem dX7_lay_41 : decode cX7_lay 41 = .ok (.iconst 4, 1) := by decide +kernel
theorem dX7_lay_42 : decode cX7_lay 42 = .ok (.if_icmp .ge 21, 3) := by decide +kernel
theorem dX7_lay_45 : decode cX7_lay 45 = .ok (.aload_n 0, 1) := by decide +kernel
theorem dX7_lay_46 : decode cX7_lay 46 = .ok (.getfield 38, 3) := by decide +kernel
theorem dX7_lay_49 : decode cX7_lay 49 = .ok (.iconst 4, 1) := by decide +kernel
theorem dX7_lay_50 : decode cX7_lay 50 = .ok (.iload_n 1, 1) := by decide +kernel
theorem dX7_lay_51 : decode cX7_lay 51 = .ok (.imul, 1) := by decide +kernel
theorem dX7_lay_52 : decode cX7_lay 52 = .ok (.iload 5, 2) := by decide +kernel
theorem dX7_lay_54 : decode cX7_lay 54 = .ok (.iadd, 1) := by decide +kernel
theorem dX7_lay_55 : decode cX7_lay 55 = .ok (.iconst 0, 1) := by decide +kernel
theorem dX7_lay_56 : decode cX7_lay 56 = .ok (.iastore, 1) := by decide +kernel
theorem dX7_lay_57 : decode cX7_lay 57 = .ok (.iinc 5 1, 3) := by decide +kernel
theorem dX7_lay_60 : decode cX7_lay 60 = .ok (.goto (-21), 3) := by decide +kernel
theorem dX7_lay_63 : decode cX7_lay 63 = .ok (.return_, 1) := by decide +kernel
theorem dX7_eater_0 : decode cX7_eater 0 = .ok (.aload_n 0, 1) := by decide +kernel
theorem dX7_eater_1 : decode cX7_eater 1 = .ok (.iload_n 1, 1) := by decide +kernel
theorem dX7_eater_2 : decode cX7_eater 2 = .ok (.iconst 0, 1) := by decide +kernel
theorem dX7_eater_3 : decode cX7_eater 3 = .ok (.bipush 6, 2) := by decide +kernel
theorem dX7_eater_5 : decode cX7_eater 5 = .ok (.invokevirtual 212, 3) := by decide +kernel
theorem dX7_eater_8 : decode cX7_eater 8 = .ok (.ifCond .ne 5, 3) := by decide +kernel
theorem dX7_eater_11 : decode cX7_eater 11 = .ok (.iconst (-1), 1) := by decide +kernel
theorem dX7_eater_12 : decode cX7_eater 12 = .ok (.ireturn, 1) := by decide +kernel
theorem dX7_eater_13 : decode cX7_eater 13 = .ok (.aload_n 0, 1) := by decide +kernel
theorem dX7_eater_14 : decode cX7_eater 14 = .ok (.iload_n 2, 1) := by decide +kernel
theorem dX7_eater_15 : decode cX7_eater 15 = .ok (.iconst 0, 1) := by decide +kernel
theorem dX7_eater_16 : decode cX7_eater 16 = .ok (.bipush 9, 2) := by decide +kernel
theorem dX7_eater_18 : decode cX7_eater 18 = .ok (.invokevirtual 212, 3) := by decide +kernel
theorem dX7_eater_21 : decode cX7_eater 21 = .ok (.ifCond .eq 14, 3) := by decide +kernel
theorem dX7_eater_24 : decode cX7_eater 24 = .ok (.aload_n 0, 1) := by decide +kernel
theorem dX7_eater_25 : decode cX7_eater 25 = .ok (.iload_n 3, 1) := by decide +kernel
theorem dX7_eater_26 : decode cX7_eater 26 = .ok (.iconst 0, 1) := by decide +kernel
theorem dX7_eater_27 : decode cX7_eater 27 = .ok (.bipush 9, 2) := by decide +kernel
theorem dX7_eater_29 : decode cX7_eater 29 = .ok (.invokevirtual 212, 3) := by decide +kernel
theorem dX7_eater_32 : decode cX7_eater 32 = .ok (.ifCond .ne 6, 3) := by decide +kernel
theorem dX7_eater_35 : decode cX7_eater 35 = .ok (.bipush (-2), 2) := by decide +kernel
theorem dX7_eater_37 : decode cX7_eater 37 = .ok (.ireturn, 1) := by decide +kernel
theorem dX7_eater_38 : decode cX7_eater 38 = .ok (.aload_n 0, 1) := by decide +kernel
theorem dX7_eater_39 : decode cX7_eater 39 = .ok (.getfield 7, 3) := by decide +kernel
theorem dX7_eater_42 : decode cX7_eater 42 = .ok (.iconst 5, 1) := by decide +kernel
theorem dX7_eater_43 : decode cX7_eater 43 = .ok (.if_icmp .ne 6, 3) := by decide +kernel
theorem dX7_eater_46 : decode cX7_eater 46 = .ok (.bipush (-4), 2) := by decide +kernel
theorem dX7_eater_48 : decode cX7_eater 48 = .ok (.ireturn, 1) := by decide +kernel
theorem dX7_eater_49 : decode cX7_eater 49 = .ok (.aload_n 0, 1) := by decide +kernel
theorem dX7_eater_50 : decode cX7_eater 50 = .ok (.aload_n 0, 1) := by decide +kernel
theorem dX7_eater_51 : decode cX7_eater 51 = .ok (.getfield 7, 3) := by decide +kernel
theorem dX7_eater_54 : decode cX7_eater 54 = .ok (.iload_n 1, 1) := by decide +kernel
theorem dX7_eater_55 : decode cX7_eater 55 = .ok (.iload_n 2, 1) := by decide +kernel
theorem dX7_eater_56 : decode cX7_eater 56 = .ok (.iload_n 3, 1) := by decide +kernel
theorem dX7_eater_57 : decode cX7_eater 57 = .ok (.invokevirtual 216, 3) := by decide +kernel
theorem dX7_eater_60 : decode cX7_eater 60 = .ok (.aload_n 0, 1) := by decide +kernel
theorem dX7_eater_61 : decode cX7_eater 61 = .ok (.dup, 1) := by decide +kernel
theorem dX7_eater_62 : decode cX7_eater 62 = .ok (.getfield 7, 3) := by decide +kernel
theorem dX7_eater_65 : decode cX7_eater 65 = .ok (.iconst 1, 1) := by decide +kernel
theorem dX7_eater_66 : decode cX7_eater 66 = .ok (.iadd, 1) := by decide +kernel
theorem dX7_eater_67 : decode cX7_eater 67 = .ok (.putfield 7, 3) := by decide +kernel
theorem dX7_eater_70 : decode cX7_eater 70 = .ok (.aload_n 0, 1) := by decide +kernel
theorem dX7_eater_71 : decode cX7_eater 71 = .ok (.getfield 7, 3) := by decide +kernel
theorem dX7_eater_74 : decode cX7_eater 74 = .ok (.iconst 1, 1) := by decide +kernel
theorem dX7_eater_75 : decode cX7_eater 75 = .ok (.isub, 1) := by decide +kernel
theorem dX7_eater_76 : decode cX7_eater 76 = .ok (.ireturn, 1) := by decide +kernel
theorem dX7_hunger_0 : decode cX7_hunger 0 = .ok (.aload_n 0, 1) := by decide +kernel
theorem dX7_hunger_1 : decode cX7_hunger 1 = .ok (.iload_n 1, 1) := by decide +kernel
theorem dX7_hunger_2 : decode cX7_hunger 2 = .ok (.invokevirtual 220, 3) := by decide +kernel
theorem dX7_hunger_5 : decode cX7_hunger 5 = .ok (.ifCond .ne 5, 3) := by decide +kernel
theorem dX7_hunger_8 : decode cX7_hunger 8 = .ok (.iconst (-1), 1) := by decide +kernel
theorem dX7_hunger_9 : decode cX7_hunger 9 = .ok (.ireturn, 1) := by decide +kernel
theorem dX7_hunger_10 : decode cX7_hunger 10 = .ok (.aload_n 0, 1) := by decide +kernel
theorem dX7_hunger_11 : decode cX7_hunger 11 = .ok (.iload_n 2, 1) := by decide +kernel
theorem dX7_hunger_12 : decode cX7_hunger 12 = .ok (.iconst 0, 1) := by decide +kernel
theorem dX7_hunger_13 : decode cX7_hunger 13 = .ok (.bipush 9, 2) := by decide +kernel
theorem dX7_hunger_15 : decode cX7_hunger 15 = .ok (.invokevirtual 212, 3) := by decide +kernel
theorem dX7_hunger_18 : decode cX7_hunger 18 = .ok (.ifCond .ne 6, 3) := by decide +kernel
theorem dX7_hunger_21 : decode cX7_hunger 21 = .ok (.bipush (-2), 2) := by decide +kernel
theorem dX7_hunger_23 : decode cX7_hunger 23 = .ok (.ireturn, 1) := by decide +kernel
theorem dX7_hunger_24 : decode cX7_hunger 24 = .ok (.aload_n 0, 1) := by decide +kernel
theorem dX7_hunger_25 : decode cX7_hunger 25 = .ok (.getfield 29, 3) := by decide +kernel
theorem dX7_hunger_28 : decode cX7_hunger 28 = .ok (.iload_n 1, 1) := by decide +kernel
theorem dX7_hunger_29 : decode cX7_hunger 29 = .ok (.iaload, 1) := by decide +kernel
theorem dX7_hunger_30 : decode cX7_hunger 30 = .ok (.istore_n 3, 1) := by decide +kernel
theorem dX7_hunger_31 : decode cX7_hunger 31 = .ok (.aload_n 0, 1) := by decide +kernel
theorem dX7_hunger_32 : decode cX7_hunger 32 = .ok (.getfield 29, 3) := by decide +kernel
theorem dX7_hunger_35 : decode cX7_hunger 35 = .ok (.iload_n 1, 1) := by decide +kernel
theorem dX7_hunger_36 : decode cX7_hunger 36 = .ok (.iload_n 2, 1) := by decide +kernel
theorem dX7_hunger_37 : decode cX7_hunger 37 = .ok (.iastore, 1) := by decide +kernel
theorem dX7_hunger_38 : decode cX7_hunger 38 = .ok (.iload_n 3, 1) := by decide +kernel
theorem dX7_hunger_39 : decode cX7_hunger 39 = .ok (.ireturn, 1) := by decide +kernel
theorem dX7_row_0 : decode cX7_row 0 = .ok (.aload_n 0, 1) := by decide +kernel
theorem dX7_row_1 : decode cX7_row 1 = .ok (.iload_n 1, 1) := by decide +kernel
theorem dX7_row_2 : decode cX7_row 2 = .ok (.invokevirtual 220, 3) := by decide +kernel
theorem dX7_row_5 : decode cX7_row 5 = .ok (.ifCond .eq 13, 3) := by decide +kernel
theorem dX7_row_8 : decode cX7_row 8 = .ok (.aload_n 0, 1) := by decide +kernel
theorem dX7_row_9 : decode cX7_row 9 = .ok (.iload_n 2, 1) := by decide +kernel
theorem dX7_row_10 : decode cX7_row 10 = .ok (.iconst 0, 1) := by decide +kernel
theorem dX7_row_11 : decode cX7_row 11 = .ok (.iconst 3, 1) := by decide +kernel
theorem dX7_row_12 : decode cX7_row 12 = .ok (.invokevirtual 212, 3) := by decide +kernel
theorem dX7_row_15 : decode cX7_row 15 = .ok (.ifCond .ne 5, 3) := by decide +kernel
theorem dX7_row_18 : decode cX7_row 18 = .ok (.iconst (-1), 1) := by decide +kernel
theorem dX7_row_19 : decode cX7_row 19 = .ok (.ireturn, 1) := by decide +kernel
theorem dX7_row_20 : decode cX7_row 20 = .ok (.aload_n 0, 1) := by decide +kernel
theorem dX7_row_21 : decode cX7_row 21 = .ok (.iload_n 3, 1) := by decide +kernel
theorem dX7_row_22 : decode cX7_row 22 = .ok (.iconst 0, 1) := by decide +kernel
theorem dX7_row_23 : decode cX7_row 23 = .ok (.bipush 9, 2) := by decide +kernel
theorem dX7_row_25 : decode cX7_row 25 = .ok (.invokevirtual 212, 3) := by decide +kernel
theorem dX7_row_28 : decode cX7_row 28 = .ok (.ifCond .ne 6, 3) := by decide +kernel
theorem dX7_row_31 : decode cX7_row 31 = .ok (.bipush (-2), 2) := by decide +kernel
theorem dX7_row_33 : decode cX7_row 33 = .ok (.ireturn, 1) := by decide +kernel
theorem dX7_row_34 : decode cX7_row 34 = .ok (.aload_n 0, 1) := by decide +kernel
theorem dX7_row_35 : decode cX7_row 35 = .ok (.getfield 22, 3) := by decide +kernel
theorem dX7_row_38 : decode cX7_row 38 = .ok (.iload_n 1, 1) := by decide +kernel
theorem dX7_row_39 : decode cX7_row 39 = .ok (.iaload, 1) := by decide +kernel
theorem dX7_row_40 : decode cX7_row 40 = .ok (.bipush 6, 2) := by decide +kernel
theorem dX7_row_42 : decode cX7_row 42 = .ok (.if_icmp .eq 6, 3) := by decide +kernel
theorem dX7_row_45 : decode cX7_row 45 = .ok (.bipush (-3), 2) := by decide +kernel
theorem dX7_row_47 : decode cX7_row 47 = .ok (.ireturn, 1) := by decide +kernel
theorem dX7_row_48 : decode cX7_row 48 = .ok (.aload_n 0, 1) := by decide +kernel
theorem dX7_row_49 : decode cX7_row 49 = .ok (.getfield 38, 3) := by decide +kernel
theorem dX7_row_52 : decode cX7_row 52 = .ok (.iconst 4, 1) := by decide +kernel
theorem dX7_row_53 : decode cX7_row 53 = .ok (.iload_n 1, 1) := by decide +kernel
theorem dX7_row_54 : decode cX7_row 54 = .ok (.imul, 1) := by decide +kernel
theorem dX7_row_55 : decode cX7_row 55 = .ok (.iload_n 2, 1) := by decide +kernel
theorem dX7_row_56 : decode cX7_row 56 = .ok (.iadd, 1) := by decide +kernel
theorem dX7_row_57 : decode cX7_row 57 = .ok (.iaload, 1) := by decide +kernel
theorem dX7_row_58 : decode cX7_row 58 = .ok (.istore 4, 2) := by decide +kernel
theorem dX7_row_60 : decode cX7_row 60 = .ok (.aload_n 0, 1) := by decide +kernel
theorem dX7_row_61 : decode cX7_row 61 = .ok (.getfield 38, 3) := by decide +kernel
theorem dX7_row_64 : decode cX7_row 64 = .ok (.iconst 4, 1) := by decide +kernel
theorem dX7_row_65 : decode cX7_row 65 = .ok (.iload_n 1, 1) := by decide +kernel
theorem dX7_row_66 : decode cX7_row 66 = .ok (.imul, 1) := by decide +kernel
theorem dX7_row_67 : decode cX7_row 67 = .ok (.iload_n 2, 1) := by decide +kernel
theorem dX7_row_68 : decode cX7_row 68 = .ok (.iadd, 1) := by decide +kernel
theorem dX7_row_69 : decode cX7_row 69 = .ok (.iload_n 3, 1) := by decide +kernel
theorem dX7_row_70 : decode cX7_row 70 = .ok (.iastore, 1) := by decide +kernel
theorem dX7_row_71 : decode cX7_row 71 = .ok (.iload 4, 2) := by decide +kernel
theorem dX7_row_73 : decode cX7_row 73 = .ok (.ireturn, 1) := by decide +kernel
theorem dX7_bin_0 : decode cX7_bin 0 = .ok (.aload_n 0, 1) := by decide +kernel
theorem dX7_bin_1 : decode cX7_bin 1 = .ok (.iload_n 1, 1) := by decide +kernel
theorem dX7_bin_2 : decode cX7_bin 2 = .ok (.iconst 0, 1) := by decide +kernel
theorem dX7_bin_3 : decode cX7_bin 3 = .ok (.bipush 99, 2) := by decide +kernel
theorem dX7_bin_5 : decode cX7_bin 5 = .ok (.invokevirtual 212, 3) := by decide +kernel
theorem dX7_bin_8 : decode cX7_bin 8 = .ok (.ifCond .ne 6, 3) := by decide +kernel
theorem dX7_bin_11 : decode cX7_bin 11 = .ok (.bipush (-2), 2) := by decide +kernel
theorem dX7_bin_13 : decode cX7_bin 13 = .ok (.ireturn, 1) := by decide +kernel
theorem dX7_bin_14 : decode cX7_bin 14 = .ok (.aload_n 0, 1) := by decide +kernel
theorem dX7_bin_15 : decode cX7_bin 15 = .ok (.getfield 13, 3) := by decide +kernel
theorem dX7_bin_18 : decode cX7_bin 18 = .ok (.istore_n 2, 1) := by decide +kernel
theorem dX7_bin_19 : decode cX7_bin 19 = .ok (.aload_n 0, 1) := by decide +kernel
theorem dX7_bin_20 : decode cX7_bin 20 = .ok (.iload_n 1, 1) := by decide +kernel
theorem dX7_bin_21 : decode cX7_bin 21 = .ok (.putfield 13, 3) := by decide +kernel
theorem dX7_bin_24 : decode cX7_bin 24 = .ok (.iload_n 2, 1) := by decide +kernel
theorem dX7_bin_25 : decode cX7_bin 25 = .ok (.ireturn, 1) := by decide +kernel
theorem dX7_feed_0 : decode cX7_feed 0 = .ok (.aload_n 0, 1) := by decide +kernel
theorem dX7_feed_1 : decode cX7_feed 1 = .ok (.iload_n 1, 1) := by decide +kernel
theorem dX7_feed_2 : decode cX7_feed 2 = .ok (.iconst 0, 1) := by decide +kernel
theorem dX7_feed_3 : decode cX7_feed 3 = .ok (.bipush 127, 2) := by decide +kernel
theorem dX7_feed_5 : decode cX7_feed 5 = .ok (.invokevirtual 212, 3) := by decide +kernel
theorem dX7_feed_8 : decode cX7_feed 8 = .ok (.ifCond .ne 6, 3) := by decide +kernel
theorem dX7_feed_11 : decode cX7_feed 11 = .ok (.bipush (-2), 2) := by decide +kernel
theorem dX7_feed_13 : decode cX7_feed 13 = .ok (.ireturn, 1) := by decide +kernel
theorem dX7_feed_14 : decode cX7_feed 14 = .ok (.aload_n 0, 1) := by decide +kernel
theorem dX7_feed_15 : decode cX7_feed 15 = .ok (.getfield 47, 3) := by decide +kernel
theorem dX7_feed_18 : decode cX7_feed 18 = .ok (.bipush 100, 2) := by decide +kernel
theorem dX7_feed_20 : decode cX7_feed 20 = .ok (.if_icmp .ne 6, 3) := by decide +kernel
theorem dX7_feed_23 : decode cX7_feed 23 = .ok (.bipush (-4), 2) := by decide +kernel
theorem dX7_feed_25 : decode cX7_feed 25 = .ok (.ireturn, 1) := by decide +kernel
theorem dX7_feed_26 : decode cX7_feed 26 = .ok (.aload_n 0, 1) := by decide +kernel
theorem dX7_feed_27 : decode cX7_feed 27 = .ok (.getfield 56, 3) := by decide +kernel
theorem dX7_feed_30 : decode cX7_feed 30 = .ok (.aload_n 0, 1) := by decide +kernel
theorem dX7_feed_31 : decode cX7_feed 31 = .ok (.getfield 47, 3) := by decide +kernel
theorem dX7_feed_34 : decode cX7_feed 34 = .ok (.iload_n 1, 1) := by decide +kernel
theorem dX7_feed_35 : decode cX7_feed 35 = .ok (.iastore, 1) := by decide +kernel
theorem dX7_feed_36 : decode cX7_feed 36 = .ok (.aload_n 0, 1) := by decide +kernel
theorem dX7_feed_37 : decode cX7_feed 37 = .ok (.dup, 1) := by decide +kernel
theorem dX7_feed_38 : decode cX7_feed 38 = .ok (.getfield 47, 3) := by decide +kernel
theorem dX7_feed_41 : decode cX7_feed 41 = .ok (.iconst 1, 1) := by decide +kernel
theorem dX7_feed_42 : decode cX7_feed 42 = .ok (.iadd, 1) := by decide +kernel
theorem dX7_feed_43 : decode cX7_feed 43 = .ok (.putfield 47, 3) := by decide +kernel
theorem dX7_feed_46 : decode cX7_feed 46 = .ok (.aload_n 0, 1) := by decide +kernel
theorem dX7_feed_47 : decode cX7_feed 47 = .ok (.getfield 47, 3) := by decide +kernel
theorem dX7_feed_50 : decode cX7_feed 50 = .ok (.ireturn, 1) := by decide +kernel
theorem dX7_next_0 : decode cX7_next 0 = .ok (.aload_n 0, 1) := by decide +kernel
theorem dX7_next_1 : decode cX7_next 1 = .ok (.getfield 50, 3) := by decide +kernel
theorem dX7_next_4 : decode cX7_next 4 = .ok (.aload_n 0, 1) := by decide +kernel
theorem dX7_next_5 : decode cX7_next 5 = .ok (.getfield 47, 3) := by decide +kernel
theorem dX7_next_8 : decode cX7_next 8 = .ok (.if_icmp .ge 15, 3) := by decide +kernel
theorem dX7_next_11 : decode cX7_next 11 = .ok (.aload_n 0, 1) := by decide +kernel
theorem dX7_next_12 : decode cX7_next 12 = .ok (.getfield 56, 3) := by decide +kernel
theorem dX7_next_15 : decode cX7_next 15 = .ok (.aload_n 0, 1) := by decide +kernel
theorem dX7_next_16 : decode cX7_next 16 = .ok (.getfield 50, 3) := by decide +kernel
theorem dX7_next_19 : decode cX7_next 19 = .ok (.iaload, 1) := by decide +kernel
theorem dX7_next_20 : decode cX7_next 20 = .ok (.goto 4, 3) := by decide +kernel
theorem dX7_next_23 : decode cX7_next 23 = .ok (.iconst (-1), 1) := by decide +kernel
theorem dX7_next_24 : decode cX7_next 24 = .ok (.ireturn, 1) := by decide +kernel
theorem dX7_second_0 : decode cX7_second 0 = .ok (.aload_n 0, 1) := by decide +kernel
theorem dX7_second_1 : decode cX7_second 1 = .ok (.getfield 50, 3) := by decide +kernel
theorem dX7_second_4 : decode cX7_second 4 = .ok (.iconst 1, 1) := by decide +kernel
theorem dX7_second_5 : decode cX7_second 5 = .ok (.iadd, 1) := by decide +kernel
theorem dX7_second_6 : decode cX7_second 6 = .ok (.aload_n 0, 1) := by decide +kernel
theorem dX7_second_7 : decode cX7_second 7 = .ok (.getfield 47, 3) := by decide +kernel
theorem dX7_second_10 : decode cX7_second 10 = .ok (.if_icmp .ge 17, 3) := by decide +kernel
theorem dX7_second_13 : decode cX7_second 13 = .ok (.aload_n 0, 1) := by decide +kernel
theorem dX7_second_14 : decode cX7_second 14 = .ok (.getfield 56, 3) := by decide +kernel
theorem dX7_second_17 : decode cX7_second 17 = .ok (.aload_n 0, 1) := by decide +kernel
theorem dX7_second_18 : decode cX7_second 18 = .ok (.getfield 50, 3) := by decide +kernel
theorem dX7_second_21 : decode cX7_second 21 = .ok (.iconst 1, 1) := by decide +kernel
theorem dX7_second_22 : decode cX7_second 22 = .ok (.iadd, 1) := by decide +kernel
theorem dX7_second_23 : decode cX7_second 23 = .ok (.iaload, 1) := by decide +kernel
theorem dX7_second_24 : decode cX7_second 24 = .ok (.goto 4, 3) := by decide +kernel
theorem dX7_second_27 : decode cX7_second 27 = .ok (.iconst (-1), 1) := by decide +kernel
theorem dX7_second_28 : decode cX7_second 28 = .ok (.ireturn, 1) := by decide +kernel
theorem dX7_takes_0 : decode cX7_takes 0 = .ok (.aload_n 0, 1) := by decide +kernel
theorem dX7_takes_1 : decode cX7_takes 1 = .ok (.invokevirtual 224, 3) := by decide +kernel
theorem dX7_takes_4 : decode cX7_takes 4 = .ok (.iload_n 1, 1) := by decide +kernel
theorem dX7_takes_5 : decode cX7_takes 5 = .ok (.if_icmp .eq 5, 3) := by decide +kernel
theorem dX7_takes_8 : decode cX7_takes 8 = .ok (.iconst 0, 1) := by decide +kernel
theorem dX7_takes_9 : decode cX7_takes 9 = .ok (.ireturn, 1) := by decide +kernel
theorem dX7_takes_10 : decode cX7_takes 10 = .ok (.aload_n 0, 1) := by decide +kernel
theorem dX7_takes_11 : decode cX7_takes 11 = .ok (.dup, 1) := by decide +kernel
theorem dX7_takes_12 : decode cX7_takes 12 = .ok (.getfield 50, 3) := by decide +kernel
theorem dX7_takes_15 : decode cX7_takes 15 = .ok (.iconst 1, 1) := by decide +kernel
theorem dX7_takes_16 : decode cX7_takes 16 = .ok (.iadd, 1) := by decide +kernel
theorem dX7_takes_17 : decode cX7_takes 17 = .ok (.putfield 50, 3) := by decide +kernel
theorem dX7_takes_20 : decode cX7_takes 20 = .ok (.iconst 1, 1) := by decide +kernel
theorem dX7_takes_21 : decode cX7_takes 21 = .ok (.ireturn, 1) := by decide +kernel
theorem dX7_takesWord_0 : decode cX7_takesWord 0 = .ok (.iconst 0, 1) := by decide +kernel
theorem dX7_takesWord_1 : decode cX7_takesWord 1 = .ok (.istore_n 3, 1) := by decide +kernel
theorem dX7_takesWord_2 : decode cX7_takesWord 2 = .ok (.iload_n 3, 1) := by decide +kernel
theorem dX7_takesWord_3 : decode cX7_takesWord 3 = .ok (.iload_n 2, 1) := by decide +kernel
theorem dX7_takesWord_4 : decode cX7_takesWord 4 = .ok (.if_icmp .ge 26, 3) := by decide +kernel
theorem dX7_takesWord_7 : decode cX7_takesWord 7 = .ok (.aload_n 0, 1) := by decide +kernel
theorem dX7_takesWord_8 : decode cX7_takesWord 8 = .ok (.aload_n 0, 1) := by decide +kernel
theorem dX7_takesWord_9 : decode cX7_takesWord 9 = .ok (.getfield 89, 3) := by decide +kernel
theorem dX7_takesWord_12 : decode cX7_takesWord 12 = .ok (.iload_n 1, 1) := by decide +kernel
theorem dX7_takesWord_13 : decode cX7_takesWord 13 = .ok (.iload_n 3, 1) := by decide +kernel
theorem dX7_takesWord_14 : decode cX7_takesWord 14 = .ok (.iadd, 1) := by decide +kernel
theorem dX7_takesWord_15 : decode cX7_takesWord 15 = .ok (.iaload, 1) := by decide +kernel
theorem dX7_takesWord_16 : decode cX7_takesWord 16 = .ok (.invokevirtual 228, 3) := by decide +kernel
theorem dX7_takesWord_19 : decode cX7_takesWord 19 = .ok (.ifCond .ne 5, 3) := by decide +kernel
theorem dX7_takesWord_22 : decode cX7_takesWord 22 = .ok (.iconst 0, 1) := by decide +kernel
theorem dX7_takesWord_23 : decode cX7_takesWord 23 = .ok (.ireturn, 1) := by decide +kernel
theorem dX7_takesWord_24 : decode cX7_takesWord 24 = .ok (.iinc 3 1, 3) := by decide +kernel
theorem dX7_takesWord_27 : decode cX7_takesWord 27 = .ok (.goto (-25), 3) := by decide +kernel
theorem dX7_takesWord_30 : decode cX7_takesWord 30 = .ok (.aload_n 0, 1) := by decide +kernel
theorem dX7_takesWord_31 : decode cX7_takesWord 31 = .ok (.bipush 32, 2) := by decide +kernel
theorem dX7_takesWord_33 : decode cX7_takesWord 33 = .ok (.invokevirtual 228, 3) := by decide +kernel
theorem dX7_takesWord_36 : decode cX7_takesWord 36 = .ok (.ireturn, 1) := by decide +kernel
theorem dX7_isDigit_0 : decode cX7_isDigit 0 = .ok (.aload_n 0, 1) := by decide +kernel
theorem dX7_isDigit_1 : decode cX7_isDigit 1 = .ok (.aload_n 0, 1) := by decide +kernel
theorem dX7_isDigit_2 : decode cX7_isDigit 2 = .ok (.invokevirtual 224, 3) := by decide +kernel
theorem dX7_isDigit_5 : decode cX7_isDigit 5 = .ok (.bipush 48, 2) := by decide +kernel
theorem dX7_isDigit_7 : decode cX7_isDigit 7 = .ok (.bipush 57, 2) := by decide +kernel
theorem dX7_isDigit_9 : decode cX7_isDigit 9 = .ok (.invokevirtual 212, 3) := by decide +kernel
theorem dX7_isDigit_12 : decode cX7_isDigit 12 = .ok (.ireturn, 1) := by decide +kernel
theorem dX7_takesNumber_0 : decode cX7_takesNumber 0 = .ok (.aload_n 0, 1) := by decide +kernel
theorem dX7_takesNumber_1 : decode cX7_takesNumber 1 = .ok (.invokevirtual 231, 3) := by decide +kernel
theorem dX7_takesNumber_4 : decode cX7_takesNumber 4 = .ok (.ifCond .ne 5, 3) := by decide +kernel
theorem dX7_takesNumber_7 : decode cX7_takesNumber 7 = .ok (.iconst 0, 1) := by decide +kernel
theorem dX7_takesNumber_8 : decode cX7_takesNumber 8 = .ok (.ireturn, 1) := by decide +kernel
theorem dX7_takesNumber_9 : decode cX7_takesNumber 9 = .ok (.aload_n 0, 1) := by decide +kernel
theorem dX7_takesNumber_10 : decode cX7_takesNumber 10 = .ok (.iconst 0, 1) := by decide +kernel
theorem dX7_takesNumber_11 : decode cX7_takesNumber 11 = .ok (.putfield 53, 3) := by decide +kernel
theorem dX7_takesNumber_14 : decode cX7_takesNumber 14 = .ok (.iconst 0, 1) := by decide +kernel
theorem dX7_takesNumber_15 : decode cX7_takesNumber 15 = .ok (.istore_n 1, 1) := by decide +kernel
theorem dX7_takesNumber_16 : decode cX7_takesNumber 16 = .ok (.iload_n 1, 1) := by decide +kernel
theorem dX7_takesNumber_17 : decode cX7_takesNumber 17 = .ok (.iconst 2, 1) := by decide +kernel
theorem dX7_takesNumber_18 : decode cX7_takesNumber 18 = .ok (.if_icmp .ge 45, 3) := by decide +kernel
theorem dX7_takesNumber_21 : decode cX7_takesNumber 21 = .ok (.aload_n 0, 1) := by decide +kernel
theorem dX7_takesNumber_22 : decode cX7_takesNumber 22 = .ok (.invokevirtual 231, 3) := by decide +kernel
theorem dX7_takesNumber_25 : decode cX7_takesNumber 25 = .ok (.ifCond .eq 38, 3) := by decide +kernel
theorem dX7_takesNumber_28 : decode cX7_takesNumber 28 = .ok (.aload_n 0, 1) := by decide +kernel
theorem dX7_takesNumber_29 : decode cX7_takesNumber 29 = .ok (.bipush 10, 2) := by decide +kernel
theorem dX7_takesNumber_31 : decode cX7_takesNumber 31 = .ok (.aload_n 0, 1) := by decide +kernel
theorem dX7_takesNumber_32 : decode cX7_takesNumber 32 = .ok (.getfield 53, 3) := by decide +kernel
theorem dX7_takesNumber_35 : decode cX7_takesNumber 35 = .ok (.imul, 1) := by decide +kernel
theorem dX7_takesNumber_36 : decode cX7_takesNumber 36 = .ok (.aload_n 0, 1) := by decide +kernel
theorem dX7_takesNumber_37 : decode cX7_takesNumber 37 = .ok (.invokevirtual 224, 3) := by decide +kernel
theorem dX7_takesNumber_40 : decode cX7_takesNumber 40 = .ok (.iadd, 1) := by decide +kernel
theorem dX7_takesNumber_41 : decode cX7_takesNumber 41 = .ok (.bipush 48, 2) := by decide +kernel
theorem dX7_takesNumber_43 : decode cX7_takesNumber 43 = .ok (.isub, 1) := by decide +kernel
theorem dX7_takesNumber_44 : decode cX7_takesNumber 44 = .ok (.putfield 53, 3) := by decide +kernel
theorem dX7_takesNumber_47 : decode cX7_takesNumber 47 = .ok (.aload_n 0, 1) := by decide +kernel
theorem dX7_takesNumber_48 : decode cX7_takesNumber 48 = .ok (.dup, 1) := by decide +kernel
theorem dX7_takesNumber_49 : decode cX7_takesNumber 49 = .ok (.getfield 50, 3) := by decide +kernel
theorem dX7_takesNumber_52 : decode cX7_takesNumber 52 = .ok (.iconst 1, 1) := by decide +kernel
theorem dX7_takesNumber_53 : decode cX7_takesNumber 53 = .ok (.iadd, 1) := by decide +kernel
theorem dX7_takesNumber_54 : decode cX7_takesNumber 54 = .ok (.putfield 50, 3) := by decide +kernel
theorem dX7_takesNumber_57 : decode cX7_takesNumber 57 = .ok (.iinc 1 1, 3) := by decide +kernel
theorem dX7_takesNumber_60 : decode cX7_takesNumber 60 = .ok (.goto (-44), 3) := by decide +kernel
theorem dX7_takesNumber_63 : decode cX7_takesNumber 63 = .ok (.iconst 1, 1) := by decide +kernel
theorem dX7_takesNumber_64 : decode cX7_takesNumber 64 = .ok (.ireturn, 1) := by decide +kernel
theorem dX7_put_0 : decode cX7_put 0 = .ok (.aload_n 0, 1) := by decide +kernel
theorem dX7_put_1 : decode cX7_put 1 = .ok (.getfield 74, 3) := by decide +kernel
theorem dX7_put_4 : decode cX7_put 4 = .ok (.aload_n 0, 1) := by decide +kernel
theorem dX7_put_5 : decode cX7_put 5 = .ok (.getfield 80, 3) := by decide +kernel
theorem dX7_put_8 : decode cX7_put 8 = .ok (.iload_n 1, 1) := by decide +kernel
theorem dX7_put_9 : decode cX7_put 9 = .ok (.iastore, 1) := by decide +kernel
theorem dX7_put_10 : decode cX7_put 10 = .ok (.aload_n 0, 1) := by decide +kernel
theorem dX7_put_11 : decode cX7_put 11 = .ok (.dup, 1) := by decide +kernel
theorem dX7_put_12 : decode cX7_put 12 = .ok (.getfield 80, 3) := by decide +kernel
theorem dX7_put_15 : decode cX7_put 15 = .ok (.iconst 1, 1) := by decide +kernel
theorem dX7_put_16 : decode cX7_put 16 = .ok (.iadd, 1) := by decide +kernel
theorem dX7_put_17 : decode cX7_put 17 = .ok (.putfield 80, 3) := by decide +kernel
theorem dX7_put_20 : decode cX7_put 20 = .ok (.return_, 1) := by decide +kernel
theorem dX7_whole_0 : decode cX7_whole 0 = .ok (.aload_n 0, 1) := by decide +kernel
theorem dX7_whole_1 : decode cX7_whole 1 = .ok (.getfield 83, 3) := by decide +kernel
theorem dX7_whole_4 : decode cX7_whole 4 = .ok (.ifCond .le 48, 3) := by decide +kernel
theorem dX7_whole_7 : decode cX7_whole 7 = .ok (.aload_n 0, 1) := by decide +kernel
theorem dX7_whole_8 : decode cX7_whole 8 = .ok (.getfield 77, 3) := by decide +kernel
