theorem dX9_init_0 : decode cX9_init 0 = .ok (.aload_n 0, 1) := by decide +kernel
theorem dX9_init_1 : decode cX9_init 1 = .ok (.invokespecial 1, 3) := by decide +kernel
theorem dX9_init_4 : decode cX9_init 4 = .ok (.aload_n 0, 1) := by decide +kernel
theorem dX9_init_5 : decode cX9_init 5 = .ok (.bipush 8, 2) := by decide +kernel
theorem dX9_init_7 : decode cX9_init 7 = .ok (.newarray .int, 2) := by decide +kernel
theorem dX9_init_9 : decode cX9_init 9 = .ok (.putfield 7, 3) := by decide +kernel
theorem dX9_init_12 : decode cX9_init 12 = .ok (.aload_n 0, 1) := by decide +kernel
theorem dX9_init_13 : decode cX9_init 13 = .ok (.bipush 8, 2) := by decide +kernel
theorem dX9_init_15 : decode cX9_init 15 = .ok (.newarray .int, 2) := by decide +kernel
theorem dX9_init_17 : decode cX9_init 17 = .ok (.putfield 13, 3) := by decide +kernel
theorem dX9_init_20 : decode cX9_init 20 = .ok (.aload_n 0, 1) := by decide +kernel
theorem dX9_init_21 : decode cX9_init 21 = .ok (.sipush 320, 3) := by decide +kernel
theorem dX9_init_24 : decode cX9_init 24 = .ok (.newarray .int, 2) := by decide +kernel
theorem dX9_init_26 : decode cX9_init 26 = .ok (.putfield 16, 3) := by decide +kernel
theorem dX9_init_29 : decode cX9_init 29 = .ok (.aload_n 0, 1) := by decide +kernel
theorem dX9_init_30 : decode cX9_init 30 = .ok (.bipush 40, 2) := by decide +kernel
theorem dX9_init_32 : decode cX9_init 32 = .ok (.newarray .int, 2) := by decide +kernel
theorem dX9_init_34 : decode cX9_init 34 = .ok (.putfield 19, 3) := by decide +kernel
theorem dX9_init_37 : decode cX9_init 37 = .ok (.aload_n 0, 1) := by decide +kernel
theorem dX9_init_38 : decode cX9_init 38 = .ok (.bipush 120, 2) := by decide +kernel
theorem dX9_init_40 : decode cX9_init 40 = .ok (.newarray .int, 2) := by decide +kernel
theorem dX9_init_42 : decode cX9_init 42 = .ok (.putfield 22, 3) := by decide +kernel
theorem dX9_init_45 : decode cX9_init 45 = .ok (.aload_n 0, 1) := by decide +kernel
theorem dX9_init_46 : decode cX9_init 46 = .ok (.bipush 38, 2) := by decide +kernel
theorem dX9_init_48 : decode cX9_init 48 = .ok (.newarray .int, 2) := by decide +kernel
theorem dX9_init_50 : decode cX9_init 50 = .ok (.putfield 25, 3) := by decide +kernel
theorem dX9_init_53 : decode cX9_init 53 = .ok (.aload_n 0, 1) := by decide +kernel
theorem dX9_init_54 : decode cX9_init 54 = .ok (.bipush 38, 2) := by decide +kernel
theorem dX9_init_56 : decode cX9_init 56 = .ok (.newarray .int, 2) := by decide +kernel
theorem dX9_init_58 : decode cX9_init 58 = .ok (.putfield 28, 3) := by decide +kernel
theorem dX9_init_61 : decode cX9_init 61 = .ok (.aload_n 0, 1) := by decide +kernel
theorem dX9_init_62 : decode cX9_init 62 = .ok (.sipush 912, 3) := by decide +kernel
theorem dX9_init_65 : decode cX9_init 65 = .ok (.newarray .int, 2) := by decide +kernel
theorem dX9_init_67 : decode cX9_init 67 = .ok (.putfield 31, 3) := by decide +kernel
theorem dX9_init_70 : decode cX9_init 70 = .ok (.aload_n 0, 1) := by decide +kernel
theorem dX9_init_71 : decode cX9_init 71 = .ok (.bipush 76, 2) := by decide +kernel
theorem dX9_init_73 : decode cX9_init 73 = .ok (.newarray .int, 2) := by decide +kernel
theorem dX9_init_75 : decode cX9_init 75 = .ok (.putfield 34, 3) := by decide +kernel
theorem dX9_init_78 : decode cX9_init 78 = .ok (.aload_n 0, 1) := by decide +kernel
theorem dX9_init_79 : decode cX9_init 79 = .ok (.iconst 2, 1) := by decide +kernel
theorem dX9_init_80 : decode cX9_init 80 = .ok (.newarray .boolean, 2) := by decide +kernel
theorem dX9_init_82 : decode cX9_init 82 = .ok (.putfield 37, 3) := by decide +kernel
theorem dX9_init_85 : decode cX9_init 85 = .ok (.aload_n 0, 1) := by decide +kernel
theorem dX9_init_86 : decode cX9_init 86 = .ok (.bipush 16, 2) := by decide +kernel
theorem dX9_init_88 : decode cX9_init 88 = .ok (.newarray .int, 2) := by decide +kernel
theorem dX9_init_90 : decode cX9_init 90 = .ok (.putfield 41, 3) := by decide +kernel
theorem dX9_init_93 : decode cX9_init 93 = .ok (.aload_n 0, 1) := by decide +kernel
theorem dX9_init_94 : decode cX9_init 94 = .ok (.iconst 4, 1) := by decide +kernel
theorem dX9_init_95 : decode cX9_init 95 = .ok (.newarray .int, 2) := by decide +kernel
theorem dX9_init_97 : decode cX9_init 97 = .ok (.putfield 44, 3) := by decide +kernel
theorem dX9_init_100 : decode cX9_init 100 = .ok (.aload_n 0, 1) := by decide +kernel
theorem dX9_init_101 : decode cX9_init 101 = .ok (.bipush 6, 2) := by decide +kernel
theorem dX9_init_103 : decode cX9_init 103 = .ok (.newarray .int, 2) := by decide +kernel
theorem dX9_init_105 : decode cX9_init 105 = .ok (.putfield 47, 3) := by decide +kernel
theorem dX9_init_108 : decode cX9_init 108 = .ok (.aload_n 0, 1) := by decide +kernel
theorem dX9_init_109 : decode cX9_init 109 = .ok (.bipush 6, 2) := by decide +kernel
theorem dX9_init_111 : decode cX9_init 111 = .ok (.newarray .int, 2) := by decide +kernel
theorem dX9_init_113 : decode cX9_init 113 = .ok (.putfield 50, 3) := by decide +kernel
theorem dX9_init_116 : decode cX9_init 116 = .ok (.iconst 0, 1) := by decide +kernel
theorem dX9_init_117 : decode cX9_init 117 = .ok (.istore_n 1, 1) := by decide +kernel
theorem dX9_init_118 : decode cX9_init 118 = .ok (.iload_n 1, 1) := by decide +kernel
theorem dX9_init_119 : decode cX9_init 119 = .ok (.bipush 8, 2) := by decide +kernel
theorem dX9_init_121 : decode cX9_init 121 = .ok (.if_icmp .ge 17, 3) := by decide +kernel
theorem dX9_init_124 : decode cX9_init 124 = .ok (.aload_n 0, 1) := by decide +kernel
theorem dX9_init_125 : decode cX9_init 125 = .ok (.getfield 7, 3) := by decide +kernel
theorem dX9_init_128 : decode cX9_init 128 = .ok (.iload_n 1, 1) := by decide +kernel
theorem dX9_init_129 : decode cX9_init 129 = .ok (.ldc 53, 2) := by decide +kernel
theorem dX9_init_131 : decode cX9_init 131 = .ok (.iastore, 1) := by decide +kernel
theorem dX9_init_132 : decode cX9_init 132 = .ok (.iinc 1 1, 3) := by decide +kernel
theorem dX9_init_135 : decode cX9_init 135 = .ok (.goto (-17), 3) := by decide +kernel
theorem dX9_init_138 : decode cX9_init 138 = .ok (.return_, 1) := by decide +kernel
theorem dX9_in_0 : decode cX9_in 0 = .ok (.iload_n 0, 1) := by decide +kernel
theorem dX9_in_1 : decode cX9_in 1 = .ok (.iload_n 1, 1) := by decide +kernel
theorem dX9_in_2 : decode cX9_in 2 = .ok (.if_icmp .lt 12, 3) := by decide +kernel
theorem dX9_in_5 : decode cX9_in 5 = .ok (.iload_n 0, 1) := by decide +kernel
theorem dX9_in_6 : decode cX9_in 6 = .ok (.iload_n 2, 1) := by decide +kernel
theorem dX9_in_7 : decode cX9_in 7 = .ok (.if_icmp .gt 7, 3) := by decide +kernel
theorem dX9_in_10 : decode cX9_in 10 = .ok (.iconst 1, 1) := by decide +kernel
theorem dX9_in_11 : decode cX9_in 11 = .ok (.goto 4, 3) := by decide +kernel
theorem dX9_in_14 : decode cX9_in 14 = .ok (.iconst 0, 1) := by decide +kernel
theorem dX9_in_15 : decode cX9_in 15 = .ok (.ireturn, 1) := by decide +kernel
theorem dX9_has_0 : decode cX9_has 0 = .ok (.iload_n 0, 1) := by decide +kernel
theorem dX9_has_1 : decode cX9_has 1 = .ok (.iload_n 1, 1) := by decide +kernel
theorem dX9_has_2 : decode cX9_has 2 = .ok (.ishr, 1) := by decide +kernel
theorem dX9_has_3 : decode cX9_has 3 = .ok (.iconst 1, 1) := by decide +kernel
theorem dX9_has_4 : decode cX9_has 4 = .ok (.iand, 1) := by decide +kernel
theorem dX9_has_5 : decode cX9_has 5 = .ok (.iconst 1, 1) := by decide +kernel
theorem dX9_has_6 : decode cX9_has 6 = .ok (.if_icmp .ne 7, 3) := by decide +kernel
theorem dX9_has_9 : decode cX9_has 9 = .ok (.iconst 1, 1) := by decide +kernel
theorem dX9_has_10 : decode cX9_has 10 = .ok (.goto 4, 3) := by decide +kernel
theorem dX9_has_13 : decode cX9_has 13 = .ok (.iconst 0, 1) := by decide +kernel
theorem dX9_has_14 : decode cX9_has 14 = .ok (.ireturn, 1) := by decide +kernel
theorem dX9_ones_0 : decode cX9_ones 0 = .ok (.iconst 0, 1) := by decide +kernel
theorem dX9_ones_1 : decode cX9_ones 1 = .ok (.istore_n 1, 1) := by decide +kernel
theorem dX9_ones_2 : decode cX9_ones 2 = .ok (.iconst 0, 1) := by decide +kernel
theorem dX9_ones_3 : decode cX9_ones 3 = .ok (.istore_n 2, 1) := by decide +kernel
theorem dX9_ones_4 : decode cX9_ones 4 = .ok (.iload_n 2, 1) := by decide +kernel
theorem dX9_ones_5 : decode cX9_ones 5 = .ok (.bipush 8, 2) := by decide +kernel
theorem dX9_ones_7 : decode cX9_ones 7 = .ok (.if_icmp .ge 17, 3) := by decide +kernel
theorem dX9_ones_10 : decode cX9_ones 10 = .ok (.iload_n 1, 1) := by decide +kernel
theorem dX9_ones_11 : decode cX9_ones 11 = .ok (.iload_n 0, 1) := by decide +kernel
theorem dX9_ones_12 : decode cX9_ones 12 = .ok (.iload_n 2, 1) := by decide +kernel
theorem dX9_ones_13 : decode cX9_ones 13 = .ok (.ishr, 1) := by decide +kernel
theorem dX9_ones_14 : decode cX9_ones 14 = .ok (.iconst 1, 1) := by decide +kernel
theorem dX9_ones_15 : decode cX9_ones 15 = .ok (.iand, 1) := by decide +kernel
theorem dX9_ones_16 : decode cX9_ones 16 = .ok (.iadd, 1) := by decide +kernel
theorem dX9_ones_17 : decode cX9_ones 17 = .ok (.istore_n 1, 1) := by decide +kernel
theorem dX9_ones_18 : decode cX9_ones 18 = .ok (.iinc 2 1, 3) := by decide +kernel
theorem dX9_ones_21 : decode cX9_ones 21 = .ok (.goto (-17), 3) := by decide +kernel
theorem dX9_ones_24 : decode cX9_ones 24 = .ok (.iload_n 1, 1) := by decide +kernel
theorem dX9_ones_25 : decode cX9_ones 25 = .ok (.ireturn, 1) := by decide +kernel
theorem dX9_found_0 : decode cX9_found 0 = .ok (.aload_n 0, 1) := by decide +kernel
theorem dX9_found_1 : decode cX9_found 1 = .ok (.iload_n 1, 1) := by decide +kernel
theorem dX9_found_2 : decode cX9_found 2 = .ok (.putfield 54, 3) := by decide +kernel
theorem dX9_found_5 : decode cX9_found 5 = .ok (.ldc 58, 2) := by decide +kernel
theorem dX9_found_7 : decode cX9_found 7 = .ok (.iload_n 1, 1) := by decide +kernel
theorem dX9_found_8 : decode cX9_found 8 = .ok (.isub, 1) := by decide +kernel
theorem dX9_found_9 : decode cX9_found 9 = .ok (.ireturn, 1) := by decide +kernel
theorem dX9_well_0 : decode cX9_well 0 = .ok (.aload_n 0, 1) := by decide +kernel
theorem dX9_well_1 : decode cX9_well 1 = .ok (.iconst 0, 1) := by decide +kernel
theorem dX9_well_2 : decode cX9_well 2 = .ok (.putfield 54, 3) := by decide +kernel
theorem dX9_well_5 : decode cX9_well 5 = .ok (.iload_n 1, 1) := by decide +kernel
theorem dX9_well_6 : decode cX9_well 6 = .ok (.ireturn, 1) := by decide +kernel
theorem dX9_copies_0 : decode cX9_copies 0 = .ok (.iconst 0, 1) := by decide +kernel
theorem dX9_copies_1 : decode cX9_copies 1 = .ok (.istore 4, 2) := by decide +kernel
theorem dX9_copies_3 : decode cX9_copies 3 = .ok (.iload 4, 2) := by decide +kernel
theorem dX9_copies_5 : decode cX9_copies 5 = .ok (.bipush 38, 2) := by decide +kernel
theorem dX9_copies_7 : decode cX9_copies 7 = .ok (.if_icmp .ge 21, 3) := by decide +kernel
theorem dX9_copies_10 : decode cX9_copies 10 = .ok (.aload_n 2, 1) := by decide +kernel
theorem dX9_copies_11 : decode cX9_copies 11 = .ok (.iload_n 3, 1) := by decide +kernel
theorem dX9_copies_12 : decode cX9_copies 12 = .ok (.iload 4, 2) := by decide +kernel
theorem dX9_copies_14 : decode cX9_copies 14 = .ok (.iadd, 1) := by decide +kernel
theorem dX9_copies_15 : decode cX9_copies 15 = .ok (.aload_n 0, 1) := by decide +kernel
theorem dX9_copies_16 : decode cX9_copies 16 = .ok (.iload_n 1, 1) := by decide +kernel
theorem dX9_copies_17 : decode cX9_copies 17 = .ok (.iload 4, 2) := by decide +kernel
theorem dX9_copies_19 : decode cX9_copies 19 = .ok (.iadd, 1) := by decide +kernel
theorem dX9_copies_20 : decode cX9_copies 20 = .ok (.iaload, 1) := by decide +kernel
theorem dX9_copies_21 : decode cX9_copies 21 = .ok (.iastore, 1) := by decide +kernel
theorem dX9_copies_22 : decode cX9_copies 22 = .ok (.iinc 4 1, 3) := by decide +kernel
theorem dX9_copies_25 : decode cX9_copies 25 = .ok (.goto (-22), 3) := by decide +kernel
theorem dX9_copies_28 : decode cX9_copies 28 = .ok (.return_, 1) := by decide +kernel
theorem dX9_isRow_0 : decode cX9_isRow 0 = .ok (.iload_n 0, 1) := by decide +kernel
theorem dX9_isRow_1 : decode cX9_isRow 1 = .ok (.iconst 0, 1) := by decide +kernel
theorem dX9_isRow_2 : decode cX9_isRow 2 = .ok (.bipush 7, 2) := by decide +kernel
theorem dX9_isRow_4 : decode cX9_isRow 4 = .ok (.invokestatic 59, 3) := by decide +kernel
theorem dX9_isRow_7 : decode cX9_isRow 7 = .ok (.ireturn, 1) := by decide +kernel
theorem dX9_isMissing_0 : decode cX9_isMissing 0 = .ok (.aload_n 0, 1) := by decide +kernel
theorem dX9_isMissing_1 : decode cX9_isMissing 1 = .ok (.getfield 7, 3) := by decide +kernel
theorem dX9_isMissing_4 : decode cX9_isMissing 4 = .ok (.iload_n 1, 1) := by decide +kernel
theorem dX9_isMissing_5 : decode cX9_isMissing 5 = .ok (.iaload, 1) := by decide +kernel
theorem dX9_isMissing_6 : decode cX9_isMissing 6 = .ok (.ldc 53, 2) := by decide +kernel
theorem dX9_isMissing_8 : decode cX9_isMissing 8 = .ok (.if_icmp .ne 7, 3) := by decide +kernel
theorem dX9_isMissing_11 : decode cX9_isMissing 11 = .ok (.iconst 1, 1) := by decide +kernel
theorem dX9_isMissing_12 : decode cX9_isMissing 12 = .ok (.goto 4, 3) := by decide +kernel
theorem dX9_isMissing_15 : decode cX9_isMissing 15 = .ok (.iconst 0, 1) := by decide +kernel
theorem dX9_isMissing_16 : decode cX9_isMissing 16 = .ok (.ireturn, 1) := by decide +kernel
theorem dX9_cut_0 : decode cX9_cut 0 = .ok (.iload_n 0, 1) := by decide +kernel
theorem dX9_cut_1 : decode cX9_cut 1 = .ok (.ifCond .ne 13, 3) := by decide +kernel
theorem dX9_cut_4 : decode cX9_cut 4 = .ok (.iload_n 1, 1) := by decide +kernel
theorem dX9_cut_5 : decode cX9_cut 5 = .ok (.bipush 24, 2) := by decide +kernel
theorem dX9_cut_7 : decode cX9_cut 7 = .ok (.ishl, 1) := by decide +kernel
theorem dX9_cut_8 : decode cX9_cut 8 = .ok (.bipush 24, 2) := by decide +kernel
theorem dX9_cut_10 : decode cX9_cut 10 = .ok (.ishr, 1) := by decide +kernel
theorem dX9_cut_11 : decode cX9_cut 11 = .ok (.goto 19, 3) := by decide +kernel
theorem dX9_cut_14 : decode cX9_cut 14 = .ok (.iload_n 0, 1) := by decide +kernel
theorem dX9_cut_15 : decode cX9_cut 15 = .ok (.iconst 1, 1) := by decide +kernel
theorem dX9_cut_16 : decode cX9_cut 16 = .ok (.if_icmp .ne 13, 3) := by decide +kernel
theorem dX9_cut_19 : decode cX9_cut 19 = .ok (.iload_n 1, 1) := by decide +kernel
theorem dX9_cut_20 : decode cX9_cut 20 = .ok (.bipush 16, 2) := by decide +kernel
theorem dX9_cut_22 : decode cX9_cut 22 = .ok (.ishl, 1) := by decide +kernel
theorem dX9_cut_23 : decode cX9_cut 23 = .ok (.bipush 16, 2) := by decide +kernel
theorem dX9_cut_25 : decode cX9_cut 25 = .ok (.ishr, 1) := by decide +kernel
theorem dX9_cut_26 : decode cX9_cut 26 = .ok (.goto 4, 3) := by decide +kernel
theorem dX9_cut_29 : decode cX9_cut 29 = .ok (.iload_n 1, 1) := by decide +kernel
theorem dX9_cut_30 : decode cX9_cut 30 = .ok (.ireturn, 1) := by decide +kernel
theorem dX9_row_0 : decode cX9_row 0 = .ok (.iload_n 1, 1) := by decide +kernel
theorem dX9_row_1 : decode cX9_row 1 = .ok (.invokestatic 63, 3) := by decide +kernel
theorem dX9_row_4 : decode cX9_row 4 = .ok (.ifCond .eq 18, 3) := by decide +kernel
theorem dX9_row_7 : decode cX9_row 7 = .ok (.iload_n 2, 1) := by decide +kernel
theorem dX9_row_8 : decode cX9_row 8 = .ok (.iconst 0, 1) := by decide +kernel
theorem dX9_row_9 : decode cX9_row 9 = .ok (.iconst 2, 1) := by decide +kernel
theorem dX9_row_10 : decode cX9_row 10 = .ok (.invokestatic 59, 3) := by decide +kernel
theorem dX9_row_13 : decode cX9_row 13 = .ok (.ifCond .eq 9, 3) := by decide +kernel
theorem dX9_row_16 : decode cX9_row 16 = .ok (.iload_n 3, 1) := by decide +kernel
theorem dX9_row_17 : decode cX9_row 17 = .ok (.bipush 40, 2) := by decide +kernel
theorem dX9_row_19 : decode cX9_row 19 = .ok (.if_icmp .le 6, 3) := by decide +kernel
theorem dX9_row_22 : decode cX9_row 22 = .ok (.ldc 67, 2) := by decide +kernel
theorem dX9_row_24 : decode cX9_row 24 = .ok (.ireturn, 1) := by decide +kernel
theorem dX9_row_25 : decode cX9_row 25 = .ok (.iload_n 3, 1) := by decide +kernel
theorem dX9_row_26 : decode cX9_row 26 = .ok (.ifCond .ge 9, 3) := by decide +kernel
theorem dX9_row_29 : decode cX9_row 29 = .ok (.aload_n 0, 1) := by decide +kernel
theorem dX9_row_30 : decode cX9_row 30 = .ok (.iconst 4, 1) := by decide +kernel
theorem dX9_row_31 : decode cX9_row 31 = .ok (.invokevirtual 68, 3) := by decide +kernel
theorem dX9_row_34 : decode cX9_row 34 = .ok (.ireturn, 1) := by decide +kernel
theorem dX9_row_35 : decode cX9_row 35 = .ok (.aload_n 0, 1) := by decide +kernel
theorem dX9_row_36 : decode cX9_row 36 = .ok (.getfield 7, 3) := by decide +kernel
theorem dX9_row_39 : decode cX9_row 39 = .ok (.iload_n 1, 1) := by decide +kernel
theorem dX9_row_40 : decode cX9_row 40 = .ok (.iload_n 2, 1) := by decide +kernel
theorem dX9_row_41 : decode cX9_row 41 = .ok (.iastore, 1) := by decide +kernel
theorem dX9_row_42 : decode cX9_row 42 = .ok (.aload_n 0, 1) := by decide +kernel
theorem dX9_row_43 : decode cX9_row 43 = .ok (.getfield 13, 3) := by decide +kernel
theorem dX9_row_46 : decode cX9_row 46 = .ok (.iload_n 1, 1) := by decide +kernel
theorem dX9_row_47 : decode cX9_row 47 = .ok (.iload_n 3, 1) := by decide +kernel
theorem dX9_row_48 : decode cX9_row 48 = .ok (.iastore, 1) := by decide +kernel
theorem dX9_row_49 : decode cX9_row 49 = .ok (.iconst 0, 1) := by decide +kernel
theorem dX9_row_50 : decode cX9_row 50 = .ok (.istore 4, 2) := by decide +kernel
theorem dX9_row_52 : decode cX9_row 52 = .ok (.iload 4, 2) := by decide +kernel
theorem dX9_row_54 : decode cX9_row 54 = .ok (.bipush 40, 2) := by decide +kernel
theorem dX9_row_56 : decode cX9_row 56 = .ok (.if_icmp .ge 22, 3) := by decide +kernel
theorem dX9_row_59 : decode cX9_row 59 = .ok (.aload_n 0, 1) := by decide +kernel
theorem dX9_row_60 : decode cX9_row 60 = .ok (.getfield 16, 3) := by decide +kernel
theorem dX9_row_63 : decode cX9_row 63 = .ok (.bipush 40, 2) := by decide +kernel
theorem dX9_row_65 : decode cX9_row 65 = .ok (.iload_n 1, 1) := by decide +kernel
theorem dX9_row_66 : decode cX9_row 66 = .ok (.imul, 1) := by decide +kernel
theorem dX9_row_67 : decode cX9_row 67 = .ok (.iload 4, 2) := by decide +kernel
theorem dX9_row_69 : decode cX9_row 69 = .ok (.iadd, 1) := by decide +kernel
theorem dX9_row_70 : decode cX9_row 70 = .ok (.iconst 0, 1) := by decide +kernel
theorem dX9_row_71 : decode cX9_row 71 = .ok (.iastore, 1) := by decide +kernel
theorem dX9_row_72 : decode cX9_row 72 = .ok (.iinc 4 1, 3) := by decide +kernel
theorem dX9_row_75 : decode cX9_row 75 = .ok (.goto (-23), 3) := by decide +kernel
theorem dX9_row_78 : decode cX9_row 78 = .ok (.aload_n 0, 1) := by decide +kernel
theorem dX9_row_79 : decode cX9_row 79 = .ok (.iload_n 3, 1) := by decide +kernel
theorem dX9_row_80 : decode cX9_row 80 = .ok (.invokevirtual 72, 3) := by decide +kernel
theorem dX9_row_83 : decode cX9_row 83 = .ok (.ireturn, 1) := by decide +kernel
theorem dX9_set_0 : decode cX9_set 0 = .ok (.iload_n 1, 1) := by decide +kernel
theorem dX9_set_1 : decode cX9_set 1 = .ok (.invokestatic 63, 3) := by decide +kernel
theorem dX9_set_4 : decode cX9_set 4 = .ok (.ifCond .ne 6, 3) := by decide +kernel
theorem dX9_set_7 : decode cX9_set 7 = .ok (.ldc 67, 2) := by decide +kernel
theorem dX9_set_9 : decode cX9_set 9 = .ok (.ireturn, 1) := by decide +kernel
theorem dX9_set_10 : decode cX9_set 10 = .ok (.aload_n 0, 1) := by decide +kernel
theorem dX9_set_11 : decode cX9_set 11 = .ok (.iload_n 1, 1) := by decide +kernel
theorem dX9_set_12 : decode cX9_set 12 = .ok (.invokevirtual 75, 3) := by decide +kernel
theorem dX9_set_15 : decode cX9_set 15 = .ok (.ifCond .eq 9, 3) := by decide +kernel
theorem dX9_set_18 : decode cX9_set 18 = .ok (.aload_n 0, 1) := by decide +kernel
theorem dX9_set_19 : decode cX9_set 19 = .ok (.iconst 1, 1) := by decide +kernel
theorem dX9_set_20 : decode cX9_set 20 = .ok (.invokevirtual 68, 3) := by decide +kernel
theorem dX9_set_23 : decode cX9_set 23 = .ok (.ireturn, 1) := by decide +kernel
theorem dX9_set_24 : decode cX9_set 24 = .ok (.iload_n 2, 1) := by decide +kernel
theorem dX9_set_25 : decode cX9_set 25 = .ok (.iconst 0, 1) := by decide +kernel
theorem dX9_set_26 : decode cX9_set 26 = .ok (.aload_n 0, 1) := by decide +kernel
theorem dX9_set_27 : decode cX9_set 27 = .ok (.getfield 13, 3) := by decide +kernel
theorem dX9_set_30 : decode cX9_set 30 = .ok (.iload_n 1, 1) := by decide +kernel
theorem dX9_set_31 : decode cX9_set 31 = .ok (.iaload, 1) := by decide +kernel
theorem dX9_set_32 : decode cX9_set 32 = .ok (.iconst 1, 1) := by decide +kernel
theorem dX9_set_33 : decode cX9_set 33 = .ok (.isub, 1) := by decide +kernel
theorem dX9_set_34 : decode cX9_set 34 = .ok (.invokestatic 59, 3) := by decide +kernel
theorem dX9_set_37 : decode cX9_set 37 = .ok (.ifCond .ne 9, 3) := by decide +kernel
theorem dX9_set_40 : decode cX9_set 40 = .ok (.aload_n 0, 1) := by decide +kernel
theorem dX9_set_41 : decode cX9_set 41 = .ok (.iconst 2, 1) := by decide +kernel
theorem dX9_set_42 : decode cX9_set 42 = .ok (.invokevirtual 68, 3) := by decide +kernel
theorem dX9_set_45 : decode cX9_set 45 = .ok (.ireturn, 1) := by decide +kernel
theorem dX9_set_46 : decode cX9_set 46 = .ok (.aload_n 0, 1) := by decide +kernel
theorem dX9_set_47 : decode cX9_set 47 = .ok (.getfield 16, 3) := by decide +kernel
theorem dX9_set_50 : decode cX9_set 50 = .ok (.bipush 40, 2) := by decide +kernel
theorem dX9_set_52 : decode cX9_set 52 = .ok (.iload_n 1, 1) := by decide +kernel
theorem dX9_set_53 : decode cX9_set 53 = .ok (.imul, 1) := by decide +kernel
theorem dX9_set_54 : decode cX9_set 54 = .ok (.iload_n 2, 1) := by decide +kernel
theorem dX9_set_55 : decode cX9_set 55 = .ok (.iadd, 1) := by decide +kernel
theorem dX9_set_56 : decode cX9_set 56 = .ok (.aload_n 0, 1) := by decide +kernel
theorem dX9_set_57 : decode cX9_set 57 = .ok (.getfield 7, 3) := by decide +kernel
theorem dX9_set_60 : decode cX9_set 60 = .ok (.iload_n 1, 1) := by decide +kernel
theorem dX9_set_61 : decode cX9_set 61 = .ok (.iaload, 1) := by decide +kernel
theorem dX9_set_62 : decode cX9_set 62 = .ok (.iload_n 3, 1) := by decide +kernel
theorem dX9_set_63 : decode cX9_set 63 = .ok (.invokestatic 78, 3) := by decide +kernel
theorem dX9_set_66 : decode cX9_set 66 = .ok (.iastore, 1) := by decide +kernel
theorem dX9_set_67 : decode cX9_set 67 = .ok (.aload_n 0, 1) := by decide +kernel
theorem dX9_set_68 : decode cX9_set 68 = .ok (.aload_n 0, 1) := by decide +kernel
theorem dX9_set_69 : decode cX9_set 69 = .ok (.getfield 16, 3) := by decide +kernel
theorem dX9_set_72 : decode cX9_set 72 = .ok (.bipush 40, 2) := by decide +kernel
theorem dX9_set_74 : decode cX9_set 74 = .ok (.iload_n 1, 1) := by decide +kernel
theorem dX9_set_75 : decode cX9_set 75 = .ok (.imul, 1) := by decide +kernel
theorem dX9_set_76 : decode cX9_set 76 = .ok (.iload_n 2, 1) := by decide +kernel
theorem dX9_set_77 : decode cX9_set 77 = .ok (.iadd, 1) := by decide +kernel
theorem dX9_set_78 : decode cX9_set 78 = .ok (.iaload, 1) := by decide +kernel
theorem dX9_set_79 : decode cX9_set 79 = .ok (.invokevirtual 72, 3) := by decide +kernel
theorem dX9_set_82 : decode cX9_set 82 = .ok (.ireturn, 1) := by decide +kernel
theorem dX9_isPart_0 : decode cX9_isPart 0 = .ok (.iload_n 2, 1) := by decide +kernel
theorem dX9_isPart_1 : decode cX9_isPart 1 = .ok (.ifCond .lt 33, 3) := by decide +kernel
theorem dX9_isPart_4 : decode cX9_isPart 4 = .ok (.iload_n 3, 1) := by decide +kernel
theorem dX9_isPart_5 : decode cX9_isPart 5 = .ok (.ifCond .lt 29, 3) := by decide +kernel
theorem dX9_isPart_8 : decode cX9_isPart 8 = .ok (.iload_n 2, 1) := by decide +kernel
theorem dX9_isPart_9 : decode cX9_isPart 9 = .ok (.aload_n 0, 1) := by decide +kernel
theorem dX9_isPart_10 : decode cX9_isPart 10 = .ok (.getfield 13, 3) := by decide +kernel
theorem dX9_isPart_13 : decode cX9_isPart 13 = .ok (.iload_n 1, 1) := by decide +kernel
theorem dX9_isPart_14 : decode cX9_isPart 14 = .ok (.iaload, 1) := by decide +kernel
theorem dX9_isPart_15 : decode cX9_isPart 15 = .ok (.if_icmp .gt 19, 3) := by decide +kernel
theorem dX9_isPart_18 : decode cX9_isPart 18 = .ok (.iload_n 3, 1) := by decide +kernel
theorem dX9_isPart_19 : decode cX9_isPart 19 = .ok (.aload_n 0, 1) := by decide +kernel
theorem dX9_isPart_20 : decode cX9_isPart 20 = .ok (.getfield 13, 3) := by decide +kernel
theorem dX9_isPart_23 : decode cX9_isPart 23 = .ok (.iload_n 1, 1) := by decide +kernel
theorem dX9_isPart_24 : decode cX9_isPart 24 = .ok (.iaload, 1) := by decide +kernel
theorem dX9_isPart_25 : decode cX9_isPart 25 = .ok (.iload_n 2, 1) := by decide +kernel
theorem dX9_isPart_26 : decode cX9_isPart 26 = .ok (.isub, 1) := by decide +kernel
theorem dX9_isPart_27 : decode cX9_isPart 27 = .ok (.if_icmp .gt 7, 3) := by decide +kernel
theorem dX9_isPart_30 : decode cX9_isPart 30 = .ok (.iconst 1, 1) := by decide +kernel
theorem dX9_isPart_31 : decode cX9_isPart 31 = .ok (.goto 4, 3) := by decide +kernel
theorem dX9_isPart_34 : decode cX9_isPart 34 = .ok (.iconst 0, 1) := by decide +kernel
theorem dX9_isPart_35 : decode cX9_isPart 35 = .ok (.ireturn, 1) := by decide +kernel
theorem dX9_copy_0 : decode cX9_copy 0 = .ok (.iload_n 1, 1) := by decide +kernel
theorem dX9_copy_1 : decode cX9_copy 1 = .ok (.invokestatic 63, 3) := by decide +kernel
theorem dX9_copy_4 : decode cX9_copy 4 = .ok (.ifCond .eq 10, 3) := by decide +kernel
theorem dX9_copy_7 : decode cX9_copy 7 = .ok (.iload_n 3, 1) := by decide +kernel
theorem dX9_copy_8 : decode cX9_copy 8 = .ok (.invokestatic 63, 3) := by decide +kernel
theorem dX9_copy_11 : decode cX9_copy 11 = .ok (.ifCond .ne 6, 3) := by decide +kernel
theorem dX9_copy_14 : decode cX9_copy 14 = .ok (.ldc 67, 2) := by decide +kernel
theorem dX9_copy_16 : decode cX9_copy 16 = .ok (.ireturn, 1) := by decide +kernel
theorem dX9_copy_17 : decode cX9_copy 17 = .ok (.aload_n 0, 1) := by decide +kernel
theorem dX9_copy_18 : decode cX9_copy 18 = .ok (.iload_n 1, 1) := by decide +kernel
theorem dX9_copy_19 : decode cX9_copy 19 = .ok (.invokevirtual 75, 3) := by decide +kernel
theorem dX9_copy_22 : decode cX9_copy 22 = .ok (.ifCond .ne 11, 3) := by decide +kernel
theorem dX9_copy_25 : decode cX9_copy 25 = .ok (.aload_n 0, 1) := by decide +kernel
theorem dX9_copy_26 : decode cX9_copy 26 = .ok (.iload_n 3, 1) := by decide +kernel
theorem dX9_copy_27 : decode cX9_copy 27 = .ok (.invokevirtual 75, 3) := by decide +kernel
theorem dX9_copy_30 : decode cX9_copy 30 = .ok (.ifCond .eq 9, 3) := by decide +kernel
theorem dX9_copy_33 : decode cX9_copy 33 = .ok (.aload_n 0, 1) := by decide +kernel
theorem dX9_copy_34 : decode cX9_copy 34 = .ok (.iconst 1, 1) := by decide +kernel
theorem dX9_copy_35 : decode cX9_copy 35 = .ok (.invokevirtual 68, 3) := by decide +kernel
theorem dX9_copy_38 : decode cX9_copy 38 = .ok (.ireturn, 1) := by decide +kernel
theorem dX9_copy_39 : decode cX9_copy 39 = .ok (.aload_n 0, 1) := by decide +kernel
theorem dX9_copy_40 : decode cX9_copy 40 = .ok (.getfield 7, 3) := by decide +kernel
theorem dX9_copy_43 : decode cX9_copy 43 = .ok (.iload_n 1, 1) := by decide +kernel
theorem dX9_copy_44 : decode cX9_copy 44 = .ok (.iaload, 1) := by decide +kernel
theorem dX9_copy_45 : decode cX9_copy 45 = .ok (.aload_n 0, 1) := by decide +kernel
theorem dX9_copy_46 : decode cX9_copy 46 = .ok (.getfield 7, 3) := by decide +kernel
theorem dX9_copy_49 : decode cX9_copy 49 = .ok (.iload_n 3, 1) := by decide +kernel
theorem dX9_copy_50 : decode cX9_copy 50 = .ok (.iaload, 1) := by decide +kernel
theorem dX9_copy_51 : decode cX9_copy 51 = .ok (.if_icmp .eq 9, 3) := by decide +kernel
theorem dX9_copy_54 : decode cX9_copy 54 = .ok (.aload_n 0, 1) := by decide +kernel
theorem dX9_copy_55 : decode cX9_copy 55 = .ok (.iconst 5, 1) := by decide +kernel
theorem dX9_copy_56 : decode cX9_copy 56 = .ok (.invokevirtual 68, 3) := by decide +kernel
theorem dX9_copy_59 : decode cX9_copy 59 = .ok (.ireturn, 1) := by decide +kernel
theorem dX9_copy_60 : decode cX9_copy 60 = .ok (.aload_n 0, 1) := by decide +kernel
theorem dX9_copy_61 : decode cX9_copy 61 = .ok (.iload_n 1, 1) := by decide +kernel
theorem dX9_copy_62 : decode cX9_copy 62 = .ok (.iload_n 2, 1) := by decide +kernel
theorem dX9_copy_63 : decode cX9_copy 63 = .ok (.iload 5, 2) := by decide +kernel
theorem dX9_copy_65 : decode cX9_copy 65 = .ok (.invokevirtual 82, 3) := by decide +kernel
theorem dX9_copy_68 : decode cX9_copy 68 = .ok (.ifCond .eq 15, 3) := by decide +kernel
theorem dX9_copy_71 : decode cX9_copy 71 = .ok (.aload_n 0, 1) := by decide +kernel
theorem dX9_copy_72 : decode cX9_copy 72 = .ok (.iload_n 3, 1) := by decide +kernel
theorem dX9_copy_73 : decode cX9_copy 73 = .ok (.iload 4, 2) := by decide +kernel
theorem dX9_copy_75 : decode cX9_copy 75 = .ok (.iload 5, 2) := by decide +kernel
theorem dX9_copy_77 : decode cX9_copy 77 = .ok (.invokevirtual 82, 3) := by decide +kernel
theorem dX9_copy_80 : decode cX9_copy 80 = .ok (.ifCond .ne 9, 3) := by decide +kernel
theorem dX9_copy_83 : decode cX9_copy 83 = .ok (.aload_n 0, 1) := by decide +kernel
theorem dX9_copy_84 : decode cX9_copy 84 = .ok (.iconst 2, 1) := by decide +kernel
theorem dX9_copy_85 : decode cX9_copy 85 = .ok (.invokevirtual 68, 3) := by decide +kernel
theorem dX9_copy_88 : decode cX9_copy 88 = .ok (.ireturn, 1) := by decide +kernel
theorem dX9_copy_89 : decode cX9_copy 89 = .ok (.iconst 0, 1) := by decide +kernel
theorem dX9_copy_90 : decode cX9_copy 90 = .ok (.istore 6, 2) := by decide +kernel
theorem dX9_copy_92 : decode cX9_copy 92 = .ok (.iload 6, 2) := by decide +kernel
theorem dX9_copy_94 : decode cX9_copy 94 = .ok (.iload 5, 2) := by decide +kernel
theorem dX9_copy_96 : decode cX9_copy 96 = .ok (.if_icmp .ge 30, 3) := by decide +kernel
theorem dX9_copy_99 : decode cX9_copy 99 = .ok (.aload_n 0, 1) := by decide +kernel
theorem dX9_copy_100 : decode cX9_copy 100 = .ok (.getfield 19, 3) := by decide +kernel
theorem dX9_copy_103 : decode cX9_copy 103 = .ok (.iload 6, 2) := by decide +kernel
theorem dX9_copy_105 : decode cX9_copy 105 = .ok (.aload_n 0, 1) := by decide +kernel
theorem dX9_copy_106 : decode cX9_copy 106 = .ok (.getfield 16, 3) := by decide +kernel
theorem dX9_copy_109 : decode cX9_copy 109 = .ok (.bipush 40, 2) := by decide +kernel
theorem dX9_copy_111 : decode cX9_copy 111 = .ok (.iload_n 1, 1) := by decide +kernel
theorem dX9_copy_112 : decode cX9_copy 112 = .ok (.imul, 1) := by decide +kernel
theorem dX9_copy_113 : decode cX9_copy 113 = .ok (.iload_n 2, 1) := by decide +kernel
theorem dX9_copy_114 : decode cX9_copy 114 = .ok (.iadd, 1) := by decide +kernel
theorem dX9_copy_115 : decode cX9_copy 115 = .ok (.iload 6, 2) := by decide +kernel
theorem dX9_copy_117 : decode cX9_copy 117 = .ok (.iadd, 1) := by decide +kernel
theorem dX9_copy_118 : decode cX9_copy 118 = .ok (.iaload, 1) := by decide +kernel
theorem dX9_copy_119 : decode cX9_copy 119 = .ok (.iastore, 1) := by decide +kernel
theorem dX9_copy_120 : decode cX9_copy 120 = .ok (.iinc 6 1, 3) := by decide +kernel
theorem dX9_copy_123 : decode cX9_copy 123 = .ok (.goto (-31), 3) := by decide +kernel
theorem dX9_copy_126 : decode cX9_copy 126 = .ok (.iconst 0, 1) := by decide +kernel
theorem dX9_copy_127 : decode cX9_copy 127 = .ok (.istore 6, 2) := by decide +kernel
theorem dX9_copy_129 : decode cX9_copy 129 = .ok (.iload 6, 2) := by decide +kernel
theorem dX9_copy_131 : decode cX9_copy 131 = .ok (.iload 5, 2) := by decide +kernel
theorem dX9_copy_133 : decode cX9_copy 133 = .ok (.if_icmp .ge 31, 3) := by decide +kernel
theorem dX9_copy_136 : decode cX9_copy 136 = .ok (.aload_n 0, 1) := by decide +kernel
theorem dX9_copy_137 : decode cX9_copy 137 = .ok (.getfield 16, 3) := by decide +kernel
theorem dX9_copy_140 : decode cX9_copy 140 = .ok (.bipush 40, 2) := by decide +kernel
theorem dX9_copy_142 : decode cX9_copy 142 = .ok (.iload_n 3, 1) := by decide +kernel
theorem dX9_copy_143 : decode cX9_copy 143 = .ok (.imul, 1) := by decide +kernel
theorem dX9_copy_144 : decode cX9_copy 144 = .ok (.iload 4, 2) := by decide +kernel
theorem dX9_copy_146 : decode cX9_copy 146 = .ok (.iadd, 1) := by decide +kernel
theorem dX9_copy_147 : decode cX9_copy 147 = .ok (.iload 6, 2) := by decide +kernel
theorem dX9_copy_149 : decode cX9_copy 149 = .ok (.iadd, 1) := by decide +kernel
theorem dX9_copy_150 : decode cX9_copy 150 = .ok (.aload_n 0, 1) := by decide +kernel
theorem dX9_copy_151 : decode cX9_copy 151 = .ok (.getfield 19, 3) := by decide +kernel
theorem dX9_copy_154 : decode cX9_copy 154 = .ok (.iload 6, 2) := by decide +kernel
theorem dX9_copy_156 : decode cX9_copy 156 = .ok (.iaload, 1) := by decide +kernel
theorem dX9_copy_157 : decode cX9_copy 157 = .ok (.iastore, 1) := by decide +kernel
theorem dX9_copy_158 : decode cX9_copy 158 = .ok (.iinc 6 1, 3) := by decide +kernel
theorem dX9_copy_161 : decode cX9_copy 161 = .ok (.goto (-32), 3) := by decide +kernel
theorem dX9_copy_164 : decode cX9_copy 164 = .ok (.aload_n 0, 1) := by decide +kernel
theorem dX9_copy_165 : decode cX9_copy 165 = .ok (.iload 5, 2) := by decide +kernel
theorem dX9_copy_167 : decode cX9_copy 167 = .ok (.invokevirtual 72, 3) := by decide +kernel
theorem dX9_copy_170 : decode cX9_copy 170 = .ok (.ireturn, 1) := by decide +kernel
theorem dX9_drop_0 : decode cX9_drop 0 = .ok (.iload_n 1, 1) := by decide +kernel
theorem dX9_drop_1 : decode cX9_drop 1 = .ok (.invokestatic 63, 3) := by decide +kernel
theorem dX9_drop_4 : decode cX9_drop 4 = .ok (.ifCond .ne 6, 3) := by decide +kernel
theorem dX9_drop_7 : decode cX9_drop 7 = .ok (.ldc 67, 2) := by decide +kernel
theorem dX9_drop_9 : decode cX9_drop 9 = .ok (.ireturn, 1) := by decide +kernel
theorem dX9_drop_10 : decode cX9_drop 10 = .ok (.aload_n 0, 1) := by decide +kernel
theorem dX9_drop_11 : decode cX9_drop 11 = .ok (.iload_n 1, 1) := by decide +kernel
theorem dX9_drop_12 : decode cX9_drop 12 = .ok (.invokevirtual 75, 3) := by decide +kernel
theorem dX9_drop_15 : decode cX9_drop 15 = .ok (.ifCond .eq 9, 3) := by decide +kernel
theorem dX9_drop_18 : decode cX9_drop 18 = .ok (.aload_n 0, 1) := by decide +kernel
theorem dX9_drop_19 : decode cX9_drop 19 = .ok (.iconst 1, 1) := by decide +kernel
theorem dX9_drop_20 : decode cX9_drop 20 = .ok (.invokevirtual 68, 3) := by decide +kernel
theorem dX9_drop_23 : decode cX9_drop 23 = .ok (.ireturn, 1) := by decide +kernel
theorem dX9_drop_24 : decode cX9_drop 24 = .ok (.aload_n 0, 1) := by decide +kernel
theorem dX9_drop_25 : decode cX9_drop 25 = .ok (.getfield 7, 3) := by decide +kernel
theorem dX9_drop_28 : decode cX9_drop 28 = .ok (.iload_n 1, 1) := by decide +kernel
theorem dX9_drop_29 : decode cX9_drop 29 = .ok (.ldc 53, 2) := by decide +kernel
theorem dX9_drop_31 : decode cX9_drop 31 = .ok (.iastore, 1) := by decide +kernel
theorem dX9_drop_32 : decode cX9_drop 32 = .ok (.aload_n 0, 1) := by decide +kernel
theorem dX9_drop_33 : decode cX9_drop 33 = .ok (.aload_n 0, 1) := by decide +kernel
theorem dX9_drop_34 : decode cX9_drop 34 = .ok (.getfield 13, 3) := by decide +kernel
theorem dX9_drop_37 : decode cX9_drop 37 = .ok (.iload_n 1, 1) := by decide +kernel
theorem dX9_drop_38 : decode cX9_drop 38 = .ok (.iaload, 1) := by decide +kernel
theorem dX9_drop_39 : decode cX9_drop 39 = .ok (.invokevirtual 72, 3) := by decide +kernel
theorem dX9_drop_42 : decode cX9_drop 42 = .ok (.ireturn, 1) := by decide +kernel
theorem dX9_feed_0 : decode cX9_feed 0 = .ok (.iload_n 1, 1) := by decide +kernel
theorem dX9_feed_1 : decode cX9_feed 1 = .ok (.iconst 0, 1) := by decide +kernel
theorem dX9_feed_2 : decode cX9_feed 2 = .ok (.sipush 255, 3) := by decide +kernel
theorem dX9_feed_5 : decode cX9_feed 5 = .ok (.invokestatic 59, 3) := by decide +kernel
theorem dX9_feed_8 : decode cX9_feed 8 = .ok (.ifCond .ne 6, 3) := by decide +kernel
theorem dX9_feed_11 : decode cX9_feed 11 = .ok (.ldc 67, 2) := by decide +kernel
theorem dX9_feed_13 : decode cX9_feed 13 = .ok (.ireturn, 1) := by decide +kernel
theorem dX9_feed_14 : decode cX9_feed 14 = .ok (.aload_n 0, 1) := by decide +kernel
theorem dX9_feed_15 : decode cX9_feed 15 = .ok (.getfield 85, 3) := by decide +kernel
theorem dX9_feed_18 : decode cX9_feed 18 = .ok (.bipush 120, 2) := by decide +kernel
theorem dX9_feed_20 : decode cX9_feed 20 = .ok (.if_icmp .ne 6, 3) := by decide +kernel
theorem dX9_feed_23 : decode cX9_feed 23 = .ok (.ldc 88, 2) := by decide +kernel
theorem dX9_feed_25 : decode cX9_feed 25 = .ok (.ireturn, 1) := by decide +kernel
theorem dX9_feed_26 : decode cX9_feed 26 = .ok (.aload_n 0, 1) := by decide +kernel
theorem dX9_feed_27 : decode cX9_feed 27 = .ok (.getfield 22, 3) := by decide +kernel
theorem dX9_feed_30 : decode cX9_feed 30 = .ok (.aload_n 0, 1) := by decide +kernel
theorem dX9_feed_31 : decode cX9_feed 31 = .ok (.getfield 85, 3) := by decide +kernel
theorem dX9_feed_34 : decode cX9_feed 34 = .ok (.iload_n 1, 1) := by decide +kernel
theorem dX9_feed_35 : decode cX9_feed 35 = .ok (.iastore, 1) := by decide +kernel
theorem dX9_feed_36 : decode cX9_feed 36 = .ok (.aload_n 0, 1) := by decide +kernel
theorem dX9_feed_37 : decode cX9_feed 37 = .ok (.dup, 1) := by decide +kernel
theorem dX9_feed_38 : decode cX9_feed 38 = .ok (.getfield 85, 3) := by decide +kernel
theorem dX9_feed_41 : decode cX9_feed 41 = .ok (.iconst 1, 1) := by decide +kernel
theorem dX9_feed_42 : decode cX9_feed 42 = .ok (.iadd, 1) := by decide +kernel
theorem dX9_feed_43 : decode cX9_feed 43 = .ok (.putfield 85, 3) := by decide +kernel
theorem dX9_feed_46 : decode cX9_feed 46 = .ok (.aload_n 0, 1) := by decide +kernel
theorem dX9_feed_47 : decode cX9_feed 47 = .ok (.getfield 85, 3) := by decide +kernel
theorem dX9_feed_50 : decode cX9_feed 50 = .ok (.ireturn, 1) := by decide +kernel
theorem dX9_byteAt_0 : decode cX9_byteAt 0 = .ok (.iload_n 1, 1) := by decide +kernel
theorem dX9_byteAt_1 : decode cX9_byteAt 1 = .ok (.aload_n 0, 1) := by decide +kernel
theorem dX9_byteAt_2 : decode cX9_byteAt 2 = .ok (.getfield 85, 3) := by decide +kernel
theorem dX9_byteAt_5 : decode cX9_byteAt 5 = .ok (.if_icmp .ge 12, 3) := by decide +kernel
theorem dX9_byteAt_8 : decode cX9_byteAt 8 = .ok (.aload_n 0, 1) := by decide +kernel
theorem dX9_byteAt_9 : decode cX9_byteAt 9 = .ok (.getfield 22, 3) := by decide +kernel
theorem dX9_byteAt_12 : decode cX9_byteAt 12 = .ok (.iload_n 1, 1) := by decide +kernel
theorem dX9_byteAt_13 : decode cX9_byteAt 13 = .ok (.iaload, 1) := by decide +kernel
theorem dX9_byteAt_14 : decode cX9_byteAt 14 = .ok (.goto 4, 3) := by decide +kernel
theorem dX9_byteAt_17 : decode cX9_byteAt 17 = .ok (.iconst (-1), 1) := by decide +kernel
theorem dX9_byteAt_18 : decode cX9_byteAt 18 = .ok (.ireturn, 1) := by decide +kernel
theorem dX9_advances_0 : decode cX9_advances 0 = .ok (.aload_n 0, 1) := by decide +kernel
theorem dX9_advances_1 : decode cX9_advances 1 = .ok (.aload_n 0, 1) := by decide +kernel
theorem dX9_advances_2 : decode cX9_advances 2 = .ok (.getfield 89, 3) := by decide +kernel
theorem dX9_advances_5 : decode cX9_advances 5 = .ok (.putfield 92, 3) := by decide +kernel
theorem dX9_advances_8 : decode cX9_advances 8 = .ok (.aload_n 0, 1) := by decide +kernel
theorem dX9_advances_9 : decode cX9_advances 9 = .ok (.aload_n 0, 1) := by decide +kernel
theorem dX9_advances_10 : decode cX9_advances 10 = .ok (.getfield 89, 3) := by decide +kernel
theorem dX9_advances_13 : decode cX9_advances 13 = .ok (.invokevirtual 95, 3) := by decide +kernel
theorem dX9_advances_16 : decode cX9_advances 16 = .ok (.istore_n 1, 1) := by decide +kernel
theorem dX9_advances_17 : decode cX9_advances 17 = .ok (.aload_n 0, 1) := by decide +kernel
theorem dX9_advances_18 : decode cX9_advances 18 = .ok (.iload_n 1, 1) := by decide +kernel
theorem dX9_advances_19 : decode cX9_advances 19 = .ok (.putfield 98, 3) := by decide +kernel
theorem dX9_advances_22 : decode cX9_advances 22 = .ok (.iload_n 1, 1) := by decide +kernel
theorem dX9_advances_23 : decode cX9_advances 23 = .ok (.bipush 48, 2) := by decide +kernel
theorem dX9_advances_25 : decode cX9_advances 25 = .ok (.bipush 57, 2) := by decide +kernel
theorem dX9_advances_27 : decode cX9_advances 27 = .ok (.invokestatic 59, 3) := by decide +kernel
theorem dX9_advances_30 : decode cX9_advances 30 = .ok (.ifCond .eq 105, 3) := by decide +kernel
theorem dX9_advances_33 : decode cX9_advances 33 = .ok (.aload_n 0, 1) := by decide +kernel
theorem dX9_advances_34 : decode cX9_advances 34 = .ok (.iconst 0, 1) := by decide +kernel
theorem dX9_advances_35 : decode cX9_advances 35 = .ok (.putfield 98, 3) := by decide +kernel
theorem dX9_advances_38 : decode cX9_advances 38 = .ok (.aload_n 0, 1) := by decide +kernel
theorem dX9_advances_39 : decode cX9_advances 39 = .ok (.aload_n 0, 1) := by decide +kernel
theorem dX9_advances_40 : decode cX9_advances 40 = .ok (.getfield 89, 3) := by decide +kernel
theorem dX9_advances_43 : decode cX9_advances 43 = .ok (.invokevirtual 95, 3) := by decide +kernel
theorem dX9_advances_46 : decode cX9_advances 46 = .ok (.bipush 48, 2) := by decide +kernel
theorem dX9_advances_48 : decode cX9_advances 48 = .ok (.bipush 57, 2) := by decide +kernel
theorem dX9_advances_50 : decode cX9_advances 50 = .ok (.invokestatic 59, 3) := by decide +kernel
theorem dX9_advances_53 : decode cX9_advances 53 = .ok (.ifCond .eq 59, 3) := by decide +kernel
theorem dX9_advances_56 : decode cX9_advances 56 = .ok (.aload_n 0, 1) := by decide +kernel
theorem dX9_advances_57 : decode cX9_advances 57 = .ok (.aload_n 0, 1) := by decide +kernel
theorem dX9_advances_58 : decode cX9_advances 58 = .ok (.getfield 89, 3) := by decide +kernel
theorem dX9_advances_61 : decode cX9_advances 61 = .ok (.aload_n 0, 1) := by decide +kernel
theorem dX9_advances_62 : decode cX9_advances 62 = .ok (.getfield 92, 3) := by decide +kernel
theorem dX9_advances_65 : decode cX9_advances 65 = .ok (.isub, 1) := by decide +kernel
theorem dX9_advances_66 : decode cX9_advances 66 = .ok (.iconst 2, 1) := by decide +kernel
theorem dX9_advances_67 : decode cX9_advances 67 = .ok (.if_icmp .ge 25, 3) := by decide +kernel
theorem dX9_advances_70 : decode cX9_advances 70 = .ok (.bipush 10, 2) := by decide +kernel
theorem dX9_advances_72 : decode cX9_advances 72 = .ok (.aload_n 0, 1) := by decide +kernel
theorem dX9_advances_73 : decode cX9_advances 73 = .ok (.getfield 98, 3) := by decide +kernel
theorem dX9_advances_76 : decode cX9_advances 76 = .ok (.imul, 1) := by decide +kernel
theorem dX9_advances_77 : decode cX9_advances 77 = .ok (.aload_n 0, 1) := by decide +kernel
theorem dX9_advances_78 : decode cX9_advances 78 = .ok (.aload_n 0, 1) := by decide +kernel
theorem dX9_advances_79 : decode cX9_advances 79 = .ok (.getfield 89, 3) := by decide +kernel
theorem dX9_advances_82 : decode cX9_advances 82 = .ok (.invokevirtual 95, 3) := by decide +kernel
theorem dX9_advances_85 : decode cX9_advances 85 = .ok (.iadd, 1) := by decide +kernel
theorem dX9_advances_86 : decode cX9_advances 86 = .ok (.bipush 48, 2) := by decide +kernel
theorem dX9_advances_88 : decode cX9_advances 88 = .ok (.isub, 1) := by decide +kernel
theorem dX9_advances_89 : decode cX9_advances 89 = .ok (.goto 7, 3) := by decide +kernel
theorem dX9_advances_92 : decode cX9_advances 92 = .ok (.aload_n 0, 1) := by decide +kernel
theorem dX9_advances_93 : decode cX9_advances 93 = .ok (.getfield 98, 3) := by decide +kernel
theorem dX9_advances_96 : decode cX9_advances 96 = .ok (.putfield 98, 3) := by decide +kernel
theorem dX9_advances_99 : decode cX9_advances 99 = .ok (.aload_n 0, 1) := by decide +kernel
theorem dX9_advances_100 : decode cX9_advances 100 = .ok (.dup, 1) := by decide +kernel
theorem dX9_advances_101 : decode cX9_advances 101 = .ok (.getfield 89, 3) := by decide +kernel
theorem dX9_advances_104 : decode cX9_advances 104 = .ok (.iconst 1, 1) := by decide +kernel
theorem dX9_advances_105 : decode cX9_advances 105 = .ok (.iadd, 1) := by decide +kernel
theorem dX9_advances_106 : decode cX9_advances 106 = .ok (.putfield 89, 3) := by decide +kernel
theorem dX9_advances_109 : decode cX9_advances 109 = .ok (.goto (-71), 3) := by decide +kernel
theorem dX9_advances_112 : decode cX9_advances 112 = .ok (.aload_n 0, 1) := by decide +kernel
theorem dX9_advances_113 : decode cX9_advances 113 = .ok (.aload_n 0, 1) := by decide +kernel
theorem dX9_advances_114 : decode cX9_advances 114 = .ok (.getfield 89, 3) := by decide +kernel
theorem dX9_advances_117 : decode cX9_advances 117 = .ok (.aload_n 0, 1) := by decide +kernel
theorem dX9_advances_118 : decode cX9_advances 118 = .ok (.getfield 92, 3) := by decide +kernel
theorem dX9_advances_121 : decode cX9_advances 121 = .ok (.isub, 1) := by decide +kernel
theorem dX9_advances_122 : decode cX9_advances 122 = .ok (.iconst 3, 1) := by decide +kernel
theorem dX9_advances_123 : decode cX9_advances 123 = .ok (.if_icmp .ge 7, 3) := by decide +kernel
theorem dX9_advances_126 : decode cX9_advances 126 = .ok (.iconst 2, 1) := by decide +kernel
theorem dX9_advances_127 : decode cX9_advances 127 = .ok (.goto 4, 3) := by decide +kernel
theorem dX9_advances_130 : decode cX9_advances 130 = .ok (.iconst 5, 1) := by decide +kernel
theorem dX9_advances_131 : decode cX9_advances 131 = .ok (.putfield 101, 3) := by decide +kernel
theorem dX9_advances_134 : decode cX9_advances 134 = .ok (.return_, 1) := by decide +kernel
theorem dX9_advances_135 : decode cX9_advances 135 = .ok (.aload_n 0, 1) := by decide +kernel
theorem dX9_advances_136 : decode cX9_advances 136 = .ok (.iload_n 1, 1) := by decide +kernel
theorem dX9_advances_137 : decode cX9_advances 137 = .ok (.ifCond .ge 7, 3) := by decide +kernel
theorem dX9_advances_140 : decode cX9_advances 140 = .ok (.iconst 0, 1) := by decide +kernel
theorem dX9_advances_141 : decode cX9_advances 141 = .ok (.goto 39, 3) := by decide +kernel
theorem dX9_advances_144 : decode cX9_advances 144 = .ok (.iload_n 1, 1) := by decide +kernel
theorem dX9_advances_145 : decode cX9_advances 145 = .ok (.bipush 97, 2) := by decide +kernel
theorem dX9_advances_147 : decode cX9_advances 147 = .ok (.bipush 122, 2) := by decide +kernel
theorem dX9_advances_149 : decode cX9_advances 149 = .ok (.invokestatic 59, 3) := by decide +kernel
theorem dX9_advances_152 : decode cX9_advances 152 = .ok (.ifCond .eq 7, 3) := by decide +kernel
theorem dX9_advances_155 : decode cX9_advances 155 = .ok (.iconst 1, 1) := by decide +kernel
theorem dX9_advances_156 : decode cX9_advances 156 = .ok (.goto 24, 3) := by decide +kernel
theorem dX9_advances_159 : decode cX9_advances 159 = .ok (.iload_n 1, 1) := by decide +kernel
theorem dX9_advances_160 : decode cX9_advances 160 = .ok (.bipush 44, 2) := by decide +kernel
theorem dX9_advances_162 : decode cX9_advances 162 = .ok (.if_icmp .ne 7, 3) := by decide +kernel
theorem dX9_advances_165 : decode cX9_advances 165 = .ok (.iconst 3, 1) := by decide +kernel
theorem dX9_advances_166 : decode cX9_advances 166 = .ok (.goto 14, 3) := by decide +kernel
theorem dX9_advances_169 : decode cX9_advances 169 = .ok (.iload_n 1, 1) := by decide +kernel
theorem dX9_advances_170 : decode cX9_advances 170 = .ok (.bipush 59, 2) := by decide +kernel
theorem dX9_advances_172 : decode cX9_advances 172 = .ok (.if_icmp .ne 7, 3) := by decide +kernel
theorem dX9_advances_175 : decode cX9_advances 175 = .ok (.iconst 4, 1) := by decide +kernel
theorem dX9_advances_176 : decode cX9_advances 176 = .ok (.goto 4, 3) := by decide +kernel
theorem dX9_advances_179 : decode cX9_advances 179 = .ok (.iconst 5, 1) := by decide +kernel
theorem dX9_advances_180 : decode cX9_advances 180 = .ok (.putfield 101, 3) := by decide +kernel
theorem dX9_advances_183 : decode cX9_advances 183 = .ok (.aload_n 0, 1) := by decide +kernel
theorem dX9_advances_184 : decode cX9_advances 184 = .ok (.dup, 1) := by decide +kernel
theorem dX9_advances_185 : decode cX9_advances 185 = .ok (.getfield 89, 3) := by decide +kernel
theorem dX9_advances_188 : decode cX9_advances 188 = .ok (.aload_n 0, 1) := by decide +kernel
theorem dX9_advances_189 : decode cX9_advances 189 = .ok (.getfield 101, 3) := by decide +kernel
theorem dX9_advances_192 : decode cX9_advances 192 = .ok (.ifCond .ne 7, 3) := by decide +kernel
theorem dX9_advances_195 : decode cX9_advances 195 = .ok (.iconst 0, 1) := by decide +kernel
theorem dX9_advances_196 : decode cX9_advances 196 = .ok (.goto 4, 3) := by decide +kernel
theorem dX9_advances_199 : decode cX9_advances 199 = .ok (.iconst 1, 1) := by decide +kernel
theorem dX9_advances_200 : decode cX9_advances 200 = .ok (.iadd, 1) := by decide +kernel
theorem dX9_advances_201 : decode cX9_advances 201 = .ok (.putfield 89, 3) := by decide +kernel
theorem dX9_advances_204 : decode cX9_advances 204 = .ok (.return_, 1) := by decide +kernel
theorem dX9_isWell_0 : decode cX9_isWell 0 = .ok (.aload_n 0, 1) := by decide +kernel
theorem dX9_isWell_1 : decode cX9_isWell 1 = .ok (.getfield 104, 3) := by decide +kernel
theorem dX9_isWell_4 : decode cX9_isWell 4 = .ok (.ifCond .ge 7, 3) := by decide +kernel
theorem dX9_isWell_7 : decode cX9_isWell 7 = .ok (.iconst 1, 1) := by decide +kernel
theorem dX9_isWell_8 : decode cX9_isWell 8 = .ok (.goto 4, 3) := by decide +kernel
theorem dX9_isWell_11 : decode cX9_isWell 11 = .ok (.iconst 0, 1) := by decide +kernel
theorem dX9_isWell_12 : decode cX9_isWell 12 = .ok (.ireturn, 1) := by decide +kernel
theorem dX9_takes_0 : decode cX9_takes 0 = .ok (.aload_n 0, 1) := by decide +kernel
theorem dX9_takes_1 : decode cX9_takes 1 = .ok (.invokevirtual 107, 3) := by decide +kernel
theorem dX9_takes_4 : decode cX9_takes 4 = .ok (.ifCond .ne 5, 3) := by decide +kernel
theorem dX9_takes_7 : decode cX9_takes 7 = .ok (.iconst 0, 1) := by decide +kernel
theorem dX9_takes_8 : decode cX9_takes 8 = .ok (.ireturn, 1) := by decide +kernel
theorem dX9_takes_9 : decode cX9_takes 9 = .ok (.iload_n 1, 1) := by decide +kernel
theorem dX9_takes_10 : decode cX9_takes 10 = .ok (.ifCond .ne 18, 3) := by decide +kernel
theorem dX9_takes_13 : decode cX9_takes 13 = .ok (.aload_n 0, 1) := by decide +kernel
theorem dX9_takes_14 : decode cX9_takes 14 = .ok (.aload_n 0, 1) := by decide +kernel
theorem dX9_takes_15 : decode cX9_takes 15 = .ok (.getfield 92, 3) := by decide +kernel
theorem dX9_takes_18 : decode cX9_takes 18 = .ok (.putfield 104, 3) := by decide +kernel
theorem dX9_takes_21 : decode cX9_takes 21 = .ok (.aload_n 0, 1) := by decide +kernel
theorem dX9_takes_22 : decode cX9_takes 22 = .ok (.iload_n 2, 1) := by decide +kernel
theorem dX9_takes_23 : decode cX9_takes 23 = .ok (.putfield 111, 3) := by decide +kernel
theorem dX9_takes_26 : decode cX9_takes 26 = .ok (.iconst 0, 1) := by decide +kernel
theorem dX9_takes_27 : decode cX9_takes 27 = .ok (.ireturn, 1) := by decide +kernel
theorem dX9_takes_28 : decode cX9_takes 28 = .ok (.aload_n 0, 1) := by decide +kernel
theorem dX9_takes_29 : decode cX9_takes 29 = .ok (.getfield 98, 3) := by decide +kernel
theorem dX9_takes_32 : decode cX9_takes 32 = .ok (.istore_n 3, 1) := by decide +kernel
theorem dX9_takes_33 : decode cX9_takes 33 = .ok (.aload_n 0, 1) := by decide +kernel
theorem dX9_takes_34 : decode cX9_takes 34 = .ok (.invokevirtual 114, 3) := by decide +kernel
theorem dX9_takes_37 : decode cX9_takes 37 = .ok (.iload_n 3, 1) := by decide +kernel
theorem dX9_takes_38 : decode cX9_takes 38 = .ok (.ireturn, 1) := by decide +kernel
theorem dX9_figure_0 : decode cX9_figure 0 = .ok (.aload_n 0, 1) := by decide +kernel
theorem dX9_figure_1 : decode cX9_figure 1 = .ok (.invokevirtual 107, 3) := by decide +kernel
theorem dX9_figure_4 : decode cX9_figure 4 = .ok (.ifCond .eq 18, 3) := by decide +kernel
theorem dX9_figure_7 : decode cX9_figure 7 = .ok (.aload_n 0, 1) := by decide +kernel
theorem dX9_figure_8 : decode cX9_figure 8 = .ok (.getfield 101, 3) := by decide +kernel
theorem dX9_figure_11 : decode cX9_figure 11 = .ok (.iconst 2, 1) := by decide +kernel
theorem dX9_figure_12 : decode cX9_figure 12 = .ok (.if_icmp .eq 10, 3) := by decide +kernel
theorem dX9_figure_15 : decode cX9_figure 15 = .ok (.aload_n 0, 1) := by decide +kernel
theorem dX9_figure_16 : decode cX9_figure 16 = .ok (.iconst 0, 1) := by decide +kernel
theorem dX9_figure_17 : decode cX9_figure 17 = .ok (.iconst 1, 1) := by decide +kernel
theorem dX9_figure_18 : decode cX9_figure 18 = .ok (.invokevirtual 117, 3) := by decide +kernel
theorem dX9_figure_21 : decode cX9_figure 21 = .ok (.ireturn, 1) := by decide +kernel
theorem dX9_figure_22 : decode cX9_figure 22 = .ok (.aload_n 0, 1) := by decide +kernel
theorem dX9_figure_23 : decode cX9_figure 23 = .ok (.aload_n 0, 1) := by decide +kernel
theorem dX9_figure_24 : decode cX9_figure 24 = .ok (.getfield 98, 3) := by decide +kernel
theorem dX9_figure_27 : decode cX9_figure 27 = .ok (.iload_n 1, 1) := by decide +kernel
theorem dX9_figure_28 : decode cX9_figure 28 = .ok (.iload_n 2, 1) := by decide +kernel
theorem dX9_figure_29 : decode cX9_figure 29 = .ok (.invokestatic 59, 3) := by decide +kernel
theorem dX9_figure_32 : decode cX9_figure 32 = .ok (.iconst 2, 1) := by decide +kernel
theorem dX9_figure_33 : decode cX9_figure 33 = .ok (.invokevirtual 117, 3) := by decide +kernel
theorem dX9_figure_36 : decode cX9_figure 36 = .ok (.ireturn, 1) := by decide +kernel
theorem dX9_kindOf_0 : decode cX9_kindOf 0 = .ok (.iload_n 0, 1) := by decide +kernel
theorem dX9_kindOf_1 : decode cX9_kindOf 1 = .ok (.bipush 101, 2) := by decide +kernel
theorem dX9_kindOf_3 : decode cX9_kindOf 3 = .ok (.if_icmp .ne 7, 3) := by decide +kernel
theorem dX9_kindOf_6 : decode cX9_kindOf 6 = .ok (.iconst 1, 1) := by decide +kernel
theorem dX9_kindOf_7 : decode cX9_kindOf 7 = .ok (.goto 44, 3) := by decide +kernel
theorem dX9_kindOf_10 : decode cX9_kindOf 10 = .ok (.iload_n 0, 1) := by decide +kernel
theorem dX9_kindOf_11 : decode cX9_kindOf 11 = .ok (.bipush 97, 2) := by decide +kernel
theorem dX9_kindOf_13 : decode cX9_kindOf 13 = .ok (.if_icmp .ne 7, 3) := by decide +kernel
theorem dX9_kindOf_16 : decode cX9_kindOf 16 = .ok (.iconst 2, 1) := by decide +kernel
theorem dX9_kindOf_17 : decode cX9_kindOf 17 = .ok (.goto 34, 3) := by decide +kernel
theorem dX9_kindOf_20 : decode cX9_kindOf 20 = .ok (.iload_n 0, 1) := by decide +kernel
theorem dX9_kindOf_21 : decode cX9_kindOf 21 = .ok (.bipush 104, 2) := by decide +kernel
theorem dX9_kindOf_23 : decode cX9_kindOf 23 = .ok (.if_icmp .ne 7, 3) := by decide +kernel
theorem dX9_kindOf_26 : decode cX9_kindOf 26 = .ok (.iconst 3, 1) := by decide +kernel
theorem dX9_kindOf_27 : decode cX9_kindOf 27 = .ok (.goto 24, 3) := by decide +kernel
theorem dX9_kindOf_30 : decode cX9_kindOf 30 = .ok (.iload_n 0, 1) := by decide +kernel
theorem dX9_kindOf_31 : decode cX9_kindOf 31 = .ok (.bipush 112, 2) := by decide +kernel
theorem dX9_kindOf_33 : decode cX9_kindOf 33 = .ok (.if_icmp .ne 7, 3) := by decide +kernel
theorem dX9_kindOf_36 : decode cX9_kindOf 36 = .ok (.iconst 4, 1) := by decide +kernel
theorem dX9_kindOf_37 : decode cX9_kindOf 37 = .ok (.goto 14, 3) := by decide +kernel
theorem dX9_kindOf_40 : decode cX9_kindOf 40 = .ok (.iload_n 0, 1) := by decide +kernel
theorem dX9_kindOf_41 : decode cX9_kindOf 41 = .ok (.bipush 108, 2) := by decide +kernel
theorem dX9_kindOf_43 : decode cX9_kindOf 43 = .ok (.if_icmp .ne 7, 3) := by decide +kernel
theorem dX9_kindOf_46 : decode cX9_kindOf 46 = .ok (.iconst 5, 1) := by decide +kernel
theorem dX9_kindOf_47 : decode cX9_kindOf 47 = .ok (.goto 4, 3) := by decide +kernel
theorem dX9_kindOf_50 : decode cX9_kindOf 50 = .ok (.iconst 0, 1) := by decide +kernel
theorem dX9_kindOf_51 : decode cX9_kindOf 51 = .ok (.ireturn, 1) := by decide +kernel
theorem dX9_next_0 : decode cX9_next 0 = .ok (.aload_n 0, 1) := by decide +kernel
theorem dX9_next_1 : decode cX9_next 1 = .ok (.aload_n 0, 1) := by decide +kernel
theorem dX9_next_2 : decode cX9_next 2 = .ok (.getfield 101, 3) := by decide +kernel
theorem dX9_next_5 : decode cX9_next 5 = .ok (.iconst 3, 1) := by decide +kernel
theorem dX9_next_6 : decode cX9_next 6 = .ok (.if_icmp .ne 7, 3) := by decide +kernel
theorem dX9_next_9 : decode cX9_next 9 = .ok (.iconst 1, 1) := by decide +kernel
theorem dX9_next_10 : decode cX9_next 10 = .ok (.goto 4, 3) := by decide +kernel
theorem dX9_next_13 : decode cX9_next 13 = .ok (.iconst 0, 1) := by decide +kernel
theorem dX9_next_14 : decode cX9_next 14 = .ok (.iconst 1, 1) := by decide +kernel
theorem dX9_next_15 : decode cX9_next 15 = .ok (.invokevirtual 117, 3) := by decide +kernel
theorem dX9_next_18 : decode cX9_next 18 = .ok (.pop, 1) := by decide +kernel
theorem dX9_next_19 : decode cX9_next 19 = .ok (.aload_n 0, 1) := by decide +kernel
theorem dX9_next_20 : decode cX9_next 20 = .ok (.iload_n 1, 1) := by decide +kernel
theorem dX9_next_21 : decode cX9_next 21 = .ok (.iload_n 2, 1) := by decide +kernel
theorem dX9_next_22 : decode cX9_next 22 = .ok (.invokevirtual 121, 3) := by decide +kernel
theorem dX9_next_25 : decode cX9_next 25 = .ok (.ireturn, 1) := by decide +kernel
theorem dX9_readsLie_0 : decode cX9_readsLie 0 = .ok (.aload_n 0, 1) := by decide +kernel
theorem dX9_readsLie_1 : decode cX9_readsLie 1 = .ok (.getfield 98, 3) := by decide +kernel
theorem dX9_readsLie_4 : decode cX9_readsLie 4 = .ok (.invokestatic 124, 3) := by decide +kernel
theorem dX9_readsLie_7 : decode cX9_readsLie 7 = .ok (.istore_n 1, 1) := by decide +kernel
theorem dX9_readsLie_8 : decode cX9_readsLie 8 = .ok (.aload_n 0, 1) := by decide +kernel
theorem dX9_readsLie_9 : decode cX9_readsLie 9 = .ok (.aload_n 0, 1) := by decide +kernel
theorem dX9_readsLie_10 : decode cX9_readsLie 10 = .ok (.getfield 28, 3) := by decide +kernel
theorem dX9_readsLie_13 : decode cX9_readsLie 13 = .ok (.iconst 2, 1) := by decide +kernel
theorem dX9_readsLie_14 : decode cX9_readsLie 14 = .ok (.iaload, 1) := by decide +kernel
theorem dX9_readsLie_15 : decode cX9_readsLie 15 = .ok (.bipush 6, 2) := by decide +kernel
theorem dX9_readsLie_17 : decode cX9_readsLie 17 = .ok (.if_icmp .ge 7, 3) := by decide +kernel
theorem dX9_readsLie_20 : decode cX9_readsLie 20 = .ok (.iconst 1, 1) := by decide +kernel
theorem dX9_readsLie_21 : decode cX9_readsLie 21 = .ok (.goto 4, 3) := by decide +kernel
theorem dX9_readsLie_24 : decode cX9_readsLie 24 = .ok (.iconst 0, 1) := by decide +kernel
theorem dX9_readsLie_25 : decode cX9_readsLie 25 = .ok (.iconst 3, 1) := by decide +kernel
theorem dX9_readsLie_26 : decode cX9_readsLie 26 = .ok (.invokevirtual 117, 3) := by decide +kernel
theorem dX9_readsLie_29 : decode cX9_readsLie 29 = .ok (.pop, 1) := by decide +kernel
theorem dX9_readsLie_30 : decode cX9_readsLie 30 = .ok (.iconst 4, 1) := by decide +kernel
theorem dX9_readsLie_31 : decode cX9_readsLie 31 = .ok (.iconst 3, 1) := by decide +kernel
theorem dX9_readsLie_32 : decode cX9_readsLie 32 = .ok (.aload_n 0, 1) := by decide +kernel
theorem dX9_readsLie_33 : decode cX9_readsLie 33 = .ok (.getfield 28, 3) := by decide +kernel
theorem dX9_readsLie_36 : decode cX9_readsLie 36 = .ok (.iconst 2, 1) := by decide +kernel
theorem dX9_readsLie_37 : decode cX9_readsLie 37 = .ok (.iaload, 1) := by decide +kernel
theorem dX9_readsLie_38 : decode cX9_readsLie 38 = .ok (.bipush 6, 2) := by decide +kernel
theorem dX9_readsLie_40 : decode cX9_readsLie 40 = .ok (.if_icmp .ge 12, 3) := by decide +kernel
theorem dX9_readsLie_43 : decode cX9_readsLie 43 = .ok (.aload_n 0, 1) := by decide +kernel
theorem dX9_readsLie_44 : decode cX9_readsLie 44 = .ok (.getfield 28, 3) := by decide +kernel
theorem dX9_readsLie_47 : decode cX9_readsLie 47 = .ok (.iconst 2, 1) := by decide +kernel
theorem dX9_readsLie_48 : decode cX9_readsLie 48 = .ok (.iaload, 1) := by decide +kernel
theorem dX9_readsLie_49 : decode cX9_readsLie 49 = .ok (.goto 4, 3) := by decide +kernel
theorem dX9_readsLie_52 : decode cX9_readsLie 52 = .ok (.iconst 0, 1) := by decide +kernel
theorem dX9_readsLie_53 : decode cX9_readsLie 53 = .ok (.imul, 1) := by decide +kernel
theorem dX9_readsLie_54 : decode cX9_readsLie 54 = .ok (.iadd, 1) := by decide +kernel
theorem dX9_readsLie_55 : decode cX9_readsLie 55 = .ok (.istore_n 2, 1) := by decide +kernel
theorem dX9_readsLie_56 : decode cX9_readsLie 56 = .ok (.aload_n 0, 1) := by decide +kernel
theorem dX9_readsLie_57 : decode cX9_readsLie 57 = .ok (.iconst 1, 1) := by decide +kernel
theorem dX9_readsLie_58 : decode cX9_readsLie 58 = .ok (.bipush 20, 2) := by decide +kernel
theorem dX9_readsLie_60 : decode cX9_readsLie 60 = .ok (.invokevirtual 121, 3) := by decide +kernel
theorem dX9_readsLie_63 : decode cX9_readsLie 63 = .ok (.istore_n 3, 1) := by decide +kernel
theorem dX9_readsLie_64 : decode cX9_readsLie 64 = .ok (.aload_n 0, 1) := by decide +kernel
theorem dX9_readsLie_65 : decode cX9_readsLie 65 = .ok (.iconst 0, 1) := by decide +kernel
theorem dX9_readsLie_66 : decode cX9_readsLie 66 = .ok (.iconst 3, 1) := by decide +kernel
theorem dX9_readsLie_67 : decode cX9_readsLie 67 = .ok (.invokevirtual 127, 3) := by decide +kernel
theorem dX9_readsLie_70 : decode cX9_readsLie 70 = .ok (.istore 4, 2) := by decide +kernel
theorem dX9_readsLie_72 : decode cX9_readsLie 72 = .ok (.aload_n 0, 1) := by decide +kernel
theorem dX9_readsLie_73 : decode cX9_readsLie 73 = .ok (.aload_n 0, 1) := by decide +kernel
theorem dX9_readsLie_74 : decode cX9_readsLie 74 = .ok (.getfield 101, 3) := by decide +kernel
theorem dX9_readsLie_77 : decode cX9_readsLie 77 = .ok (.iconst 4, 1) := by decide +kernel
theorem dX9_readsLie_78 : decode cX9_readsLie 78 = .ok (.if_icmp .ne 7, 3) := by decide +kernel
theorem dX9_readsLie_81 : decode cX9_readsLie 81 = .ok (.iconst 1, 1) := by decide +kernel
theorem dX9_readsLie_82 : decode cX9_readsLie 82 = .ok (.goto 4, 3) := by decide +kernel
theorem dX9_readsLie_85 : decode cX9_readsLie 85 = .ok (.iconst 0, 1) := by decide +kernel
theorem dX9_readsLie_86 : decode cX9_readsLie 86 = .ok (.iconst 1, 1) := by decide +kernel
theorem dX9_readsLie_87 : decode cX9_readsLie 87 = .ok (.invokevirtual 117, 3) := by decide +kernel
theorem dX9_readsLie_90 : decode cX9_readsLie 90 = .ok (.pop, 1) := by decide +kernel
theorem dX9_readsLie_91 : decode cX9_readsLie 91 = .ok (.aload_n 0, 1) := by decide +kernel
theorem dX9_readsLie_92 : decode cX9_readsLie 92 = .ok (.invokevirtual 107, 3) := by decide +kernel
theorem dX9_readsLie_95 : decode cX9_readsLie 95 = .ok (.ifCond .eq 39, 3) := by decide +kernel
theorem dX9_readsLie_98 : decode cX9_readsLie 98 = .ok (.aload_n 0, 1) := by decide +kernel
theorem dX9_readsLie_99 : decode cX9_readsLie 99 = .ok (.getfield 28, 3) := by decide +kernel
theorem dX9_readsLie_102 : decode cX9_readsLie 102 = .ok (.iload_n 2, 1) := by decide +kernel
theorem dX9_readsLie_103 : decode cX9_readsLie 103 = .ok (.iload_n 1, 1) := by decide +kernel
theorem dX9_readsLie_104 : decode cX9_readsLie 104 = .ok (.iastore, 1) := by decide +kernel
theorem dX9_readsLie_105 : decode cX9_readsLie 105 = .ok (.aload_n 0, 1) := by decide +kernel
theorem dX9_readsLie_106 : decode cX9_readsLie 106 = .ok (.getfield 28, 3) := by decide +kernel
theorem dX9_readsLie_109 : decode cX9_readsLie 109 = .ok (.iload_n 2, 1) := by decide +kernel
theorem dX9_readsLie_110 : decode cX9_readsLie 110 = .ok (.iconst 1, 1) := by decide +kernel
theorem dX9_readsLie_111 : decode cX9_readsLie 111 = .ok (.iadd, 1) := by decide +kernel
theorem dX9_readsLie_112 : decode cX9_readsLie 112 = .ok (.iload_n 3, 1) := by decide +kernel
theorem dX9_readsLie_113 : decode cX9_readsLie 113 = .ok (.iastore, 1) := by decide +kernel
theorem dX9_readsLie_114 : decode cX9_readsLie 114 = .ok (.aload_n 0, 1) := by decide +kernel
theorem dX9_readsLie_115 : decode cX9_readsLie 115 = .ok (.getfield 28, 3) := by decide +kernel
theorem dX9_readsLie_118 : decode cX9_readsLie 118 = .ok (.iload_n 2, 1) := by decide +kernel
theorem dX9_readsLie_119 : decode cX9_readsLie 119 = .ok (.iconst 2, 1) := by decide +kernel
theorem dX9_readsLie_120 : decode cX9_readsLie 120 = .ok (.iadd, 1) := by decide +kernel
theorem dX9_readsLie_121 : decode cX9_readsLie 121 = .ok (.iload 4, 2) := by decide +kernel
theorem dX9_readsLie_123 : decode cX9_readsLie 123 = .ok (.iastore, 1) := by decide +kernel
theorem dX9_readsLie_124 : decode cX9_readsLie 124 = .ok (.aload_n 0, 1) := by decide +kernel
theorem dX9_readsLie_125 : decode cX9_readsLie 125 = .ok (.getfield 28, 3) := by decide +kernel
theorem dX9_readsLie_128 : decode cX9_readsLie 128 = .ok (.iconst 2, 1) := by decide +kernel
theorem dX9_readsLie_129 : decode cX9_readsLie 129 = .ok (.dup2, 1) := by decide +kernel
theorem dX9_readsLie_130 : decode cX9_readsLie 130 = .ok (.iaload, 1) := by decide +kernel
theorem dX9_readsLie_131 : decode cX9_readsLie 131 = .ok (.iconst 1, 1) := by decide +kernel
theorem dX9_readsLie_132 : decode cX9_readsLie 132 = .ok (.iadd, 1) := by decide +kernel
theorem dX9_readsLie_133 : decode cX9_readsLie 133 = .ok (.iastore, 1) := by decide +kernel
theorem dX9_readsLie_134 : decode cX9_readsLie 134 = .ok (.return_, 1) := by decide +kernel
theorem dX9_readsStranger_0 : decode cX9_readsStranger 0 = .ok (.aload_n 0, 1) := by decide +kernel
theorem dX9_readsStranger_1 : decode cX9_readsStranger 1 = .ok (.aload_n 0, 1) := by decide +kernel
theorem dX9_readsStranger_2 : decode cX9_readsStranger 2 = .ok (.getfield 28, 3) := by decide +kernel
theorem dX9_readsStranger_5 : decode cX9_readsStranger 5 = .ok (.iconst 3, 1) := by decide +kernel
theorem dX9_readsStranger_6 : decode cX9_readsStranger 6 = .ok (.iaload, 1) := by decide +kernel
theorem dX9_readsStranger_7 : decode cX9_readsStranger 7 = .ok (.iconst 4, 1) := by decide +kernel
theorem dX9_readsStranger_8 : decode cX9_readsStranger 8 = .ok (.if_icmp .ge 7, 3) := by decide +kernel
theorem dX9_readsStranger_11 : decode cX9_readsStranger 11 = .ok (.iconst 1, 1) := by decide +kernel
theorem dX9_readsStranger_12 : decode cX9_readsStranger 12 = .ok (.goto 4, 3) := by decide +kernel
theorem dX9_readsStranger_15 : decode cX9_readsStranger 15 = .ok (.iconst 0, 1) := by decide +kernel
theorem dX9_readsStranger_16 : decode cX9_readsStranger 16 = .ok (.iconst 3, 1) := by decide +kernel
theorem dX9_readsStranger_17 : decode cX9_readsStranger 17 = .ok (.invokevirtual 117, 3) := by decide +kernel
theorem dX9_readsStranger_20 : decode cX9_readsStranger 20 = .ok (.pop, 1) := by decide +kernel
theorem dX9_readsStranger_21 : decode cX9_readsStranger 21 = .ok (.bipush 22, 2) := by decide +kernel
theorem dX9_readsStranger_23 : decode cX9_readsStranger 23 = .ok (.iconst 4, 1) := by decide +kernel
theorem dX9_readsStranger_24 : decode cX9_readsStranger 24 = .ok (.aload_n 0, 1) := by decide +kernel
theorem dX9_readsStranger_25 : decode cX9_readsStranger 25 = .ok (.getfield 28, 3) := by decide +kernel
theorem dX9_readsStranger_28 : decode cX9_readsStranger 28 = .ok (.iconst 3, 1) := by decide +kernel
theorem dX9_readsStranger_29 : decode cX9_readsStranger 29 = .ok (.iaload, 1) := by decide +kernel
theorem dX9_readsStranger_30 : decode cX9_readsStranger 30 = .ok (.iconst 4, 1) := by decide +kernel
theorem dX9_readsStranger_31 : decode cX9_readsStranger 31 = .ok (.if_icmp .ge 12, 3) := by decide +kernel
theorem dX9_readsStranger_34 : decode cX9_readsStranger 34 = .ok (.aload_n 0, 1) := by decide +kernel
theorem dX9_readsStranger_35 : decode cX9_readsStranger 35 = .ok (.getfield 28, 3) := by decide +kernel
theorem dX9_readsStranger_38 : decode cX9_readsStranger 38 = .ok (.iconst 3, 1) := by decide +kernel
theorem dX9_readsStranger_39 : decode cX9_readsStranger 39 = .ok (.iaload, 1) := by decide +kernel
theorem dX9_readsStranger_40 : decode cX9_readsStranger 40 = .ok (.goto 4, 3) := by decide +kernel
theorem dX9_readsStranger_43 : decode cX9_readsStranger 43 = .ok (.iconst 0, 1) := by decide +kernel
theorem dX9_readsStranger_44 : decode cX9_readsStranger 44 = .ok (.imul, 1) := by decide +kernel
theorem dX9_readsStranger_45 : decode cX9_readsStranger 45 = .ok (.iadd, 1) := by decide +kernel
theorem dX9_readsStranger_46 : decode cX9_readsStranger 46 = .ok (.istore_n 1, 1) := by decide +kernel
theorem dX9_readsStranger_47 : decode cX9_readsStranger 47 = .ok (.aload_n 0, 1) := by decide +kernel
theorem dX9_readsStranger_48 : decode cX9_readsStranger 48 = .ok (.iconst 0, 1) := by decide +kernel
theorem dX9_readsStranger_49 : decode cX9_readsStranger 49 = .ok (.bipush 20, 2) := by decide +kernel
theorem dX9_readsStranger_51 : decode cX9_readsStranger 51 = .ok (.invokevirtual 121, 3) := by decide +kernel
theorem dX9_readsStranger_54 : decode cX9_readsStranger 54 = .ok (.istore_n 2, 1) := by decide +kernel
theorem dX9_readsStranger_55 : decode cX9_readsStranger 55 = .ok (.aload_n 0, 1) := by decide +kernel
theorem dX9_readsStranger_56 : decode cX9_readsStranger 56 = .ok (.iconst 0, 1) := by decide +kernel
theorem dX9_readsStranger_57 : decode cX9_readsStranger 57 = .ok (.bipush 15, 2) := by decide +kernel
theorem dX9_readsStranger_59 : decode cX9_readsStranger 59 = .ok (.invokevirtual 127, 3) := by decide +kernel
theorem dX9_readsStranger_62 : decode cX9_readsStranger 62 = .ok (.istore_n 3, 1) := by decide +kernel
theorem dX9_readsStranger_63 : decode cX9_readsStranger 63 = .ok (.aload_n 0, 1) := by decide +kernel
theorem dX9_readsStranger_64 : decode cX9_readsStranger 64 = .ok (.aload_n 0, 1) := by decide +kernel
theorem dX9_readsStranger_65 : decode cX9_readsStranger 65 = .ok (.getfield 101, 3) := by decide +kernel
theorem dX9_readsStranger_68 : decode cX9_readsStranger 68 = .ok (.iconst 4, 1) := by decide +kernel
theorem dX9_readsStranger_69 : decode cX9_readsStranger 69 = .ok (.if_icmp .ne 7, 3) := by decide +kernel
theorem dX9_readsStranger_72 : decode cX9_readsStranger 72 = .ok (.iconst 1, 1) := by decide +kernel
theorem dX9_readsStranger_73 : decode cX9_readsStranger 73 = .ok (.goto 4, 3) := by decide +kernel
theorem dX9_readsStranger_76 : decode cX9_readsStranger 76 = .ok (.iconst 0, 1) := by decide +kernel
theorem dX9_readsStranger_77 : decode cX9_readsStranger 77 = .ok (.iconst 1, 1) := by decide +kernel
theorem dX9_readsStranger_78 : decode cX9_readsStranger 78 = .ok (.invokevirtual 117, 3) := by decide +kernel
theorem dX9_readsStranger_81 : decode cX9_readsStranger 81 = .ok (.pop, 1) := by decide +kernel
theorem dX9_readsStranger_82 : decode cX9_readsStranger 82 = .ok (.aload_n 0, 1) := by decide +kernel
theorem dX9_readsStranger_83 : decode cX9_readsStranger 83 = .ok (.invokevirtual 107, 3) := by decide +kernel
theorem dX9_readsStranger_86 : decode cX9_readsStranger 86 = .ok (.ifCond .eq 31, 3) := by decide +kernel
theorem dX9_readsStranger_89 : decode cX9_readsStranger 89 = .ok (.aload_n 0, 1) := by decide +kernel
theorem dX9_readsStranger_90 : decode cX9_readsStranger 90 = .ok (.getfield 28, 3) := by decide +kernel
theorem dX9_readsStranger_93 : decode cX9_readsStranger 93 = .ok (.iload_n 1, 1) := by decide +kernel
theorem dX9_readsStranger_94 : decode cX9_readsStranger 94 = .ok (.iconst 0, 1) := by decide +kernel
theorem dX9_readsStranger_95 : decode cX9_readsStranger 95 = .ok (.iadd, 1) := by decide +kernel
theorem dX9_readsStranger_96 : decode cX9_readsStranger 96 = .ok (.iload_n 2, 1) := by decide +kernel
theorem dX9_readsStranger_97 : decode cX9_readsStranger 97 = .ok (.iastore, 1) := by decide +kernel
theorem dX9_readsStranger_98 : decode cX9_readsStranger 98 = .ok (.aload_n 0, 1) := by decide +kernel
theorem dX9_readsStranger_99 : decode cX9_readsStranger 99 = .ok (.getfield 28, 3) := by decide +kernel
theorem dX9_readsStranger_102 : decode cX9_readsStranger 102 = .ok (.iload_n 1, 1) := by decide +kernel
theorem dX9_readsStranger_103 : decode cX9_readsStranger 103 = .ok (.iconst 1, 1) := by decide +kernel
theorem dX9_readsStranger_104 : decode cX9_readsStranger 104 = .ok (.iadd, 1) := by decide +kernel
theorem dX9_readsStranger_105 : decode cX9_readsStranger 105 = .ok (.iload_n 3, 1) := by decide +kernel
theorem dX9_readsStranger_106 : decode cX9_readsStranger 106 = .ok (.iastore, 1) := by decide +kernel
theorem dX9_readsStranger_107 : decode cX9_readsStranger 107 = .ok (.aload_n 0, 1) := by decide +kernel
theorem dX9_readsStranger_108 : decode cX9_readsStranger 108 = .ok (.getfield 28, 3) := by decide +kernel
theorem dX9_readsStranger_111 : decode cX9_readsStranger 111 = .ok (.iconst 3, 1) := by decide +kernel
theorem dX9_readsStranger_112 : decode cX9_readsStranger 112 = .ok (.dup2, 1) := by decide +kernel
theorem dX9_readsStranger_113 : decode cX9_readsStranger 113 = .ok (.iaload, 1) := by decide +kernel
theorem dX9_readsStranger_114 : decode cX9_readsStranger 114 = .ok (.iconst 1, 1) := by decide +kernel
theorem dX9_readsStranger_115 : decode cX9_readsStranger 115 = .ok (.iadd, 1) := by decide +kernel
theorem dX9_readsStranger_116 : decode cX9_readsStranger 116 = .ok (.iastore, 1) := by decide +kernel
theorem dX9_readsStranger_117 : decode cX9_readsStranger 117 = .ok (.return_, 1) := by decide +kernel
theorem dX9_town_0 : decode cX9_town 0 = .ok (.iconst 0, 1) := by decide +kernel
theorem dX9_town_1 : decode cX9_town 1 = .ok (.istore_n 1, 1) := by decide +kernel
theorem dX9_town_2 : decode cX9_town 2 = .ok (.iload_n 1, 1) := by decide +kernel
theorem dX9_town_3 : decode cX9_town 3 = .ok (.bipush 38, 2) := by decide +kernel
theorem dX9_town_5 : decode cX9_town 5 = .ok (.if_icmp .ge 16, 3) := by decide +kernel
theorem dX9_town_8 : decode cX9_town 8 = .ok (.aload_n 0, 1) := by decide +kernel
theorem dX9_town_9 : decode cX9_town 9 = .ok (.getfield 28, 3) := by decide +kernel
theorem dX9_town_12 : decode cX9_town 12 = .ok (.iload_n 1, 1) := by decide +kernel
theorem dX9_town_13 : decode cX9_town 13 = .ok (.iconst 0, 1) := by decide +kernel
theorem dX9_town_14 : decode cX9_town 14 = .ok (.iastore, 1) := by decide +kernel
theorem dX9_town_15 : decode cX9_town 15 = .ok (.iinc 1 1, 3) := by decide +kernel
theorem dX9_town_18 : decode cX9_town 18 = .ok (.goto (-16), 3) := by decide +kernel
theorem dX9_town_21 : decode cX9_town 21 = .ok (.aload_n 0, 1) := by decide +kernel
theorem dX9_town_22 : decode cX9_town 22 = .ok (.iconst 0, 1) := by decide +kernel
theorem dX9_town_23 : decode cX9_town 23 = .ok (.putfield 89, 3) := by decide +kernel
theorem dX9_town_26 : decode cX9_town 26 = .ok (.aload_n 0, 1) := by decide +kernel
theorem dX9_town_27 : decode cX9_town 27 = .ok (.iconst (-1), 1) := by decide +kernel
theorem dX9_town_28 : decode cX9_town 28 = .ok (.putfield 104, 3) := by decide +kernel
theorem dX9_town_31 : decode cX9_town 31 = .ok (.aload_n 0, 1) := by decide +kernel
theorem dX9_town_32 : decode cX9_town 32 = .ok (.invokevirtual 114, 3) := by decide +kernel
theorem dX9_town_35 : decode cX9_town 35 = .ok (.aload_n 0, 1) := by decide +kernel
theorem dX9_town_36 : decode cX9_town 36 = .ok (.aload_n 0, 1) := by decide +kernel
theorem dX9_town_37 : decode cX9_town 37 = .ok (.getfield 101, 3) := by decide +kernel
theorem dX9_town_40 : decode cX9_town 40 = .ok (.iconst 1, 1) := by decide +kernel
theorem dX9_town_41 : decode cX9_town 41 = .ok (.if_icmp .ne 16, 3) := by decide +kernel
theorem dX9_town_44 : decode cX9_town 44 = .ok (.aload_n 0, 1) := by decide +kernel
theorem dX9_town_45 : decode cX9_town 45 = .ok (.getfield 98, 3) := by decide +kernel
theorem dX9_town_48 : decode cX9_town 48 = .ok (.bipush 116, 2) := by decide +kernel
theorem dX9_town_50 : decode cX9_town 50 = .ok (.if_icmp .ne 7, 3) := by decide +kernel
theorem dX9_town_53 : decode cX9_town 53 = .ok (.iconst 1, 1) := by decide +kernel
theorem dX9_town_54 : decode cX9_town 54 = .ok (.goto 4, 3) := by decide +kernel
theorem dX9_town_57 : decode cX9_town 57 = .ok (.iconst 0, 1) := by decide +kernel
theorem dX9_town_58 : decode cX9_town 58 = .ok (.iconst 1, 1) := by decide +kernel
theorem dX9_town_59 : decode cX9_town 59 = .ok (.invokevirtual 117, 3) := by decide +kernel
theorem dX9_town_62 : decode cX9_town 62 = .ok (.pop, 1) := by decide +kernel
theorem dX9_town_63 : decode cX9_town 63 = .ok (.aload_n 0, 1) := by decide +kernel
theorem dX9_town_64 : decode cX9_town 64 = .ok (.getfield 28, 3) := by decide +kernel
theorem dX9_town_67 : decode cX9_town 67 = .ok (.iconst 0, 1) := by decide +kernel
theorem dX9_town_68 : decode cX9_town 68 = .ok (.aload_n 0, 1) := by decide +kernel
theorem dX9_town_69 : decode cX9_town 69 = .ok (.iconst 1, 1) := by decide +kernel
theorem dX9_town_70 : decode cX9_town 70 = .ok (.bipush 9, 2) := by decide +kernel
theorem dX9_town_72 : decode cX9_town 72 = .ok (.invokevirtual 121, 3) := by decide +kernel
theorem dX9_town_75 : decode cX9_town 75 = .ok (.iastore, 1) := by decide +kernel
theorem dX9_town_76 : decode cX9_town 76 = .ok (.aload_n 0, 1) := by decide +kernel
theorem dX9_town_77 : decode cX9_town 77 = .ok (.aload_n 0, 1) := by decide +kernel
theorem dX9_town_78 : decode cX9_town 78 = .ok (.getfield 101, 3) := by decide +kernel
theorem dX9_town_81 : decode cX9_town 81 = .ok (.iconst 4, 1) := by decide +kernel
theorem dX9_town_82 : decode cX9_town 82 = .ok (.if_icmp .ne 7, 3) := by decide +kernel
theorem dX9_town_85 : decode cX9_town 85 = .ok (.iconst 1, 1) := by decide +kernel
theorem dX9_town_86 : decode cX9_town 86 = .ok (.goto 4, 3) := by decide +kernel
theorem dX9_town_89 : decode cX9_town 89 = .ok (.iconst 0, 1) := by decide +kernel
theorem dX9_town_90 : decode cX9_town 90 = .ok (.iconst 1, 1) := by decide +kernel
theorem dX9_town_91 : decode cX9_town 91 = .ok (.invokevirtual 117, 3) := by decide +kernel
theorem dX9_town_94 : decode cX9_town 94 = .ok (.pop, 1) := by decide +kernel
theorem dX9_town_95 : decode cX9_town 95 = .ok (.aload_n 0, 1) := by decide +kernel
theorem dX9_town_96 : decode cX9_town 96 = .ok (.invokevirtual 107, 3) := by decide +kernel
theorem dX9_town_99 : decode cX9_town 99 = .ok (.ifCond .eq 28, 3) := by decide +kernel
theorem dX9_town_102 : decode cX9_town 102 = .ok (.aload_n 0, 1) := by decide +kernel
theorem dX9_town_103 : decode cX9_town 103 = .ok (.getfield 101, 3) := by decide +kernel
theorem dX9_town_106 : decode cX9_town 106 = .ok (.iconst 1, 1) := by decide +kernel
theorem dX9_town_107 : decode cX9_town 107 = .ok (.if_icmp .ne 20, 3) := by decide +kernel
theorem dX9_town_110 : decode cX9_town 110 = .ok (.aload_n 0, 1) := by decide +kernel
theorem dX9_town_111 : decode cX9_town 111 = .ok (.getfield 98, 3) := by decide +kernel
theorem dX9_town_114 : decode cX9_town 114 = .ok (.invokestatic 124, 3) := by decide +kernel
theorem dX9_town_117 : decode cX9_town 117 = .ok (.ifCond .le 10, 3) := by decide +kernel
theorem dX9_town_120 : decode cX9_town 120 = .ok (.aload_n 0, 1) := by decide +kernel
theorem dX9_town_121 : decode cX9_town 121 = .ok (.invokevirtual 130, 3) := by decide +kernel
theorem dX9_town_124 : decode cX9_town 124 = .ok (.goto (-29), 3) := by decide +kernel
theorem dX9_town_127 : decode cX9_town 127 = .ok (.aload_n 0, 1) := by decide +kernel
theorem dX9_town_128 : decode cX9_town 128 = .ok (.invokevirtual 107, 3) := by decide +kernel
theorem dX9_town_131 : decode cX9_town 131 = .ok (.ifCond .eq 27, 3) := by decide +kernel
theorem dX9_town_134 : decode cX9_town 134 = .ok (.aload_n 0, 1) := by decide +kernel
theorem dX9_town_135 : decode cX9_town 135 = .ok (.getfield 101, 3) := by decide +kernel
theorem dX9_town_138 : decode cX9_town 138 = .ok (.iconst 1, 1) := by decide +kernel
theorem dX9_town_139 : decode cX9_town 139 = .ok (.if_icmp .ne 19, 3) := by decide +kernel
theorem dX9_town_142 : decode cX9_town 142 = .ok (.aload_n 0, 1) := by decide +kernel
theorem dX9_town_143 : decode cX9_town 143 = .ok (.getfield 98, 3) := by decide +kernel
theorem dX9_town_146 : decode cX9_town 146 = .ok (.bipush 115, 2) := by decide +kernel
theorem dX9_town_148 : decode cX9_town 148 = .ok (.if_icmp .ne 10, 3) := by decide +kernel
theorem dX9_town_151 : decode cX9_town 151 = .ok (.aload_n 0, 1) := by decide +kernel
theorem dX9_town_152 : decode cX9_town 152 = .ok (.invokevirtual 133, 3) := by decide +kernel
theorem dX9_town_155 : decode cX9_town 155 = .ok (.goto (-28), 3) := by decide +kernel
theorem dX9_town_158 : decode cX9_town 158 = .ok (.aload_n 0, 1) := by decide +kernel
theorem dX9_town_159 : decode cX9_town 159 = .ok (.invokevirtual 107, 3) := by decide +kernel
theorem dX9_town_162 : decode cX9_town 162 = .ok (.ifCond .eq 17, 3) := by decide +kernel
theorem dX9_town_165 : decode cX9_town 165 = .ok (.aload_n 0, 1) := by decide +kernel
theorem dX9_town_166 : decode cX9_town 166 = .ok (.getfield 101, 3) := by decide +kernel
theorem dX9_town_169 : decode cX9_town 169 = .ok (.ifCond .eq 10, 3) := by decide +kernel
theorem dX9_town_172 : decode cX9_town 172 = .ok (.aload_n 0, 1) := by decide +kernel
theorem dX9_town_173 : decode cX9_town 173 = .ok (.iconst 0, 1) := by decide +kernel
theorem dX9_town_174 : decode cX9_town 174 = .ok (.iconst 1, 1) := by decide +kernel
theorem dX9_town_175 : decode cX9_town 175 = .ok (.invokevirtual 117, 3) := by decide +kernel
theorem dX9_town_178 : decode cX9_town 178 = .ok (.pop, 1) := by decide +kernel
theorem dX9_town_179 : decode cX9_town 179 = .ok (.aload_n 0, 1) := by decide +kernel
theorem dX9_town_180 : decode cX9_town 180 = .ok (.iconst 0, 1) := by decide +kernel
theorem dX9_town_181 : decode cX9_town 181 = .ok (.putfield 85, 3) := by decide +kernel
theorem dX9_town_184 : decode cX9_town 184 = .ok (.aload_n 0, 1) := by decide +kernel
theorem dX9_town_185 : decode cX9_town 185 = .ok (.invokevirtual 107, 3) := by decide +kernel
theorem dX9_town_188 : decode cX9_town 188 = .ok (.ifCond .ne 11, 3) := by decide +kernel
theorem dX9_town_191 : decode cX9_town 191 = .ok (.ldc 136, 2) := by decide +kernel
theorem dX9_town_193 : decode cX9_town 193 = .ok (.aload_n 0, 1) := by decide +kernel
theorem dX9_town_194 : decode cX9_town 194 = .ok (.getfield 104, 3) := by decide +kernel
theorem dX9_town_197 : decode cX9_town 197 = .ok (.isub, 1) := by decide +kernel
theorem dX9_town_198 : decode cX9_town 198 = .ok (.ireturn, 1) := by decide +kernel
theorem dX9_town_199 : decode cX9_town 199 = .ok (.aload_n 0, 1) := by decide +kernel
theorem dX9_town_200 : decode cX9_town 200 = .ok (.getfield 28, 3) := by decide +kernel
theorem dX9_town_203 : decode cX9_town 203 = .ok (.iconst 0, 1) := by decide +kernel
theorem dX9_town_204 : decode cX9_town 204 = .ok (.aload_n 0, 1) := by decide +kernel
theorem dX9_town_205 : decode cX9_town 205 = .ok (.getfield 25, 3) := by decide +kernel
theorem dX9_town_208 : decode cX9_town 208 = .ok (.iconst 0, 1) := by decide +kernel
theorem dX9_town_209 : decode cX9_town 209 = .ok (.invokestatic 137, 3) := by decide +kernel
theorem dX9_town_212 : decode cX9_town 212 = .ok (.aload_n 0, 1) := by decide +kernel
theorem dX9_town_213 : decode cX9_town 213 = .ok (.iconst 0, 1) := by decide +kernel
theorem dX9_town_214 : decode cX9_town 214 = .ok (.putfield 141, 3) := by decide +kernel
theorem dX9_town_217 : decode cX9_town 217 = .ok (.aload_n 0, 1) := by decide +kernel
theorem dX9_town_218 : decode cX9_town 218 = .ok (.getfield 25, 3) := by decide +kernel
theorem dX9_town_221 : decode cX9_town 221 = .ok (.iconst 3, 1) := by decide +kernel
theorem dX9_town_222 : decode cX9_town 222 = .ok (.iaload, 1) := by decide +kernel
theorem dX9_town_223 : decode cX9_town 223 = .ok (.ireturn, 1) := by decide +kernel
theorem dX9_fault_0 : decode cX9_fault 0 = .ok (.aload_n 0, 1) := by decide +kernel
theorem dX9_fault_1 : decode cX9_fault 1 = .ok (.getfield 111, 3) := by decide +kernel
theorem dX9_fault_4 : decode cX9_fault 4 = .ok (.ireturn, 1) := by decide +kernel
theorem dX9_isTown_0 : decode cX9_isTown 0 = .ok (.aload_n 0, 1) := by decide +kernel
theorem dX9_isTown_1 : decode cX9_isTown 1 = .ok (.getfield 25, 3) := by decide +kernel
theorem dX9_isTown_4 : decode cX9_isTown 4 = .ok (.iconst 0, 1) := by decide +kernel
theorem dX9_isTown_5 : decode cX9_isTown 5 = .ok (.iaload, 1) := by decide +kernel
theorem dX9_isTown_6 : decode cX9_isTown 6 = .ok (.ifCond .le 7, 3) := by decide +kernel
theorem dX9_isTown_9 : decode cX9_isTown 9 = .ok (.iconst 1, 1) := by decide +kernel
theorem dX9_isTown_10 : decode cX9_isTown 10 = .ok (.goto 4, 3) := by decide +kernel
theorem dX9_isTown_13 : decode cX9_isTown 13 = .ok (.iconst 0, 1) := by decide +kernel
theorem dX9_isTown_14 : decode cX9_isTown 14 = .ok (.ireturn, 1) := by decide +kernel
theorem dX9_isLie_0 : decode cX9_isLie 0 = .ok (.iload_n 1, 1) := by decide +kernel
theorem dX9_isLie_1 : decode cX9_isLie 1 = .ok (.iconst 0, 1) := by decide +kernel
theorem dX9_isLie_2 : decode cX9_isLie 2 = .ok (.aload_n 0, 1) := by decide +kernel
theorem dX9_isLie_3 : decode cX9_isLie 3 = .ok (.getfield 25, 3) := by decide +kernel
theorem dX9_isLie_6 : decode cX9_isLie 6 = .ok (.iconst 2, 1) := by decide +kernel
theorem dX9_isLie_7 : decode cX9_isLie 7 = .ok (.iaload, 1) := by decide +kernel
theorem dX9_isLie_8 : decode cX9_isLie 8 = .ok (.iconst 1, 1) := by decide +kernel
theorem dX9_isLie_9 : decode cX9_isLie 9 = .ok (.isub, 1) := by decide +kernel
theorem dX9_isLie_10 : decode cX9_isLie 10 = .ok (.invokestatic 59, 3) := by decide +kernel
theorem dX9_isLie_13 : decode cX9_isLie 13 = .ok (.ireturn, 1) := by decide +kernel
theorem dX9_isStranger_0 : decode cX9_isStranger 0 = .ok (.iload_n 1, 1) := by decide +kernel
theorem dX9_isStranger_1 : decode cX9_isStranger 1 = .ok (.iconst 0, 1) := by decide +kernel
theorem dX9_isStranger_2 : decode cX9_isStranger 2 = .ok (.aload_n 0, 1) := by decide +kernel
theorem dX9_isStranger_3 : decode cX9_isStranger 3 = .ok (.getfield 25, 3) := by decide +kernel
theorem dX9_isStranger_6 : decode cX9_isStranger 6 = .ok (.iconst 3, 1) := by decide +kernel
theorem dX9_isStranger_7 : decode cX9_isStranger 7 = .ok (.iaload, 1) := by decide +kernel
theorem dX9_isStranger_8 : decode cX9_isStranger 8 = .ok (.iconst 1, 1) := by decide +kernel
theorem dX9_isStranger_9 : decode cX9_isStranger 9 = .ok (.isub, 1) := by decide +kernel
theorem dX9_isStranger_10 : decode cX9_isStranger 10 = .ok (.invokestatic 59, 3) := by decide +kernel
theorem dX9_isStranger_13 : decode cX9_isStranger 13 = .ok (.ireturn, 1) := by decide +kernel
theorem dX9_tries_0 : decode cX9_tries 0 = .ok (.bipush 22, 2) := by decide +kernel
theorem dX9_tries_2 : decode cX9_tries 2 = .ok (.iconst 4, 1) := by decide +kernel
theorem dX9_tries_3 : decode cX9_tries 3 = .ok (.iload_n 1, 1) := by decide +kernel
theorem dX9_tries_4 : decode cX9_tries 4 = .ok (.imul, 1) := by decide +kernel
theorem dX9_tries_5 : decode cX9_tries 5 = .ok (.iadd, 1) := by decide +kernel
theorem dX9_tries_6 : decode cX9_tries 6 = .ok (.istore_n 2, 1) := by decide +kernel
theorem dX9_tries_7 : decode cX9_tries 7 = .ok (.aload_n 0, 1) := by decide +kernel
theorem dX9_tries_8 : decode cX9_tries 8 = .ok (.aload_n 0, 1) := by decide +kernel
theorem dX9_tries_9 : decode cX9_tries 9 = .ok (.getfield 25, 3) := by decide +kernel
theorem dX9_tries_12 : decode cX9_tries 12 = .ok (.iload_n 2, 1) := by decide +kernel
theorem dX9_tries_13 : decode cX9_tries 13 = .ok (.iconst 0, 1) := by decide +kernel
theorem dX9_tries_14 : decode cX9_tries 14 = .ok (.iadd, 1) := by decide +kernel
theorem dX9_tries_15 : decode cX9_tries 15 = .ok (.iaload, 1) := by decide +kernel
theorem dX9_tries_16 : decode cX9_tries 16 = .ok (.putfield 144, 3) := by decide +kernel
theorem dX9_tries_19 : decode cX9_tries 19 = .ok (.aload_n 0, 1) := by decide +kernel
theorem dX9_tries_20 : decode cX9_tries 20 = .ok (.aload_n 0, 1) := by decide +kernel
theorem dX9_tries_21 : decode cX9_tries 21 = .ok (.getfield 25, 3) := by decide +kernel
theorem dX9_tries_24 : decode cX9_tries 24 = .ok (.iload_n 2, 1) := by decide +kernel
theorem dX9_tries_25 : decode cX9_tries 25 = .ok (.iconst 1, 1) := by decide +kernel
theorem dX9_tries_26 : decode cX9_tries 26 = .ok (.iadd, 1) := by decide +kernel
theorem dX9_tries_27 : decode cX9_tries 27 = .ok (.iaload, 1) := by decide +kernel
theorem dX9_tries_28 : decode cX9_tries 28 = .ok (.putfield 147, 3) := by decide +kernel
theorem dX9_tries_31 : decode cX9_tries 31 = .ok (.aload_n 0, 1) := by decide +kernel
theorem dX9_tries_32 : decode cX9_tries 32 = .ok (.aload_n 0, 1) := by decide +kernel
theorem dX9_tries_33 : decode cX9_tries 33 = .ok (.getfield 25, 3) := by decide +kernel
theorem dX9_tries_36 : decode cX9_tries 36 = .ok (.iload_n 2, 1) := by decide +kernel
theorem dX9_tries_37 : decode cX9_tries 37 = .ok (.iconst 2, 1) := by decide +kernel
theorem dX9_tries_38 : decode cX9_tries 38 = .ok (.iadd, 1) := by decide +kernel
theorem dX9_tries_39 : decode cX9_tries 39 = .ok (.iaload, 1) := by decide +kernel
theorem dX9_tries_40 : decode cX9_tries 40 = .ok (.invokestatic 150, 3) := by decide +kernel
theorem dX9_tries_43 : decode cX9_tries 43 = .ok (.putfield 153, 3) := by decide +kernel
theorem dX9_tries_46 : decode cX9_tries 46 = .ok (.iconst 0, 1) := by decide +kernel
theorem dX9_tries_47 : decode cX9_tries 47 = .ok (.istore_n 3, 1) := by decide +kernel
theorem dX9_tries_48 : decode cX9_tries 48 = .ok (.iload_n 3, 1) := by decide +kernel
theorem dX9_tries_49 : decode cX9_tries 49 = .ok (.iconst 4, 1) := by decide +kernel
theorem dX9_tries_50 : decode cX9_tries 50 = .ok (.if_icmp .ge 16, 3) := by decide +kernel
theorem dX9_tries_53 : decode cX9_tries 53 = .ok (.aload_n 0, 1) := by decide +kernel
theorem dX9_tries_54 : decode cX9_tries 54 = .ok (.getfield 44, 3) := by decide +kernel
theorem dX9_tries_57 : decode cX9_tries 57 = .ok (.iload_n 3, 1) := by decide +kernel
theorem dX9_tries_58 : decode cX9_tries 58 = .ok (.iconst 0, 1) := by decide +kernel
theorem dX9_tries_59 : decode cX9_tries 59 = .ok (.iastore, 1) := by decide +kernel
theorem dX9_tries_60 : decode cX9_tries 60 = .ok (.iinc 3 1, 3) := by decide +kernel
theorem dX9_tries_63 : decode cX9_tries 63 = .ok (.goto (-15), 3) := by decide +kernel
theorem dX9_tries_66 : decode cX9_tries 66 = .ok (.iconst 0, 1) := by decide +kernel
theorem dX9_tries_67 : decode cX9_tries 67 = .ok (.istore_n 3, 1) := by decide +kernel
theorem dX9_tries_68 : decode cX9_tries 68 = .ok (.iload_n 3, 1) := by decide +kernel
theorem dX9_tries_69 : decode cX9_tries 69 = .ok (.aload_n 0, 1) := by decide +kernel
theorem dX9_tries_70 : decode cX9_tries 70 = .ok (.getfield 25, 3) := by decide +kernel
theorem dX9_tries_73 : decode cX9_tries 73 = .ok (.iconst 2, 1) := by decide +kernel
theorem dX9_tries_74 : decode cX9_tries 74 = .ok (.iaload, 1) := by decide +kernel
theorem dX9_tries_75 : decode cX9_tries 75 = .ok (.if_icmp .ge 49, 3) := by decide +kernel
theorem dX9_tries_78 : decode cX9_tries 78 = .ok (.aload_n 0, 1) := by decide +kernel
theorem dX9_tries_79 : decode cX9_tries 79 = .ok (.getfield 44, 3) := by decide +kernel
theorem dX9_tries_82 : decode cX9_tries 82 = .ok (.aload_n 0, 1) := by decide +kernel
theorem dX9_tries_83 : decode cX9_tries 83 = .ok (.getfield 25, 3) := by decide +kernel
theorem dX9_tries_86 : decode cX9_tries 86 = .ok (.iconst 4, 1) := by decide +kernel
theorem dX9_tries_87 : decode cX9_tries 87 = .ok (.iconst 3, 1) := by decide +kernel
theorem dX9_tries_88 : decode cX9_tries 88 = .ok (.iload_n 3, 1) := by decide +kernel
theorem dX9_tries_89 : decode cX9_tries 89 = .ok (.imul, 1) := by decide +kernel
theorem dX9_tries_90 : decode cX9_tries 90 = .ok (.iadd, 1) := by decide +kernel
theorem dX9_tries_91 : decode cX9_tries 91 = .ok (.iconst 2, 1) := by decide +kernel
theorem dX9_tries_92 : decode cX9_tries 92 = .ok (.iadd, 1) := by decide +kernel
theorem dX9_tries_93 : decode cX9_tries 93 = .ok (.iaload, 1) := by decide +kernel
theorem dX9_tries_94 : decode cX9_tries 94 = .ok (.dup2, 1) := by decide +kernel
theorem dX9_tries_95 : decode cX9_tries 95 = .ok (.iaload, 1) := by decide +kernel
theorem dX9_tries_96 : decode cX9_tries 96 = .ok (.aload_n 0, 1) := by decide +kernel
theorem dX9_tries_97 : decode cX9_tries 97 = .ok (.getfield 25, 3) := by decide +kernel
theorem dX9_tries_100 : decode cX9_tries 100 = .ok (.iload_n 2, 1) := by decide +kernel
theorem dX9_tries_101 : decode cX9_tries 101 = .ok (.iconst 3, 1) := by decide +kernel
theorem dX9_tries_102 : decode cX9_tries 102 = .ok (.iadd, 1) := by decide +kernel
theorem dX9_tries_103 : decode cX9_tries 103 = .ok (.iaload, 1) := by decide +kernel
theorem dX9_tries_104 : decode cX9_tries 104 = .ok (.iload_n 3, 1) := by decide +kernel
theorem dX9_tries_105 : decode cX9_tries 105 = .ok (.invokestatic 156, 3) := by decide +kernel
theorem dX9_tries_108 : decode cX9_tries 108 = .ok (.ifCond .eq 7, 3) := by decide +kernel
theorem dX9_tries_111 : decode cX9_tries 111 = .ok (.iconst 1, 1) := by decide +kernel
theorem dX9_tries_112 : decode cX9_tries 112 = .ok (.goto 4, 3) := by decide +kernel
theorem dX9_tries_115 : decode cX9_tries 115 = .ok (.iconst 0, 1) := by decide +kernel
theorem dX9_tries_116 : decode cX9_tries 116 = .ok (.iadd, 1) := by decide +kernel
theorem dX9_tries_117 : decode cX9_tries 117 = .ok (.iastore, 1) := by decide +kernel
theorem dX9_tries_118 : decode cX9_tries 118 = .ok (.iinc 3 1, 3) := by decide +kernel
theorem dX9_tries_121 : decode cX9_tries 121 = .ok (.goto (-53), 3) := by decide +kernel
theorem dX9_tries_124 : decode cX9_tries 124 = .ok (.return_, 1) := by decide +kernel
