theorem dX2_goesSo_66 : decode cX2_goesSo 66 = .ok (.if_icmp .eq 5, 3) := by decide +kernel
theorem dX2_goesSo_69 : decode cX2_goesSo 69 = .ok (.iconst 0, 1) := by decide +kernel
theorem dX2_goesSo_70 : decode cX2_goesSo 70 = .ok (.ireturn, 1) := by decide +kernel
theorem dX2_goesSo_71 : decode cX2_goesSo 71 = .ok (.iinc 5 1, 3) := by decide +kernel
theorem dX2_goesSo_74 : decode cX2_goesSo 74 = .ok (.goto (-52), 3) := by decide +kernel
theorem dX2_goesSo_77 : decode cX2_goesSo 77 = .ok (.iconst 1, 1) := by decide +kernel
theorem dX2_goesSo_78 : decode cX2_goesSo 78 = .ok (.ireturn, 1) := by decide +kernel
theorem dX2_waysToNod_0 : decode cX2_waysToNod 0 = .ok (.aload_n 0, 1) := by decide +kernel
theorem dX2_waysToNod_1 : decode cX2_waysToNod 1 = .ok (.iload_n 1, 1) := by decide +kernel
theorem dX2_waysToNod_2 : decode cX2_waysToNod 2 = .ok (.invokevirtual 49, 3) := by decide +kernel
theorem dX2_waysToNod_5 : decode cX2_waysToNod 5 = .ok (.pop, 1) := by decide +kernel
theorem dX2_waysToNod_6 : decode cX2_waysToNod 6 = .ok (.aload_n 0, 1) := by decide +kernel
theorem dX2_waysToNod_7 : decode cX2_waysToNod 7 = .ok (.iconst 0, 1) := by decide +kernel
theorem dX2_waysToNod_8 : decode cX2_waysToNod 8 = .ok (.iload_n 2, 1) := by decide +kernel
theorem dX2_waysToNod_9 : decode cX2_waysToNod 9 = .ok (.iload_n 3, 1) := by decide +kernel
theorem dX2_waysToNod_10 : decode cX2_waysToNod 10 = .ok (.invokevirtual 121, 3) := by decide +kernel
theorem dX2_waysToNod_13 : decode cX2_waysToNod 13 = .ok (.ireturn, 1) := by decide +kernel
theorem dX2_waysInAll_0 : decode cX2_waysInAll 0 = .ok (.iconst 1, 1) := by decide +kernel
theorem dX2_waysInAll_1 : decode cX2_waysInAll 1 = .ok (.istore_n 1, 1) := by decide +kernel
theorem dX2_waysInAll_2 : decode cX2_waysInAll 2 = .ok (.iconst 0, 1) := by decide +kernel
theorem dX2_waysInAll_3 : decode cX2_waysInAll 3 = .ok (.istore_n 2, 1) := by decide +kernel
theorem dX2_waysInAll_4 : decode cX2_waysInAll 4 = .ok (.iload_n 2, 1) := by decide +kernel
theorem dX2_waysInAll_5 : decode cX2_waysInAll 5 = .ok (.aload_n 0, 1) := by decide +kernel
theorem dX2_waysInAll_6 : decode cX2_waysInAll 6 = .ok (.getfield 37, 3) := by decide +kernel
theorem dX2_waysInAll_9 : decode cX2_waysInAll 9 = .ok (.if_icmp .ge 14, 3) := by decide +kernel
theorem dX2_waysInAll_12 : decode cX2_waysInAll 12 = .ok (.iload_n 1, 1) := by decide +kernel
theorem dX2_waysInAll_13 : decode cX2_waysInAll 13 = .ok (.bipush 10, 2) := by decide +kernel
theorem dX2_waysInAll_15 : decode cX2_waysInAll 15 = .ok (.imul, 1) := by decide +kernel
theorem dX2_waysInAll_16 : decode cX2_waysInAll 16 = .ok (.istore_n 1, 1) := by decide +kernel
theorem dX2_waysInAll_17 : decode cX2_waysInAll 17 = .ok (.iinc 2 1, 3) := by decide +kernel
theorem dX2_waysInAll_20 : decode cX2_waysInAll 20 = .ok (.goto (-16), 3) := by decide +kernel
theorem dX2_waysInAll_23 : decode cX2_waysInAll 23 = .ok (.iload_n 1, 1) := by decide +kernel
theorem dX2_waysInAll_24 : decode cX2_waysInAll 24 = .ok (.ireturn, 1) := by decide +kernel
theorem dX2_waysFrom_0 : decode cX2_waysFrom 0 = .ok (.iload_n 1, 1) := by decide +kernel
theorem dX2_waysFrom_1 : decode cX2_waysFrom 1 = .ok (.aload_n 0, 1) := by decide +kernel
theorem dX2_waysFrom_2 : decode cX2_waysFrom 2 = .ok (.getfield 37, 3) := by decide +kernel
theorem dX2_waysFrom_5 : decode cX2_waysFrom 5 = .ok (.if_icmp .ge 9, 3) := by decide +kernel
theorem dX2_waysFrom_8 : decode cX2_waysFrom 8 = .ok (.iload_n 1, 1) := by decide +kernel
theorem dX2_waysFrom_9 : decode cX2_waysFrom 9 = .ok (.bipush 6, 2) := by decide +kernel
theorem dX2_waysFrom_11 : decode cX2_waysFrom 11 = .ok (.if_icmp .lt 13, 3) := by decide +kernel
theorem dX2_waysFrom_14 : decode cX2_waysFrom 14 = .ok (.iload_n 2, 1) := by decide +kernel
theorem dX2_waysFrom_15 : decode cX2_waysFrom 15 = .ok (.ifCond .gt 7, 3) := by decide +kernel
theorem dX2_waysFrom_18 : decode cX2_waysFrom 18 = .ok (.iconst 1, 1) := by decide +kernel
theorem dX2_waysFrom_19 : decode cX2_waysFrom 19 = .ok (.goto 4, 3) := by decide +kernel
theorem dX2_waysFrom_22 : decode cX2_waysFrom 22 = .ok (.iconst 0, 1) := by decide +kernel
theorem dX2_waysFrom_23 : decode cX2_waysFrom 23 = .ok (.ireturn, 1) := by decide +kernel
theorem dX2_waysFrom_24 : decode cX2_waysFrom 24 = .ok (.aload_n 0, 1) := by decide +kernel
theorem dX2_waysFrom_25 : decode cX2_waysFrom 25 = .ok (.getfield 31, 3) := by decide +kernel
theorem dX2_waysFrom_28 : decode cX2_waysFrom 28 = .ok (.iload_n 1, 1) := by decide +kernel
theorem dX2_waysFrom_29 : decode cX2_waysFrom 29 = .ok (.iaload, 1) := by decide +kernel
theorem dX2_waysFrom_30 : decode cX2_waysFrom 30 = .ok (.istore 4, 2) := by decide +kernel
theorem dX2_waysFrom_32 : decode cX2_waysFrom 32 = .ok (.aload_n 0, 1) := by decide +kernel
theorem dX2_waysFrom_33 : decode cX2_waysFrom 33 = .ok (.getfield 13, 3) := by decide +kernel
theorem dX2_waysFrom_36 : decode cX2_waysFrom 36 = .ok (.iload_n 1, 1) := by decide +kernel
theorem dX2_waysFrom_37 : decode cX2_waysFrom 37 = .ok (.aaload, 1) := by decide +kernel
theorem dX2_waysFrom_38 : decode cX2_waysFrom 38 = .ok (.aload_n 0, 1) := by decide +kernel
theorem dX2_waysFrom_39 : decode cX2_waysFrom 39 = .ok (.getfield 40, 3) := by decide +kernel
theorem dX2_waysFrom_42 : decode cX2_waysFrom 42 = .ok (.iload 4, 2) := by decide +kernel
theorem dX2_waysFrom_44 : decode cX2_waysFrom 44 = .ok (.invokevirtual 62, 3) := by decide +kernel
theorem dX2_waysFrom_47 : decode cX2_waysFrom 47 = .ok (.istore 5, 2) := by decide +kernel
theorem dX2_waysFrom_49 : decode cX2_waysFrom 49 = .ok (.aload_n 0, 1) := by decide +kernel
theorem dX2_waysFrom_50 : decode cX2_waysFrom 50 = .ok (.getfield 13, 3) := by decide +kernel
theorem dX2_waysFrom_53 : decode cX2_waysFrom 53 = .ok (.iload_n 1, 1) := by decide +kernel
theorem dX2_waysFrom_54 : decode cX2_waysFrom 54 = .ok (.iconst 1, 1) := by decide +kernel
theorem dX2_waysFrom_55 : decode cX2_waysFrom 55 = .ok (.iadd, 1) := by decide +kernel
theorem dX2_waysFrom_56 : decode cX2_waysFrom 56 = .ok (.aaload, 1) := by decide +kernel
theorem dX2_waysFrom_57 : decode cX2_waysFrom 57 = .ok (.aload_n 0, 1) := by decide +kernel
theorem dX2_waysFrom_58 : decode cX2_waysFrom 58 = .ok (.getfield 13, 3) := by decide +kernel
theorem dX2_waysFrom_61 : decode cX2_waysFrom 61 = .ok (.iload_n 1, 1) := by decide +kernel
theorem dX2_waysFrom_62 : decode cX2_waysFrom 62 = .ok (.aaload, 1) := by decide +kernel
theorem dX2_waysFrom_63 : decode cX2_waysFrom 63 = .ok (.invokevirtual 84, 3) := by decide +kernel
theorem dX2_waysFrom_66 : decode cX2_waysFrom 66 = .ok (.aload_n 0, 1) := by decide +kernel
theorem dX2_waysFrom_67 : decode cX2_waysFrom 67 = .ok (.getfield 13, 3) := by decide +kernel
theorem dX2_waysFrom_70 : decode cX2_waysFrom 70 = .ok (.iload_n 1, 1) := by decide +kernel
theorem dX2_waysFrom_71 : decode cX2_waysFrom 71 = .ok (.iconst 1, 1) := by decide +kernel
theorem dX2_waysFrom_72 : decode cX2_waysFrom 72 = .ok (.iadd, 1) := by decide +kernel
theorem dX2_waysFrom_73 : decode cX2_waysFrom 73 = .ok (.aaload, 1) := by decide +kernel
theorem dX2_waysFrom_74 : decode cX2_waysFrom 74 = .ok (.aload_n 0, 1) := by decide +kernel
theorem dX2_waysFrom_75 : decode cX2_waysFrom 75 = .ok (.getfield 40, 3) := by decide +kernel
theorem dX2_waysFrom_78 : decode cX2_waysFrom 78 = .ok (.iload 4, 2) := by decide +kernel
theorem dX2_waysFrom_80 : decode cX2_waysFrom 80 = .ok (.iconst 0, 1) := by decide +kernel
theorem dX2_waysFrom_81 : decode cX2_waysFrom 81 = .ok (.invokevirtual 124, 3) := by decide +kernel
theorem dX2_waysFrom_84 : decode cX2_waysFrom 84 = .ok (.aload_n 0, 1) := by decide +kernel
theorem dX2_waysFrom_85 : decode cX2_waysFrom 85 = .ok (.iload_n 1, 1) := by decide +kernel
theorem dX2_waysFrom_86 : decode cX2_waysFrom 86 = .ok (.iconst 1, 1) := by decide +kernel
theorem dX2_waysFrom_87 : decode cX2_waysFrom 87 = .ok (.iadd, 1) := by decide +kernel
theorem dX2_waysFrom_88 : decode cX2_waysFrom 88 = .ok (.iload_n 2, 1) := by decide +kernel
theorem dX2_waysFrom_89 : decode cX2_waysFrom 89 = .ok (.iload_n 3, 1) := by decide +kernel
theorem dX2_waysFrom_90 : decode cX2_waysFrom 90 = .ok (.invokevirtual 121, 3) := by decide +kernel
theorem dX2_waysFrom_93 : decode cX2_waysFrom 93 = .ok (.istore 6, 2) := by decide +kernel
theorem dX2_waysFrom_95 : decode cX2_waysFrom 95 = .ok (.iload 5, 2) := by decide +kernel
theorem dX2_waysFrom_97 : decode cX2_waysFrom 97 = .ok (.ifCond .ne 9, 3) := by decide +kernel
theorem dX2_waysFrom_100 : decode cX2_waysFrom 100 = .ok (.bipush 10, 2) := by decide +kernel
theorem dX2_waysFrom_102 : decode cX2_waysFrom 102 = .ok (.iload 6, 2) := by decide +kernel
theorem dX2_waysFrom_104 : decode cX2_waysFrom 104 = .ok (.imul, 1) := by decide +kernel
theorem dX2_waysFrom_105 : decode cX2_waysFrom 105 = .ok (.ireturn, 1) := by decide +kernel
theorem dX2_waysFrom_106 : decode cX2_waysFrom 106 = .ok (.aload_n 0, 1) := by decide +kernel
theorem dX2_waysFrom_107 : decode cX2_waysFrom 107 = .ok (.getfield 13, 3) := by decide +kernel
theorem dX2_waysFrom_110 : decode cX2_waysFrom 110 = .ok (.iload_n 1, 1) := by decide +kernel
theorem dX2_waysFrom_111 : decode cX2_waysFrom 111 = .ok (.iconst 1, 1) := by decide +kernel
theorem dX2_waysFrom_112 : decode cX2_waysFrom 112 = .ok (.iadd, 1) := by decide +kernel
theorem dX2_waysFrom_113 : decode cX2_waysFrom 113 = .ok (.aaload, 1) := by decide +kernel
theorem dX2_waysFrom_114 : decode cX2_waysFrom 114 = .ok (.aload_n 0, 1) := by decide +kernel
theorem dX2_waysFrom_115 : decode cX2_waysFrom 115 = .ok (.getfield 13, 3) := by decide +kernel
theorem dX2_waysFrom_118 : decode cX2_waysFrom 118 = .ok (.iload_n 1, 1) := by decide +kernel
theorem dX2_waysFrom_119 : decode cX2_waysFrom 119 = .ok (.aaload, 1) := by decide +kernel
theorem dX2_waysFrom_120 : decode cX2_waysFrom 120 = .ok (.invokevirtual 84, 3) := by decide +kernel
theorem dX2_waysFrom_123 : decode cX2_waysFrom 123 = .ok (.aload_n 0, 1) := by decide +kernel
theorem dX2_waysFrom_124 : decode cX2_waysFrom 124 = .ok (.getfield 13, 3) := by decide +kernel
theorem dX2_waysFrom_127 : decode cX2_waysFrom 127 = .ok (.iload_n 1, 1) := by decide +kernel
theorem dX2_waysFrom_128 : decode cX2_waysFrom 128 = .ok (.iconst 1, 1) := by decide +kernel
theorem dX2_waysFrom_129 : decode cX2_waysFrom 129 = .ok (.iadd, 1) := by decide +kernel
theorem dX2_waysFrom_130 : decode cX2_waysFrom 130 = .ok (.aaload, 1) := by decide +kernel
theorem dX2_waysFrom_131 : decode cX2_waysFrom 131 = .ok (.aload_n 0, 1) := by decide +kernel
theorem dX2_waysFrom_132 : decode cX2_waysFrom 132 = .ok (.getfield 40, 3) := by decide +kernel
theorem dX2_waysFrom_135 : decode cX2_waysFrom 135 = .ok (.iload 4, 2) := by decide +kernel
theorem dX2_waysFrom_137 : decode cX2_waysFrom 137 = .ok (.iconst 1, 1) := by decide +kernel
theorem dX2_waysFrom_138 : decode cX2_waysFrom 138 = .ok (.invokevirtual 124, 3) := by decide +kernel
theorem dX2_waysFrom_141 : decode cX2_waysFrom 141 = .ok (.iload_n 3, 1) := by decide +kernel
theorem dX2_waysFrom_142 : decode cX2_waysFrom 142 = .ok (.iload 6, 2) := by decide +kernel
theorem dX2_waysFrom_144 : decode cX2_waysFrom 144 = .ok (.imul, 1) := by decide +kernel
theorem dX2_waysFrom_145 : decode cX2_waysFrom 145 = .ok (.bipush 10, 2) := by decide +kernel
theorem dX2_waysFrom_147 : decode cX2_waysFrom 147 = .ok (.iload_n 3, 1) := by decide +kernel
theorem dX2_waysFrom_148 : decode cX2_waysFrom 148 = .ok (.isub, 1) := by decide +kernel
theorem dX2_waysFrom_149 : decode cX2_waysFrom 149 = .ok (.aload_n 0, 1) := by decide +kernel
theorem dX2_waysFrom_150 : decode cX2_waysFrom 150 = .ok (.iload_n 1, 1) := by decide +kernel
theorem dX2_waysFrom_151 : decode cX2_waysFrom 151 = .ok (.iconst 1, 1) := by decide +kernel
theorem dX2_waysFrom_152 : decode cX2_waysFrom 152 = .ok (.iadd, 1) := by decide +kernel
theorem dX2_waysFrom_153 : decode cX2_waysFrom 153 = .ok (.iload_n 2, 1) := by decide +kernel
theorem dX2_waysFrom_154 : decode cX2_waysFrom 154 = .ok (.iconst 1, 1) := by decide +kernel
theorem dX2_waysFrom_155 : decode cX2_waysFrom 155 = .ok (.isub, 1) := by decide +kernel
theorem dX2_waysFrom_156 : decode cX2_waysFrom 156 = .ok (.iload_n 3, 1) := by decide +kernel
theorem dX2_waysFrom_157 : decode cX2_waysFrom 157 = .ok (.invokevirtual 121, 3) := by decide +kernel
theorem dX2_waysFrom_160 : decode cX2_waysFrom 160 = .ok (.imul, 1) := by decide +kernel
theorem dX2_waysFrom_161 : decode cX2_waysFrom 161 = .ok (.iadd, 1) := by decide +kernel
theorem dX2_waysFrom_162 : decode cX2_waysFrom 162 = .ok (.ireturn, 1) := by decide +kernel
theorem dX3_isKind_0 : decode cX3_isKind 0 = .ok (.iload_n 0, 1) := by decide +kernel
theorem dX3_isKind_1 : decode cX3_isKind 1 = .ok (.ifCond .lt 13, 3) := by decide +kernel
theorem dX3_isKind_4 : decode cX3_isKind 4 = .ok (.iload_n 0, 1) := by decide +kernel
theorem dX3_isKind_5 : decode cX3_isKind 5 = .ok (.bipush 6, 2) := by decide +kernel
theorem dX3_isKind_7 : decode cX3_isKind 7 = .ok (.if_icmp .ge 7, 3) := by decide +kernel
theorem dX3_isKind_10 : decode cX3_isKind 10 = .ok (.iconst 1, 1) := by decide +kernel
theorem dX3_isKind_11 : decode cX3_isKind 11 = .ok (.goto 4, 3) := by decide +kernel
theorem dX3_isKind_14 : decode cX3_isKind 14 = .ok (.iconst 0, 1) := by decide +kernel
theorem dX3_isKind_15 : decode cX3_isKind 15 = .ok (.ireturn, 1) := by decide +kernel
theorem dX3_isOne_0 : decode cX3_isOne 0 = .ok (.iload_n 0, 1) := by decide +kernel
theorem dX3_isOne_1 : decode cX3_isOne 1 = .ok (.istore_n 2, 1) := by decide +kernel
theorem dX3_isOne_2 : decode cX3_isOne 2 = .ok (.iconst 0, 1) := by decide +kernel
theorem dX3_isOne_3 : decode cX3_isOne 3 = .ok (.istore_n 3, 1) := by decide +kernel
theorem dX3_isOne_4 : decode cX3_isOne 4 = .ok (.iload_n 3, 1) := by decide +kernel
theorem dX3_isOne_5 : decode cX3_isOne 5 = .ok (.bipush 6, 2) := by decide +kernel
theorem dX3_isOne_7 : decode cX3_isOne 7 = .ok (.if_icmp .ge 19, 3) := by decide +kernel
theorem dX3_isOne_10 : decode cX3_isOne 10 = .ok (.iload_n 2, 1) := by decide +kernel
theorem dX3_isOne_11 : decode cX3_isOne 11 = .ok (.iload_n 1, 1) := by decide +kernel
theorem dX3_isOne_12 : decode cX3_isOne 12 = .ok (.if_icmp .eq 14, 3) := by decide +kernel
theorem dX3_isOne_15 : decode cX3_isOne 15 = .ok (.iload_n 2, 1) := by decide +kernel
theorem dX3_isOne_16 : decode cX3_isOne 16 = .ok (.invokestatic 9, 3) := by decide +kernel
theorem dX3_isOne_19 : decode cX3_isOne 19 = .ok (.istore_n 2, 1) := by decide +kernel
theorem dX3_isOne_20 : decode cX3_isOne 20 = .ok (.iinc 3 1, 3) := by decide +kernel
theorem dX3_isOne_23 : decode cX3_isOne 23 = .ok (.goto (-19), 3) := by decide +kernel
theorem dX3_isOne_26 : decode cX3_isOne 26 = .ok (.iload_n 2, 1) := by decide +kernel
theorem dX3_isOne_27 : decode cX3_isOne 27 = .ok (.iload_n 1, 1) := by decide +kernel
theorem dX3_isOne_28 : decode cX3_isOne 28 = .ok (.if_icmp .ne 7, 3) := by decide +kernel
theorem dX3_isOne_31 : decode cX3_isOne 31 = .ok (.iconst 1, 1) := by decide +kernel
theorem dX3_isOne_32 : decode cX3_isOne 32 = .ok (.goto 4, 3) := by decide +kernel
theorem dX3_isOne_35 : decode cX3_isOne 35 = .ok (.iconst 0, 1) := by decide +kernel
theorem dX3_isOne_36 : decode cX3_isOne 36 = .ok (.ireturn, 1) := by decide +kernel
theorem dX3_above_0 : decode cX3_above 0 = .ok (.iload_n 0, 1) := by decide +kernel
theorem dX3_above_1 : decode cX3_above 1 = .ok (.invokestatic 13, 3) := by decide +kernel
theorem dX3_above_4 : decode cX3_above 4 = .ok (.ifCond .eq 11, 3) := by decide +kernel
theorem dX3_above_7 : decode cX3_above 7 = .ok (.getstatic 17, 3) := by decide +kernel
theorem dX3_above_10 : decode cX3_above 10 = .ok (.iload_n 0, 1) := by decide +kernel
theorem dX3_above_11 : decode cX3_above 11 = .ok (.iaload, 1) := by decide +kernel
theorem dX3_above_12 : decode cX3_above 12 = .ok (.goto 4, 3) := by decide +kernel
theorem dX3_above_15 : decode cX3_above 15 = .ok (.iconst 0, 1) := by decide +kernel
theorem dX3_above_16 : decode cX3_above 16 = .ok (.ireturn, 1) := by decide +kernel
theorem dX3_ofLetter_0 : decode cX3_ofLetter 0 = .ok (.iload_n 0, 1) := by decide +kernel
theorem dX3_ofLetter_1 : decode cX3_ofLetter 1 = .ok (.lookupswitch 61 #[(97, 53), (101, 51), (104, 55), (108, 59), (112, 57)], 51) := by decide +kernel
theorem dX3_ofLetter_52 : decode cX3_ofLetter 52 = .ok (.iconst 1, 1) := by decide +kernel
theorem dX3_ofLetter_53 : decode cX3_ofLetter 53 = .ok (.ireturn, 1) := by decide +kernel
theorem dX3_ofLetter_54 : decode cX3_ofLetter 54 = .ok (.iconst 2, 1) := by decide +kernel
theorem dX3_ofLetter_55 : decode cX3_ofLetter 55 = .ok (.ireturn, 1) := by decide +kernel
theorem dX3_ofLetter_56 : decode cX3_ofLetter 56 = .ok (.iconst 3, 1) := by decide +kernel
theorem dX3_ofLetter_57 : decode cX3_ofLetter 57 = .ok (.ireturn, 1) := by decide +kernel
theorem dX3_ofLetter_58 : decode cX3_ofLetter 58 = .ok (.iconst 4, 1) := by decide +kernel
theorem dX3_ofLetter_59 : decode cX3_ofLetter 59 = .ok (.ireturn, 1) := by decide +kernel
theorem dX3_ofLetter_60 : decode cX3_ofLetter 60 = .ok (.iconst 5, 1) := by decide +kernel
theorem dX3_ofLetter_61 : decode cX3_ofLetter 61 = .ok (.ireturn, 1) := by decide +kernel
theorem dX3_ofLetter_62 : decode cX3_ofLetter 62 = .ok (.iconst 0, 1) := by decide +kernel
theorem dX3_ofLetter_63 : decode cX3_ofLetter 63 = .ok (.ireturn, 1) := by decide +kernel
theorem dX4_init_0 : decode cX4_init 0 = .ok (.aload_n 0, 1) := by decide +kernel
theorem dX4_init_1 : decode cX4_init 1 = .ok (.invokespecial 1, 3) := by decide +kernel
theorem dX4_init_4 : decode cX4_init 4 = .ok (.aload_n 0, 1) := by decide +kernel
theorem dX4_init_5 : decode cX4_init 5 = .ok (.iconst 0, 1) := by decide +kernel
theorem dX4_init_6 : decode cX4_init 6 = .ok (.putfield 7, 3) := by decide +kernel
theorem dX4_init_9 : decode cX4_init 9 = .ok (.aload_n 0, 1) := by decide +kernel
theorem dX4_init_10 : decode cX4_init 10 = .ok (.iconst 0, 1) := by decide +kernel
theorem dX4_init_11 : decode cX4_init 11 = .ok (.putfield 13, 3) := by decide +kernel
theorem dX4_init_14 : decode cX4_init 14 = .ok (.aload_n 0, 1) := by decide +kernel
theorem dX4_init_15 : decode cX4_init 15 = .ok (.iconst 0, 1) := by decide +kernel
theorem dX4_init_16 : decode cX4_init 16 = .ok (.putfield 16, 3) := by decide +kernel
theorem dX4_init_19 : decode cX4_init 19 = .ok (.aload_n 0, 1) := by decide +kernel
theorem dX4_init_20 : decode cX4_init 20 = .ok (.iconst 4, 1) := by decide +kernel
theorem dX4_init_21 : decode cX4_init 21 = .ok (.newarray .int, 2) := by decide +kernel
theorem dX4_init_23 : decode cX4_init 23 = .ok (.putfield 21, 3) := by decide +kernel
theorem dX4_init_26 : decode cX4_init 26 = .ok (.return_, 1) := by decide +kernel
theorem dX4_enter_0 : decode cX4_enter 0 = .ok (.aload_n 0, 1) := by decide +kernel
theorem dX4_enter_1 : decode cX4_enter 1 = .ok (.aload_n 1, 1) := by decide +kernel
theorem dX4_enter_2 : decode cX4_enter 2 = .ok (.getfield 25, 3) := by decide +kernel
theorem dX4_enter_5 : decode cX4_enter 5 = .ok (.iload_n 2, 1) := by decide +kernel
theorem dX4_enter_6 : decode cX4_enter 6 = .ok (.iaload, 1) := by decide +kernel
theorem dX4_enter_7 : decode cX4_enter 7 = .ok (.putfield 7, 3) := by decide +kernel
theorem dX4_enter_10 : decode cX4_enter 10 = .ok (.aload_n 0, 1) := by decide +kernel
theorem dX4_enter_11 : decode cX4_enter 11 = .ok (.aload_n 1, 1) := by decide +kernel
theorem dX4_enter_12 : decode cX4_enter 12 = .ok (.getfield 28, 3) := by decide +kernel
theorem dX4_enter_15 : decode cX4_enter 15 = .ok (.iload_n 2, 1) := by decide +kernel
theorem dX4_enter_16 : decode cX4_enter 16 = .ok (.iaload, 1) := by decide +kernel
theorem dX4_enter_17 : decode cX4_enter 17 = .ok (.putfield 13, 3) := by decide +kernel
theorem dX4_enter_20 : decode cX4_enter 20 = .ok (.aload_n 0, 1) := by decide +kernel
theorem dX4_enter_21 : decode cX4_enter 21 = .ok (.aload_n 1, 1) := by decide +kernel
theorem dX4_enter_22 : decode cX4_enter 22 = .ok (.getfield 30, 3) := by decide +kernel
theorem dX4_enter_25 : decode cX4_enter 25 = .ok (.iload_n 2, 1) := by decide +kernel
theorem dX4_enter_26 : decode cX4_enter 26 = .ok (.iaload, 1) := by decide +kernel
theorem dX4_enter_27 : decode cX4_enter 27 = .ok (.invokestatic 33, 3) := by decide +kernel
theorem dX4_enter_30 : decode cX4_enter 30 = .ok (.putfield 16, 3) := by decide +kernel
theorem dX4_enter_33 : decode cX4_enter 33 = .ok (.iconst 0, 1) := by decide +kernel
theorem dX4_enter_34 : decode cX4_enter 34 = .ok (.istore_n 3, 1) := by decide +kernel
theorem dX4_enter_35 : decode cX4_enter 35 = .ok (.iload_n 3, 1) := by decide +kernel
theorem dX4_enter_36 : decode cX4_enter 36 = .ok (.iconst 4, 1) := by decide +kernel
theorem dX4_enter_37 : decode cX4_enter 37 = .ok (.if_icmp .ge 16, 3) := by decide +kernel
theorem dX4_enter_40 : decode cX4_enter 40 = .ok (.aload_n 0, 1) := by decide +kernel
theorem dX4_enter_41 : decode cX4_enter 41 = .ok (.getfield 21, 3) := by decide +kernel
theorem dX4_enter_44 : decode cX4_enter 44 = .ok (.iload_n 3, 1) := by decide +kernel
theorem dX4_enter_45 : decode cX4_enter 45 = .ok (.iconst 0, 1) := by decide +kernel
theorem dX4_enter_46 : decode cX4_enter 46 = .ok (.iastore, 1) := by decide +kernel
theorem dX4_enter_47 : decode cX4_enter 47 = .ok (.iinc 3 1, 3) := by decide +kernel
theorem dX4_enter_50 : decode cX4_enter 50 = .ok (.goto (-15), 3) := by decide +kernel
theorem dX4_enter_53 : decode cX4_enter 53 = .ok (.iconst 0, 1) := by decide +kernel
theorem dX4_enter_54 : decode cX4_enter 54 = .ok (.istore_n 3, 1) := by decide +kernel
theorem dX4_enter_55 : decode cX4_enter 55 = .ok (.iload_n 3, 1) := by decide +kernel
theorem dX4_enter_56 : decode cX4_enter 56 = .ok (.aload_n 1, 1) := by decide +kernel
theorem dX4_enter_57 : decode cX4_enter 57 = .ok (.getfield 39, 3) := by decide +kernel
theorem dX4_enter_60 : decode cX4_enter 60 = .ok (.if_icmp .ge 33, 3) := by decide +kernel
theorem dX4_enter_63 : decode cX4_enter 63 = .ok (.aload_n 0, 1) := by decide +kernel
theorem dX4_enter_64 : decode cX4_enter 64 = .ok (.getfield 21, 3) := by decide +kernel
theorem dX4_enter_67 : decode cX4_enter 67 = .ok (.aload_n 1, 1) := by decide +kernel
theorem dX4_enter_68 : decode cX4_enter 68 = .ok (.getfield 42, 3) := by decide +kernel
theorem dX4_enter_71 : decode cX4_enter 71 = .ok (.iload_n 3, 1) := by decide +kernel
theorem dX4_enter_72 : decode cX4_enter 72 = .ok (.iaload, 1) := by decide +kernel
theorem dX4_enter_73 : decode cX4_enter 73 = .ok (.dup2, 1) := by decide +kernel
theorem dX4_enter_74 : decode cX4_enter 74 = .ok (.iaload, 1) := by decide +kernel
theorem dX4_enter_75 : decode cX4_enter 75 = .ok (.aload_n 1, 1) := by decide +kernel
theorem dX4_enter_76 : decode cX4_enter 76 = .ok (.getfield 45, 3) := by decide +kernel
theorem dX4_enter_79 : decode cX4_enter 79 = .ok (.iload_n 2, 1) := by decide +kernel
theorem dX4_enter_80 : decode cX4_enter 80 = .ok (.iaload, 1) := by decide +kernel
theorem dX4_enter_81 : decode cX4_enter 81 = .ok (.iload_n 3, 1) := by decide +kernel
theorem dX4_enter_82 : decode cX4_enter 82 = .ok (.ishr, 1) := by decide +kernel
theorem dX4_enter_83 : decode cX4_enter 83 = .ok (.iconst 1, 1) := by decide +kernel
theorem dX4_enter_84 : decode cX4_enter 84 = .ok (.iand, 1) := by decide +kernel
theorem dX4_enter_85 : decode cX4_enter 85 = .ok (.iadd, 1) := by decide +kernel
theorem dX4_enter_86 : decode cX4_enter 86 = .ok (.iastore, 1) := by decide +kernel
theorem dX4_enter_87 : decode cX4_enter 87 = .ok (.iinc 3 1, 3) := by decide +kernel
theorem dX4_enter_90 : decode cX4_enter 90 = .ok (.goto (-35), 3) := by decide +kernel
theorem dX4_enter_93 : decode cX4_enter 93 = .ok (.return_, 1) := by decide +kernel
theorem dX4_become_0 : decode cX4_become 0 = .ok (.aload_n 0, 1) := by decide +kernel
theorem dX4_become_1 : decode cX4_become 1 = .ok (.aload_n 1, 1) := by decide +kernel
theorem dX4_become_2 : decode cX4_become 2 = .ok (.getfield 7, 3) := by decide +kernel
theorem dX4_become_5 : decode cX4_become 5 = .ok (.putfield 7, 3) := by decide +kernel
theorem dX4_become_8 : decode cX4_become 8 = .ok (.aload_n 0, 1) := by decide +kernel
theorem dX4_become_9 : decode cX4_become 9 = .ok (.aload_n 1, 1) := by decide +kernel
theorem dX4_become_10 : decode cX4_become 10 = .ok (.getfield 13, 3) := by decide +kernel
theorem dX4_become_13 : decode cX4_become 13 = .ok (.putfield 13, 3) := by decide +kernel
theorem dX4_become_16 : decode cX4_become 16 = .ok (.aload_n 0, 1) := by decide +kernel
theorem dX4_become_17 : decode cX4_become 17 = .ok (.aload_n 1, 1) := by decide +kernel
theorem dX4_become_18 : decode cX4_become 18 = .ok (.getfield 16, 3) := by decide +kernel
theorem dX4_become_21 : decode cX4_become 21 = .ok (.putfield 16, 3) := by decide +kernel
theorem dX4_become_24 : decode cX4_become 24 = .ok (.iconst 0, 1) := by decide +kernel
theorem dX4_become_25 : decode cX4_become 25 = .ok (.istore_n 2, 1) := by decide +kernel
theorem dX4_become_26 : decode cX4_become 26 = .ok (.iload_n 2, 1) := by decide +kernel
theorem dX4_become_27 : decode cX4_become 27 = .ok (.iconst 4, 1) := by decide +kernel
theorem dX4_become_28 : decode cX4_become 28 = .ok (.if_icmp .ge 21, 3) := by decide +kernel
theorem dX4_become_31 : decode cX4_become 31 = .ok (.aload_n 0, 1) := by decide +kernel
theorem dX4_become_32 : decode cX4_become 32 = .ok (.getfield 21, 3) := by decide +kernel
theorem dX4_become_35 : decode cX4_become 35 = .ok (.iload_n 2, 1) := by decide +kernel
theorem dX4_become_36 : decode cX4_become 36 = .ok (.aload_n 1, 1) := by decide +kernel
theorem dX4_become_37 : decode cX4_become 37 = .ok (.getfield 21, 3) := by decide +kernel
theorem dX4_become_40 : decode cX4_become 40 = .ok (.iload_n 2, 1) := by decide +kernel
theorem dX4_become_41 : decode cX4_become 41 = .ok (.iaload, 1) := by decide +kernel
theorem dX4_become_42 : decode cX4_become 42 = .ok (.iastore, 1) := by decide +kernel
theorem dX4_become_43 : decode cX4_become 43 = .ok (.iinc 2 1, 3) := by decide +kernel
theorem dX4_become_46 : decode cX4_become 46 = .ok (.goto (-20), 3) := by decide +kernel
theorem dX4_become_49 : decode cX4_become 49 = .ok (.return_, 1) := by decide +kernel
theorem dX4_needOf_0 : decode cX4_needOf 0 = .ok (.aload_n 1, 1) := by decide +kernel
theorem dX4_needOf_1 : decode cX4_needOf 1 = .ok (.getfield 42, 3) := by decide +kernel
theorem dX4_needOf_4 : decode cX4_needOf 4 = .ok (.iload_n 2, 1) := by decide +kernel
theorem dX4_needOf_5 : decode cX4_needOf 5 = .ok (.iaload, 1) := by decide +kernel
theorem dX4_needOf_6 : decode cX4_needOf 6 = .ok (.istore_n 3, 1) := by decide +kernel
theorem dX4_needOf_7 : decode cX4_needOf 7 = .ok (.aload_n 0, 1) := by decide +kernel
theorem dX4_needOf_8 : decode cX4_needOf 8 = .ok (.getfield 13, 3) := by decide +kernel
theorem dX4_needOf_11 : decode cX4_needOf 11 = .ok (.iload_n 3, 1) := by decide +kernel
theorem dX4_needOf_12 : decode cX4_needOf 12 = .ok (.ishr, 1) := by decide +kernel
theorem dX4_needOf_13 : decode cX4_needOf 13 = .ok (.iconst 1, 1) := by decide +kernel
theorem dX4_needOf_14 : decode cX4_needOf 14 = .ok (.iand, 1) := by decide +kernel
theorem dX4_needOf_15 : decode cX4_needOf 15 = .ok (.ifCond .eq 7, 3) := by decide +kernel
theorem dX4_needOf_18 : decode cX4_needOf 18 = .ok (.iconst 3, 1) := by decide +kernel
theorem dX4_needOf_19 : decode cX4_needOf 19 = .ok (.goto 4, 3) := by decide +kernel
theorem dX4_needOf_22 : decode cX4_needOf 22 = .ok (.iconst 0, 1) := by decide +kernel
theorem dX4_needOf_23 : decode cX4_needOf 23 = .ok (.istore 4, 2) := by decide +kernel
theorem dX4_needOf_25 : decode cX4_needOf 25 = .ok (.iload 4, 2) := by decide +kernel
theorem dX4_needOf_27 : decode cX4_needOf 27 = .ok (.aload_n 0, 1) := by decide +kernel
theorem dX4_needOf_28 : decode cX4_needOf 28 = .ok (.aload_n 1, 1) := by decide +kernel
theorem dX4_needOf_29 : decode cX4_needOf 29 = .ok (.getfield 48, 3) := by decide +kernel
theorem dX4_needOf_32 : decode cX4_needOf 32 = .ok (.iload_n 2, 1) := by decide +kernel
theorem dX4_needOf_33 : decode cX4_needOf 33 = .ok (.iaload, 1) := by decide +kernel
theorem dX4_needOf_34 : decode cX4_needOf 34 = .ok (.aload_n 1, 1) := by decide +kernel
theorem dX4_needOf_35 : decode cX4_needOf 35 = .ok (.getfield 51, 3) := by decide +kernel
theorem dX4_needOf_38 : decode cX4_needOf 38 = .ok (.iload_n 2, 1) := by decide +kernel
theorem dX4_needOf_39 : decode cX4_needOf 39 = .ok (.iaload, 1) := by decide +kernel
theorem dX4_needOf_40 : decode cX4_needOf 40 = .ok (.aload_n 0, 1) := by decide +kernel
theorem dX4_needOf_41 : decode cX4_needOf 41 = .ok (.getfield 21, 3) := by decide +kernel
theorem dX4_needOf_44 : decode cX4_needOf 44 = .ok (.iload_n 3, 1) := by decide +kernel
theorem dX4_needOf_45 : decode cX4_needOf 45 = .ok (.iaload, 1) := by decide +kernel
theorem dX4_needOf_46 : decode cX4_needOf 46 = .ok (.invokevirtual 54, 3) := by decide +kernel
theorem dX4_needOf_49 : decode cX4_needOf 49 = .ok (.iadd, 1) := by decide +kernel
theorem dX4_needOf_50 : decode cX4_needOf 50 = .ok (.ireturn, 1) := by decide +kernel
theorem dX4_wouldNod_0 : decode cX4_wouldNod 0 = .ok (.aload_n 0, 1) := by decide +kernel
theorem dX4_wouldNod_1 : decode cX4_wouldNod 1 = .ok (.getfield 7, 3) := by decide +kernel
theorem dX4_wouldNod_4 : decode cX4_wouldNod 4 = .ok (.aload_n 0, 1) := by decide +kernel
theorem dX4_wouldNod_5 : decode cX4_wouldNod 5 = .ok (.aload_n 1, 1) := by decide +kernel
theorem dX4_wouldNod_6 : decode cX4_wouldNod 6 = .ok (.iload_n 2, 1) := by decide +kernel
theorem dX4_wouldNod_7 : decode cX4_wouldNod 7 = .ok (.invokevirtual 58, 3) := by decide +kernel
theorem dX4_wouldNod_10 : decode cX4_wouldNod 10 = .ok (.if_icmp .lt 7, 3) := by decide +kernel
theorem dX4_wouldNod_13 : decode cX4_wouldNod 13 = .ok (.iconst 1, 1) := by decide +kernel
theorem dX4_wouldNod_14 : decode cX4_wouldNod 14 = .ok (.goto 4, 3) := by decide +kernel
theorem dX4_wouldNod_17 : decode cX4_wouldNod 17 = .ok (.iconst 0, 1) := by decide +kernel
theorem dX4_wouldNod_18 : decode cX4_wouldNod 18 = .ok (.ireturn, 1) := by decide +kernel
theorem dX4_hear_0 : decode cX4_hear 0 = .ok (.aload_n 0, 1) := by decide +kernel
theorem dX4_hear_1 : decode cX4_hear 1 = .ok (.aload_n 1, 1) := by decide +kernel
theorem dX4_hear_2 : decode cX4_hear 2 = .ok (.iload_n 2, 1) := by decide +kernel
theorem dX4_hear_3 : decode cX4_hear 3 = .ok (.invokevirtual 62, 3) := by decide +kernel
theorem dX4_hear_6 : decode cX4_hear 6 = .ok (.istore_n 3, 1) := by decide +kernel
theorem dX4_hear_7 : decode cX4_hear 7 = .ok (.aload_n 0, 1) := by decide +kernel
theorem dX4_hear_8 : decode cX4_hear 8 = .ok (.aload_n 1, 1) := by decide +kernel
theorem dX4_hear_9 : decode cX4_hear 9 = .ok (.iload_n 2, 1) := by decide +kernel
theorem dX4_hear_10 : decode cX4_hear 10 = .ok (.iload_n 3, 1) := by decide +kernel
theorem dX4_hear_11 : decode cX4_hear 11 = .ok (.invokevirtual 66, 3) := by decide +kernel
theorem dX4_hear_14 : decode cX4_hear 14 = .ok (.iload_n 3, 1) := by decide +kernel
theorem dX4_hear_15 : decode cX4_hear 15 = .ok (.ireturn, 1) := by decide +kernel
theorem dX4_hearAs_0 : decode cX4_hearAs 0 = .ok (.aload_n 0, 1) := by decide +kernel
theorem dX4_hearAs_1 : decode cX4_hearAs 1 = .ok (.dup, 1) := by decide +kernel
theorem dX4_hearAs_2 : decode cX4_hearAs 2 = .ok (.getfield 16, 3) := by decide +kernel
theorem dX4_hearAs_5 : decode cX4_hearAs 5 = .ok (.iconst 1, 1) := by decide +kernel
theorem dX4_hearAs_6 : decode cX4_hearAs 6 = .ok (.iadd, 1) := by decide +kernel
theorem dX4_hearAs_7 : decode cX4_hearAs 7 = .ok (.putfield 16, 3) := by decide +kernel
theorem dX4_hearAs_10 : decode cX4_hearAs 10 = .ok (.iload_n 3, 1) := by decide +kernel
theorem dX4_hearAs_11 : decode cX4_hearAs 11 = .ok (.ifCond .eq 36, 3) := by decide +kernel
theorem dX4_hearAs_14 : decode cX4_hearAs 14 = .ok (.aload_n 0, 1) := by decide +kernel
theorem dX4_hearAs_15 : decode cX4_hearAs 15 = .ok (.getfield 21, 3) := by decide +kernel
theorem dX4_hearAs_18 : decode cX4_hearAs 18 = .ok (.aload_n 1, 1) := by decide +kernel
theorem dX4_hearAs_19 : decode cX4_hearAs 19 = .ok (.getfield 42, 3) := by decide +kernel
theorem dX4_hearAs_22 : decode cX4_hearAs 22 = .ok (.iload_n 2, 1) := by decide +kernel
theorem dX4_hearAs_23 : decode cX4_hearAs 23 = .ok (.iaload, 1) := by decide +kernel
theorem dX4_hearAs_24 : decode cX4_hearAs 24 = .ok (.dup2, 1) := by decide +kernel
theorem dX4_hearAs_25 : decode cX4_hearAs 25 = .ok (.iaload, 1) := by decide +kernel
theorem dX4_hearAs_26 : decode cX4_hearAs 26 = .ok (.iconst 1, 1) := by decide +kernel
theorem dX4_hearAs_27 : decode cX4_hearAs 27 = .ok (.iadd, 1) := by decide +kernel
theorem dX4_hearAs_28 : decode cX4_hearAs 28 = .ok (.iastore, 1) := by decide +kernel
theorem dX4_hearAs_29 : decode cX4_hearAs 29 = .ok (.aload_n 0, 1) := by decide +kernel
theorem dX4_hearAs_30 : decode cX4_hearAs 30 = .ok (.aload_n 0, 1) := by decide +kernel
theorem dX4_hearAs_31 : decode cX4_hearAs 31 = .ok (.getfield 7, 3) := by decide +kernel
theorem dX4_hearAs_34 : decode cX4_hearAs 34 = .ok (.iconst 1, 1) := by decide +kernel
theorem dX4_hearAs_35 : decode cX4_hearAs 35 = .ok (.iadd, 1) := by decide +kernel
theorem dX4_hearAs_36 : decode cX4_hearAs 36 = .ok (.bipush 20, 2) := by decide +kernel
theorem dX4_hearAs_38 : decode cX4_hearAs 38 = .ok (.invokestatic 70, 3) := by decide +kernel
theorem dX4_hearAs_41 : decode cX4_hearAs 41 = .ok (.putfield 7, 3) := by decide +kernel
theorem dX4_hearAs_44 : decode cX4_hearAs 44 = .ok (.goto 26, 3) := by decide +kernel
theorem dX4_hearAs_47 : decode cX4_hearAs 47 = .ok (.aload_n 0, 1) := by decide +kernel
theorem dX4_hearAs_48 : decode cX4_hearAs 48 = .ok (.aload_n 0, 1) := by decide +kernel
theorem dX4_hearAs_49 : decode cX4_hearAs 49 = .ok (.getfield 7, 3) := by decide +kernel
theorem dX4_hearAs_52 : decode cX4_hearAs 52 = .ok (.aload_n 1, 1) := by decide +kernel
theorem dX4_hearAs_53 : decode cX4_hearAs 53 = .ok (.getfield 51, 3) := by decide +kernel
theorem dX4_hearAs_56 : decode cX4_hearAs 56 = .ok (.iload_n 2, 1) := by decide +kernel
theorem dX4_hearAs_57 : decode cX4_hearAs 57 = .ok (.iaload, 1) := by decide +kernel
theorem dX4_hearAs_58 : decode cX4_hearAs 58 = .ok (.iconst 4, 1) := by decide +kernel
theorem dX4_hearAs_59 : decode cX4_hearAs 59 = .ok (.idiv, 1) := by decide +kernel
theorem dX4_hearAs_60 : decode cX4_hearAs 60 = .ok (.isub, 1) := by decide +kernel
theorem dX4_hearAs_61 : decode cX4_hearAs 61 = .ok (.iconst 1, 1) := by decide +kernel
theorem dX4_hearAs_62 : decode cX4_hearAs 62 = .ok (.isub, 1) := by decide +kernel
theorem dX4_hearAs_63 : decode cX4_hearAs 63 = .ok (.iconst 0, 1) := by decide +kernel
theorem dX4_hearAs_64 : decode cX4_hearAs 64 = .ok (.invokestatic 76, 3) := by decide +kernel
theorem dX4_hearAs_67 : decode cX4_hearAs 67 = .ok (.putfield 7, 3) := by decide +kernel
theorem dX4_hearAs_70 : decode cX4_hearAs 70 = .ok (.return_, 1) := by decide +kernel
theorem dX4_dine_0 : decode cX4_dine 0 = .ok (.aload_n 0, 1) := by decide +kernel
theorem dX4_dine_1 : decode cX4_dine 1 = .ok (.aload_n 0, 1) := by decide +kernel
theorem dX4_dine_2 : decode cX4_dine 2 = .ok (.getfield 7, 3) := by decide +kernel
theorem dX4_dine_5 : decode cX4_dine 5 = .ok (.iconst 2, 1) := by decide +kernel
theorem dX4_dine_6 : decode cX4_dine 6 = .ok (.iadd, 1) := by decide +kernel
theorem dX4_dine_7 : decode cX4_dine 7 = .ok (.bipush 20, 2) := by decide +kernel
theorem dX4_dine_9 : decode cX4_dine 9 = .ok (.invokestatic 70, 3) := by decide +kernel
theorem dX4_dine_12 : decode cX4_dine 12 = .ok (.putfield 7, 3) := by decide +kernel
theorem dX4_dine_15 : decode cX4_dine 15 = .ok (.return_, 1) := by decide +kernel
theorem dX4_undoubtedNeed_0 : decode cX4_undoubtedNeed 0 = .ok (.iload_n 1, 1) := by decide +kernel
theorem dX4_undoubtedNeed_1 : decode cX4_undoubtedNeed 1 = .ok (.tableswitch 70 2 5 #[31, 35, 45, 51], 31) := by decide +kernel
theorem dX4_undoubtedNeed_32 : decode cX4_undoubtedNeed 32 = .ok (.iconst 2, 1) := by decide +kernel
theorem dX4_undoubtedNeed_33 : decode cX4_undoubtedNeed 33 = .ok (.iload_n 2, 1) := by decide +kernel
theorem dX4_undoubtedNeed_34 : decode cX4_undoubtedNeed 34 = .ok (.imul, 1) := by decide +kernel
theorem dX4_undoubtedNeed_35 : decode cX4_undoubtedNeed 35 = .ok (.ireturn, 1) := by decide +kernel
theorem dX4_undoubtedNeed_36 : decode cX4_undoubtedNeed 36 = .ok (.iload_n 2, 1) := by decide +kernel
theorem dX4_undoubtedNeed_37 : decode cX4_undoubtedNeed 37 = .ok (.iconst 2, 1) := by decide +kernel
theorem dX4_undoubtedNeed_38 : decode cX4_undoubtedNeed 38 = .ok (.iload_n 3, 1) := by decide +kernel
theorem dX4_undoubtedNeed_39 : decode cX4_undoubtedNeed 39 = .ok (.imul, 1) := by decide +kernel
theorem dX4_undoubtedNeed_40 : decode cX4_undoubtedNeed 40 = .ok (.isub, 1) := by decide +kernel
theorem dX4_undoubtedNeed_41 : decode cX4_undoubtedNeed 41 = .ok (.iconst 0, 1) := by decide +kernel
theorem dX4_undoubtedNeed_42 : decode cX4_undoubtedNeed 42 = .ok (.invokestatic 76, 3) := by decide +kernel
theorem dX4_undoubtedNeed_45 : decode cX4_undoubtedNeed 45 = .ok (.ireturn, 1) := by decide +kernel
theorem dX4_undoubtedNeed_46 : decode cX4_undoubtedNeed 46 = .ok (.iload_n 2, 1) := by decide +kernel
theorem dX4_undoubtedNeed_47 : decode cX4_undoubtedNeed 47 = .ok (.iload_n 3, 1) := by decide +kernel
theorem dX4_undoubtedNeed_48 : decode cX4_undoubtedNeed 48 = .ok (.invokestatic 79, 3) := by decide +kernel
theorem dX4_undoubtedNeed_51 : decode cX4_undoubtedNeed 51 = .ok (.ireturn, 1) := by decide +kernel
theorem dX4_undoubtedNeed_52 : decode cX4_undoubtedNeed 52 = .ok (.aload_n 0, 1) := by decide +kernel
theorem dX4_undoubtedNeed_53 : decode cX4_undoubtedNeed 53 = .ok (.getfield 16, 3) := by decide +kernel
theorem dX4_undoubtedNeed_56 : decode cX4_undoubtedNeed 56 = .ok (.iconst 2, 1) := by decide +kernel
theorem dX4_undoubtedNeed_57 : decode cX4_undoubtedNeed 57 = .ok (.if_icmp .ge 8, 3) := by decide +kernel
theorem dX4_undoubtedNeed_60 : decode cX4_undoubtedNeed 60 = .ok (.bipush 99, 2) := by decide +kernel
theorem dX4_undoubtedNeed_62 : decode cX4_undoubtedNeed 62 = .ok (.goto 8, 3) := by decide +kernel
theorem dX4_undoubtedNeed_65 : decode cX4_undoubtedNeed 65 = .ok (.iload_n 2, 1) := by decide +kernel
theorem dX4_undoubtedNeed_66 : decode cX4_undoubtedNeed 66 = .ok (.iload_n 3, 1) := by decide +kernel
theorem dX4_undoubtedNeed_67 : decode cX4_undoubtedNeed 67 = .ok (.invokestatic 79, 3) := by decide +kernel
theorem dX4_undoubtedNeed_70 : decode cX4_undoubtedNeed 70 = .ok (.ireturn, 1) := by decide +kernel
theorem dX4_undoubtedNeed_71 : decode cX4_undoubtedNeed 71 = .ok (.iload_n 2, 1) := by decide +kernel
theorem dX4_undoubtedNeed_72 : decode cX4_undoubtedNeed 72 = .ok (.ireturn, 1) := by decide +kernel
theorem dX4_proofNeed_0 : decode cX4_proofNeed 0 = .ok (.iload_n 1, 1) := by decide +kernel
theorem dX4_proofNeed_1 : decode cX4_proofNeed 1 = .ok (.ifCond .le 7, 3) := by decide +kernel
theorem dX4_proofNeed_4 : decode cX4_proofNeed 4 = .ok (.iconst 0, 1) := by decide +kernel
theorem dX4_proofNeed_5 : decode cX4_proofNeed 5 = .ok (.goto 7, 3) := by decide +kernel
theorem dX4_proofNeed_8 : decode cX4_proofNeed 8 = .ok (.bipush 20, 2) := by decide +kernel
theorem dX4_proofNeed_10 : decode cX4_proofNeed 10 = .ok (.iload_n 0, 1) := by decide +kernel
theorem dX4_proofNeed_11 : decode cX4_proofNeed 11 = .ok (.iadd, 1) := by decide +kernel
theorem dX4_proofNeed_12 : decode cX4_proofNeed 12 = .ok (.ireturn, 1) := by decide +kernel
theorem dX5_init_0 : decode cX5_init 0 = .ok (.aload_n 0, 1) := by decide +kernel
theorem dX5_init_1 : decode cX5_init 1 = .ok (.invokespecial 1, 3) := by decide +kernel
theorem dX5_init_4 : decode cX5_init 4 = .ok (.aload_n 0, 1) := by decide +kernel
theorem dX5_init_5 : decode cX5_init 5 = .ok (.bipush 120, 2) := by decide +kernel
theorem dX5_init_7 : decode cX5_init 7 = .ok (.newarray .int, 2) := by decide +kernel
theorem dX5_init_9 : decode cX5_init 9 = .ok (.putfield 9, 3) := by decide +kernel
theorem dX5_init_12 : decode cX5_init 12 = .ok (.aload_n 0, 1) := by decide +kernel
theorem dX5_init_13 : decode cX5_init 13 = .ok (.iconst 0, 1) := by decide +kernel
theorem dX5_init_14 : decode cX5_init 14 = .ok (.putfield 13, 3) := by decide +kernel
theorem dX5_init_17 : decode cX5_init 17 = .ok (.aload_n 0, 1) := by decide +kernel
theorem dX5_init_18 : decode cX5_init 18 = .ok (.iconst 0, 1) := by decide +kernel
theorem dX5_init_19 : decode cX5_init 19 = .ok (.putfield 17, 3) := by decide +kernel
theorem dX5_init_22 : decode cX5_init 22 = .ok (.aload_n 0, 1) := by decide +kernel
theorem dX5_init_23 : decode cX5_init 23 = .ok (.iconst 0, 1) := by decide +kernel
theorem dX5_init_24 : decode cX5_init 24 = .ok (.putfield 20, 3) := by decide +kernel
theorem dX5_init_27 : decode cX5_init 27 = .ok (.return_, 1) := by decide +kernel
theorem dX5_isFull_0 : decode cX5_isFull 0 = .ok (.aload_n 0, 1) := by decide +kernel
theorem dX5_isFull_1 : decode cX5_isFull 1 = .ok (.getfield 13, 3) := by decide +kernel
theorem dX5_isFull_4 : decode cX5_isFull 4 = .ok (.bipush 120, 2) := by decide +kernel
theorem dX5_isFull_6 : decode cX5_isFull 6 = .ok (.if_icmp .lt 7, 3) := by decide +kernel
theorem dX5_isFull_9 : decode cX5_isFull 9 = .ok (.iconst 1, 1) := by decide +kernel
theorem dX5_isFull_10 : decode cX5_isFull 10 = .ok (.goto 4, 3) := by decide +kernel
theorem dX5_isFull_13 : decode cX5_isFull 13 = .ok (.iconst 0, 1) := by decide +kernel
theorem dX5_isFull_14 : decode cX5_isFull 14 = .ok (.ireturn, 1) := by decide +kernel
theorem dX5_append_0 : decode cX5_append 0 = .ok (.aload_n 0, 1) := by decide +kernel
theorem dX5_append_1 : decode cX5_append 1 = .ok (.getfield 13, 3) := by decide +kernel
theorem dX5_append_4 : decode cX5_append 4 = .ok (.bipush 120, 2) := by decide +kernel
theorem dX5_append_6 : decode cX5_append 6 = .ok (.if_icmp .ge 23, 3) := by decide +kernel
theorem dX5_append_9 : decode cX5_append 9 = .ok (.aload_n 0, 1) := by decide +kernel
theorem dX5_append_10 : decode cX5_append 10 = .ok (.getfield 9, 3) := by decide +kernel
theorem dX5_append_13 : decode cX5_append 13 = .ok (.aload_n 0, 1) := by decide +kernel
theorem dX5_append_14 : decode cX5_append 14 = .ok (.getfield 13, 3) := by decide +kernel
theorem dX5_append_17 : decode cX5_append 17 = .ok (.iload_n 1, 1) := by decide +kernel
theorem dX5_append_18 : decode cX5_append 18 = .ok (.iastore, 1) := by decide +kernel
theorem dX5_append_19 : decode cX5_append 19 = .ok (.aload_n 0, 1) := by decide +kernel
theorem dX5_append_20 : decode cX5_append 20 = .ok (.dup, 1) := by decide +kernel
theorem dX5_append_21 : decode cX5_append 21 = .ok (.getfield 13, 3) := by decide +kernel
theorem dX5_append_24 : decode cX5_append 24 = .ok (.iconst 1, 1) := by decide +kernel
theorem dX5_append_25 : decode cX5_append 25 = .ok (.iadd, 1) := by decide +kernel
theorem dX5_append_26 : decode cX5_append 26 = .ok (.putfield 13, 3) := by decide +kernel
theorem dX5_append_29 : decode cX5_append 29 = .ok (.aload_n 0, 1) := by decide +kernel
theorem dX5_append_30 : decode cX5_append 30 = .ok (.getfield 13, 3) := by decide +kernel
theorem dX5_append_33 : decode cX5_append 33 = .ok (.ireturn, 1) := by decide +kernel
theorem dX5_length_0 : decode cX5_length 0 = .ok (.aload_n 0, 1) := by decide +kernel
theorem dX5_length_1 : decode cX5_length 1 = .ok (.getfield 13, 3) := by decide +kernel
theorem dX5_length_4 : decode cX5_length 4 = .ok (.ireturn, 1) := by decide +kernel
theorem dX5_faultPlace_0 : decode cX5_faultPlace 0 = .ok (.aload_n 0, 1) := by decide +kernel
theorem dX5_faultPlace_1 : decode cX5_faultPlace 1 = .ok (.getfield 17, 3) := by decide +kernel
theorem dX5_faultPlace_4 : decode cX5_faultPlace 4 = .ok (.ireturn, 1) := by decide +kernel
theorem dX5_latestFault_0 : decode cX5_latestFault 0 = .ok (.aload_n 0, 1) := by decide +kernel
theorem dX5_latestFault_1 : decode cX5_latestFault 1 = .ok (.getfield 20, 3) := by decide +kernel
theorem dX5_latestFault_4 : decode cX5_latestFault 4 = .ok (.ireturn, 1) := by decide +kernel
theorem dX5_readInto_0 : decode cX5_readInto 0 = .ok (.aload_n 0, 1) := by decide +kernel
theorem dX5_readInto_1 : decode cX5_readInto 1 = .ok (.iconst 0, 1) := by decide +kernel
theorem dX5_readInto_2 : decode cX5_readInto 2 = .ok (.putfield 17, 3) := by decide +kernel
theorem dX5_readInto_5 : decode cX5_readInto 5 = .ok (.aload_n 0, 1) := by decide +kernel
theorem dX5_readInto_6 : decode cX5_readInto 6 = .ok (.aload_n 1, 1) := by decide +kernel
theorem dX5_readInto_7 : decode cX5_readInto 7 = .ok (.invokevirtual 23, 3) := by decide +kernel
theorem dX5_readInto_10 : decode cX5_readInto 10 = .ok (.ifCond .eq 23, 3) := by decide +kernel
theorem dX5_readInto_13 : decode cX5_readInto 13 = .ok (.aload_n 0, 1) := by decide +kernel
theorem dX5_readInto_14 : decode cX5_readInto 14 = .ok (.aload_n 1, 1) := by decide +kernel
theorem dX5_readInto_15 : decode cX5_readInto 15 = .ok (.invokevirtual 27, 3) := by decide +kernel
theorem dX5_readInto_18 : decode cX5_readInto 18 = .ok (.ifCond .eq 15, 3) := by decide +kernel
theorem dX5_readInto_21 : decode cX5_readInto 21 = .ok (.aload_n 0, 1) := by decide +kernel
theorem dX5_readInto_22 : decode cX5_readInto 22 = .ok (.aload_n 1, 1) := by decide +kernel
theorem dX5_readInto_23 : decode cX5_readInto 23 = .ok (.invokevirtual 30, 3) := by decide +kernel
theorem dX5_readInto_26 : decode cX5_readInto 26 = .ok (.ifCond .eq 7, 3) := by decide +kernel
theorem dX5_readInto_29 : decode cX5_readInto 29 = .ok (.iconst 1, 1) := by decide +kernel
theorem dX5_readInto_30 : decode cX5_readInto 30 = .ok (.goto 4, 3) := by decide +kernel
theorem dX5_readInto_33 : decode cX5_readInto 33 = .ok (.iconst 0, 1) := by decide +kernel
theorem dX5_readInto_34 : decode cX5_readInto 34 = .ok (.istore_n 2, 1) := by decide +kernel
theorem dX5_readInto_35 : decode cX5_readInto 35 = .ok (.iload_n 2, 1) := by decide +kernel
theorem dX5_readInto_36 : decode cX5_readInto 36 = .ok (.ifCond .eq 20, 3) := by decide +kernel
theorem dX5_readInto_39 : decode cX5_readInto 39 = .ok (.aload_n 0, 1) := by decide +kernel
theorem dX5_readInto_40 : decode cX5_readInto 40 = .ok (.getfield 17, 3) := by decide +kernel
theorem dX5_readInto_43 : decode cX5_readInto 43 = .ok (.aload_n 0, 1) := by decide +kernel
theorem dX5_readInto_44 : decode cX5_readInto 44 = .ok (.getfield 13, 3) := by decide +kernel
theorem dX5_readInto_47 : decode cX5_readInto 47 = .ok (.if_icmp .ge 9, 3) := by decide +kernel
theorem dX5_readInto_50 : decode cX5_readInto 50 = .ok (.aload_n 0, 1) := by decide +kernel
theorem dX5_readInto_51 : decode cX5_readInto 51 = .ok (.iconst 1, 1) := by decide +kernel
theorem dX5_readInto_52 : decode cX5_readInto 52 = .ok (.invokevirtual 33, 3) := by decide +kernel
theorem dX5_readInto_55 : decode cX5_readInto 55 = .ok (.istore_n 2, 1) := by decide +kernel
theorem dX5_readInto_56 : decode cX5_readInto 56 = .ok (.aload_n 0, 1) := by decide +kernel
theorem dX5_readInto_57 : decode cX5_readInto 57 = .ok (.iconst 0, 1) := by decide +kernel
theorem dX5_readInto_58 : decode cX5_readInto 58 = .ok (.putfield 13, 3) := by decide +kernel
theorem dX5_readInto_61 : decode cX5_readInto 61 = .ok (.iload_n 2, 1) := by decide +kernel
theorem dX5_readInto_62 : decode cX5_readInto 62 = .ok (.ireturn, 1) := by decide +kernel
theorem dX5_readLaw_0 : decode cX5_readLaw 0 = .ok (.aload_n 0, 1) := by decide +kernel
theorem dX5_readLaw_1 : decode cX5_readLaw 1 = .ok (.bipush 116, 2) := by decide +kernel
theorem dX5_readLaw_3 : decode cX5_readLaw 3 = .ok (.invokevirtual 37, 3) := by decide +kernel
theorem dX5_readLaw_6 : decode cX5_readLaw 6 = .ok (.ifCond .ne 5, 3) := by decide +kernel
theorem dX5_readLaw_9 : decode cX5_readLaw 9 = .ok (.iconst 0, 1) := by decide +kernel
theorem dX5_readLaw_10 : decode cX5_readLaw 10 = .ok (.ireturn, 1) := by decide +kernel
theorem dX5_readLaw_11 : decode cX5_readLaw 11 = .ok (.aload_n 0, 1) := by decide +kernel
theorem dX5_readLaw_12 : decode cX5_readLaw 12 = .ok (.iconst 1, 1) := by decide +kernel
theorem dX5_readLaw_13 : decode cX5_readLaw 13 = .ok (.bipush 9, 2) := by decide +kernel
theorem dX5_readLaw_15 : decode cX5_readLaw 15 = .ok (.invokevirtual 40, 3) := by decide +kernel
theorem dX5_readLaw_18 : decode cX5_readLaw 18 = .ok (.istore_n 2, 1) := by decide +kernel
theorem dX5_readLaw_19 : decode cX5_readLaw 19 = .ok (.iload_n 2, 1) := by decide +kernel
theorem dX5_readLaw_20 : decode cX5_readLaw 20 = .ok (.iconst (-1), 1) := by decide +kernel
theorem dX5_readLaw_21 : decode cX5_readLaw 21 = .ok (.if_icmp .eq 12, 3) := by decide +kernel
theorem dX5_readLaw_24 : decode cX5_readLaw 24 = .ok (.aload_n 0, 1) := by decide +kernel
theorem dX5_readLaw_25 : decode cX5_readLaw 25 = .ok (.bipush 59, 2) := by decide +kernel
theorem dX5_readLaw_27 : decode cX5_readLaw 27 = .ok (.invokevirtual 37, 3) := by decide +kernel
theorem dX5_readLaw_30 : decode cX5_readLaw 30 = .ok (.ifCond .ne 5, 3) := by decide +kernel
theorem dX5_readLaw_33 : decode cX5_readLaw 33 = .ok (.iconst 0, 1) := by decide +kernel
theorem dX5_readLaw_34 : decode cX5_readLaw 34 = .ok (.ireturn, 1) := by decide +kernel
theorem dX5_readLaw_35 : decode cX5_readLaw 35 = .ok (.aload_n 1, 1) := by decide +kernel
theorem dX5_readLaw_36 : decode cX5_readLaw 36 = .ok (.iload_n 2, 1) := by decide +kernel
theorem dX5_readLaw_37 : decode cX5_readLaw 37 = .ok (.invokevirtual 44, 3) := by decide +kernel
theorem dX5_readLaw_40 : decode cX5_readLaw 40 = .ok (.iconst 1, 1) := by decide +kernel
theorem dX5_readLaw_41 : decode cX5_readLaw 41 = .ok (.ireturn, 1) := by decide +kernel
theorem dX5_readLies_0 : decode cX5_readLies 0 = .ok (.iconst 0, 1) := by decide +kernel
theorem dX5_readLies_1 : decode cX5_readLies 1 = .ok (.istore_n 2, 1) := by decide +kernel
theorem dX5_readLies_2 : decode cX5_readLies 2 = .ok (.iload_n 2, 1) := by decide +kernel
theorem dX5_readLies_3 : decode cX5_readLies 3 = .ok (.bipush 6, 2) := by decide +kernel
theorem dX5_readLies_5 : decode cX5_readLies 5 = .ok (.if_icmp .gt 105, 3) := by decide +kernel
theorem dX5_readLies_8 : decode cX5_readLies 8 = .ok (.aload_n 0, 1) := by decide +kernel
theorem dX5_readLies_9 : decode cX5_readLies 9 = .ok (.invokevirtual 50, 3) := by decide +kernel
theorem dX5_readLies_12 : decode cX5_readLies 12 = .ok (.invokestatic 54, 3) := by decide +kernel
theorem dX5_readLies_15 : decode cX5_readLies 15 = .ok (.istore_n 3, 1) := by decide +kernel
theorem dX5_readLies_16 : decode cX5_readLies 16 = .ok (.iload_n 3, 1) := by decide +kernel
theorem dX5_readLies_17 : decode cX5_readLies 17 = .ok (.ifCond .ne 5, 3) := by decide +kernel
theorem dX5_readLies_20 : decode cX5_readLies 20 = .ok (.iconst 1, 1) := by decide +kernel
theorem dX5_readLies_21 : decode cX5_readLies 21 = .ok (.ireturn, 1) := by decide +kernel
theorem dX5_readLies_22 : decode cX5_readLies 22 = .ok (.iload_n 2, 1) := by decide +kernel
theorem dX5_readLies_23 : decode cX5_readLies 23 = .ok (.bipush 6, 2) := by decide +kernel
theorem dX5_readLies_25 : decode cX5_readLies 25 = .ok (.if_icmp .ne 9, 3) := by decide +kernel
theorem dX5_readLies_28 : decode cX5_readLies 28 = .ok (.aload_n 0, 1) := by decide +kernel
theorem dX5_readLies_29 : decode cX5_readLies 29 = .ok (.iconst 3, 1) := by decide +kernel
theorem dX5_readLies_30 : decode cX5_readLies 30 = .ok (.invokevirtual 33, 3) := by decide +kernel
theorem dX5_readLies_33 : decode cX5_readLies 33 = .ok (.ireturn, 1) := by decide +kernel
theorem dX5_readLies_34 : decode cX5_readLies 34 = .ok (.aload_n 0, 1) := by decide +kernel
theorem dX5_readLies_35 : decode cX5_readLies 35 = .ok (.dup, 1) := by decide +kernel
theorem dX5_readLies_36 : decode cX5_readLies 36 = .ok (.getfield 17, 3) := by decide +kernel
theorem dX5_readLies_39 : decode cX5_readLies 39 = .ok (.iconst 1, 1) := by decide +kernel
theorem dX5_readLies_40 : decode cX5_readLies 40 = .ok (.iadd, 1) := by decide +kernel
theorem dX5_readLies_41 : decode cX5_readLies 41 = .ok (.putfield 17, 3) := by decide +kernel
theorem dX5_readLies_44 : decode cX5_readLies 44 = .ok (.aload_n 0, 1) := by decide +kernel
theorem dX5_readLies_45 : decode cX5_readLies 45 = .ok (.iconst 1, 1) := by decide +kernel
theorem dX5_readLies_46 : decode cX5_readLies 46 = .ok (.bipush 20, 2) := by decide +kernel
theorem dX5_readLies_48 : decode cX5_readLies 48 = .ok (.invokevirtual 40, 3) := by decide +kernel
theorem dX5_readLies_51 : decode cX5_readLies 51 = .ok (.istore 4, 2) := by decide +kernel
theorem dX5_readLies_53 : decode cX5_readLies 53 = .ok (.iload 4, 2) := by decide +kernel
theorem dX5_readLies_55 : decode cX5_readLies 55 = .ok (.iconst (-1), 1) := by decide +kernel
theorem dX5_readLies_56 : decode cX5_readLies 56 = .ok (.if_icmp .eq 12, 3) := by decide +kernel
theorem dX5_readLies_59 : decode cX5_readLies 59 = .ok (.aload_n 0, 1) := by decide +kernel
theorem dX5_readLies_60 : decode cX5_readLies 60 = .ok (.bipush 44, 2) := by decide +kernel
theorem dX5_readLies_62 : decode cX5_readLies 62 = .ok (.invokevirtual 37, 3) := by decide +kernel
theorem dX5_readLies_65 : decode cX5_readLies 65 = .ok (.ifCond .ne 5, 3) := by decide +kernel
theorem dX5_readLies_68 : decode cX5_readLies 68 = .ok (.iconst 0, 1) := by decide +kernel
theorem dX5_readLies_69 : decode cX5_readLies 69 = .ok (.ireturn, 1) := by decide +kernel
theorem dX5_readLies_70 : decode cX5_readLies 70 = .ok (.aload_n 0, 1) := by decide +kernel
theorem dX5_readLies_71 : decode cX5_readLies 71 = .ok (.iconst 0, 1) := by decide +kernel
theorem dX5_readLies_72 : decode cX5_readLies 72 = .ok (.iconst 3, 1) := by decide +kernel
theorem dX5_readLies_73 : decode cX5_readLies 73 = .ok (.invokevirtual 40, 3) := by decide +kernel
theorem dX5_readLies_76 : decode cX5_readLies 76 = .ok (.istore 5, 2) := by decide +kernel
theorem dX5_readLies_78 : decode cX5_readLies 78 = .ok (.iload 5, 2) := by decide +kernel
theorem dX5_readLies_80 : decode cX5_readLies 80 = .ok (.iconst (-1), 1) := by decide +kernel
theorem dX5_readLies_81 : decode cX5_readLies 81 = .ok (.if_icmp .eq 12, 3) := by decide +kernel
theorem dX5_readLies_84 : decode cX5_readLies 84 = .ok (.aload_n 0, 1) := by decide +kernel
theorem dX5_readLies_85 : decode cX5_readLies 85 = .ok (.bipush 59, 2) := by decide +kernel
theorem dX5_readLies_87 : decode cX5_readLies 87 = .ok (.invokevirtual 37, 3) := by decide +kernel
theorem dX5_readLies_90 : decode cX5_readLies 90 = .ok (.ifCond .ne 5, 3) := by decide +kernel
theorem dX5_readLies_93 : decode cX5_readLies 93 = .ok (.iconst 0, 1) := by decide +kernel
theorem dX5_readLies_94 : decode cX5_readLies 94 = .ok (.ireturn, 1) := by decide +kernel
theorem dX5_readLies_95 : decode cX5_readLies 95 = .ok (.aload_n 1, 1) := by decide +kernel
theorem dX5_readLies_96 : decode cX5_readLies 96 = .ok (.iload_n 3, 1) := by decide +kernel
theorem dX5_readLies_97 : decode cX5_readLies 97 = .ok (.iload 4, 2) := by decide +kernel
theorem dX5_readLies_99 : decode cX5_readLies 99 = .ok (.iload 5, 2) := by decide +kernel
theorem dX5_readLies_101 : decode cX5_readLies 101 = .ok (.invokevirtual 60, 3) := by decide +kernel
theorem dX5_readLies_104 : decode cX5_readLies 104 = .ok (.iinc 2 1, 3) := by decide +kernel
theorem dX5_readLies_107 : decode cX5_readLies 107 = .ok (.goto (-105), 3) := by decide +kernel
theorem dX5_readLies_110 : decode cX5_readLies 110 = .ok (.iconst 1, 1) := by decide +kernel
theorem dX5_readLies_111 : decode cX5_readLies 111 = .ok (.ireturn, 1) := by decide +kernel
theorem dX5_readStrangers_0 : decode cX5_readStrangers 0 = .ok (.iconst 0, 1) := by decide +kernel
theorem dX5_readStrangers_1 : decode cX5_readStrangers 1 = .ok (.istore_n 2, 1) := by decide +kernel
theorem dX5_readStrangers_2 : decode cX5_readStrangers 2 = .ok (.iload_n 2, 1) := by decide +kernel
theorem dX5_readStrangers_3 : decode cX5_readStrangers 3 = .ok (.iconst 4, 1) := by decide +kernel
theorem dX5_readStrangers_4 : decode cX5_readStrangers 4 = .ok (.if_icmp .gt 98, 3) := by decide +kernel
theorem dX5_readStrangers_7 : decode cX5_readStrangers 7 = .ok (.aload_n 0, 1) := by decide +kernel
theorem dX5_readStrangers_8 : decode cX5_readStrangers 8 = .ok (.invokevirtual 50, 3) := by decide +kernel
theorem dX5_readStrangers_11 : decode cX5_readStrangers 11 = .ok (.bipush 115, 2) := by decide +kernel
theorem dX5_readStrangers_13 : decode cX5_readStrangers 13 = .ok (.if_icmp .eq 5, 3) := by decide +kernel
theorem dX5_readStrangers_16 : decode cX5_readStrangers 16 = .ok (.iconst 1, 1) := by decide +kernel
theorem dX5_readStrangers_17 : decode cX5_readStrangers 17 = .ok (.ireturn, 1) := by decide +kernel
theorem dX5_readStrangers_18 : decode cX5_readStrangers 18 = .ok (.iload_n 2, 1) := by decide +kernel
theorem dX5_readStrangers_19 : decode cX5_readStrangers 19 = .ok (.iconst 4, 1) := by decide +kernel
theorem dX5_readStrangers_20 : decode cX5_readStrangers 20 = .ok (.if_icmp .ne 9, 3) := by decide +kernel
theorem dX5_readStrangers_23 : decode cX5_readStrangers 23 = .ok (.aload_n 0, 1) := by decide +kernel
theorem dX5_readStrangers_24 : decode cX5_readStrangers 24 = .ok (.iconst 3, 1) := by decide +kernel
theorem dX5_readStrangers_25 : decode cX5_readStrangers 25 = .ok (.invokevirtual 33, 3) := by decide +kernel
theorem dX5_readStrangers_28 : decode cX5_readStrangers 28 = .ok (.ireturn, 1) := by decide +kernel
theorem dX5_readStrangers_29 : decode cX5_readStrangers 29 = .ok (.aload_n 0, 1) := by decide +kernel
theorem dX5_readStrangers_30 : decode cX5_readStrangers 30 = .ok (.dup, 1) := by decide +kernel
theorem dX5_readStrangers_31 : decode cX5_readStrangers 31 = .ok (.getfield 17, 3) := by decide +kernel
theorem dX5_readStrangers_34 : decode cX5_readStrangers 34 = .ok (.iconst 1, 1) := by decide +kernel
theorem dX5_readStrangers_35 : decode cX5_readStrangers 35 = .ok (.iadd, 1) := by decide +kernel
theorem dX5_readStrangers_36 : decode cX5_readStrangers 36 = .ok (.putfield 17, 3) := by decide +kernel
theorem dX5_readStrangers_39 : decode cX5_readStrangers 39 = .ok (.aload_n 0, 1) := by decide +kernel
theorem dX5_readStrangers_40 : decode cX5_readStrangers 40 = .ok (.iconst 0, 1) := by decide +kernel
theorem dX5_readStrangers_41 : decode cX5_readStrangers 41 = .ok (.bipush 20, 2) := by decide +kernel
theorem dX5_readStrangers_43 : decode cX5_readStrangers 43 = .ok (.invokevirtual 40, 3) := by decide +kernel
theorem dX5_readStrangers_46 : decode cX5_readStrangers 46 = .ok (.istore_n 3, 1) := by decide +kernel
theorem dX5_readStrangers_47 : decode cX5_readStrangers 47 = .ok (.iload_n 3, 1) := by decide +kernel
theorem dX5_readStrangers_48 : decode cX5_readStrangers 48 = .ok (.iconst (-1), 1) := by decide +kernel
theorem dX5_readStrangers_49 : decode cX5_readStrangers 49 = .ok (.if_icmp .eq 12, 3) := by decide +kernel
theorem dX5_readStrangers_52 : decode cX5_readStrangers 52 = .ok (.aload_n 0, 1) := by decide +kernel
theorem dX5_readStrangers_53 : decode cX5_readStrangers 53 = .ok (.bipush 44, 2) := by decide +kernel
theorem dX5_readStrangers_55 : decode cX5_readStrangers 55 = .ok (.invokevirtual 37, 3) := by decide +kernel
theorem dX5_readStrangers_58 : decode cX5_readStrangers 58 = .ok (.ifCond .ne 5, 3) := by decide +kernel
theorem dX5_readStrangers_61 : decode cX5_readStrangers 61 = .ok (.iconst 0, 1) := by decide +kernel
theorem dX5_readStrangers_62 : decode cX5_readStrangers 62 = .ok (.ireturn, 1) := by decide +kernel
theorem dX5_readStrangers_63 : decode cX5_readStrangers 63 = .ok (.aload_n 0, 1) := by decide +kernel
theorem dX5_readStrangers_64 : decode cX5_readStrangers 64 = .ok (.iconst 0, 1) := by decide +kernel
theorem dX5_readStrangers_65 : decode cX5_readStrangers 65 = .ok (.bipush 15, 2) := by decide +kernel
theorem dX5_readStrangers_67 : decode cX5_readStrangers 67 = .ok (.invokevirtual 40, 3) := by decide +kernel
theorem dX5_readStrangers_70 : decode cX5_readStrangers 70 = .ok (.istore 4, 2) := by decide +kernel
theorem dX5_readStrangers_72 : decode cX5_readStrangers 72 = .ok (.iload 4, 2) := by decide +kernel
theorem dX5_readStrangers_74 : decode cX5_readStrangers 74 = .ok (.iconst (-1), 1) := by decide +kernel
theorem dX5_readStrangers_75 : decode cX5_readStrangers 75 = .ok (.if_icmp .eq 12, 3) := by decide +kernel
theorem dX5_readStrangers_78 : decode cX5_readStrangers 78 = .ok (.aload_n 0, 1) := by decide +kernel
theorem dX5_readStrangers_79 : decode cX5_readStrangers 79 = .ok (.bipush 59, 2) := by decide +kernel
theorem dX5_readStrangers_81 : decode cX5_readStrangers 81 = .ok (.invokevirtual 37, 3) := by decide +kernel
theorem dX5_readStrangers_84 : decode cX5_readStrangers 84 = .ok (.ifCond .ne 5, 3) := by decide +kernel
theorem dX5_readStrangers_87 : decode cX5_readStrangers 87 = .ok (.iconst 0, 1) := by decide +kernel
theorem dX5_readStrangers_88 : decode cX5_readStrangers 88 = .ok (.ireturn, 1) := by decide +kernel
theorem dX5_readStrangers_89 : decode cX5_readStrangers 89 = .ok (.aload_n 1, 1) := by decide +kernel
theorem dX5_readStrangers_90 : decode cX5_readStrangers 90 = .ok (.iload_n 3, 1) := by decide +kernel
theorem dX5_readStrangers_91 : decode cX5_readStrangers 91 = .ok (.iload 4, 2) := by decide +kernel
theorem dX5_readStrangers_93 : decode cX5_readStrangers 93 = .ok (.invokevirtual 64, 3) := by decide +kernel
theorem dX5_readStrangers_96 : decode cX5_readStrangers 96 = .ok (.iinc 2 1, 3) := by decide +kernel
theorem dX5_readStrangers_99 : decode cX5_readStrangers 99 = .ok (.goto (-97), 3) := by decide +kernel
theorem dX5_readStrangers_102 : decode cX5_readStrangers 102 = .ok (.iconst 1, 1) := by decide +kernel
theorem dX5_readStrangers_103 : decode cX5_readStrangers 103 = .ok (.ireturn, 1) := by decide +kernel
theorem dX5_readNumber_0 : decode cX5_readNumber 0 = .ok (.iconst 0, 1) := by decide +kernel
theorem dX5_readNumber_1 : decode cX5_readNumber 1 = .ok (.istore_n 3, 1) := by decide +kernel
theorem dX5_readNumber_2 : decode cX5_readNumber 2 = .ok (.iconst 0, 1) := by decide +kernel
theorem dX5_readNumber_3 : decode cX5_readNumber 3 = .ok (.istore 4, 2) := by decide +kernel
theorem dX5_readNumber_5 : decode cX5_readNumber 5 = .ok (.iload_n 3, 1) := by decide +kernel
theorem dX5_readNumber_6 : decode cX5_readNumber 6 = .ok (.iconst 3, 1) := by decide +kernel
theorem dX5_readNumber_7 : decode cX5_readNumber 7 = .ok (.if_icmp .ge 46, 3) := by decide +kernel
theorem dX5_readNumber_10 : decode cX5_readNumber 10 = .ok (.aload_n 0, 1) := by decide +kernel
theorem dX5_readNumber_11 : decode cX5_readNumber 11 = .ok (.aload_n 0, 1) := by decide +kernel
theorem dX5_readNumber_12 : decode cX5_readNumber 12 = .ok (.getfield 17, 3) := by decide +kernel
theorem dX5_readNumber_15 : decode cX5_readNumber 15 = .ok (.iload_n 3, 1) := by decide +kernel
theorem dX5_readNumber_16 : decode cX5_readNumber 16 = .ok (.iadd, 1) := by decide +kernel
theorem dX5_readNumber_17 : decode cX5_readNumber 17 = .ok (.invokevirtual 68, 3) := by decide +kernel
theorem dX5_readNumber_20 : decode cX5_readNumber 20 = .ok (.invokestatic 71, 3) := by decide +kernel
theorem dX5_readNumber_23 : decode cX5_readNumber 23 = .ok (.ifCond .eq 30, 3) := by decide +kernel
theorem dX5_readNumber_26 : decode cX5_readNumber 26 = .ok (.bipush 10, 2) := by decide +kernel
theorem dX5_readNumber_28 : decode cX5_readNumber 28 = .ok (.iload 4, 2) := by decide +kernel
theorem dX5_readNumber_30 : decode cX5_readNumber 30 = .ok (.imul, 1) := by decide +kernel
theorem dX5_readNumber_31 : decode cX5_readNumber 31 = .ok (.aload_n 0, 1) := by decide +kernel
theorem dX5_readNumber_32 : decode cX5_readNumber 32 = .ok (.aload_n 0, 1) := by decide +kernel
theorem dX5_readNumber_33 : decode cX5_readNumber 33 = .ok (.getfield 17, 3) := by decide +kernel
theorem dX5_readNumber_36 : decode cX5_readNumber 36 = .ok (.iload_n 3, 1) := by decide +kernel
theorem dX5_readNumber_37 : decode cX5_readNumber 37 = .ok (.iadd, 1) := by decide +kernel
theorem dX5_readNumber_38 : decode cX5_readNumber 38 = .ok (.invokevirtual 68, 3) := by decide +kernel
theorem dX5_readNumber_41 : decode cX5_readNumber 41 = .ok (.iadd, 1) := by decide +kernel
theorem dX5_readNumber_42 : decode cX5_readNumber 42 = .ok (.bipush 48, 2) := by decide +kernel
theorem dX5_readNumber_44 : decode cX5_readNumber 44 = .ok (.isub, 1) := by decide +kernel
theorem dX5_readNumber_45 : decode cX5_readNumber 45 = .ok (.istore 4, 2) := by decide +kernel
theorem dX5_readNumber_47 : decode cX5_readNumber 47 = .ok (.iinc 3 1, 3) := by decide +kernel
theorem dX5_readNumber_50 : decode cX5_readNumber 50 = .ok (.goto (-45), 3) := by decide +kernel
theorem dX5_readNumber_53 : decode cX5_readNumber 53 = .ok (.iload_n 3, 1) := by decide +kernel
theorem dX5_readNumber_54 : decode cX5_readNumber 54 = .ok (.iconst 1, 1) := by decide +kernel
theorem dX5_readNumber_55 : decode cX5_readNumber 55 = .ok (.if_icmp .lt 8, 3) := by decide +kernel
theorem dX5_readNumber_58 : decode cX5_readNumber 58 = .ok (.iload_n 3, 1) := by decide +kernel
theorem dX5_readNumber_59 : decode cX5_readNumber 59 = .ok (.iconst 2, 1) := by decide +kernel
theorem dX5_readNumber_60 : decode cX5_readNumber 60 = .ok (.if_icmp .le 11, 3) := by decide +kernel
theorem dX5_readNumber_63 : decode cX5_readNumber 63 = .ok (.aload_n 0, 1) := by decide +kernel
theorem dX5_readNumber_64 : decode cX5_readNumber 64 = .ok (.iconst 1, 1) := by decide +kernel
theorem dX5_readNumber_65 : decode cX5_readNumber 65 = .ok (.invokevirtual 33, 3) := by decide +kernel
theorem dX5_readNumber_68 : decode cX5_readNumber 68 = .ok (.pop, 1) := by decide +kernel
theorem dX5_readNumber_69 : decode cX5_readNumber 69 = .ok (.iconst (-1), 1) := by decide +kernel
theorem dX5_readNumber_70 : decode cX5_readNumber 70 = .ok (.ireturn, 1) := by decide +kernel
theorem dX5_readNumber_71 : decode cX5_readNumber 71 = .ok (.iload 4, 2) := by decide +kernel
theorem dX5_readNumber_73 : decode cX5_readNumber 73 = .ok (.iload_n 1, 1) := by decide +kernel
theorem dX5_readNumber_74 : decode cX5_readNumber 74 = .ok (.if_icmp .lt 9, 3) := by decide +kernel
theorem dX5_readNumber_77 : decode cX5_readNumber 77 = .ok (.iload 4, 2) := by decide +kernel
theorem dX5_readNumber_79 : decode cX5_readNumber 79 = .ok (.iload_n 2, 1) := by decide +kernel
theorem dX5_readNumber_80 : decode cX5_readNumber 80 = .ok (.if_icmp .le 11, 3) := by decide +kernel
theorem dX5_readNumber_83 : decode cX5_readNumber 83 = .ok (.aload_n 0, 1) := by decide +kernel
theorem dX5_readNumber_84 : decode cX5_readNumber 84 = .ok (.iconst 2, 1) := by decide +kernel
theorem dX5_readNumber_85 : decode cX5_readNumber 85 = .ok (.invokevirtual 33, 3) := by decide +kernel
theorem dX5_readNumber_88 : decode cX5_readNumber 88 = .ok (.pop, 1) := by decide +kernel
theorem dX5_readNumber_89 : decode cX5_readNumber 89 = .ok (.iconst (-1), 1) := by decide +kernel
theorem dX5_readNumber_90 : decode cX5_readNumber 90 = .ok (.ireturn, 1) := by decide +kernel
theorem dX5_readNumber_91 : decode cX5_readNumber 91 = .ok (.aload_n 0, 1) := by decide +kernel
theorem dX5_readNumber_92 : decode cX5_readNumber 92 = .ok (.dup, 1) := by decide +kernel
theorem dX5_readNumber_93 : decode cX5_readNumber 93 = .ok (.getfield 17, 3) := by decide +kernel
theorem dX5_readNumber_96 : decode cX5_readNumber 96 = .ok (.iload_n 3, 1) := by decide +kernel
theorem dX5_readNumber_97 : decode cX5_readNumber 97 = .ok (.iadd, 1) := by decide +kernel
theorem dX5_readNumber_98 : decode cX5_readNumber 98 = .ok (.putfield 17, 3) := by decide +kernel
theorem dX5_readNumber_101 : decode cX5_readNumber 101 = .ok (.iload 4, 2) := by decide +kernel
theorem dX5_readNumber_103 : decode cX5_readNumber 103 = .ok (.ireturn, 1) := by decide +kernel
theorem dX5_passed_0 : decode cX5_passed 0 = .ok (.aload_n 0, 1) := by decide +kernel
theorem dX5_passed_1 : decode cX5_passed 1 = .ok (.invokevirtual 50, 3) := by decide +kernel
theorem dX5_passed_4 : decode cX5_passed 4 = .ok (.iload_n 1, 1) := by decide +kernel
theorem dX5_passed_5 : decode cX5_passed 5 = .ok (.if_icmp .eq 9, 3) := by decide +kernel
theorem dX5_passed_8 : decode cX5_passed 8 = .ok (.aload_n 0, 1) := by decide +kernel
theorem dX5_passed_9 : decode cX5_passed 9 = .ok (.iconst 1, 1) := by decide +kernel
theorem dX5_passed_10 : decode cX5_passed 10 = .ok (.invokevirtual 33, 3) := by decide +kernel
theorem dX5_passed_13 : decode cX5_passed 13 = .ok (.ireturn, 1) := by decide +kernel
theorem dX5_passed_14 : decode cX5_passed 14 = .ok (.aload_n 0, 1) := by decide +kernel
theorem dX5_passed_15 : decode cX5_passed 15 = .ok (.dup, 1) := by decide +kernel
theorem dX5_passed_16 : decode cX5_passed 16 = .ok (.getfield 17, 3) := by decide +kernel
theorem dX5_passed_19 : decode cX5_passed 19 = .ok (.iconst 1, 1) := by decide +kernel
theorem dX5_passed_20 : decode cX5_passed 20 = .ok (.iadd, 1) := by decide +kernel
theorem dX5_passed_21 : decode cX5_passed 21 = .ok (.putfield 17, 3) := by decide +kernel
theorem dX5_passed_24 : decode cX5_passed 24 = .ok (.iconst 1, 1) := by decide +kernel
theorem dX5_passed_25 : decode cX5_passed 25 = .ok (.ireturn, 1) := by decide +kernel
theorem dX5_refuse_0 : decode cX5_refuse 0 = .ok (.aload_n 0, 1) := by decide +kernel
theorem dX5_refuse_1 : decode cX5_refuse 1 = .ok (.iload_n 1, 1) := by decide +kernel
theorem dX5_refuse_2 : decode cX5_refuse 2 = .ok (.putfield 20, 3) := by decide +kernel
theorem dX5_refuse_5 : decode cX5_refuse 5 = .ok (.iconst 0, 1) := by decide +kernel
theorem dX5_refuse_6 : decode cX5_refuse 6 = .ok (.ireturn, 1) := by decide +kernel
theorem dX5_here_0 : decode cX5_here 0 = .ok (.aload_n 0, 1) := by decide +kernel
theorem dX5_here_1 : decode cX5_here 1 = .ok (.aload_n 0, 1) := by decide +kernel
theorem dX5_here_2 : decode cX5_here 2 = .ok (.getfield 17, 3) := by decide +kernel
theorem dX5_here_5 : decode cX5_here 5 = .ok (.invokevirtual 68, 3) := by decide +kernel
theorem dX5_here_8 : decode cX5_here 8 = .ok (.ireturn, 1) := by decide +kernel
theorem dX5_byteAt_0 : decode cX5_byteAt 0 = .ok (.iload_n 1, 1) := by decide +kernel
theorem dX5_byteAt_1 : decode cX5_byteAt 1 = .ok (.ifCond .lt 20, 3) := by decide +kernel
theorem dX5_byteAt_4 : decode cX5_byteAt 4 = .ok (.iload_n 1, 1) := by decide +kernel
theorem dX5_byteAt_5 : decode cX5_byteAt 5 = .ok (.aload_n 0, 1) := by decide +kernel
theorem dX5_byteAt_6 : decode cX5_byteAt 6 = .ok (.getfield 13, 3) := by decide +kernel
theorem dX5_byteAt_9 : decode cX5_byteAt 9 = .ok (.if_icmp .ge 12, 3) := by decide +kernel
theorem dX5_byteAt_12 : decode cX5_byteAt 12 = .ok (.aload_n 0, 1) := by decide +kernel
theorem dX5_byteAt_13 : decode cX5_byteAt 13 = .ok (.getfield 9, 3) := by decide +kernel
theorem dX5_byteAt_16 : decode cX5_byteAt 16 = .ok (.iload_n 1, 1) := by decide +kernel
theorem dX5_byteAt_17 : decode cX5_byteAt 17 = .ok (.iaload, 1) := by decide +kernel
theorem dX5_byteAt_18 : decode cX5_byteAt 18 = .ok (.goto 4, 3) := by decide +kernel
theorem dX5_byteAt_21 : decode cX5_byteAt 21 = .ok (.iconst (-1), 1) := by decide +kernel
theorem dX5_byteAt_22 : decode cX5_byteAt 22 = .ok (.ireturn, 1) := by decide +kernel
theorem dX5_isFigure_0 : decode cX5_isFigure 0 = .ok (.iload_n 0, 1) := by decide +kernel
theorem dX5_isFigure_1 : decode cX5_isFigure 1 = .ok (.bipush 48, 2) := by decide +kernel
theorem dX5_isFigure_3 : decode cX5_isFigure 3 = .ok (.if_icmp .lt 13, 3) := by decide +kernel
theorem dX5_isFigure_6 : decode cX5_isFigure 6 = .ok (.iload_n 0, 1) := by decide +kernel
theorem dX5_isFigure_7 : decode cX5_isFigure 7 = .ok (.bipush 57, 2) := by decide +kernel
theorem dX5_isFigure_9 : decode cX5_isFigure 9 = .ok (.if_icmp .gt 7, 3) := by decide +kernel
theorem dX5_isFigure_12 : decode cX5_isFigure 12 = .ok (.iconst 1, 1) := by decide +kernel
theorem dX5_isFigure_13 : decode cX5_isFigure 13 = .ok (.goto 4, 3) := by decide +kernel
theorem dX5_isFigure_16 : decode cX5_isFigure 16 = .ok (.iconst 0, 1) := by decide +kernel
theorem dX5_isFigure_17 : decode cX5_isFigure 17 = .ok (.ireturn, 1) := by decide +kernel
theorem dX6_init_0 : decode cX6_init 0 = .ok (.aload_n 0, 1) := by decide +kernel
theorem dX6_init_1 : decode cX6_init 1 = .ok (.invokespecial 1, 3) := by decide +kernel
theorem dX6_init_4 : decode cX6_init 4 = .ok (.aload_n 0, 1) := by decide +kernel
theorem dX6_init_5 : decode cX6_init 5 = .ok (.bipush 8, 2) := by decide +kernel
theorem dX6_init_7 : decode cX6_init 7 = .ok (.newarray .int, 2) := by decide +kernel
theorem dX6_init_9 : decode cX6_init 9 = .ok (.putfield 9, 3) := by decide +kernel
theorem dX6_init_12 : decode cX6_init 12 = .ok (.aload_n 0, 1) := by decide +kernel
theorem dX6_init_13 : decode cX6_init 13 = .ok (.bipush 8, 2) := by decide +kernel
theorem dX6_init_15 : decode cX6_init 15 = .ok (.newarray .int, 2) := by decide +kernel
theorem dX6_init_17 : decode cX6_init 17 = .ok (.putfield 13, 3) := by decide +kernel
theorem dX6_init_20 : decode cX6_init 20 = .ok (.aload_n 0, 1) := by decide +kernel
theorem dX6_init_21 : decode cX6_init 21 = .ok (.sipush 320, 3) := by decide +kernel
theorem dX6_init_24 : decode cX6_init 24 = .ok (.newarray .int, 2) := by decide +kernel
theorem dX6_init_26 : decode cX6_init 26 = .ok (.putfield 16, 3) := by decide +kernel
theorem dX6_init_29 : decode cX6_init 29 = .ok (.iconst 0, 1) := by decide +kernel
theorem dX6_init_30 : decode cX6_init 30 = .ok (.istore_n 1, 1) := by decide +kernel
theorem dX6_init_31 : decode cX6_init 31 = .ok (.iload_n 1, 1) := by decide +kernel
theorem dX6_init_32 : decode cX6_init 32 = .ok (.bipush 8, 2) := by decide +kernel
theorem dX6_init_34 : decode cX6_init 34 = .ok (.if_icmp .ge 16, 3) := by decide +kernel
theorem dX6_init_37 : decode cX6_init 37 = .ok (.aload_n 0, 1) := by decide +kernel
theorem dX6_init_38 : decode cX6_init 38 = .ok (.getfield 9, 3) := by decide +kernel
theorem dX6_init_41 : decode cX6_init 41 = .ok (.iload_n 1, 1) := by decide +kernel
theorem dX6_init_42 : decode cX6_init 42 = .ok (.iconst (-1), 1) := by decide +kernel
theorem dX6_init_43 : decode cX6_init 43 = .ok (.iastore, 1) := by decide +kernel
theorem dX6_init_44 : decode cX6_init 44 = .ok (.iinc 1 1, 3) := by decide +kernel
theorem dX6_init_47 : decode cX6_init 47 = .ok (.goto (-16), 3) := by decide +kernel
theorem dX6_init_50 : decode cX6_init 50 = .ok (.return_, 1) := by decide +kernel
theorem dX6_isRow_0 : decode cX6_isRow 0 = .ok (.iload_n 0, 1) := by decide +kernel
theorem dX6_isRow_1 : decode cX6_isRow 1 = .ok (.ifCond .lt 13, 3) := by decide +kernel
theorem dX6_isRow_4 : decode cX6_isRow 4 = .ok (.iload_n 0, 1) := by decide +kernel
theorem dX6_isRow_5 : decode cX6_isRow 5 = .ok (.bipush 8, 2) := by decide +kernel
theorem dX6_isRow_7 : decode cX6_isRow 7 = .ok (.if_icmp .ge 7, 3) := by decide +kernel
theorem dX6_isRow_10 : decode cX6_isRow 10 = .ok (.iconst 1, 1) := by decide +kernel
theorem dX6_isRow_11 : decode cX6_isRow 11 = .ok (.goto 4, 3) := by decide +kernel
theorem dX6_isRow_14 : decode cX6_isRow 14 = .ok (.iconst 0, 1) := by decide +kernel
theorem dX6_isRow_15 : decode cX6_isRow 15 = .ok (.ireturn, 1) := by decide +kernel
theorem dX6_isLane_0 : decode cX6_isLane 0 = .ok (.iload_n 0, 1) := by decide +kernel
theorem dX6_isLane_1 : decode cX6_isLane 1 = .ok (.ifCond .lt 12, 3) := by decide +kernel
theorem dX6_isLane_4 : decode cX6_isLane 4 = .ok (.iload_n 0, 1) := by decide +kernel
theorem dX6_isLane_5 : decode cX6_isLane 5 = .ok (.iconst 2, 1) := by decide +kernel
theorem dX6_isLane_6 : decode cX6_isLane 6 = .ok (.if_icmp .gt 7, 3) := by decide +kernel
theorem dX6_isLane_9 : decode cX6_isLane 9 = .ok (.iconst 1, 1) := by decide +kernel
theorem dX6_isLane_10 : decode cX6_isLane 10 = .ok (.goto 4, 3) := by decide +kernel
theorem dX6_isLane_13 : decode cX6_isLane 13 = .ok (.iconst 0, 1) := by decide +kernel
theorem dX6_isLane_14 : decode cX6_isLane 14 = .ok (.ireturn, 1) := by decide +kernel
theorem dX6_isMissing_0 : decode cX6_isMissing 0 = .ok (.aload_n 0, 1) := by decide +kernel
theorem dX6_isMissing_1 : decode cX6_isMissing 1 = .ok (.getfield 9, 3) := by decide +kernel
theorem dX6_isMissing_4 : decode cX6_isMissing 4 = .ok (.iload_n 1, 1) := by decide +kernel
theorem dX6_isMissing_5 : decode cX6_isMissing 5 = .ok (.iaload, 1) := by decide +kernel
theorem dX6_isMissing_6 : decode cX6_isMissing 6 = .ok (.iconst (-1), 1) := by decide +kernel
theorem dX6_isMissing_7 : decode cX6_isMissing 7 = .ok (.if_icmp .ne 7, 3) := by decide +kernel
theorem dX6_isMissing_10 : decode cX6_isMissing 10 = .ok (.iconst 1, 1) := by decide +kernel
theorem dX6_isMissing_11 : decode cX6_isMissing 11 = .ok (.goto 4, 3) := by decide +kernel
theorem dX6_isMissing_14 : decode cX6_isMissing 14 = .ok (.iconst 0, 1) := by decide +kernel
theorem dX6_isMissing_15 : decode cX6_isMissing 15 = .ok (.ireturn, 1) := by decide +kernel
theorem dX6_laneOf_0 : decode cX6_laneOf 0 = .ok (.aload_n 0, 1) := by decide +kernel
theorem dX6_laneOf_1 : decode cX6_laneOf 1 = .ok (.getfield 9, 3) := by decide +kernel
theorem dX6_laneOf_4 : decode cX6_laneOf 4 = .ok (.iload_n 1, 1) := by decide +kernel
theorem dX6_laneOf_5 : decode cX6_laneOf 5 = .ok (.iaload, 1) := by decide +kernel
theorem dX6_laneOf_6 : decode cX6_laneOf 6 = .ok (.ireturn, 1) := by decide +kernel
theorem dX6_hasPlaces_0 : decode cX6_hasPlaces 0 = .ok (.iload_n 2, 1) := by decide +kernel
theorem dX6_hasPlaces_1 : decode cX6_hasPlaces 1 = .ok (.ifCond .lt 23, 3) := by decide +kernel
theorem dX6_hasPlaces_4 : decode cX6_hasPlaces 4 = .ok (.iload_n 3, 1) := by decide +kernel
theorem dX6_hasPlaces_5 : decode cX6_hasPlaces 5 = .ok (.ifCond .lt 19, 3) := by decide +kernel
theorem dX6_hasPlaces_8 : decode cX6_hasPlaces 8 = .ok (.iload_n 2, 1) := by decide +kernel
theorem dX6_hasPlaces_9 : decode cX6_hasPlaces 9 = .ok (.aload_n 0, 1) := by decide +kernel
theorem dX6_hasPlaces_10 : decode cX6_hasPlaces 10 = .ok (.getfield 13, 3) := by decide +kernel
theorem dX6_hasPlaces_13 : decode cX6_hasPlaces 13 = .ok (.iload_n 1, 1) := by decide +kernel
theorem dX6_hasPlaces_14 : decode cX6_hasPlaces 14 = .ok (.iaload, 1) := by decide +kernel
theorem dX6_hasPlaces_15 : decode cX6_hasPlaces 15 = .ok (.iload_n 3, 1) := by decide +kernel
theorem dX6_hasPlaces_16 : decode cX6_hasPlaces 16 = .ok (.isub, 1) := by decide +kernel
theorem dX6_hasPlaces_17 : decode cX6_hasPlaces 17 = .ok (.if_icmp .gt 7, 3) := by decide +kernel
theorem dX6_hasPlaces_20 : decode cX6_hasPlaces 20 = .ok (.iconst 1, 1) := by decide +kernel
theorem dX6_hasPlaces_21 : decode cX6_hasPlaces 21 = .ok (.goto 4, 3) := by decide +kernel
theorem dX6_hasPlaces_24 : decode cX6_hasPlaces 24 = .ok (.iconst 0, 1) := by decide +kernel
theorem dX6_hasPlaces_25 : decode cX6_hasPlaces 25 = .ok (.ireturn, 1) := by decide +kernel
theorem dX6_make_0 : decode cX6_make 0 = .ok (.aload_n 0, 1) := by decide +kernel
theorem dX6_make_1 : decode cX6_make 1 = .ok (.getfield 9, 3) := by decide +kernel
theorem dX6_make_4 : decode cX6_make 4 = .ok (.iload_n 1, 1) := by decide +kernel
theorem dX6_make_5 : decode cX6_make 5 = .ok (.iload_n 2, 1) := by decide +kernel
theorem dX6_make_6 : decode cX6_make 6 = .ok (.iastore, 1) := by decide +kernel
theorem dX6_make_7 : decode cX6_make 7 = .ok (.aload_n 0, 1) := by decide +kernel
theorem dX6_make_8 : decode cX6_make 8 = .ok (.getfield 13, 3) := by decide +kernel
theorem dX6_make_11 : decode cX6_make 11 = .ok (.iload_n 1, 1) := by decide +kernel
theorem dX6_make_12 : decode cX6_make 12 = .ok (.iload_n 3, 1) := by decide +kernel
theorem dX6_make_13 : decode cX6_make 13 = .ok (.iastore, 1) := by decide +kernel
theorem dX6_make_14 : decode cX6_make 14 = .ok (.iconst 0, 1) := by decide +kernel
theorem dX6_make_15 : decode cX6_make 15 = .ok (.istore 4, 2) := by decide +kernel
theorem dX6_make_17 : decode cX6_make 17 = .ok (.iload 4, 2) := by decide +kernel
theorem dX6_make_19 : decode cX6_make 19 = .ok (.iload_n 3, 1) := by decide +kernel
theorem dX6_make_20 : decode cX6_make 20 = .ok (.if_icmp .ge 22, 3) := by decide +kernel
theorem dX6_make_23 : decode cX6_make 23 = .ok (.aload_n 0, 1) := by decide +kernel
theorem dX6_make_24 : decode cX6_make 24 = .ok (.getfield 16, 3) := by decide +kernel
theorem dX6_make_27 : decode cX6_make 27 = .ok (.iload_n 1, 1) := by decide +kernel
theorem dX6_make_28 : decode cX6_make 28 = .ok (.bipush 40, 2) := by decide +kernel
theorem dX6_make_30 : decode cX6_make 30 = .ok (.imul, 1) := by decide +kernel
theorem dX6_make_31 : decode cX6_make 31 = .ok (.iload 4, 2) := by decide +kernel
theorem dX6_make_33 : decode cX6_make 33 = .ok (.iadd, 1) := by decide +kernel
theorem dX6_make_34 : decode cX6_make 34 = .ok (.iconst 0, 1) := by decide +kernel
theorem dX6_make_35 : decode cX6_make 35 = .ok (.iastore, 1) := by decide +kernel
theorem dX6_make_36 : decode cX6_make 36 = .ok (.iinc 4 1, 3) := by decide +kernel
theorem dX6_make_39 : decode cX6_make 39 = .ok (.goto (-22), 3) := by decide +kernel
theorem dX6_make_42 : decode cX6_make 42 = .ok (.return_, 1) := by decide +kernel
theorem dX6_put_0 : decode cX6_put 0 = .ok (.iload_n 3, 1) := by decide +kernel
theorem dX6_put_1 : decode cX6_put 1 = .ok (.aload_n 0, 1) := by decide +kernel
theorem dX6_put_2 : decode cX6_put 2 = .ok (.getfield 9, 3) := by decide +kernel
theorem dX6_put_5 : decode cX6_put 5 = .ok (.iload_n 1, 1) := by decide +kernel
theorem dX6_put_6 : decode cX6_put 6 = .ok (.iaload, 1) := by decide +kernel
theorem dX6_put_7 : decode cX6_put 7 = .ok (.invokestatic 19, 3) := by decide +kernel
theorem dX6_put_10 : decode cX6_put 10 = .ok (.istore 4, 2) := by decide +kernel
theorem dX6_put_12 : decode cX6_put 12 = .ok (.aload_n 0, 1) := by decide +kernel
theorem dX6_put_13 : decode cX6_put 13 = .ok (.getfield 16, 3) := by decide +kernel
theorem dX6_put_16 : decode cX6_put 16 = .ok (.iload_n 1, 1) := by decide +kernel
theorem dX6_put_17 : decode cX6_put 17 = .ok (.bipush 40, 2) := by decide +kernel
theorem dX6_put_19 : decode cX6_put 19 = .ok (.imul, 1) := by decide +kernel
