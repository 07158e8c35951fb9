theorem dX9_help_0 : decode cX9_help 0 = .ok (.aload_n 0, 1) := by decide +kernel
theorem dX9_help_1 : decode cX9_help 1 = .ok (.iload_n 1, 1) := by decide +kernel
theorem dX9_help_2 : decode cX9_help 2 = .ok (.invokevirtual 163, 3) := by decide +kernel
theorem dX9_help_5 : decode cX9_help 5 = .ok (.ifCond .eq 12, 3) := by decide +kernel
theorem dX9_help_8 : decode cX9_help 8 = .ok (.iload_n 2, 1) := by decide +kernel
theorem dX9_help_9 : decode cX9_help 9 = .ok (.iconst 0, 1) := by decide +kernel
theorem dX9_help_10 : decode cX9_help 10 = .ok (.iconst 1, 1) := by decide +kernel
theorem dX9_help_11 : decode cX9_help 11 = .ok (.invokestatic 59, 3) := by decide +kernel
theorem dX9_help_14 : decode cX9_help 14 = .ok (.ifCond .ne 6, 3) := by decide +kernel
theorem dX9_help_17 : decode cX9_help 17 = .ok (.ldc 67, 2) := by decide +kernel
theorem dX9_help_19 : decode cX9_help 19 = .ok (.ireturn, 1) := by decide +kernel
theorem dX9_help_20 : decode cX9_help 20 = .ok (.aload_n 0, 1) := by decide +kernel
theorem dX9_help_21 : decode cX9_help 21 = .ok (.iload_n 1, 1) := by decide +kernel
theorem dX9_help_22 : decode cX9_help 22 = .ok (.invokevirtual 193, 3) := by decide +kernel
theorem dX9_help_25 : decode cX9_help 25 = .ok (.istore_n 3, 1) := by decide +kernel
theorem dX9_help_26 : decode cX9_help 26 = .ok (.iconst 0, 1) := by decide +kernel
theorem dX9_help_27 : decode cX9_help 27 = .ok (.istore 4, 2) := by decide +kernel
theorem dX9_help_29 : decode cX9_help 29 = .ok (.ldc 53, 2) := by decide +kernel
theorem dX9_help_31 : decode cX9_help 31 = .ok (.istore 5, 2) := by decide +kernel
theorem dX9_help_33 : decode cX9_help 33 = .ok (.iconst 0, 1) := by decide +kernel
theorem dX9_help_34 : decode cX9_help 34 = .ok (.istore 6, 2) := by decide +kernel
theorem dX9_help_36 : decode cX9_help 36 = .ok (.iload 6, 2) := by decide +kernel
theorem dX9_help_38 : decode cX9_help 38 = .ok (.aload_n 0, 1) := by decide +kernel
theorem dX9_help_39 : decode cX9_help 39 = .ok (.getfield 25, 3) := by decide +kernel
theorem dX9_help_42 : decode cX9_help 42 = .ok (.iconst 2, 1) := by decide +kernel
theorem dX9_help_43 : decode cX9_help 43 = .ok (.iaload, 1) := by decide +kernel
theorem dX9_help_44 : decode cX9_help 44 = .ok (.if_icmp .ge 121, 3) := by decide +kernel
theorem dX9_help_47 : decode cX9_help 47 = .ok (.iload 6, 2) := by decide +kernel
theorem dX9_help_49 : decode cX9_help 49 = .ok (.iconst 1, 1) := by decide +kernel
theorem dX9_help_50 : decode cX9_help 50 = .ok (.iadd, 1) := by decide +kernel
theorem dX9_help_51 : decode cX9_help 51 = .ok (.istore 7, 2) := by decide +kernel
theorem dX9_help_53 : decode cX9_help 53 = .ok (.iload 7, 2) := by decide +kernel
theorem dX9_help_55 : decode cX9_help 55 = .ok (.aload_n 0, 1) := by decide +kernel
theorem dX9_help_56 : decode cX9_help 56 = .ok (.getfield 25, 3) := by decide +kernel
theorem dX9_help_59 : decode cX9_help 59 = .ok (.iconst 2, 1) := by decide +kernel
theorem dX9_help_60 : decode cX9_help 60 = .ok (.iaload, 1) := by decide +kernel
theorem dX9_help_61 : decode cX9_help 61 = .ok (.if_icmp .ge 98, 3) := by decide +kernel
theorem dX9_help_64 : decode cX9_help 64 = .ok (.iload_n 3, 1) := by decide +kernel
theorem dX9_help_65 : decode cX9_help 65 = .ok (.iload 6, 2) := by decide +kernel
theorem dX9_help_67 : decode cX9_help 67 = .ok (.invokestatic 156, 3) := by decide +kernel
theorem dX9_help_70 : decode cX9_help 70 = .ok (.ifCond .eq 40, 3) := by decide +kernel
theorem dX9_help_73 : decode cX9_help 73 = .ok (.iload_n 3, 1) := by decide +kernel
theorem dX9_help_74 : decode cX9_help 74 = .ok (.iload 7, 2) := by decide +kernel
theorem dX9_help_76 : decode cX9_help 76 = .ok (.invokestatic 156, 3) := by decide +kernel
theorem dX9_help_79 : decode cX9_help 79 = .ok (.ifCond .eq 31, 3) := by decide +kernel
theorem dX9_help_82 : decode cX9_help 82 = .ok (.aload_n 0, 1) := by decide +kernel
theorem dX9_help_83 : decode cX9_help 83 = .ok (.iload_n 1, 1) := by decide +kernel
theorem dX9_help_84 : decode cX9_help 84 = .ok (.iload 6, 2) := by decide +kernel
theorem dX9_help_86 : decode cX9_help 86 = .ok (.iload 7, 2) := by decide +kernel
theorem dX9_help_88 : decode cX9_help 88 = .ok (.invokevirtual 212, 3) := by decide +kernel
theorem dX9_help_91 : decode cX9_help 91 = .ok (.ifCond .ne 15, 3) := by decide +kernel
theorem dX9_help_94 : decode cX9_help 94 = .ok (.aload_n 0, 1) := by decide +kernel
theorem dX9_help_95 : decode cX9_help 95 = .ok (.iload_n 1, 1) := by decide +kernel
theorem dX9_help_96 : decode cX9_help 96 = .ok (.iload 7, 2) := by decide +kernel
theorem dX9_help_98 : decode cX9_help 98 = .ok (.iload 6, 2) := by decide +kernel
theorem dX9_help_100 : decode cX9_help 100 = .ok (.invokevirtual 212, 3) := by decide +kernel
theorem dX9_help_103 : decode cX9_help 103 = .ok (.ifCond .eq 7, 3) := by decide +kernel
theorem dX9_help_106 : decode cX9_help 106 = .ok (.iconst 1, 1) := by decide +kernel
theorem dX9_help_107 : decode cX9_help 107 = .ok (.goto 4, 3) := by decide +kernel
theorem dX9_help_110 : decode cX9_help 110 = .ok (.iconst 0, 1) := by decide +kernel
theorem dX9_help_111 : decode cX9_help 111 = .ok (.istore 8, 2) := by decide +kernel
theorem dX9_help_113 : decode cX9_help 113 = .ok (.iload 8, 2) := by decide +kernel
theorem dX9_help_115 : decode cX9_help 115 = .ok (.ifCond .eq 19, 3) := by decide +kernel
theorem dX9_help_118 : decode cX9_help 118 = .ok (.iload 4, 2) := by decide +kernel
theorem dX9_help_120 : decode cX9_help 120 = .ok (.ifCond .ne 14, 3) := by decide +kernel
theorem dX9_help_123 : decode cX9_help 123 = .ok (.bipush 10, 2) := by decide +kernel
theorem dX9_help_125 : decode cX9_help 125 = .ok (.iload 6, 2) := by decide +kernel
theorem dX9_help_127 : decode cX9_help 127 = .ok (.imul, 1) := by decide +kernel
theorem dX9_help_128 : decode cX9_help 128 = .ok (.iload 7, 2) := by decide +kernel
theorem dX9_help_130 : decode cX9_help 130 = .ok (.iadd, 1) := by decide +kernel
theorem dX9_help_131 : decode cX9_help 131 = .ok (.goto 5, 3) := by decide +kernel
theorem dX9_help_134 : decode cX9_help 134 = .ok (.iload 5, 2) := by decide +kernel
theorem dX9_help_136 : decode cX9_help 136 = .ok (.istore 5, 2) := by decide +kernel
theorem dX9_help_138 : decode cX9_help 138 = .ok (.iload 4, 2) := by decide +kernel
theorem dX9_help_140 : decode cX9_help 140 = .ok (.iload 8, 2) := by decide +kernel
theorem dX9_help_142 : decode cX9_help 142 = .ok (.ifCond .eq 7, 3) := by decide +kernel
theorem dX9_help_145 : decode cX9_help 145 = .ok (.iconst 1, 1) := by decide +kernel
theorem dX9_help_146 : decode cX9_help 146 = .ok (.goto 4, 3) := by decide +kernel
theorem dX9_help_149 : decode cX9_help 149 = .ok (.iconst 0, 1) := by decide +kernel
theorem dX9_help_150 : decode cX9_help 150 = .ok (.iadd, 1) := by decide +kernel
theorem dX9_help_151 : decode cX9_help 151 = .ok (.istore 4, 2) := by decide +kernel
theorem dX9_help_153 : decode cX9_help 153 = .ok (.iinc 7 1, 3) := by decide +kernel
theorem dX9_help_156 : decode cX9_help 156 = .ok (.goto (-103), 3) := by decide +kernel
theorem dX9_help_159 : decode cX9_help 159 = .ok (.iinc 6 1, 3) := by decide +kernel
theorem dX9_help_162 : decode cX9_help 162 = .ok (.goto (-126), 3) := by decide +kernel
theorem dX9_help_165 : decode cX9_help 165 = .ok (.iload_n 2, 1) := by decide +kernel
theorem dX9_help_166 : decode cX9_help 166 = .ok (.ifCond .ne 8, 3) := by decide +kernel
theorem dX9_help_169 : decode cX9_help 169 = .ok (.iload 4, 2) := by decide +kernel
theorem dX9_help_171 : decode cX9_help 171 = .ok (.goto 5, 3) := by decide +kernel
theorem dX9_help_174 : decode cX9_help 174 = .ok (.iload 5, 2) := by decide +kernel
theorem dX9_help_176 : decode cX9_help 176 = .ok (.ireturn, 1) := by decide +kernel
theorem dX9_suppers_0 : decode cX9_suppers 0 = .ok (.aload_n 0, 1) := by decide +kernel
theorem dX9_suppers_1 : decode cX9_suppers 1 = .ok (.iload_n 1, 1) := by decide +kernel
theorem dX9_suppers_2 : decode cX9_suppers 2 = .ok (.invokevirtual 163, 3) := by decide +kernel
theorem dX9_suppers_5 : decode cX9_suppers 5 = .ok (.ifCond .eq 11, 3) := by decide +kernel
theorem dX9_suppers_8 : decode cX9_suppers 8 = .ok (.aload_n 0, 1) := by decide +kernel
theorem dX9_suppers_9 : decode cX9_suppers 9 = .ok (.iload_n 2, 1) := by decide +kernel
theorem dX9_suppers_10 : decode cX9_suppers 10 = .ok (.invokevirtual 166, 3) := by decide +kernel
theorem dX9_suppers_13 : decode cX9_suppers 13 = .ok (.ifCond .ne 6, 3) := by decide +kernel
theorem dX9_suppers_16 : decode cX9_suppers 16 = .ok (.ldc 67, 2) := by decide +kernel
theorem dX9_suppers_18 : decode cX9_suppers 18 = .ok (.ireturn, 1) := by decide +kernel
theorem dX9_suppers_19 : decode cX9_suppers 19 = .ok (.aload_n 0, 1) := by decide +kernel
theorem dX9_suppers_20 : decode cX9_suppers 20 = .ok (.iload_n 1, 1) := by decide +kernel
theorem dX9_suppers_21 : decode cX9_suppers 21 = .ok (.iload_n 2, 1) := by decide +kernel
theorem dX9_suppers_22 : decode cX9_suppers 22 = .ok (.invokevirtual 169, 3) := by decide +kernel
theorem dX9_suppers_25 : decode cX9_suppers 25 = .ok (.ifCond .eq 6, 3) := by decide +kernel
theorem dX9_suppers_28 : decode cX9_suppers 28 = .ok (.ldc 172, 2) := by decide +kernel
theorem dX9_suppers_30 : decode cX9_suppers 30 = .ok (.ireturn, 1) := by decide +kernel
theorem dX9_suppers_31 : decode cX9_suppers 31 = .ok (.aload_n 0, 1) := by decide +kernel
theorem dX9_suppers_32 : decode cX9_suppers 32 = .ok (.iload_n 1, 1) := by decide +kernel
theorem dX9_suppers_33 : decode cX9_suppers 33 = .ok (.invokevirtual 176, 3) := by decide +kernel
theorem dX9_suppers_36 : decode cX9_suppers 36 = .ok (.iconst 0, 1) := by decide +kernel
theorem dX9_suppers_37 : decode cX9_suppers 37 = .ok (.istore_n 3, 1) := by decide +kernel
theorem dX9_suppers_38 : decode cX9_suppers 38 = .ok (.iload_n 3, 1) := by decide +kernel
theorem dX9_suppers_39 : decode cX9_suppers 39 = .ok (.bipush 11, 2) := by decide +kernel
theorem dX9_suppers_41 : decode cX9_suppers 41 = .ok (.if_icmp .ge 43, 3) := by decide +kernel
theorem dX9_suppers_44 : decode cX9_suppers 44 = .ok (.aload_n 0, 1) := by decide +kernel
theorem dX9_suppers_45 : decode cX9_suppers 45 = .ok (.iload_n 2, 1) := by decide +kernel
theorem dX9_suppers_46 : decode cX9_suppers 46 = .ok (.invokevirtual 180, 3) := by decide +kernel
theorem dX9_suppers_49 : decode cX9_suppers 49 = .ok (.ifCond .eq 5, 3) := by decide +kernel
theorem dX9_suppers_52 : decode cX9_suppers 52 = .ok (.iload_n 3, 1) := by decide +kernel
theorem dX9_suppers_53 : decode cX9_suppers 53 = .ok (.ireturn, 1) := by decide +kernel
theorem dX9_suppers_54 : decode cX9_suppers 54 = .ok (.aload_n 0, 1) := by decide +kernel
theorem dX9_suppers_55 : decode cX9_suppers 55 = .ok (.aload_n 0, 1) := by decide +kernel
theorem dX9_suppers_56 : decode cX9_suppers 56 = .ok (.getfield 144, 3) := by decide +kernel
theorem dX9_suppers_59 : decode cX9_suppers 59 = .ok (.bipush 18, 2) := by decide +kernel
theorem dX9_suppers_61 : decode cX9_suppers 61 = .ok (.if_icmp .ge 12, 3) := by decide +kernel
theorem dX9_suppers_64 : decode cX9_suppers 64 = .ok (.aload_n 0, 1) := by decide +kernel
theorem dX9_suppers_65 : decode cX9_suppers 65 = .ok (.getfield 144, 3) := by decide +kernel
theorem dX9_suppers_68 : decode cX9_suppers 68 = .ok (.iconst 2, 1) := by decide +kernel
theorem dX9_suppers_69 : decode cX9_suppers 69 = .ok (.iadd, 1) := by decide +kernel
theorem dX9_suppers_70 : decode cX9_suppers 70 = .ok (.goto 5, 3) := by decide +kernel
theorem dX9_suppers_73 : decode cX9_suppers 73 = .ok (.bipush 20, 2) := by decide +kernel
theorem dX9_suppers_75 : decode cX9_suppers 75 = .ok (.putfield 144, 3) := by decide +kernel
theorem dX9_suppers_78 : decode cX9_suppers 78 = .ok (.iinc 3 1, 3) := by decide +kernel
theorem dX9_suppers_81 : decode cX9_suppers 81 = .ok (.goto (-43), 3) := by decide +kernel
theorem dX9_suppers_84 : decode cX9_suppers 84 = .ok (.ldc 53, 2) := by decide +kernel
theorem dX9_suppers_86 : decode cX9_suppers 86 = .ok (.ireturn, 1) := by decide +kernel
theorem dX9_wrongIn_0 : decode cX9_wrongIn 0 = .ok (.aload_n 0, 1) := by decide +kernel
theorem dX9_wrongIn_1 : decode cX9_wrongIn 1 = .ok (.iload_n 1, 1) := by decide +kernel
theorem dX9_wrongIn_2 : decode cX9_wrongIn 2 = .ok (.invokevirtual 75, 3) := by decide +kernel
theorem dX9_wrongIn_5 : decode cX9_wrongIn 5 = .ok (.ifCond .eq 5, 3) := by decide +kernel
theorem dX9_wrongIn_8 : decode cX9_wrongIn 8 = .ok (.iconst 1, 1) := by decide +kernel
theorem dX9_wrongIn_9 : decode cX9_wrongIn 9 = .ok (.ireturn, 1) := by decide +kernel
theorem dX9_wrongIn_10 : decode cX9_wrongIn 10 = .ok (.aload_n 0, 1) := by decide +kernel
theorem dX9_wrongIn_11 : decode cX9_wrongIn 11 = .ok (.iload_n 1, 1) := by decide +kernel
theorem dX9_wrongIn_12 : decode cX9_wrongIn 12 = .ok (.iload_n 2, 1) := by decide +kernel
theorem dX9_wrongIn_13 : decode cX9_wrongIn 13 = .ok (.iconst 2, 1) := by decide +kernel
theorem dX9_wrongIn_14 : decode cX9_wrongIn 14 = .ok (.iload_n 3, 1) := by decide +kernel
theorem dX9_wrongIn_15 : decode cX9_wrongIn 15 = .ok (.imul, 1) := by decide +kernel
theorem dX9_wrongIn_16 : decode cX9_wrongIn 16 = .ok (.invokevirtual 82, 3) := by decide +kernel
theorem dX9_wrongIn_19 : decode cX9_wrongIn 19 = .ok (.ifCond .ne 5, 3) := by decide +kernel
theorem dX9_wrongIn_22 : decode cX9_wrongIn 22 = .ok (.iconst 2, 1) := by decide +kernel
theorem dX9_wrongIn_23 : decode cX9_wrongIn 23 = .ok (.ireturn, 1) := by decide +kernel
theorem dX9_wrongIn_24 : decode cX9_wrongIn 24 = .ok (.iconst 1, 1) := by decide +kernel
theorem dX9_wrongIn_25 : decode cX9_wrongIn 25 = .ok (.istore 4, 2) := by decide +kernel
theorem dX9_wrongIn_27 : decode cX9_wrongIn 27 = .ok (.iconst 0, 1) := by decide +kernel
theorem dX9_wrongIn_28 : decode cX9_wrongIn 28 = .ok (.istore 5, 2) := by decide +kernel
theorem dX9_wrongIn_30 : decode cX9_wrongIn 30 = .ok (.iload 5, 2) := by decide +kernel
theorem dX9_wrongIn_32 : decode cX9_wrongIn 32 = .ok (.iload_n 3, 1) := by decide +kernel
theorem dX9_wrongIn_33 : decode cX9_wrongIn 33 = .ok (.if_icmp .ge 44, 3) := by decide +kernel
theorem dX9_wrongIn_36 : decode cX9_wrongIn 36 = .ok (.iload 4, 2) := by decide +kernel
theorem dX9_wrongIn_38 : decode cX9_wrongIn 38 = .ok (.ifCond .eq 30, 3) := by decide +kernel
theorem dX9_wrongIn_41 : decode cX9_wrongIn 41 = .ok (.aload_n 0, 1) := by decide +kernel
theorem dX9_wrongIn_42 : decode cX9_wrongIn 42 = .ok (.aload_n 0, 1) := by decide +kernel
theorem dX9_wrongIn_43 : decode cX9_wrongIn 43 = .ok (.getfield 16, 3) := by decide +kernel
theorem dX9_wrongIn_46 : decode cX9_wrongIn 46 = .ok (.bipush 40, 2) := by decide +kernel
theorem dX9_wrongIn_48 : decode cX9_wrongIn 48 = .ok (.iload_n 1, 1) := by decide +kernel
theorem dX9_wrongIn_49 : decode cX9_wrongIn 49 = .ok (.imul, 1) := by decide +kernel
theorem dX9_wrongIn_50 : decode cX9_wrongIn 50 = .ok (.iload_n 2, 1) := by decide +kernel
theorem dX9_wrongIn_51 : decode cX9_wrongIn 51 = .ok (.iadd, 1) := by decide +kernel
theorem dX9_wrongIn_52 : decode cX9_wrongIn 52 = .ok (.iconst 2, 1) := by decide +kernel
theorem dX9_wrongIn_53 : decode cX9_wrongIn 53 = .ok (.iload 5, 2) := by decide +kernel
theorem dX9_wrongIn_55 : decode cX9_wrongIn 55 = .ok (.imul, 1) := by decide +kernel
theorem dX9_wrongIn_56 : decode cX9_wrongIn 56 = .ok (.iadd, 1) := by decide +kernel
theorem dX9_wrongIn_57 : decode cX9_wrongIn 57 = .ok (.iaload, 1) := by decide +kernel
theorem dX9_wrongIn_58 : decode cX9_wrongIn 58 = .ok (.invokevirtual 166, 3) := by decide +kernel
theorem dX9_wrongIn_61 : decode cX9_wrongIn 61 = .ok (.ifCond .eq 7, 3) := by decide +kernel
theorem dX9_wrongIn_64 : decode cX9_wrongIn 64 = .ok (.iconst 1, 1) := by decide +kernel
theorem dX9_wrongIn_65 : decode cX9_wrongIn 65 = .ok (.goto 4, 3) := by decide +kernel
theorem dX9_wrongIn_68 : decode cX9_wrongIn 68 = .ok (.iconst 0, 1) := by decide +kernel
theorem dX9_wrongIn_69 : decode cX9_wrongIn 69 = .ok (.istore 4, 2) := by decide +kernel
theorem dX9_wrongIn_71 : decode cX9_wrongIn 71 = .ok (.iinc 5 1, 3) := by decide +kernel
theorem dX9_wrongIn_74 : decode cX9_wrongIn 74 = .ok (.goto (-44), 3) := by decide +kernel
theorem dX9_wrongIn_77 : decode cX9_wrongIn 77 = .ok (.iload 4, 2) := by decide +kernel
theorem dX9_wrongIn_79 : decode cX9_wrongIn 79 = .ok (.ifCond .eq 7, 3) := by decide +kernel
theorem dX9_wrongIn_82 : decode cX9_wrongIn 82 = .ok (.iconst 0, 1) := by decide +kernel
theorem dX9_wrongIn_83 : decode cX9_wrongIn 83 = .ok (.goto 4, 3) := by decide +kernel
theorem dX9_wrongIn_86 : decode cX9_wrongIn 86 = .ok (.iconst (-1), 1) := by decide +kernel
theorem dX9_wrongIn_87 : decode cX9_wrongIn 87 = .ok (.ireturn, 1) := by decide +kernel
theorem dX9_goesSo_0 : decode cX9_goesSo 0 = .ok (.iconst 1, 1) := by decide +kernel
theorem dX9_goesSo_1 : decode cX9_goesSo 1 = .ok (.istore_n 3, 1) := by decide +kernel
theorem dX9_goesSo_2 : decode cX9_goesSo 2 = .ok (.iconst 0, 1) := by decide +kernel
theorem dX9_goesSo_3 : decode cX9_goesSo 3 = .ok (.istore 4, 2) := by decide +kernel
theorem dX9_goesSo_5 : decode cX9_goesSo 5 = .ok (.iload 4, 2) := by decide +kernel
theorem dX9_goesSo_7 : decode cX9_goesSo 7 = .ok (.iload_n 2, 1) := by decide +kernel
theorem dX9_goesSo_8 : decode cX9_goesSo 8 = .ok (.if_icmp .ge 74, 3) := by decide +kernel
theorem dX9_goesSo_11 : decode cX9_goesSo 11 = .ok (.aload_n 0, 1) := by decide +kernel
theorem dX9_goesSo_12 : decode cX9_goesSo 12 = .ok (.getfield 16, 3) := by decide +kernel
theorem dX9_goesSo_15 : decode cX9_goesSo 15 = .ok (.iload_n 1, 1) := by decide +kernel
theorem dX9_goesSo_16 : decode cX9_goesSo 16 = .ok (.iconst 2, 1) := by decide +kernel
theorem dX9_goesSo_17 : decode cX9_goesSo 17 = .ok (.iload 4, 2) := by decide +kernel
theorem dX9_goesSo_19 : decode cX9_goesSo 19 = .ok (.imul, 1) := by decide +kernel
theorem dX9_goesSo_20 : decode cX9_goesSo 20 = .ok (.iadd, 1) := by decide +kernel
theorem dX9_goesSo_21 : decode cX9_goesSo 21 = .ok (.iaload, 1) := by decide +kernel
theorem dX9_goesSo_22 : decode cX9_goesSo 22 = .ok (.istore 5, 2) := by decide +kernel
theorem dX9_goesSo_24 : decode cX9_goesSo 24 = .ok (.aload_n 0, 1) := by decide +kernel
theorem dX9_goesSo_25 : decode cX9_goesSo 25 = .ok (.iload 5, 2) := by decide +kernel
theorem dX9_goesSo_27 : decode cX9_goesSo 27 = .ok (.invokevirtual 180, 3) := by decide +kernel
theorem dX9_goesSo_30 : decode cX9_goesSo 30 = .ok (.istore 6, 2) := by decide +kernel
theorem dX9_goesSo_32 : decode cX9_goesSo 32 = .ok (.iload_n 3, 1) := by decide +kernel
theorem dX9_goesSo_33 : decode cX9_goesSo 33 = .ok (.ifCond .eq 33, 3) := by decide +kernel
theorem dX9_goesSo_36 : decode cX9_goesSo 36 = .ok (.aload_n 0, 1) := by decide +kernel
theorem dX9_goesSo_37 : decode cX9_goesSo 37 = .ok (.getfield 16, 3) := by decide +kernel
theorem dX9_goesSo_40 : decode cX9_goesSo 40 = .ok (.iload_n 1, 1) := by decide +kernel
theorem dX9_goesSo_41 : decode cX9_goesSo 41 = .ok (.iconst 2, 1) := by decide +kernel
theorem dX9_goesSo_42 : decode cX9_goesSo 42 = .ok (.iload 4, 2) := by decide +kernel
theorem dX9_goesSo_44 : decode cX9_goesSo 44 = .ok (.imul, 1) := by decide +kernel
theorem dX9_goesSo_45 : decode cX9_goesSo 45 = .ok (.iadd, 1) := by decide +kernel
theorem dX9_goesSo_46 : decode cX9_goesSo 46 = .ok (.iconst 1, 1) := by decide +kernel
theorem dX9_goesSo_47 : decode cX9_goesSo 47 = .ok (.iadd, 1) := by decide +kernel
theorem dX9_goesSo_48 : decode cX9_goesSo 48 = .ok (.iaload, 1) := by decide +kernel
theorem dX9_goesSo_49 : decode cX9_goesSo 49 = .ok (.iload 6, 2) := by decide +kernel
theorem dX9_goesSo_51 : decode cX9_goesSo 51 = .ok (.ifCond .eq 7, 3) := by decide +kernel
theorem dX9_goesSo_54 : decode cX9_goesSo 54 = .ok (.iconst 1, 1) := by decide +kernel
theorem dX9_goesSo_55 : decode cX9_goesSo 55 = .ok (.goto 4, 3) := by decide +kernel
theorem dX9_goesSo_58 : decode cX9_goesSo 58 = .ok (.iconst 0, 1) := by decide +kernel
theorem dX9_goesSo_59 : decode cX9_goesSo 59 = .ok (.if_icmp .ne 7, 3) := by decide +kernel
theorem dX9_goesSo_62 : decode cX9_goesSo 62 = .ok (.iconst 1, 1) := by decide +kernel
theorem dX9_goesSo_63 : decode cX9_goesSo 63 = .ok (.goto 4, 3) := by decide +kernel
theorem dX9_goesSo_66 : decode cX9_goesSo 66 = .ok (.iconst 0, 1) := by decide +kernel
theorem dX9_goesSo_67 : decode cX9_goesSo 67 = .ok (.istore_n 3, 1) := by decide +kernel
theorem dX9_goesSo_68 : decode cX9_goesSo 68 = .ok (.aload_n 0, 1) := by decide +kernel
theorem dX9_goesSo_69 : decode cX9_goesSo 69 = .ok (.iload 5, 2) := by decide +kernel
theorem dX9_goesSo_71 : decode cX9_goesSo 71 = .ok (.iload 6, 2) := by decide +kernel
theorem dX9_goesSo_73 : decode cX9_goesSo 73 = .ok (.invokevirtual 183, 3) := by decide +kernel
theorem dX9_goesSo_76 : decode cX9_goesSo 76 = .ok (.iinc 4 1, 3) := by decide +kernel
theorem dX9_goesSo_79 : decode cX9_goesSo 79 = .ok (.goto (-74), 3) := by decide +kernel
theorem dX9_goesSo_82 : decode cX9_goesSo 82 = .ok (.iload_n 3, 1) := by decide +kernel
theorem dX9_goesSo_83 : decode cX9_goesSo 83 = .ok (.ireturn, 1) := by decide +kernel
theorem dX9_doubted_0 : decode cX9_doubted 0 = .ok (.aload_n 0, 1) := by decide +kernel
theorem dX9_doubted_1 : decode cX9_doubted 1 = .ok (.iload_n 1, 1) := by decide +kernel
theorem dX9_doubted_2 : decode cX9_doubted 2 = .ok (.invokevirtual 163, 3) := by decide +kernel
theorem dX9_doubted_5 : decode cX9_doubted 5 = .ok (.ifCond .eq 31, 3) := by decide +kernel
theorem dX9_doubted_8 : decode cX9_doubted 8 = .ok (.iload_n 2, 1) := by decide +kernel
theorem dX9_doubted_9 : decode cX9_doubted 9 = .ok (.invokestatic 63, 3) := by decide +kernel
theorem dX9_doubted_12 : decode cX9_doubted 12 = .ok (.ifCond .eq 24, 3) := by decide +kernel
theorem dX9_doubted_15 : decode cX9_doubted 15 = .ok (.iload 4, 2) := by decide +kernel
theorem dX9_doubted_17 : decode cX9_doubted 17 = .ok (.iconst 0, 1) := by decide +kernel
theorem dX9_doubted_18 : decode cX9_doubted 18 = .ok (.bipush 6, 2) := by decide +kernel
theorem dX9_doubted_20 : decode cX9_doubted 20 = .ok (.invokestatic 59, 3) := by decide +kernel
theorem dX9_doubted_23 : decode cX9_doubted 23 = .ok (.ifCond .eq 13, 3) := by decide +kernel
theorem dX9_doubted_26 : decode cX9_doubted 26 = .ok (.iload 5, 2) := by decide +kernel
theorem dX9_doubted_28 : decode cX9_doubted 28 = .ok (.iconst 0, 1) := by decide +kernel
theorem dX9_doubted_29 : decode cX9_doubted 29 = .ok (.iconst 1, 1) := by decide +kernel
theorem dX9_doubted_30 : decode cX9_doubted 30 = .ok (.invokestatic 59, 3) := by decide +kernel
theorem dX9_doubted_33 : decode cX9_doubted 33 = .ok (.ifCond .ne 6, 3) := by decide +kernel
theorem dX9_doubted_36 : decode cX9_doubted 36 = .ok (.ldc 67, 2) := by decide +kernel
theorem dX9_doubted_38 : decode cX9_doubted 38 = .ok (.ireturn, 1) := by decide +kernel
theorem dX9_doubted_39 : decode cX9_doubted 39 = .ok (.aload_n 0, 1) := by decide +kernel
theorem dX9_doubted_40 : decode cX9_doubted 40 = .ok (.iload_n 2, 1) := by decide +kernel
theorem dX9_doubted_41 : decode cX9_doubted 41 = .ok (.iload_n 3, 1) := by decide +kernel
theorem dX9_doubted_42 : decode cX9_doubted 42 = .ok (.iload 4, 2) := by decide +kernel
theorem dX9_doubted_44 : decode cX9_doubted 44 = .ok (.invokevirtual 215, 3) := by decide +kernel
theorem dX9_doubted_47 : decode cX9_doubted 47 = .ok (.istore 6, 2) := by decide +kernel
theorem dX9_doubted_49 : decode cX9_doubted 49 = .ok (.iload 6, 2) := by decide +kernel
theorem dX9_doubted_51 : decode cX9_doubted 51 = .ok (.ifCond .eq 20, 3) := by decide +kernel
theorem dX9_doubted_54 : decode cX9_doubted 54 = .ok (.iload 6, 2) := by decide +kernel
theorem dX9_doubted_56 : decode cX9_doubted 56 = .ok (.ifCond .ge 8, 3) := by decide +kernel
theorem dX9_doubted_59 : decode cX9_doubted 59 = .ok (.ldc 67, 2) := by decide +kernel
theorem dX9_doubted_61 : decode cX9_doubted 61 = .ok (.goto 9, 3) := by decide +kernel
theorem dX9_doubted_64 : decode cX9_doubted 64 = .ok (.aload_n 0, 1) := by decide +kernel
theorem dX9_doubted_65 : decode cX9_doubted 65 = .ok (.iload 6, 2) := by decide +kernel
theorem dX9_doubted_67 : decode cX9_doubted 67 = .ok (.invokevirtual 68, 3) := by decide +kernel
theorem dX9_doubted_70 : decode cX9_doubted 70 = .ok (.ireturn, 1) := by decide +kernel
theorem dX9_doubted_71 : decode cX9_doubted 71 = .ok (.iconst 0, 1) := by decide +kernel
theorem dX9_doubted_72 : decode cX9_doubted 72 = .ok (.istore 7, 2) := by decide +kernel
theorem dX9_doubted_74 : decode cX9_doubted 74 = .ok (.ldc 53, 2) := by decide +kernel
theorem dX9_doubted_76 : decode cX9_doubted 76 = .ok (.istore 8, 2) := by decide +kernel
theorem dX9_doubted_78 : decode cX9_doubted 78 = .ok (.iconst 0, 1) := by decide +kernel
theorem dX9_doubted_79 : decode cX9_doubted 79 = .ok (.istore 9, 2) := by decide +kernel
theorem dX9_doubted_81 : decode cX9_doubted 81 = .ok (.iload 9, 2) := by decide +kernel
theorem dX9_doubted_83 : decode cX9_doubted 83 = .ok (.bipush 16, 2) := by decide +kernel
theorem dX9_doubted_85 : decode cX9_doubted 85 = .ok (.if_icmp .ge 68, 3) := by decide +kernel
theorem dX9_doubted_88 : decode cX9_doubted 88 = .ok (.aload_n 0, 1) := by decide +kernel
theorem dX9_doubted_89 : decode cX9_doubted 89 = .ok (.iload_n 1, 1) := by decide +kernel
theorem dX9_doubted_90 : decode cX9_doubted 90 = .ok (.invokevirtual 176, 3) := by decide +kernel
theorem dX9_doubted_93 : decode cX9_doubted 93 = .ok (.aload_n 0, 1) := by decide +kernel
theorem dX9_doubted_94 : decode cX9_doubted 94 = .ok (.iload 9, 2) := by decide +kernel
theorem dX9_doubted_96 : decode cX9_doubted 96 = .ok (.putfield 147, 3) := by decide +kernel
theorem dX9_doubted_99 : decode cX9_doubted 99 = .ok (.aload_n 0, 1) := by decide +kernel
theorem dX9_doubted_100 : decode cX9_doubted 100 = .ok (.bipush 40, 2) := by decide +kernel
theorem dX9_doubted_102 : decode cX9_doubted 102 = .ok (.iload_n 2, 1) := by decide +kernel
theorem dX9_doubted_103 : decode cX9_doubted 103 = .ok (.imul, 1) := by decide +kernel
theorem dX9_doubted_104 : decode cX9_doubted 104 = .ok (.iload_n 3, 1) := by decide +kernel
theorem dX9_doubted_105 : decode cX9_doubted 105 = .ok (.iadd, 1) := by decide +kernel
theorem dX9_doubted_106 : decode cX9_doubted 106 = .ok (.iload 4, 2) := by decide +kernel
theorem dX9_doubted_108 : decode cX9_doubted 108 = .ok (.invokevirtual 219, 3) := by decide +kernel
theorem dX9_doubted_111 : decode cX9_doubted 111 = .ok (.istore 10, 2) := by decide +kernel
theorem dX9_doubted_113 : decode cX9_doubted 113 = .ok (.iload 10, 2) := by decide +kernel
theorem dX9_doubted_115 : decode cX9_doubted 115 = .ok (.ifCond .eq 13, 3) := by decide +kernel
theorem dX9_doubted_118 : decode cX9_doubted 118 = .ok (.iload 7, 2) := by decide +kernel
theorem dX9_doubted_120 : decode cX9_doubted 120 = .ok (.ifCond .ne 8, 3) := by decide +kernel
theorem dX9_doubted_123 : decode cX9_doubted 123 = .ok (.iload 9, 2) := by decide +kernel
theorem dX9_doubted_125 : decode cX9_doubted 125 = .ok (.goto 5, 3) := by decide +kernel
theorem dX9_doubted_128 : decode cX9_doubted 128 = .ok (.iload 8, 2) := by decide +kernel
theorem dX9_doubted_130 : decode cX9_doubted 130 = .ok (.istore 8, 2) := by decide +kernel
theorem dX9_doubted_132 : decode cX9_doubted 132 = .ok (.iload 7, 2) := by decide +kernel
theorem dX9_doubted_134 : decode cX9_doubted 134 = .ok (.iload 10, 2) := by decide +kernel
theorem dX9_doubted_136 : decode cX9_doubted 136 = .ok (.ifCond .eq 7, 3) := by decide +kernel
theorem dX9_doubted_139 : decode cX9_doubted 139 = .ok (.iconst 1, 1) := by decide +kernel
theorem dX9_doubted_140 : decode cX9_doubted 140 = .ok (.goto 4, 3) := by decide +kernel
theorem dX9_doubted_143 : decode cX9_doubted 143 = .ok (.iconst 0, 1) := by decide +kernel
theorem dX9_doubted_144 : decode cX9_doubted 144 = .ok (.iadd, 1) := by decide +kernel
theorem dX9_doubted_145 : decode cX9_doubted 145 = .ok (.istore 7, 2) := by decide +kernel
theorem dX9_doubted_147 : decode cX9_doubted 147 = .ok (.iinc 9 1, 3) := by decide +kernel
theorem dX9_doubted_150 : decode cX9_doubted 150 = .ok (.goto (-69), 3) := by decide +kernel
theorem dX9_doubted_153 : decode cX9_doubted 153 = .ok (.aload_n 0, 1) := by decide +kernel
theorem dX9_doubted_154 : decode cX9_doubted 154 = .ok (.iload 5, 2) := by decide +kernel
theorem dX9_doubted_156 : decode cX9_doubted 156 = .ok (.ifCond .ne 8, 3) := by decide +kernel
theorem dX9_doubted_159 : decode cX9_doubted 159 = .ok (.iload 7, 2) := by decide +kernel
theorem dX9_doubted_161 : decode cX9_doubted 161 = .ok (.goto 5, 3) := by decide +kernel
theorem dX9_doubted_164 : decode cX9_doubted 164 = .ok (.iload 8, 2) := by decide +kernel
theorem dX9_doubted_166 : decode cX9_doubted 166 = .ok (.invokevirtual 72, 3) := by decide +kernel
theorem dX9_doubted_169 : decode cX9_doubted 169 = .ok (.ireturn, 1) := by decide +kernel
theorem dX9_trusted_0 : decode cX9_trusted 0 = .ok (.aload_n 0, 1) := by decide +kernel
theorem dX9_trusted_1 : decode cX9_trusted 1 = .ok (.iload_n 1, 1) := by decide +kernel
theorem dX9_trusted_2 : decode cX9_trusted 2 = .ok (.invokevirtual 163, 3) := by decide +kernel
theorem dX9_trusted_5 : decode cX9_trusted 5 = .ok (.ifCond .eq 21, 3) := by decide +kernel
theorem dX9_trusted_8 : decode cX9_trusted 8 = .ok (.iload_n 2, 1) := by decide +kernel
theorem dX9_trusted_9 : decode cX9_trusted 9 = .ok (.invokestatic 63, 3) := by decide +kernel
theorem dX9_trusted_12 : decode cX9_trusted 12 = .ok (.ifCond .eq 14, 3) := by decide +kernel
theorem dX9_trusted_15 : decode cX9_trusted 15 = .ok (.iload 4, 2) := by decide +kernel
theorem dX9_trusted_17 : decode cX9_trusted 17 = .ok (.iconst 0, 1) := by decide +kernel
theorem dX9_trusted_18 : decode cX9_trusted 18 = .ok (.bipush 6, 2) := by decide +kernel
theorem dX9_trusted_20 : decode cX9_trusted 20 = .ok (.invokestatic 59, 3) := by decide +kernel
theorem dX9_trusted_23 : decode cX9_trusted 23 = .ok (.ifCond .ne 6, 3) := by decide +kernel
theorem dX9_trusted_26 : decode cX9_trusted 26 = .ok (.ldc 67, 2) := by decide +kernel
theorem dX9_trusted_28 : decode cX9_trusted 28 = .ok (.ireturn, 1) := by decide +kernel
theorem dX9_trusted_29 : decode cX9_trusted 29 = .ok (.aload_n 0, 1) := by decide +kernel
theorem dX9_trusted_30 : decode cX9_trusted 30 = .ok (.iload_n 2, 1) := by decide +kernel
theorem dX9_trusted_31 : decode cX9_trusted 31 = .ok (.iload_n 3, 1) := by decide +kernel
theorem dX9_trusted_32 : decode cX9_trusted 32 = .ok (.iload 4, 2) := by decide +kernel
theorem dX9_trusted_34 : decode cX9_trusted 34 = .ok (.invokevirtual 215, 3) := by decide +kernel
theorem dX9_trusted_37 : decode cX9_trusted 37 = .ok (.istore 5, 2) := by decide +kernel
theorem dX9_trusted_39 : decode cX9_trusted 39 = .ok (.iload 5, 2) := by decide +kernel
theorem dX9_trusted_41 : decode cX9_trusted 41 = .ok (.ifCond .eq 20, 3) := by decide +kernel
theorem dX9_trusted_44 : decode cX9_trusted 44 = .ok (.iload 5, 2) := by decide +kernel
theorem dX9_trusted_46 : decode cX9_trusted 46 = .ok (.ifCond .ge 8, 3) := by decide +kernel
theorem dX9_trusted_49 : decode cX9_trusted 49 = .ok (.ldc 67, 2) := by decide +kernel
theorem dX9_trusted_51 : decode cX9_trusted 51 = .ok (.goto 9, 3) := by decide +kernel
theorem dX9_trusted_54 : decode cX9_trusted 54 = .ok (.aload_n 0, 1) := by decide +kernel
theorem dX9_trusted_55 : decode cX9_trusted 55 = .ok (.iload 5, 2) := by decide +kernel
theorem dX9_trusted_57 : decode cX9_trusted 57 = .ok (.invokevirtual 68, 3) := by decide +kernel
theorem dX9_trusted_60 : decode cX9_trusted 60 = .ok (.ireturn, 1) := by decide +kernel
theorem dX9_trusted_61 : decode cX9_trusted 61 = .ok (.iconst 0, 1) := by decide +kernel
theorem dX9_trusted_62 : decode cX9_trusted 62 = .ok (.istore 6, 2) := by decide +kernel
theorem dX9_trusted_64 : decode cX9_trusted 64 = .ok (.iconst 0, 1) := by decide +kernel
theorem dX9_trusted_65 : decode cX9_trusted 65 = .ok (.istore 7, 2) := by decide +kernel
theorem dX9_trusted_67 : decode cX9_trusted 67 = .ok (.iload 7, 2) := by decide +kernel
theorem dX9_trusted_69 : decode cX9_trusted 69 = .ok (.bipush 21, 2) := by decide +kernel
theorem dX9_trusted_71 : decode cX9_trusted 71 = .ok (.if_icmp .ge 48, 3) := by decide +kernel
theorem dX9_trusted_74 : decode cX9_trusted 74 = .ok (.aload_n 0, 1) := by decide +kernel
theorem dX9_trusted_75 : decode cX9_trusted 75 = .ok (.iload_n 1, 1) := by decide +kernel
theorem dX9_trusted_76 : decode cX9_trusted 76 = .ok (.invokevirtual 176, 3) := by decide +kernel
theorem dX9_trusted_79 : decode cX9_trusted 79 = .ok (.aload_n 0, 1) := by decide +kernel
theorem dX9_trusted_80 : decode cX9_trusted 80 = .ok (.iload 7, 2) := by decide +kernel
theorem dX9_trusted_82 : decode cX9_trusted 82 = .ok (.putfield 144, 3) := by decide +kernel
theorem dX9_trusted_85 : decode cX9_trusted 85 = .ok (.iload 6, 2) := by decide +kernel
theorem dX9_trusted_87 : decode cX9_trusted 87 = .ok (.aload_n 0, 1) := by decide +kernel
theorem dX9_trusted_88 : decode cX9_trusted 88 = .ok (.bipush 40, 2) := by decide +kernel
theorem dX9_trusted_90 : decode cX9_trusted 90 = .ok (.iload_n 2, 1) := by decide +kernel
theorem dX9_trusted_91 : decode cX9_trusted 91 = .ok (.imul, 1) := by decide +kernel
theorem dX9_trusted_92 : decode cX9_trusted 92 = .ok (.iload_n 3, 1) := by decide +kernel
theorem dX9_trusted_93 : decode cX9_trusted 93 = .ok (.iadd, 1) := by decide +kernel
theorem dX9_trusted_94 : decode cX9_trusted 94 = .ok (.iload 4, 2) := by decide +kernel
theorem dX9_trusted_96 : decode cX9_trusted 96 = .ok (.invokevirtual 219, 3) := by decide +kernel
theorem dX9_trusted_99 : decode cX9_trusted 99 = .ok (.ifCond .eq 10, 3) := by decide +kernel
theorem dX9_trusted_102 : decode cX9_trusted 102 = .ok (.iconst 1, 1) := by decide +kernel
theorem dX9_trusted_103 : decode cX9_trusted 103 = .ok (.iload 7, 2) := by decide +kernel
theorem dX9_trusted_105 : decode cX9_trusted 105 = .ok (.ishl, 1) := by decide +kernel
theorem dX9_trusted_106 : decode cX9_trusted 106 = .ok (.goto 4, 3) := by decide +kernel
theorem dX9_trusted_109 : decode cX9_trusted 109 = .ok (.iconst 0, 1) := by decide +kernel
theorem dX9_trusted_110 : decode cX9_trusted 110 = .ok (.ior, 1) := by decide +kernel
theorem dX9_trusted_111 : decode cX9_trusted 111 = .ok (.istore 6, 2) := by decide +kernel
theorem dX9_trusted_113 : decode cX9_trusted 113 = .ok (.iinc 7 1, 3) := by decide +kernel
theorem dX9_trusted_116 : decode cX9_trusted 116 = .ok (.goto (-49), 3) := by decide +kernel
theorem dX9_trusted_119 : decode cX9_trusted 119 = .ok (.aload_n 0, 1) := by decide +kernel
theorem dX9_trusted_120 : decode cX9_trusted 120 = .ok (.iload 6, 2) := by decide +kernel
theorem dX9_trusted_122 : decode cX9_trusted 122 = .ok (.invokevirtual 72, 3) := by decide +kernel
theorem dX9_trusted_125 : decode cX9_trusted 125 = .ok (.ireturn, 1) := by decide +kernel
theorem dX9_who_0 : decode cX9_who 0 = .ok (.aload_n 0, 1) := by decide +kernel
theorem dX9_who_1 : decode cX9_who 1 = .ok (.invokevirtual 222, 3) := by decide +kernel
theorem dX9_who_4 : decode cX9_who 4 = .ok (.ifCond .ne 6, 3) := by decide +kernel
theorem dX9_who_7 : decode cX9_who 7 = .ok (.ldc 172, 2) := by decide +kernel
theorem dX9_who_9 : decode cX9_who 9 = .ok (.ireturn, 1) := by decide +kernel
theorem dX9_who_10 : decode cX9_who 10 = .ok (.iload_n 1, 1) := by decide +kernel
theorem dX9_who_11 : decode cX9_who 11 = .ok (.invokestatic 63, 3) := by decide +kernel
theorem dX9_who_14 : decode cX9_who 14 = .ok (.ifCond .eq 13, 3) := by decide +kernel
theorem dX9_who_17 : decode cX9_who 17 = .ok (.iload_n 3, 1) := by decide +kernel
theorem dX9_who_18 : decode cX9_who 18 = .ok (.iconst 0, 1) := by decide +kernel
theorem dX9_who_19 : decode cX9_who 19 = .ok (.bipush 6, 2) := by decide +kernel
theorem dX9_who_21 : decode cX9_who 21 = .ok (.invokestatic 59, 3) := by decide +kernel
theorem dX9_who_24 : decode cX9_who 24 = .ok (.ifCond .ne 6, 3) := by decide +kernel
theorem dX9_who_27 : decode cX9_who 27 = .ok (.ldc 67, 2) := by decide +kernel
theorem dX9_who_29 : decode cX9_who 29 = .ok (.ireturn, 1) := by decide +kernel
theorem dX9_who_30 : decode cX9_who 30 = .ok (.aload_n 0, 1) := by decide +kernel
theorem dX9_who_31 : decode cX9_who 31 = .ok (.iload_n 1, 1) := by decide +kernel
theorem dX9_who_32 : decode cX9_who 32 = .ok (.iload_n 2, 1) := by decide +kernel
theorem dX9_who_33 : decode cX9_who 33 = .ok (.iload_n 3, 1) := by decide +kernel
theorem dX9_who_34 : decode cX9_who 34 = .ok (.invokevirtual 215, 3) := by decide +kernel
theorem dX9_who_37 : decode cX9_who 37 = .ok (.istore 4, 2) := by decide +kernel
theorem dX9_who_39 : decode cX9_who 39 = .ok (.iload 4, 2) := by decide +kernel
theorem dX9_who_41 : decode cX9_who 41 = .ok (.ifCond .eq 20, 3) := by decide +kernel
theorem dX9_who_44 : decode cX9_who 44 = .ok (.iload 4, 2) := by decide +kernel
theorem dX9_who_46 : decode cX9_who 46 = .ok (.ifCond .ge 8, 3) := by decide +kernel
theorem dX9_who_49 : decode cX9_who 49 = .ok (.ldc 67, 2) := by decide +kernel
theorem dX9_who_51 : decode cX9_who 51 = .ok (.goto 9, 3) := by decide +kernel
theorem dX9_who_54 : decode cX9_who 54 = .ok (.aload_n 0, 1) := by decide +kernel
theorem dX9_who_55 : decode cX9_who 55 = .ok (.iload 4, 2) := by decide +kernel
theorem dX9_who_57 : decode cX9_who 57 = .ok (.invokevirtual 68, 3) := by decide +kernel
theorem dX9_who_60 : decode cX9_who 60 = .ok (.ireturn, 1) := by decide +kernel
theorem dX9_who_61 : decode cX9_who 61 = .ok (.iconst 0, 1) := by decide +kernel
theorem dX9_who_62 : decode cX9_who 62 = .ok (.istore 5, 2) := by decide +kernel
theorem dX9_who_64 : decode cX9_who 64 = .ok (.iconst 0, 1) := by decide +kernel
theorem dX9_who_65 : decode cX9_who 65 = .ok (.istore 6, 2) := by decide +kernel
theorem dX9_who_67 : decode cX9_who 67 = .ok (.iload 6, 2) := by decide +kernel
theorem dX9_who_69 : decode cX9_who 69 = .ok (.aload_n 0, 1) := by decide +kernel
theorem dX9_who_70 : decode cX9_who 70 = .ok (.getfield 25, 3) := by decide +kernel
theorem dX9_who_73 : decode cX9_who 73 = .ok (.iconst 3, 1) := by decide +kernel
theorem dX9_who_74 : decode cX9_who 74 = .ok (.iaload, 1) := by decide +kernel
theorem dX9_who_75 : decode cX9_who 75 = .ok (.if_icmp .ge 42, 3) := by decide +kernel
theorem dX9_who_78 : decode cX9_who 78 = .ok (.aload_n 0, 1) := by decide +kernel
theorem dX9_who_79 : decode cX9_who 79 = .ok (.iload 6, 2) := by decide +kernel
theorem dX9_who_81 : decode cX9_who 81 = .ok (.invokevirtual 176, 3) := by decide +kernel
theorem dX9_who_84 : decode cX9_who 84 = .ok (.iload 5, 2) := by decide +kernel
theorem dX9_who_86 : decode cX9_who 86 = .ok (.aload_n 0, 1) := by decide +kernel
theorem dX9_who_87 : decode cX9_who 87 = .ok (.bipush 40, 2) := by decide +kernel
theorem dX9_who_89 : decode cX9_who 89 = .ok (.iload_n 1, 1) := by decide +kernel
theorem dX9_who_90 : decode cX9_who 90 = .ok (.imul, 1) := by decide +kernel
theorem dX9_who_91 : decode cX9_who 91 = .ok (.iload_n 2, 1) := by decide +kernel
theorem dX9_who_92 : decode cX9_who 92 = .ok (.iadd, 1) := by decide +kernel
theorem dX9_who_93 : decode cX9_who 93 = .ok (.iload_n 3, 1) := by decide +kernel
theorem dX9_who_94 : decode cX9_who 94 = .ok (.invokevirtual 219, 3) := by decide +kernel
theorem dX9_who_97 : decode cX9_who 97 = .ok (.ifCond .eq 10, 3) := by decide +kernel
theorem dX9_who_100 : decode cX9_who 100 = .ok (.iconst 1, 1) := by decide +kernel
theorem dX9_who_101 : decode cX9_who 101 = .ok (.iload 6, 2) := by decide +kernel
theorem dX9_who_103 : decode cX9_who 103 = .ok (.ishl, 1) := by decide +kernel
theorem dX9_who_104 : decode cX9_who 104 = .ok (.goto 4, 3) := by decide +kernel
theorem dX9_who_107 : decode cX9_who 107 = .ok (.iconst 0, 1) := by decide +kernel
theorem dX9_who_108 : decode cX9_who 108 = .ok (.ior, 1) := by decide +kernel
theorem dX9_who_109 : decode cX9_who 109 = .ok (.istore 5, 2) := by decide +kernel
theorem dX9_who_111 : decode cX9_who 111 = .ok (.iinc 6 1, 3) := by decide +kernel
theorem dX9_who_114 : decode cX9_who 114 = .ok (.goto (-47), 3) := by decide +kernel
theorem dX9_who_117 : decode cX9_who 117 = .ok (.aload_n 0, 1) := by decide +kernel
theorem dX9_who_118 : decode cX9_who 118 = .ok (.iload 5, 2) := by decide +kernel
theorem dX9_who_120 : decode cX9_who 120 = .ok (.invokevirtual 72, 3) := by decide +kernel
theorem dX9_who_123 : decode cX9_who 123 = .ok (.ireturn, 1) := by decide +kernel
theorem dX9_goesBy_0 : decode cX9_goesBy 0 = .ok (.aload_n 0, 1) := by decide +kernel
theorem dX9_goesBy_1 : decode cX9_goesBy 1 = .ok (.iload_n 1, 1) := by decide +kernel
theorem dX9_goesBy_2 : decode cX9_goesBy 2 = .ok (.invokevirtual 176, 3) := by decide +kernel
theorem dX9_goesBy_5 : decode cX9_goesBy 5 = .ok (.lconst 1, 1) := by decide +kernel
theorem dX9_goesBy_6 : decode cX9_goesBy 6 = .ok (.lstore 6, 2) := by decide +kernel
theorem dX9_goesBy_8 : decode cX9_goesBy 8 = .ok (.aload_n 0, 1) := by decide +kernel
theorem dX9_goesBy_9 : decode cX9_goesBy 9 = .ok (.iconst 0, 1) := by decide +kernel
theorem dX9_goesBy_10 : decode cX9_goesBy 10 = .ok (.putfield 200, 3) := by decide +kernel
theorem dX9_goesBy_13 : decode cX9_goesBy 13 = .ok (.iconst 0, 1) := by decide +kernel
theorem dX9_goesBy_14 : decode cX9_goesBy 14 = .ok (.istore 8, 2) := by decide +kernel
theorem dX9_goesBy_16 : decode cX9_goesBy 16 = .ok (.iload 8, 2) := by decide +kernel
theorem dX9_goesBy_18 : decode cX9_goesBy 18 = .ok (.iload_n 3, 1) := by decide +kernel
theorem dX9_goesBy_19 : decode cX9_goesBy 19 = .ok (.if_icmp .ge 126, 3) := by decide +kernel
theorem dX9_goesBy_22 : decode cX9_goesBy 22 = .ok (.aload_n 0, 1) := by decide +kernel
theorem dX9_goesBy_23 : decode cX9_goesBy 23 = .ok (.getfield 16, 3) := by decide +kernel
theorem dX9_goesBy_26 : decode cX9_goesBy 26 = .ok (.iload_n 2, 1) := by decide +kernel
theorem dX9_goesBy_27 : decode cX9_goesBy 27 = .ok (.iconst 2, 1) := by decide +kernel
theorem dX9_goesBy_28 : decode cX9_goesBy 28 = .ok (.iload 8, 2) := by decide +kernel
theorem dX9_goesBy_30 : decode cX9_goesBy 30 = .ok (.imul, 1) := by decide +kernel
theorem dX9_goesBy_31 : decode cX9_goesBy 31 = .ok (.iadd, 1) := by decide +kernel
theorem dX9_goesBy_32 : decode cX9_goesBy 32 = .ok (.iaload, 1) := by decide +kernel
theorem dX9_goesBy_33 : decode cX9_goesBy 33 = .ok (.istore 9, 2) := by decide +kernel
theorem dX9_goesBy_35 : decode cX9_goesBy 35 = .ok (.aload_n 0, 1) := by decide +kernel
theorem dX9_goesBy_36 : decode cX9_goesBy 36 = .ok (.iload 9, 2) := by decide +kernel
theorem dX9_goesBy_38 : decode cX9_goesBy 38 = .ok (.invokevirtual 180, 3) := by decide +kernel
theorem dX9_goesBy_41 : decode cX9_goesBy 41 = .ok (.istore 10, 2) := by decide +kernel
theorem dX9_goesBy_43 : decode cX9_goesBy 43 = .ok (.iload 4, 2) := by decide +kernel
theorem dX9_goesBy_45 : decode cX9_goesBy 45 = .ok (.iload 8, 2) := by decide +kernel
theorem dX9_goesBy_47 : decode cX9_goesBy 47 = .ok (.invokestatic 156, 3) := by decide +kernel
theorem dX9_goesBy_50 : decode cX9_goesBy 50 = .ok (.istore 11, 2) := by decide +kernel
theorem dX9_goesBy_52 : decode cX9_goesBy 52 = .ok (.lload 6, 2) := by decide +kernel
theorem dX9_goesBy_54 : decode cX9_goesBy 54 = .ok (.iload 10, 2) := by decide +kernel
theorem dX9_goesBy_56 : decode cX9_goesBy 56 = .ok (.ifCond .eq 23, 3) := by decide +kernel
theorem dX9_goesBy_59 : decode cX9_goesBy 59 = .ok (.iload 11, 2) := by decide +kernel
theorem dX9_goesBy_61 : decode cX9_goesBy 61 = .ok (.ifCond .eq 9, 3) := by decide +kernel
theorem dX9_goesBy_64 : decode cX9_goesBy 64 = .ok (.iload 5, 2) := by decide +kernel
theorem dX9_goesBy_66 : decode cX9_goesBy 66 = .ok (.i2l, 1) := by decide +kernel
theorem dX9_goesBy_67 : decode cX9_goesBy 67 = .ok (.goto 24, 3) := by decide +kernel
theorem dX9_goesBy_70 : decode cX9_goesBy 70 = .ok (.bipush 10, 2) := by decide +kernel
theorem dX9_goesBy_72 : decode cX9_goesBy 72 = .ok (.iload 5, 2) := by decide +kernel
theorem dX9_goesBy_74 : decode cX9_goesBy 74 = .ok (.isub, 1) := by decide +kernel
theorem dX9_goesBy_75 : decode cX9_goesBy 75 = .ok (.i2l, 1) := by decide +kernel
theorem dX9_goesBy_76 : decode cX9_goesBy 76 = .ok (.goto 15, 3) := by decide +kernel
theorem dX9_goesBy_79 : decode cX9_goesBy 79 = .ok (.iload 11, 2) := by decide +kernel
theorem dX9_goesBy_81 : decode cX9_goesBy 81 = .ok (.ifCond .eq 7, 3) := by decide +kernel
theorem dX9_goesBy_84 : decode cX9_goesBy 84 = .ok (.lconst 0, 1) := by decide +kernel
theorem dX9_goesBy_85 : decode cX9_goesBy 85 = .ok (.goto 6, 3) := by decide +kernel
theorem dX9_goesBy_88 : decode cX9_goesBy 88 = .ok (.ldc2_w 225, 3) := by decide +kernel
theorem dX9_goesBy_91 : decode cX9_goesBy 91 = .ok (.lmul, 1) := by decide +kernel
theorem dX9_goesBy_92 : decode cX9_goesBy 92 = .ok (.lstore 6, 2) := by decide +kernel
theorem dX9_goesBy_94 : decode cX9_goesBy 94 = .ok (.aload_n 0, 1) := by decide +kernel
theorem dX9_goesBy_95 : decode cX9_goesBy 95 = .ok (.iload 9, 2) := by decide +kernel
theorem dX9_goesBy_97 : decode cX9_goesBy 97 = .ok (.iload 10, 2) := by decide +kernel
theorem dX9_goesBy_99 : decode cX9_goesBy 99 = .ok (.ifCond .eq 12, 3) := by decide +kernel
theorem dX9_goesBy_102 : decode cX9_goesBy 102 = .ok (.iload 11, 2) := by decide +kernel
theorem dX9_goesBy_104 : decode cX9_goesBy 104 = .ok (.ifCond .ne 7, 3) := by decide +kernel
theorem dX9_goesBy_107 : decode cX9_goesBy 107 = .ok (.iconst 1, 1) := by decide +kernel
theorem dX9_goesBy_108 : decode cX9_goesBy 108 = .ok (.goto 4, 3) := by decide +kernel
theorem dX9_goesBy_111 : decode cX9_goesBy 111 = .ok (.iconst 0, 1) := by decide +kernel
theorem dX9_goesBy_112 : decode cX9_goesBy 112 = .ok (.invokevirtual 183, 3) := by decide +kernel
theorem dX9_goesBy_115 : decode cX9_goesBy 115 = .ok (.aload_n 0, 1) := by decide +kernel
theorem dX9_goesBy_116 : decode cX9_goesBy 116 = .ok (.dup, 1) := by decide +kernel
theorem dX9_goesBy_117 : decode cX9_goesBy 117 = .ok (.getfield 200, 3) := by decide +kernel
theorem dX9_goesBy_120 : decode cX9_goesBy 120 = .ok (.iload 10, 2) := by decide +kernel
theorem dX9_goesBy_122 : decode cX9_goesBy 122 = .ok (.ifCond .eq 12, 3) := by decide +kernel
theorem dX9_goesBy_125 : decode cX9_goesBy 125 = .ok (.iload 11, 2) := by decide +kernel
theorem dX9_goesBy_127 : decode cX9_goesBy 127 = .ok (.ifCond .ne 7, 3) := by decide +kernel
theorem dX9_goesBy_130 : decode cX9_goesBy 130 = .ok (.iconst 1, 1) := by decide +kernel
theorem dX9_goesBy_131 : decode cX9_goesBy 131 = .ok (.goto 4, 3) := by decide +kernel
theorem dX9_goesBy_134 : decode cX9_goesBy 134 = .ok (.iconst 0, 1) := by decide +kernel
theorem dX9_goesBy_135 : decode cX9_goesBy 135 = .ok (.iadd, 1) := by decide +kernel
theorem dX9_goesBy_136 : decode cX9_goesBy 136 = .ok (.putfield 200, 3) := by decide +kernel
theorem dX9_goesBy_139 : decode cX9_goesBy 139 = .ok (.iinc 8 1, 3) := by decide +kernel
theorem dX9_goesBy_142 : decode cX9_goesBy 142 = .ok (.goto (-126), 3) := by decide +kernel
theorem dX9_goesBy_145 : decode cX9_goesBy 145 = .ok (.lload 6, 2) := by decide +kernel
theorem dX9_goesBy_147 : decode cX9_goesBy 147 = .ok (.lreturn, 1) := by decide +kernel
theorem dX9_odds_0 : decode cX9_odds 0 = .ok (.aload_n 0, 1) := by decide +kernel
theorem dX9_odds_1 : decode cX9_odds 1 = .ok (.iload_n 1, 1) := by decide +kernel
theorem dX9_odds_2 : decode cX9_odds 2 = .ok (.invokevirtual 163, 3) := by decide +kernel
theorem dX9_odds_5 : decode cX9_odds 5 = .ok (.ifCond .eq 53, 3) := by decide +kernel
theorem dX9_odds_8 : decode cX9_odds 8 = .ok (.iload_n 2, 1) := by decide +kernel
theorem dX9_odds_9 : decode cX9_odds 9 = .ok (.invokestatic 63, 3) := by decide +kernel
theorem dX9_odds_12 : decode cX9_odds 12 = .ok (.ifCond .eq 46, 3) := by decide +kernel
theorem dX9_odds_15 : decode cX9_odds 15 = .ok (.iload 4, 2) := by decide +kernel
theorem dX9_odds_17 : decode cX9_odds 17 = .ok (.iconst 0, 1) := by decide +kernel
theorem dX9_odds_18 : decode cX9_odds 18 = .ok (.bipush 6, 2) := by decide +kernel
theorem dX9_odds_20 : decode cX9_odds 20 = .ok (.invokestatic 59, 3) := by decide +kernel
theorem dX9_odds_23 : decode cX9_odds 23 = .ok (.ifCond .eq 35, 3) := by decide +kernel
theorem dX9_odds_26 : decode cX9_odds 26 = .ok (.iload 5, 2) := by decide +kernel
theorem dX9_odds_28 : decode cX9_odds 28 = .ok (.iconst 0, 1) := by decide +kernel
theorem dX9_odds_29 : decode cX9_odds 29 = .ok (.bipush 6, 2) := by decide +kernel
theorem dX9_odds_31 : decode cX9_odds 31 = .ok (.invokestatic 59, 3) := by decide +kernel
theorem dX9_odds_34 : decode cX9_odds 34 = .ok (.ifCond .eq 24, 3) := by decide +kernel
theorem dX9_odds_37 : decode cX9_odds 37 = .ok (.iload 6, 2) := by decide +kernel
theorem dX9_odds_39 : decode cX9_odds 39 = .ok (.iconst 0, 1) := by decide +kernel
theorem dX9_odds_40 : decode cX9_odds 40 = .ok (.bipush 10, 2) := by decide +kernel
theorem dX9_odds_42 : decode cX9_odds 42 = .ok (.invokestatic 59, 3) := by decide +kernel
theorem dX9_odds_45 : decode cX9_odds 45 = .ok (.ifCond .eq 13, 3) := by decide +kernel
theorem dX9_odds_48 : decode cX9_odds 48 = .ok (.iload 7, 2) := by decide +kernel
theorem dX9_odds_50 : decode cX9_odds 50 = .ok (.iconst 0, 1) := by decide +kernel
theorem dX9_odds_51 : decode cX9_odds 51 = .ok (.iconst 1, 1) := by decide +kernel
theorem dX9_odds_52 : decode cX9_odds 52 = .ok (.invokestatic 59, 3) := by decide +kernel
theorem dX9_odds_55 : decode cX9_odds 55 = .ok (.ifCond .ne 6, 3) := by decide +kernel
theorem dX9_odds_58 : decode cX9_odds 58 = .ok (.ldc 67, 2) := by decide +kernel
theorem dX9_odds_60 : decode cX9_odds 60 = .ok (.ireturn, 1) := by decide +kernel
theorem dX9_odds_61 : decode cX9_odds 61 = .ok (.aload_n 0, 1) := by decide +kernel
theorem dX9_odds_62 : decode cX9_odds 62 = .ok (.iload_n 2, 1) := by decide +kernel
theorem dX9_odds_63 : decode cX9_odds 63 = .ok (.iload_n 3, 1) := by decide +kernel
theorem dX9_odds_64 : decode cX9_odds 64 = .ok (.iload 4, 2) := by decide +kernel
theorem dX9_odds_66 : decode cX9_odds 66 = .ok (.invokevirtual 215, 3) := by decide +kernel
theorem dX9_odds_69 : decode cX9_odds 69 = .ok (.istore 8, 2) := by decide +kernel
theorem dX9_odds_71 : decode cX9_odds 71 = .ok (.iload 8, 2) := by decide +kernel
theorem dX9_odds_73 : decode cX9_odds 73 = .ok (.ifCond .eq 20, 3) := by decide +kernel
theorem dX9_odds_76 : decode cX9_odds 76 = .ok (.iload 8, 2) := by decide +kernel
theorem dX9_odds_78 : decode cX9_odds 78 = .ok (.ifCond .ge 8, 3) := by decide +kernel
theorem dX9_odds_81 : decode cX9_odds 81 = .ok (.ldc 67, 2) := by decide +kernel
theorem dX9_odds_83 : decode cX9_odds 83 = .ok (.goto 9, 3) := by decide +kernel
theorem dX9_odds_86 : decode cX9_odds 86 = .ok (.aload_n 0, 1) := by decide +kernel
theorem dX9_odds_87 : decode cX9_odds 87 = .ok (.iload 8, 2) := by decide +kernel
theorem dX9_odds_89 : decode cX9_odds 89 = .ok (.invokevirtual 68, 3) := by decide +kernel
theorem dX9_odds_92 : decode cX9_odds 92 = .ok (.ireturn, 1) := by decide +kernel
theorem dX9_odds_93 : decode cX9_odds 93 = .ok (.lconst 0, 1) := by decide +kernel
theorem dX9_odds_94 : decode cX9_odds 94 = .ok (.lstore 9, 2) := by decide +kernel
theorem dX9_odds_96 : decode cX9_odds 96 = .ok (.lconst 1, 1) := by decide +kernel
theorem dX9_odds_97 : decode cX9_odds 97 = .ok (.lstore 11, 2) := by decide +kernel
theorem dX9_odds_99 : decode cX9_odds 99 = .ok (.iconst 0, 1) := by decide +kernel
theorem dX9_odds_100 : decode cX9_odds 100 = .ok (.istore 13, 2) := by decide +kernel
theorem dX9_odds_102 : decode cX9_odds 102 = .ok (.iload 13, 2) := by decide +kernel
theorem dX9_odds_104 : decode cX9_odds 104 = .ok (.iload 4, 2) := by decide +kernel
theorem dX9_odds_106 : decode cX9_odds 106 = .ok (.if_icmp .ge 17, 3) := by decide +kernel
theorem dX9_odds_109 : decode cX9_odds 109 = .ok (.lload 11, 2) := by decide +kernel
theorem dX9_odds_111 : decode cX9_odds 111 = .ok (.ldc2_w 225, 3) := by decide +kernel
theorem dX9_odds_114 : decode cX9_odds 114 = .ok (.lmul, 1) := by decide +kernel
theorem dX9_odds_115 : decode cX9_odds 115 = .ok (.lstore 11, 2) := by decide +kernel
theorem dX9_odds_117 : decode cX9_odds 117 = .ok (.iinc 13 1, 3) := by decide +kernel
theorem dX9_odds_120 : decode cX9_odds 120 = .ok (.goto (-18), 3) := by decide +kernel
theorem dX9_odds_123 : decode cX9_odds 123 = .ok (.iconst 0, 1) := by decide +kernel
theorem dX9_odds_124 : decode cX9_odds 124 = .ok (.istore 13, 2) := by decide +kernel
theorem dX9_odds_126 : decode cX9_odds 126 = .ok (.iload 13, 2) := by decide +kernel
theorem dX9_odds_128 : decode cX9_odds 128 = .ok (.iconst 1, 1) := by decide +kernel
theorem dX9_odds_129 : decode cX9_odds 129 = .ok (.iload 4, 2) := by decide +kernel
theorem dX9_odds_131 : decode cX9_odds 131 = .ok (.ishl, 1) := by decide +kernel
theorem dX9_odds_132 : decode cX9_odds 132 = .ok (.if_icmp .ge 48, 3) := by decide +kernel
theorem dX9_odds_135 : decode cX9_odds 135 = .ok (.aload_n 0, 1) := by decide +kernel
theorem dX9_odds_136 : decode cX9_odds 136 = .ok (.iload_n 1, 1) := by decide +kernel
theorem dX9_odds_137 : decode cX9_odds 137 = .ok (.bipush 40, 2) := by decide +kernel
theorem dX9_odds_139 : decode cX9_odds 139 = .ok (.iload_n 2, 1) := by decide +kernel
theorem dX9_odds_140 : decode cX9_odds 140 = .ok (.imul, 1) := by decide +kernel
theorem dX9_odds_141 : decode cX9_odds 141 = .ok (.iload_n 3, 1) := by decide +kernel
theorem dX9_odds_142 : decode cX9_odds 142 = .ok (.iadd, 1) := by decide +kernel
theorem dX9_odds_143 : decode cX9_odds 143 = .ok (.iload 4, 2) := by decide +kernel
theorem dX9_odds_145 : decode cX9_odds 145 = .ok (.iload 13, 2) := by decide +kernel
theorem dX9_odds_147 : decode cX9_odds 147 = .ok (.iload 6, 2) := by decide +kernel
theorem dX9_odds_149 : decode cX9_odds 149 = .ok (.invokevirtual 227, 3) := by decide +kernel
theorem dX9_odds_152 : decode cX9_odds 152 = .ok (.lstore 14, 2) := by decide +kernel
theorem dX9_odds_154 : decode cX9_odds 154 = .ok (.lload 9, 2) := by decide +kernel
theorem dX9_odds_156 : decode cX9_odds 156 = .ok (.aload_n 0, 1) := by decide +kernel
theorem dX9_odds_157 : decode cX9_odds 157 = .ok (.getfield 200, 3) := by decide +kernel
theorem dX9_odds_160 : decode cX9_odds 160 = .ok (.iload 5, 2) := by decide +kernel
theorem dX9_odds_162 : decode cX9_odds 162 = .ok (.if_icmp .lt 8, 3) := by decide +kernel
theorem dX9_odds_165 : decode cX9_odds 165 = .ok (.lload 14, 2) := by decide +kernel
theorem dX9_odds_167 : decode cX9_odds 167 = .ok (.goto 4, 3) := by decide +kernel
theorem dX9_odds_170 : decode cX9_odds 170 = .ok (.lconst 0, 1) := by decide +kernel
theorem dX9_odds_171 : decode cX9_odds 171 = .ok (.ladd, 1) := by decide +kernel
theorem dX9_odds_172 : decode cX9_odds 172 = .ok (.lstore 9, 2) := by decide +kernel
theorem dX9_odds_174 : decode cX9_odds 174 = .ok (.iinc 13 1, 3) := by decide +kernel
theorem dX9_odds_177 : decode cX9_odds 177 = .ok (.goto (-51), 3) := by decide +kernel
theorem dX9_odds_180 : decode cX9_odds 180 = .ok (.lload 9, 2) := by decide +kernel
theorem dX9_odds_182 : decode cX9_odds 182 = .ok (.lstore 13, 2) := by decide +kernel
theorem dX9_odds_184 : decode cX9_odds 184 = .ok (.lload 11, 2) := by decide +kernel
theorem dX9_odds_186 : decode cX9_odds 186 = .ok (.lstore 15, 2) := by decide +kernel
theorem dX9_odds_188 : decode cX9_odds 188 = .ok (.lload 15, 2) := by decide +kernel
theorem dX9_odds_190 : decode cX9_odds 190 = .ok (.lconst 0, 1) := by decide +kernel
theorem dX9_odds_191 : decode cX9_odds 191 = .ok (.lcmp, 1) := by decide +kernel
theorem dX9_odds_192 : decode cX9_odds 192 = .ok (.ifCond .eq 21, 3) := by decide +kernel
theorem dX9_odds_195 : decode cX9_odds 195 = .ok (.lload 13, 2) := by decide +kernel
theorem dX9_odds_197 : decode cX9_odds 197 = .ok (.lload 15, 2) := by decide +kernel
theorem dX9_odds_199 : decode cX9_odds 199 = .ok (.lrem, 1) := by decide +kernel
theorem dX9_odds_200 : decode cX9_odds 200 = .ok (.lstore 17, 2) := by decide +kernel
theorem dX9_odds_202 : decode cX9_odds 202 = .ok (.lload 15, 2) := by decide +kernel
theorem dX9_odds_204 : decode cX9_odds 204 = .ok (.lstore 13, 2) := by decide +kernel
theorem dX9_odds_206 : decode cX9_odds 206 = .ok (.lload 17, 2) := by decide +kernel
theorem dX9_odds_208 : decode cX9_odds 208 = .ok (.lstore 15, 2) := by decide +kernel
theorem dX9_odds_210 : decode cX9_odds 210 = .ok (.goto (-22), 3) := by decide +kernel
theorem dX9_odds_213 : decode cX9_odds 213 = .ok (.aload_n 0, 1) := by decide +kernel
theorem dX9_odds_214 : decode cX9_odds 214 = .ok (.iload 7, 2) := by decide +kernel
theorem dX9_odds_216 : decode cX9_odds 216 = .ok (.ifCond .ne 8, 3) := by decide +kernel
theorem dX9_odds_219 : decode cX9_odds 219 = .ok (.lload 9, 2) := by decide +kernel
theorem dX9_odds_221 : decode cX9_odds 221 = .ok (.goto 5, 3) := by decide +kernel
theorem dX9_odds_224 : decode cX9_odds 224 = .ok (.lload 11, 2) := by decide +kernel
theorem dX9_odds_226 : decode cX9_odds 226 = .ok (.lload 13, 2) := by decide +kernel
theorem dX9_odds_228 : decode cX9_odds 228 = .ok (.ldiv, 1) := by decide +kernel
theorem dX9_odds_229 : decode cX9_odds 229 = .ok (.l2i, 1) := by decide +kernel
theorem dX9_odds_230 : decode cX9_odds 230 = .ok (.invokevirtual 72, 3) := by decide +kernel
theorem dX9_odds_233 : decode cX9_odds 233 = .ok (.ireturn, 1) := by decide +kernel
theorem dX9_image_0 : decode cX9_image 0 = .ok (.iload_n 1, 1) := by decide +kernel
theorem dX9_image_1 : decode cX9_image 1 = .ok (.iconst 0, 1) := by decide +kernel
theorem dX9_image_2 : decode cX9_image 2 = .ok (.iconst 1, 1) := by decide +kernel
theorem dX9_image_3 : decode cX9_image 3 = .ok (.invokestatic 59, 3) := by decide +kernel
theorem dX9_image_6 : decode cX9_image 6 = .ok (.ifCond .ne 6, 3) := by decide +kernel
theorem dX9_image_9 : decode cX9_image 9 = .ok (.ldc 67, 2) := by decide +kernel
theorem dX9_image_11 : decode cX9_image 11 = .ok (.ireturn, 1) := by decide +kernel
theorem dX9_image_12 : decode cX9_image 12 = .ok (.aload_n 0, 1) := by decide +kernel
theorem dX9_image_13 : decode cX9_image 13 = .ok (.invokevirtual 222, 3) := by decide +kernel
theorem dX9_image_16 : decode cX9_image 16 = .ok (.ifCond .ne 6, 3) := by decide +kernel
theorem dX9_image_19 : decode cX9_image 19 = .ok (.ldc 172, 2) := by decide +kernel
theorem dX9_image_21 : decode cX9_image 21 = .ok (.ireturn, 1) := by decide +kernel
theorem dX9_image_22 : decode cX9_image 22 = .ok (.aload_n 0, 1) := by decide +kernel
theorem dX9_image_23 : decode cX9_image 23 = .ok (.getfield 25, 3) := by decide +kernel
theorem dX9_image_26 : decode cX9_image 26 = .ok (.iconst 0, 1) := by decide +kernel
theorem dX9_image_27 : decode cX9_image 27 = .ok (.aload_n 0, 1) := by decide +kernel
theorem dX9_image_28 : decode cX9_image 28 = .ok (.getfield 34, 3) := by decide +kernel
theorem dX9_image_31 : decode cX9_image 31 = .ok (.bipush 38, 2) := by decide +kernel
theorem dX9_image_33 : decode cX9_image 33 = .ok (.iload_n 1, 1) := by decide +kernel
theorem dX9_image_34 : decode cX9_image 34 = .ok (.imul, 1) := by decide +kernel
theorem dX9_image_35 : decode cX9_image 35 = .ok (.invokestatic 137, 3) := by decide +kernel
theorem dX9_image_38 : decode cX9_image 38 = .ok (.aload_n 0, 1) := by decide +kernel
theorem dX9_image_39 : decode cX9_image 39 = .ok (.getfield 37, 3) := by decide +kernel
theorem dX9_image_42 : decode cX9_image 42 = .ok (.iload_n 1, 1) := by decide +kernel
theorem dX9_image_43 : decode cX9_image 43 = .ok (.iconst 1, 1) := by decide +kernel
theorem dX9_image_44 : decode cX9_image 44 = .ok (.bastore, 1) := by decide +kernel
theorem dX9_image_45 : decode cX9_image 45 = .ok (.iconst 1, 1) := by decide +kernel
theorem dX9_image_46 : decode cX9_image 46 = .ok (.ireturn, 1) := by decide +kernel
theorem dX9_restore_0 : decode cX9_restore 0 = .ok (.iload_n 1, 1) := by decide +kernel
theorem dX9_restore_1 : decode cX9_restore 1 = .ok (.iconst 0, 1) := by decide +kernel
theorem dX9_restore_2 : decode cX9_restore 2 = .ok (.iconst 1, 1) := by decide +kernel
theorem dX9_restore_3 : decode cX9_restore 3 = .ok (.invokestatic 59, 3) := by decide +kernel
theorem dX9_restore_6 : decode cX9_restore 6 = .ok (.ifCond .ne 6, 3) := by decide +kernel
theorem dX9_restore_9 : decode cX9_restore 9 = .ok (.ldc 67, 2) := by decide +kernel
theorem dX9_restore_11 : decode cX9_restore 11 = .ok (.ireturn, 1) := by decide +kernel
theorem dX9_restore_12 : decode cX9_restore 12 = .ok (.aload_n 0, 1) := by decide +kernel
theorem dX9_restore_13 : decode cX9_restore 13 = .ok (.getfield 37, 3) := by decide +kernel
theorem dX9_restore_16 : decode cX9_restore 16 = .ok (.iload_n 1, 1) := by decide +kernel
theorem dX9_restore_17 : decode cX9_restore 17 = .ok (.baload, 1) := by decide +kernel
theorem dX9_restore_18 : decode cX9_restore 18 = .ok (.ifCond .ne 6, 3) := by decide +kernel
theorem dX9_restore_21 : decode cX9_restore 21 = .ok (.ldc 172, 2) := by decide +kernel
theorem dX9_restore_23 : decode cX9_restore 23 = .ok (.ireturn, 1) := by decide +kernel
theorem dX9_restore_24 : decode cX9_restore 24 = .ok (.aload_n 0, 1) := by decide +kernel
theorem dX9_restore_25 : decode cX9_restore 25 = .ok (.getfield 34, 3) := by decide +kernel
theorem dX9_restore_28 : decode cX9_restore 28 = .ok (.bipush 38, 2) := by decide +kernel
theorem dX9_restore_30 : decode cX9_restore 30 = .ok (.iload_n 1, 1) := by decide +kernel
theorem dX9_restore_31 : decode cX9_restore 31 = .ok (.imul, 1) := by decide +kernel
theorem dX9_restore_32 : decode cX9_restore 32 = .ok (.aload_n 0, 1) := by decide +kernel
theorem dX9_restore_33 : decode cX9_restore 33 = .ok (.getfield 25, 3) := by decide +kernel
theorem dX9_restore_36 : decode cX9_restore 36 = .ok (.iconst 0, 1) := by decide +kernel
theorem dX9_restore_37 : decode cX9_restore 37 = .ok (.invokestatic 137, 3) := by decide +kernel
theorem dX9_restore_40 : decode cX9_restore 40 = .ok (.aload_n 0, 1) := by decide +kernel
theorem dX9_restore_41 : decode cX9_restore 41 = .ok (.iconst 0, 1) := by decide +kernel
theorem dX9_restore_42 : decode cX9_restore 42 = .ok (.putfield 141, 3) := by decide +kernel
theorem dX9_restore_45 : decode cX9_restore 45 = .ok (.iconst 1, 1) := by decide +kernel
theorem dX9_restore_46 : decode cX9_restore 46 = .ok (.ireturn, 1) := by decide +kernel
theorem dX9_kindIn_0 : decode cX9_kindIn 0 = .ok (.aload_n 0, 1) := by decide +kernel
theorem dX9_kindIn_1 : decode cX9_kindIn 1 = .ok (.getfield 25, 3) := by decide +kernel
theorem dX9_kindIn_4 : decode cX9_kindIn 4 = .ok (.iconst 4, 1) := by decide +kernel
theorem dX9_kindIn_5 : decode cX9_kindIn 5 = .ok (.iconst 3, 1) := by decide +kernel
theorem dX9_kindIn_6 : decode cX9_kindIn 6 = .ok (.iload_n 1, 1) := by decide +kernel
theorem dX9_kindIn_7 : decode cX9_kindIn 7 = .ok (.imul, 1) := by decide +kernel
theorem dX9_kindIn_8 : decode cX9_kindIn 8 = .ok (.iadd, 1) := by decide +kernel
theorem dX9_kindIn_9 : decode cX9_kindIn 9 = .ok (.iaload, 1) := by decide +kernel
theorem dX9_kindIn_10 : decode cX9_kindIn 10 = .ok (.ireturn, 1) := by decide +kernel
theorem dX9_kind_0 : decode cX9_kind 0 = .ok (.aload_n 0, 1) := by decide +kernel
theorem dX9_kind_1 : decode cX9_kind 1 = .ok (.iload_n 1, 1) := by decide +kernel
theorem dX9_kind_2 : decode cX9_kind 2 = .ok (.invokevirtual 166, 3) := by decide +kernel
theorem dX9_kind_5 : decode cX9_kind 5 = .ok (.ifCond .eq 11, 3) := by decide +kernel
theorem dX9_kind_8 : decode cX9_kind 8 = .ok (.aload_n 0, 1) := by decide +kernel
theorem dX9_kind_9 : decode cX9_kind 9 = .ok (.iload_n 1, 1) := by decide +kernel
theorem dX9_kind_10 : decode cX9_kind 10 = .ok (.invokevirtual 231, 3) := by decide +kernel
theorem dX9_kind_13 : decode cX9_kind 13 = .ok (.goto 5, 3) := by decide +kernel
theorem dX9_kind_16 : decode cX9_kind 16 = .ok (.ldc 67, 2) := by decide +kernel
theorem dX9_kind_18 : decode cX9_kind 18 = .ok (.ireturn, 1) := by decide +kernel
theorem dX9_as_0 : decode cX9_as 0 = .ok (.aload_n 0, 1) := by decide +kernel
theorem dX9_as_1 : decode cX9_as 1 = .ok (.iload_n 1, 1) := by decide +kernel
theorem dX9_as_2 : decode cX9_as 2 = .ok (.invokevirtual 166, 3) := by decide +kernel
theorem dX9_as_5 : decode cX9_as 5 = .ok (.ifCond .eq 12, 3) := by decide +kernel
theorem dX9_as_8 : decode cX9_as 8 = .ok (.iload_n 2, 1) := by decide +kernel
theorem dX9_as_9 : decode cX9_as 9 = .ok (.iconst 0, 1) := by decide +kernel
theorem dX9_as_10 : decode cX9_as 10 = .ok (.iconst 5, 1) := by decide +kernel
theorem dX9_as_11 : decode cX9_as 11 = .ok (.invokestatic 59, 3) := by decide +kernel
theorem dX9_as_14 : decode cX9_as 14 = .ok (.ifCond .ne 6, 3) := by decide +kernel
theorem dX9_as_17 : decode cX9_as 17 = .ok (.ldc 67, 2) := by decide +kernel
theorem dX9_as_19 : decode cX9_as 19 = .ok (.ireturn, 1) := by decide +kernel
theorem dX9_as_20 : decode cX9_as 20 = .ok (.aload_n 0, 1) := by decide +kernel
theorem dX9_as_21 : decode cX9_as 21 = .ok (.iload_n 1, 1) := by decide +kernel
theorem dX9_as_22 : decode cX9_as 22 = .ok (.invokevirtual 231, 3) := by decide +kernel
theorem dX9_as_25 : decode cX9_as 25 = .ok (.istore_n 3, 1) := by decide +kernel
theorem dX9_as_26 : decode cX9_as 26 = .ok (.iload_n 2, 1) := by decide +kernel
theorem dX9_as_27 : decode cX9_as 27 = .ok (.ifCond .eq 28, 3) := by decide +kernel
theorem dX9_as_30 : decode cX9_as 30 = .ok (.iload_n 2, 1) := by decide +kernel
theorem dX9_as_31 : decode cX9_as 31 = .ok (.iload_n 3, 1) := by decide +kernel
theorem dX9_as_32 : decode cX9_as 32 = .ok (.if_icmp .eq 23, 3) := by decide +kernel
theorem dX9_as_35 : decode cX9_as 35 = .ok (.iload_n 2, 1) := by decide +kernel
theorem dX9_as_36 : decode cX9_as 36 = .ok (.iconst 1, 1) := by decide +kernel
theorem dX9_as_37 : decode cX9_as 37 = .ok (.if_icmp .ne 8, 3) := by decide +kernel
theorem dX9_as_40 : decode cX9_as 40 = .ok (.iload_n 3, 1) := by decide +kernel
theorem dX9_as_41 : decode cX9_as 41 = .ok (.iconst 4, 1) := by decide +kernel
theorem dX9_as_42 : decode cX9_as 42 = .ok (.if_icmp .lt 13, 3) := by decide +kernel
theorem dX9_as_45 : decode cX9_as 45 = .ok (.iload_n 2, 1) := by decide +kernel
theorem dX9_as_46 : decode cX9_as 46 = .ok (.iconst 4, 1) := by decide +kernel
theorem dX9_as_47 : decode cX9_as 47 = .ok (.if_icmp .ne 12, 3) := by decide +kernel
theorem dX9_as_50 : decode cX9_as 50 = .ok (.iload_n 3, 1) := by decide +kernel
theorem dX9_as_51 : decode cX9_as 51 = .ok (.iconst 5, 1) := by decide +kernel
theorem dX9_as_52 : decode cX9_as 52 = .ok (.if_icmp .ne 7, 3) := by decide +kernel
theorem dX9_as_55 : decode cX9_as 55 = .ok (.iconst 1, 1) := by decide +kernel
theorem dX9_as_56 : decode cX9_as 56 = .ok (.goto 4, 3) := by decide +kernel
theorem dX9_as_59 : decode cX9_as 59 = .ok (.iconst 0, 1) := by decide +kernel
theorem dX9_as_60 : decode cX9_as 60 = .ok (.istore 4, 2) := by decide +kernel
theorem dX9_as_62 : decode cX9_as 62 = .ok (.iload 4, 2) := by decide +kernel
theorem dX9_as_64 : decode cX9_as 64 = .ok (.ifCond .eq 11, 3) := by decide +kernel
theorem dX9_as_67 : decode cX9_as 67 = .ok (.aload_n 0, 1) := by decide +kernel
theorem dX9_as_68 : decode cX9_as 68 = .ok (.iload_n 1, 1) := by decide +kernel
theorem dX9_as_69 : decode cX9_as 69 = .ok (.invokevirtual 72, 3) := by decide +kernel
theorem dX9_as_72 : decode cX9_as 72 = .ok (.goto 8, 3) := by decide +kernel
theorem dX9_as_75 : decode cX9_as 75 = .ok (.aload_n 0, 1) := by decide +kernel
theorem dX9_as_76 : decode cX9_as 76 = .ok (.iconst 3, 1) := by decide +kernel
theorem dX9_as_77 : decode cX9_as 77 = .ok (.invokevirtual 68, 3) := by decide +kernel
theorem dX9_as_80 : decode cX9_as 80 = .ok (.ireturn, 1) := by decide +kernel
theorem dX9_begins_0 : decode cX9_begins 0 = .ok (.aload_n 0, 1) := by decide +kernel
theorem dX9_begins_1 : decode cX9_begins 1 = .ok (.getfield 234, 3) := by decide +kernel
theorem dX9_begins_4 : decode cX9_begins 4 = .ok (.bipush 16, 2) := by decide +kernel
theorem dX9_begins_6 : decode cX9_begins 6 = .ok (.if_icmp .ge 23, 3) := by decide +kernel
theorem dX9_begins_9 : decode cX9_begins 9 = .ok (.aload_n 0, 1) := by decide +kernel
theorem dX9_begins_10 : decode cX9_begins 10 = .ok (.getfield 41, 3) := by decide +kernel
theorem dX9_begins_13 : decode cX9_begins 13 = .ok (.aload_n 0, 1) := by decide +kernel
theorem dX9_begins_14 : decode cX9_begins 14 = .ok (.getfield 234, 3) := by decide +kernel
theorem dX9_begins_17 : decode cX9_begins 17 = .ok (.iload_n 1, 1) := by decide +kernel
theorem dX9_begins_18 : decode cX9_begins 18 = .ok (.iastore, 1) := by decide +kernel
theorem dX9_begins_19 : decode cX9_begins 19 = .ok (.aload_n 0, 1) := by decide +kernel
theorem dX9_begins_20 : decode cX9_begins 20 = .ok (.dup, 1) := by decide +kernel
theorem dX9_begins_21 : decode cX9_begins 21 = .ok (.getfield 234, 3) := by decide +kernel
theorem dX9_begins_24 : decode cX9_begins 24 = .ok (.iconst 1, 1) := by decide +kernel
theorem dX9_begins_25 : decode cX9_begins 25 = .ok (.iadd, 1) := by decide +kernel
theorem dX9_begins_26 : decode cX9_begins 26 = .ok (.putfield 234, 3) := by decide +kernel
theorem dX9_begins_29 : decode cX9_begins 29 = .ok (.return_, 1) := by decide +kernel
theorem dX9_easyMark_0 : decode cX9_easyMark 0 = .ok (.aload_n 0, 1) := by decide +kernel
theorem dX9_easyMark_1 : decode cX9_easyMark 1 = .ok (.iload_n 1, 1) := by decide +kernel
theorem dX9_easyMark_2 : decode cX9_easyMark 2 = .ok (.invokevirtual 231, 3) := by decide +kernel
theorem dX9_easyMark_5 : decode cX9_easyMark 5 = .ok (.istore_n 2, 1) := by decide +kernel
theorem dX9_easyMark_6 : decode cX9_easyMark 6 = .ok (.iload_n 2, 1) := by decide +kernel
theorem dX9_easyMark_7 : decode cX9_easyMark 7 = .ok (.iconst 1, 1) := by decide +kernel
theorem dX9_easyMark_8 : decode cX9_easyMark 8 = .ok (.if_icmp .eq 19, 3) := by decide +kernel
theorem dX9_easyMark_11 : decode cX9_easyMark 11 = .ok (.aload_n 0, 1) := by decide +kernel
theorem dX9_easyMark_12 : decode cX9_easyMark 12 = .ok (.iload_n 2, 1) := by decide +kernel
theorem dX9_easyMark_13 : decode cX9_easyMark 13 = .ok (.iconst 2, 1) := by decide +kernel
theorem dX9_easyMark_14 : decode cX9_easyMark 14 = .ok (.if_icmp .ne 8, 3) := by decide +kernel
theorem dX9_easyMark_17 : decode cX9_easyMark 17 = .ok (.bipush 24, 2) := by decide +kernel
theorem dX9_easyMark_19 : decode cX9_easyMark 19 = .ok (.goto 5, 3) := by decide +kernel
theorem dX9_easyMark_22 : decode cX9_easyMark 22 = .ok (.bipush 22, 2) := by decide +kernel
theorem dX9_easyMark_24 : decode cX9_easyMark 24 = .ok (.invokevirtual 237, 3) := by decide +kernel
theorem dX9_easyMark_27 : decode cX9_easyMark 27 = .ok (.aload_n 0, 1) := by decide +kernel
theorem dX9_easyMark_28 : decode cX9_easyMark 28 = .ok (.bipush 21, 2) := by decide +kernel
theorem dX9_easyMark_30 : decode cX9_easyMark 30 = .ok (.invokevirtual 237, 3) := by decide +kernel
theorem dX9_easyMark_33 : decode cX9_easyMark 33 = .ok (.aload_n 0, 1) := by decide +kernel
theorem dX9_easyMark_34 : decode cX9_easyMark 34 = .ok (.bipush 20, 2) := by decide +kernel
theorem dX9_easyMark_36 : decode cX9_easyMark 36 = .ok (.invokevirtual 237, 3) := by decide +kernel
theorem dX9_easyMark_39 : decode cX9_easyMark 39 = .ok (.iload_n 1, 1) := by decide +kernel
theorem dX9_easyMark_40 : decode cX9_easyMark 40 = .ok (.aload_n 0, 1) := by decide +kernel
theorem dX9_easyMark_41 : decode cX9_easyMark 41 = .ok (.iload_n 1, 1) := by decide +kernel
theorem dX9_easyMark_42 : decode cX9_easyMark 42 = .ok (.invokevirtual 190, 3) := by decide +kernel
theorem dX9_easyMark_45 : decode cX9_easyMark 45 = .ok (.iadd, 1) := by decide +kernel
theorem dX9_easyMark_46 : decode cX9_easyMark 46 = .ok (.istore_n 3, 1) := by decide +kernel
theorem dX9_easyMark_47 : decode cX9_easyMark 47 = .ok (.iload_n 2, 1) := by decide +kernel
theorem dX9_easyMark_48 : decode cX9_easyMark 48 = .ok (.iconst 2, 1) := by decide +kernel
theorem dX9_easyMark_49 : decode cX9_easyMark 49 = .ok (.if_icmp .ne 9, 3) := by decide +kernel
theorem dX9_easyMark_52 : decode cX9_easyMark 52 = .ok (.iconst 2, 1) := by decide +kernel
theorem dX9_easyMark_53 : decode cX9_easyMark 53 = .ok (.iload_n 3, 1) := by decide +kernel
theorem dX9_easyMark_54 : decode cX9_easyMark 54 = .ok (.imul, 1) := by decide +kernel
theorem dX9_easyMark_55 : decode cX9_easyMark 55 = .ok (.goto 17, 3) := by decide +kernel
theorem dX9_easyMark_58 : decode cX9_easyMark 58 = .ok (.iload_n 2, 1) := by decide +kernel
theorem dX9_easyMark_59 : decode cX9_easyMark 59 = .ok (.iconst 3, 1) := by decide +kernel
theorem dX9_easyMark_60 : decode cX9_easyMark 60 = .ok (.if_icmp .ne 11, 3) := by decide +kernel
theorem dX9_easyMark_63 : decode cX9_easyMark 63 = .ok (.iload_n 3, 1) := by decide +kernel
theorem dX9_easyMark_64 : decode cX9_easyMark 64 = .ok (.sipush 1000, 3) := by decide +kernel
theorem dX9_easyMark_67 : decode cX9_easyMark 67 = .ok (.isub, 1) := by decide +kernel
theorem dX9_easyMark_68 : decode cX9_easyMark 68 = .ok (.goto 4, 3) := by decide +kernel
theorem dX9_easyMark_71 : decode cX9_easyMark 71 = .ok (.iload_n 3, 1) := by decide +kernel
theorem dX9_easyMark_72 : decode cX9_easyMark 72 = .ok (.ireturn, 1) := by decide +kernel
theorem dX9_proofSize_0 : decode cX9_proofSize 0 = .ok (.aload_n 0, 1) := by decide +kernel
theorem dX9_proofSize_1 : decode cX9_proofSize 1 = .ok (.iload_n 1, 1) := by decide +kernel
theorem dX9_proofSize_2 : decode cX9_proofSize 2 = .ok (.invokevirtual 231, 3) := by decide +kernel
theorem dX9_proofSize_5 : decode cX9_proofSize 5 = .ok (.iconst 5, 1) := by decide +kernel
theorem dX9_proofSize_6 : decode cX9_proofSize 6 = .ok (.if_icmp .ne 7, 3) := by decide +kernel
theorem dX9_proofSize_9 : decode cX9_proofSize 9 = .ok (.iconst 1, 1) := by decide +kernel
theorem dX9_proofSize_10 : decode cX9_proofSize 10 = .ok (.goto 4, 3) := by decide +kernel
theorem dX9_proofSize_13 : decode cX9_proofSize 13 = .ok (.iconst 0, 1) := by decide +kernel
theorem dX9_proofSize_14 : decode cX9_proofSize 14 = .ok (.istore_n 2, 1) := by decide +kernel
theorem dX9_proofSize_15 : decode cX9_proofSize 15 = .ok (.iload_n 2, 1) := by decide +kernel
theorem dX9_proofSize_16 : decode cX9_proofSize 16 = .ok (.ifCond .eq 9, 3) := by decide +kernel
theorem dX9_proofSize_19 : decode cX9_proofSize 19 = .ok (.aload_n 0, 1) := by decide +kernel
theorem dX9_proofSize_20 : decode cX9_proofSize 20 = .ok (.bipush 14, 2) := by decide +kernel
theorem dX9_proofSize_22 : decode cX9_proofSize 22 = .ok (.invokevirtual 237, 3) := by decide +kernel
theorem dX9_proofSize_25 : decode cX9_proofSize 25 = .ok (.aload_n 0, 1) := by decide +kernel
theorem dX9_proofSize_26 : decode cX9_proofSize 26 = .ok (.bipush 13, 2) := by decide +kernel
theorem dX9_proofSize_28 : decode cX9_proofSize 28 = .ok (.invokevirtual 237, 3) := by decide +kernel
theorem dX9_proofSize_31 : decode cX9_proofSize 31 = .ok (.aload_n 0, 1) := by decide +kernel
theorem dX9_proofSize_32 : decode cX9_proofSize 32 = .ok (.bipush 10, 2) := by decide +kernel
theorem dX9_proofSize_34 : decode cX9_proofSize 34 = .ok (.invokevirtual 237, 3) := by decide +kernel
theorem dX9_proofSize_37 : decode cX9_proofSize 37 = .ok (.aload_n 0, 1) := by decide +kernel
theorem dX9_proofSize_38 : decode cX9_proofSize 38 = .ok (.getfield 25, 3) := by decide +kernel
theorem dX9_proofSize_41 : decode cX9_proofSize 41 = .ok (.iconst 4, 1) := by decide +kernel
theorem dX9_proofSize_42 : decode cX9_proofSize 42 = .ok (.iconst 3, 1) := by decide +kernel
theorem dX9_proofSize_43 : decode cX9_proofSize 43 = .ok (.iload_n 1, 1) := by decide +kernel
theorem dX9_proofSize_44 : decode cX9_proofSize 44 = .ok (.imul, 1) := by decide +kernel
theorem dX9_proofSize_45 : decode cX9_proofSize 45 = .ok (.iadd, 1) := by decide +kernel
theorem dX9_proofSize_46 : decode cX9_proofSize 46 = .ok (.iconst 1, 1) := by decide +kernel
theorem dX9_proofSize_47 : decode cX9_proofSize 47 = .ok (.iadd, 1) := by decide +kernel
theorem dX9_proofSize_48 : decode cX9_proofSize 48 = .ok (.iaload, 1) := by decide +kernel
theorem dX9_proofSize_49 : decode cX9_proofSize 49 = .ok (.bipush 100, 2) := by decide +kernel
theorem dX9_proofSize_51 : decode cX9_proofSize 51 = .ok (.isub, 1) := by decide +kernel
theorem dX9_proofSize_52 : decode cX9_proofSize 52 = .ok (.istore_n 3, 1) := by decide +kernel
theorem dX9_proofSize_53 : decode cX9_proofSize 53 = .ok (.iload_n 2, 1) := by decide +kernel
theorem dX9_proofSize_54 : decode cX9_proofSize 54 = .ok (.ifCond .eq 9, 3) := by decide +kernel
theorem dX9_proofSize_57 : decode cX9_proofSize 57 = .ok (.iconst 2, 1) := by decide +kernel
theorem dX9_proofSize_58 : decode cX9_proofSize 58 = .ok (.iload_n 3, 1) := by decide +kernel
theorem dX9_proofSize_59 : decode cX9_proofSize 59 = .ok (.imul, 1) := by decide +kernel
theorem dX9_proofSize_60 : decode cX9_proofSize 60 = .ok (.goto 4, 3) := by decide +kernel
theorem dX9_proofSize_63 : decode cX9_proofSize 63 = .ok (.iload_n 3, 1) := by decide +kernel
theorem dX9_proofSize_64 : decode cX9_proofSize 64 = .ok (.ireturn, 1) := by decide +kernel
theorem dX9_easySize_0 : decode cX9_easySize 0 = .ok (.aload_n 0, 1) := by decide +kernel
theorem dX9_easySize_1 : decode cX9_easySize 1 = .ok (.iload_n 1, 1) := by decide +kernel
theorem dX9_easySize_2 : decode cX9_easySize 2 = .ok (.invokevirtual 231, 3) := by decide +kernel
theorem dX9_easySize_5 : decode cX9_easySize 5 = .ok (.iconst 2, 1) := by decide +kernel
theorem dX9_easySize_6 : decode cX9_easySize 6 = .ok (.if_icmp .ne 7, 3) := by decide +kernel
theorem dX9_easySize_9 : decode cX9_easySize 9 = .ok (.iconst 1, 1) := by decide +kernel
theorem dX9_easySize_10 : decode cX9_easySize 10 = .ok (.goto 4, 3) := by decide +kernel
theorem dX9_easySize_13 : decode cX9_easySize 13 = .ok (.iconst 0, 1) := by decide +kernel
theorem dX9_easySize_14 : decode cX9_easySize 14 = .ok (.istore_n 2, 1) := by decide +kernel
theorem dX9_easySize_15 : decode cX9_easySize 15 = .ok (.iload_n 2, 1) := by decide +kernel
theorem dX9_easySize_16 : decode cX9_easySize 16 = .ok (.ifCond .eq 9, 3) := by decide +kernel
theorem dX9_easySize_19 : decode cX9_easySize 19 = .ok (.aload_n 0, 1) := by decide +kernel
theorem dX9_easySize_20 : decode cX9_easySize 20 = .ok (.bipush 12, 2) := by decide +kernel
theorem dX9_easySize_22 : decode cX9_easySize 22 = .ok (.invokevirtual 237, 3) := by decide +kernel
theorem dX9_easySize_25 : decode cX9_easySize 25 = .ok (.aload_n 0, 1) := by decide +kernel
theorem dX9_easySize_26 : decode cX9_easySize 26 = .ok (.bipush 11, 2) := by decide +kernel
theorem dX9_easySize_28 : decode cX9_easySize 28 = .ok (.invokevirtual 237, 3) := by decide +kernel
theorem dX9_easySize_31 : decode cX9_easySize 31 = .ok (.aload_n 0, 1) := by decide +kernel
theorem dX9_easySize_32 : decode cX9_easySize 32 = .ok (.bipush 10, 2) := by decide +kernel
theorem dX9_easySize_34 : decode cX9_easySize 34 = .ok (.invokevirtual 237, 3) := by decide +kernel
theorem dX9_easySize_37 : decode cX9_easySize 37 = .ok (.aload_n 0, 1) := by decide +kernel
theorem dX9_easySize_38 : decode cX9_easySize 38 = .ok (.getfield 25, 3) := by decide +kernel
theorem dX9_easySize_41 : decode cX9_easySize 41 = .ok (.iconst 4, 1) := by decide +kernel
theorem dX9_easySize_42 : decode cX9_easySize 42 = .ok (.iconst 3, 1) := by decide +kernel
theorem dX9_easySize_43 : decode cX9_easySize 43 = .ok (.iload_n 1, 1) := by decide +kernel
theorem dX9_easySize_44 : decode cX9_easySize 44 = .ok (.imul, 1) := by decide +kernel
theorem dX9_easySize_45 : decode cX9_easySize 45 = .ok (.iadd, 1) := by decide +kernel
theorem dX9_easySize_46 : decode cX9_easySize 46 = .ok (.iconst 1, 1) := by decide +kernel
theorem dX9_easySize_47 : decode cX9_easySize 47 = .ok (.iadd, 1) := by decide +kernel
theorem dX9_easySize_48 : decode cX9_easySize 48 = .ok (.iaload, 1) := by decide +kernel
theorem dX9_easySize_49 : decode cX9_easySize 49 = .ok (.aload_n 0, 1) := by decide +kernel
theorem dX9_easySize_50 : decode cX9_easySize 50 = .ok (.iload_n 1, 1) := by decide +kernel
theorem dX9_easySize_51 : decode cX9_easySize 51 = .ok (.invokevirtual 240, 3) := by decide +kernel
theorem dX9_easySize_54 : decode cX9_easySize 54 = .ok (.iadd, 1) := by decide +kernel
theorem dX9_easySize_55 : decode cX9_easySize 55 = .ok (.istore_n 3, 1) := by decide +kernel
theorem dX9_easySize_56 : decode cX9_easySize 56 = .ok (.iload_n 2, 1) := by decide +kernel
theorem dX9_easySize_57 : decode cX9_easySize 57 = .ok (.ifCond .eq 8, 3) := by decide +kernel
theorem dX9_easySize_60 : decode cX9_easySize 60 = .ok (.iload_n 3, 1) := by decide +kernel
theorem dX9_easySize_61 : decode cX9_easySize 61 = .ok (.ineg, 1) := by decide +kernel
theorem dX9_easySize_62 : decode cX9_easySize 62 = .ok (.goto 4, 3) := by decide +kernel
theorem dX9_easySize_65 : decode cX9_easySize 65 = .ok (.iload_n 3, 1) := by decide +kernel
theorem dX9_easySize_66 : decode cX9_easySize 66 = .ok (.ireturn, 1) := by decide +kernel
theorem dX9_proofMark_0 : decode cX9_proofMark 0 = .ok (.aload_n 0, 1) := by decide +kernel
theorem dX9_proofMark_1 : decode cX9_proofMark 1 = .ok (.bipush 23, 2) := by decide +kernel
theorem dX9_proofMark_3 : decode cX9_proofMark 3 = .ok (.invokevirtual 237, 3) := by decide +kernel
theorem dX9_proofMark_6 : decode cX9_proofMark 6 = .ok (.aload_n 0, 1) := by decide +kernel
theorem dX9_proofMark_7 : decode cX9_proofMark 7 = .ok (.bipush 20, 2) := by decide +kernel
theorem dX9_proofMark_9 : decode cX9_proofMark 9 = .ok (.invokevirtual 237, 3) := by decide +kernel
theorem dX9_proofMark_12 : decode cX9_proofMark 12 = .ok (.iload_n 1, 1) := by decide +kernel
theorem dX9_proofMark_13 : decode cX9_proofMark 13 = .ok (.aload_n 0, 1) := by decide +kernel
theorem dX9_proofMark_14 : decode cX9_proofMark 14 = .ok (.iload_n 1, 1) := by decide +kernel
theorem dX9_proofMark_15 : decode cX9_proofMark 15 = .ok (.invokevirtual 243, 3) := by decide +kernel
theorem dX9_proofMark_18 : decode cX9_proofMark 18 = .ok (.isub, 1) := by decide +kernel
theorem dX9_proofMark_19 : decode cX9_proofMark 19 = .ok (.ireturn, 1) := by decide +kernel
theorem dX9_ask_0 : decode cX9_ask 0 = .ok (.aload_n 0, 1) := by decide +kernel
theorem dX9_ask_1 : decode cX9_ask 1 = .ok (.iload_n 1, 1) := by decide +kernel
theorem dX9_ask_2 : decode cX9_ask 2 = .ok (.invokevirtual 166, 3) := by decide +kernel
theorem dX9_ask_5 : decode cX9_ask 5 = .ok (.ifCond .eq 12, 3) := by decide +kernel
theorem dX9_ask_8 : decode cX9_ask 8 = .ok (.iload_n 2, 1) := by decide +kernel
theorem dX9_ask_9 : decode cX9_ask 9 = .ok (.iconst 0, 1) := by decide +kernel
theorem dX9_ask_10 : decode cX9_ask 10 = .ok (.iconst 1, 1) := by decide +kernel
theorem dX9_ask_11 : decode cX9_ask 11 = .ok (.invokestatic 59, 3) := by decide +kernel
theorem dX9_ask_14 : decode cX9_ask 14 = .ok (.ifCond .ne 6, 3) := by decide +kernel
theorem dX9_ask_17 : decode cX9_ask 17 = .ok (.ldc 67, 2) := by decide +kernel
theorem dX9_ask_19 : decode cX9_ask 19 = .ok (.ireturn, 1) := by decide +kernel
theorem dX9_ask_20 : decode cX9_ask 20 = .ok (.aload_n 0, 1) := by decide +kernel
theorem dX9_ask_21 : decode cX9_ask 21 = .ok (.iconst 0, 1) := by decide +kernel
theorem dX9_ask_22 : decode cX9_ask 22 = .ok (.putfield 234, 3) := by decide +kernel
theorem dX9_ask_25 : decode cX9_ask 25 = .ok (.aload_n 0, 1) := by decide +kernel
theorem dX9_ask_26 : decode cX9_ask 26 = .ok (.iload_n 1, 1) := by decide +kernel
theorem dX9_ask_27 : decode cX9_ask 27 = .ok (.invokevirtual 231, 3) := by decide +kernel
theorem dX9_ask_30 : decode cX9_ask 30 = .ok (.iconst 4, 1) := by decide +kernel
theorem dX9_ask_31 : decode cX9_ask 31 = .ok (.if_icmp .lt 7, 3) := by decide +kernel
theorem dX9_ask_34 : decode cX9_ask 34 = .ok (.iconst 1, 1) := by decide +kernel
theorem dX9_ask_35 : decode cX9_ask 35 = .ok (.goto 4, 3) := by decide +kernel
theorem dX9_ask_38 : decode cX9_ask 38 = .ok (.iconst 0, 1) := by decide +kernel
theorem dX9_ask_39 : decode cX9_ask 39 = .ok (.istore_n 3, 1) := by decide +kernel
theorem dX9_ask_40 : decode cX9_ask 40 = .ok (.iload_n 2, 1) := by decide +kernel
theorem dX9_ask_41 : decode cX9_ask 41 = .ok (.ifCond .ne 21, 3) := by decide +kernel
theorem dX9_ask_44 : decode cX9_ask 44 = .ok (.iload_n 3, 1) := by decide +kernel
theorem dX9_ask_45 : decode cX9_ask 45 = .ok (.ifCond .eq 11, 3) := by decide +kernel
theorem dX9_ask_48 : decode cX9_ask 48 = .ok (.aload_n 0, 1) := by decide +kernel
theorem dX9_ask_49 : decode cX9_ask 49 = .ok (.iload_n 1, 1) := by decide +kernel
theorem dX9_ask_50 : decode cX9_ask 50 = .ok (.invokevirtual 243, 3) := by decide +kernel
theorem dX9_ask_53 : decode cX9_ask 53 = .ok (.goto 8, 3) := by decide +kernel
theorem dX9_ask_56 : decode cX9_ask 56 = .ok (.aload_n 0, 1) := by decide +kernel
theorem dX9_ask_57 : decode cX9_ask 57 = .ok (.iload_n 1, 1) := by decide +kernel
theorem dX9_ask_58 : decode cX9_ask 58 = .ok (.invokevirtual 246, 3) := by decide +kernel
theorem dX9_ask_61 : decode cX9_ask 61 = .ok (.ireturn, 1) := by decide +kernel
theorem dX9_ask_62 : decode cX9_ask 62 = .ok (.iload_n 3, 1) := by decide +kernel
theorem dX9_ask_63 : decode cX9_ask 63 = .ok (.ifCond .eq 11, 3) := by decide +kernel
theorem dX9_ask_66 : decode cX9_ask 66 = .ok (.aload_n 0, 1) := by decide +kernel
theorem dX9_ask_67 : decode cX9_ask 67 = .ok (.iload_n 1, 1) := by decide +kernel
theorem dX9_ask_68 : decode cX9_ask 68 = .ok (.invokevirtual 249, 3) := by decide +kernel
theorem dX9_ask_71 : decode cX9_ask 71 = .ok (.goto 8, 3) := by decide +kernel
theorem dX9_ask_74 : decode cX9_ask 74 = .ok (.aload_n 0, 1) := by decide +kernel
theorem dX9_ask_75 : decode cX9_ask 75 = .ok (.iload_n 1, 1) := by decide +kernel
theorem dX9_ask_76 : decode cX9_ask 76 = .ok (.invokevirtual 240, 3) := by decide +kernel
theorem dX9_ask_79 : decode cX9_ask 79 = .ok (.ireturn, 1) := by decide +kernel
theorem dX9_trace_0 : decode cX9_trace 0 = .ok (.iload_n 1, 1) := by decide +kernel
theorem dX9_trace_1 : decode cX9_trace 1 = .ok (.iconst 0, 1) := by decide +kernel
theorem dX9_trace_2 : decode cX9_trace 2 = .ok (.aload_n 0, 1) := by decide +kernel
theorem dX9_trace_3 : decode cX9_trace 3 = .ok (.getfield 234, 3) := by decide +kernel
theorem dX9_trace_6 : decode cX9_trace 6 = .ok (.iconst 1, 1) := by decide +kernel
theorem dX9_trace_7 : decode cX9_trace 7 = .ok (.isub, 1) := by decide +kernel
theorem dX9_trace_8 : decode cX9_trace 8 = .ok (.invokestatic 59, 3) := by decide +kernel
theorem dX9_trace_11 : decode cX9_trace 11 = .ok (.ifCond .eq 12, 3) := by decide +kernel
theorem dX9_trace_14 : decode cX9_trace 14 = .ok (.aload_n 0, 1) := by decide +kernel
theorem dX9_trace_15 : decode cX9_trace 15 = .ok (.getfield 41, 3) := by decide +kernel
theorem dX9_trace_18 : decode cX9_trace 18 = .ok (.iload_n 1, 1) := by decide +kernel
theorem dX9_trace_19 : decode cX9_trace 19 = .ok (.iaload, 1) := by decide +kernel
theorem dX9_trace_20 : decode cX9_trace 20 = .ok (.goto 5, 3) := by decide +kernel
theorem dX9_trace_23 : decode cX9_trace 23 = .ok (.ldc 53, 2) := by decide +kernel
theorem dX9_trace_25 : decode cX9_trace 25 = .ok (.ireturn, 1) := by decide +kernel
theorem dX9_count_0 : decode cX9_count 0 = .ok (.iconst 0, 1) := by decide +kernel
theorem dX9_count_1 : decode cX9_count 1 = .ok (.istore_n 2, 1) := by decide +kernel
theorem dX9_count_2 : decode cX9_count 2 = .ok (.iload_n 1, 1) := by decide +kernel
theorem dX9_count_3 : decode cX9_count 3 = .ok (.tableswitch 111 0 6 #[41, 73, 80, 87, 94, 101, 106], 41) := by decide +kernel
theorem dX9_count_44 : decode cX9_count 44 = .ok (.iconst 0, 1) := by decide +kernel
theorem dX9_count_45 : decode cX9_count 45 = .ok (.istore_n 3, 1) := by decide +kernel
theorem dX9_count_46 : decode cX9_count 46 = .ok (.iload_n 3, 1) := by decide +kernel
theorem dX9_count_47 : decode cX9_count 47 = .ok (.bipush 8, 2) := by decide +kernel
theorem dX9_count_49 : decode cX9_count 49 = .ok (.if_icmp .ge 25, 3) := by decide +kernel
theorem dX9_count_52 : decode cX9_count 52 = .ok (.iload_n 2, 1) := by decide +kernel
theorem dX9_count_53 : decode cX9_count 53 = .ok (.aload_n 0, 1) := by decide +kernel
theorem dX9_count_54 : decode cX9_count 54 = .ok (.iload_n 3, 1) := by decide +kernel
theorem dX9_count_55 : decode cX9_count 55 = .ok (.invokevirtual 75, 3) := by decide +kernel
theorem dX9_count_58 : decode cX9_count 58 = .ok (.ifCond .eq 7, 3) := by decide +kernel
theorem dX9_count_61 : decode cX9_count 61 = .ok (.iconst 0, 1) := by decide +kernel
theorem dX9_count_62 : decode cX9_count 62 = .ok (.goto 4, 3) := by decide +kernel
theorem dX9_count_65 : decode cX9_count 65 = .ok (.iconst 1, 1) := by decide +kernel
theorem dX9_count_66 : decode cX9_count 66 = .ok (.iadd, 1) := by decide +kernel
theorem dX9_count_67 : decode cX9_count 67 = .ok (.istore_n 2, 1) := by decide +kernel
theorem dX9_count_68 : decode cX9_count 68 = .ok (.iinc 3 1, 3) := by decide +kernel
theorem dX9_count_71 : decode cX9_count 71 = .ok (.goto (-25), 3) := by decide +kernel
theorem dX9_count_74 : decode cX9_count 74 = .ok (.iload_n 2, 1) := by decide +kernel
theorem dX9_count_75 : decode cX9_count 75 = .ok (.ireturn, 1) := by decide +kernel
theorem dX9_count_76 : decode cX9_count 76 = .ok (.aload_n 0, 1) := by decide +kernel
theorem dX9_count_77 : decode cX9_count 77 = .ok (.getfield 25, 3) := by decide +kernel
theorem dX9_count_80 : decode cX9_count 80 = .ok (.iconst 2, 1) := by decide +kernel
theorem dX9_count_81 : decode cX9_count 81 = .ok (.iaload, 1) := by decide +kernel
theorem dX9_count_82 : decode cX9_count 82 = .ok (.ireturn, 1) := by decide +kernel
theorem dX9_count_83 : decode cX9_count 83 = .ok (.aload_n 0, 1) := by decide +kernel
theorem dX9_count_84 : decode cX9_count 84 = .ok (.getfield 25, 3) := by decide +kernel
theorem dX9_count_87 : decode cX9_count 87 = .ok (.iconst 3, 1) := by decide +kernel
theorem dX9_count_88 : decode cX9_count 88 = .ok (.iaload, 1) := by decide +kernel
theorem dX9_count_89 : decode cX9_count 89 = .ok (.ireturn, 1) := by decide +kernel
theorem dX9_count_90 : decode cX9_count 90 = .ok (.aload_n 0, 1) := by decide +kernel
theorem dX9_count_91 : decode cX9_count 91 = .ok (.getfield 25, 3) := by decide +kernel
theorem dX9_count_94 : decode cX9_count 94 = .ok (.iconst 0, 1) := by decide +kernel
theorem dX9_count_95 : decode cX9_count 95 = .ok (.iaload, 1) := by decide +kernel
theorem dX9_count_96 : decode cX9_count 96 = .ok (.ireturn, 1) := by decide +kernel
theorem dX9_count_97 : decode cX9_count 97 = .ok (.aload_n 0, 1) := by decide +kernel
theorem dX9_count_98 : decode cX9_count 98 = .ok (.getfield 25, 3) := by decide +kernel
theorem dX9_count_101 : decode cX9_count 101 = .ok (.iconst 1, 1) := by decide +kernel
theorem dX9_count_102 : decode cX9_count 102 = .ok (.iaload, 1) := by decide +kernel
theorem dX9_count_103 : decode cX9_count 103 = .ok (.ireturn, 1) := by decide +kernel
theorem dX9_count_104 : decode cX9_count 104 = .ok (.aload_n 0, 1) := by decide +kernel
theorem dX9_count_105 : decode cX9_count 105 = .ok (.getfield 141, 3) := by decide +kernel
theorem dX9_count_108 : decode cX9_count 108 = .ok (.ireturn, 1) := by decide +kernel
theorem dX9_count_109 : decode cX9_count 109 = .ok (.aload_n 0, 1) := by decide +kernel
theorem dX9_count_110 : decode cX9_count 110 = .ok (.getfield 85, 3) := by decide +kernel
theorem dX9_count_113 : decode cX9_count 113 = .ok (.ireturn, 1) := by decide +kernel
theorem dX9_count_114 : decode cX9_count 114 = .ok (.ldc 67, 2) := by decide +kernel
theorem dX9_count_116 : decode cX9_count 116 = .ok (.ireturn, 1) := by decide +kernel
theorem dX9_status_0 : decode cX9_status 0 = .ok (.aload_n 0, 1) := by decide +kernel
theorem dX9_status_1 : decode cX9_status 1 = .ok (.getfield 54, 3) := by decide +kernel
theorem dX9_status_4 : decode cX9_status 4 = .ok (.ireturn, 1) := by decide +kernel
