theorem dX9_needs_0 : decode cX9_needs 0 = .ok (.aload_n 0, 1) := by decide +kernel
theorem dX9_needs_1 : decode cX9_needs 1 = .ok (.getfield 25, 3) := by decide +kernel
theorem dX9_needs_4 : decode cX9_needs 4 = .ok (.iconst 4, 1) := by decide +kernel
theorem dX9_needs_5 : decode cX9_needs 5 = .ok (.iconst 3, 1) := by decide +kernel
theorem dX9_needs_6 : decode cX9_needs 6 = .ok (.iload_n 1, 1) := by decide +kernel
theorem dX9_needs_7 : decode cX9_needs 7 = .ok (.imul, 1) := by decide +kernel
theorem dX9_needs_8 : decode cX9_needs 8 = .ok (.iadd, 1) := by decide +kernel
theorem dX9_needs_9 : decode cX9_needs 9 = .ok (.iconst 1, 1) := by decide +kernel
theorem dX9_needs_10 : decode cX9_needs 10 = .ok (.iadd, 1) := by decide +kernel
theorem dX9_needs_11 : decode cX9_needs 11 = .ok (.iaload, 1) := by decide +kernel
theorem dX9_needs_12 : decode cX9_needs 12 = .ok (.istore_n 2, 1) := by decide +kernel
theorem dX9_needs_13 : decode cX9_needs 13 = .ok (.aload_n 0, 1) := by decide +kernel
theorem dX9_needs_14 : decode cX9_needs 14 = .ok (.getfield 25, 3) := by decide +kernel
theorem dX9_needs_17 : decode cX9_needs 17 = .ok (.iconst 4, 1) := by decide +kernel
theorem dX9_needs_18 : decode cX9_needs 18 = .ok (.iconst 3, 1) := by decide +kernel
theorem dX9_needs_19 : decode cX9_needs 19 = .ok (.iload_n 1, 1) := by decide +kernel
theorem dX9_needs_20 : decode cX9_needs 20 = .ok (.imul, 1) := by decide +kernel
theorem dX9_needs_21 : decode cX9_needs 21 = .ok (.iadd, 1) := by decide +kernel
theorem dX9_needs_22 : decode cX9_needs 22 = .ok (.iconst 2, 1) := by decide +kernel
theorem dX9_needs_23 : decode cX9_needs 23 = .ok (.iadd, 1) := by decide +kernel
theorem dX9_needs_24 : decode cX9_needs 24 = .ok (.iaload, 1) := by decide +kernel
theorem dX9_needs_25 : decode cX9_needs 25 = .ok (.istore_n 3, 1) := by decide +kernel
theorem dX9_needs_26 : decode cX9_needs 26 = .ok (.aload_n 0, 1) := by decide +kernel
theorem dX9_needs_27 : decode cX9_needs 27 = .ok (.getfield 147, 3) := by decide +kernel
theorem dX9_needs_30 : decode cX9_needs 30 = .ok (.iload_n 3, 1) := by decide +kernel
theorem dX9_needs_31 : decode cX9_needs 31 = .ok (.invokestatic 156, 3) := by decide +kernel
theorem dX9_needs_34 : decode cX9_needs 34 = .ok (.ifCond .eq 7, 3) := by decide +kernel
theorem dX9_needs_37 : decode cX9_needs 37 = .ok (.iconst 3, 1) := by decide +kernel
theorem dX9_needs_38 : decode cX9_needs 38 = .ok (.goto 4, 3) := by decide +kernel
theorem dX9_needs_41 : decode cX9_needs 41 = .ok (.iconst 0, 1) := by decide +kernel
theorem dX9_needs_42 : decode cX9_needs 42 = .ok (.istore 4, 2) := by decide +kernel
theorem dX9_needs_44 : decode cX9_needs 44 = .ok (.aload_n 0, 1) := by decide +kernel
theorem dX9_needs_45 : decode cX9_needs 45 = .ok (.getfield 44, 3) := by decide +kernel
theorem dX9_needs_48 : decode cX9_needs 48 = .ok (.iload_n 3, 1) := by decide +kernel
theorem dX9_needs_49 : decode cX9_needs 49 = .ok (.iaload, 1) := by decide +kernel
theorem dX9_needs_50 : decode cX9_needs 50 = .ok (.ifCond .le 7, 3) := by decide +kernel
theorem dX9_needs_53 : decode cX9_needs 53 = .ok (.iconst 0, 1) := by decide +kernel
theorem dX9_needs_54 : decode cX9_needs 54 = .ok (.goto 7, 3) := by decide +kernel
theorem dX9_needs_57 : decode cX9_needs 57 = .ok (.bipush 20, 2) := by decide +kernel
theorem dX9_needs_59 : decode cX9_needs 59 = .ok (.iload_n 2, 1) := by decide +kernel
theorem dX9_needs_60 : decode cX9_needs 60 = .ok (.iadd, 1) := by decide +kernel
theorem dX9_needs_61 : decode cX9_needs 61 = .ok (.istore 5, 2) := by decide +kernel
theorem dX9_needs_63 : decode cX9_needs 63 = .ok (.aload_n 0, 1) := by decide +kernel
theorem dX9_needs_64 : decode cX9_needs 64 = .ok (.getfield 25, 3) := by decide +kernel
theorem dX9_needs_67 : decode cX9_needs 67 = .ok (.iconst 4, 1) := by decide +kernel
theorem dX9_needs_68 : decode cX9_needs 68 = .ok (.iconst 3, 1) := by decide +kernel
theorem dX9_needs_69 : decode cX9_needs 69 = .ok (.iload_n 1, 1) := by decide +kernel
theorem dX9_needs_70 : decode cX9_needs 70 = .ok (.imul, 1) := by decide +kernel
theorem dX9_needs_71 : decode cX9_needs 71 = .ok (.iadd, 1) := by decide +kernel
theorem dX9_needs_72 : decode cX9_needs 72 = .ok (.iaload, 1) := by decide +kernel
theorem dX9_needs_73 : decode cX9_needs 73 = .ok (.tableswitch 79 1 4 #[31, 36, 43, 73], 31) := by decide +kernel
theorem dX9_needs_104 : decode cX9_needs 104 = .ok (.iload_n 2, 1) := by decide +kernel
theorem dX9_needs_105 : decode cX9_needs 105 = .ok (.iload 4, 2) := by decide +kernel
theorem dX9_needs_107 : decode cX9_needs 107 = .ok (.iadd, 1) := by decide +kernel
theorem dX9_needs_108 : decode cX9_needs 108 = .ok (.ireturn, 1) := by decide +kernel
theorem dX9_needs_109 : decode cX9_needs 109 = .ok (.iconst 2, 1) := by decide +kernel
theorem dX9_needs_110 : decode cX9_needs 110 = .ok (.iload_n 2, 1) := by decide +kernel
theorem dX9_needs_111 : decode cX9_needs 111 = .ok (.imul, 1) := by decide +kernel
theorem dX9_needs_112 : decode cX9_needs 112 = .ok (.iload 4, 2) := by decide +kernel
theorem dX9_needs_114 : decode cX9_needs 114 = .ok (.iadd, 1) := by decide +kernel
theorem dX9_needs_115 : decode cX9_needs 115 = .ok (.ireturn, 1) := by decide +kernel
theorem dX9_needs_116 : decode cX9_needs 116 = .ok (.iload_n 2, 1) := by decide +kernel
theorem dX9_needs_117 : decode cX9_needs 117 = .ok (.iconst 2, 1) := by decide +kernel
theorem dX9_needs_118 : decode cX9_needs 118 = .ok (.aload_n 0, 1) := by decide +kernel
theorem dX9_needs_119 : decode cX9_needs 119 = .ok (.getfield 44, 3) := by decide +kernel
theorem dX9_needs_122 : decode cX9_needs 122 = .ok (.iload_n 3, 1) := by decide +kernel
theorem dX9_needs_123 : decode cX9_needs 123 = .ok (.iaload, 1) := by decide +kernel
theorem dX9_needs_124 : decode cX9_needs 124 = .ok (.imul, 1) := by decide +kernel
theorem dX9_needs_125 : decode cX9_needs 125 = .ok (.if_icmp .le 16, 3) := by decide +kernel
theorem dX9_needs_128 : decode cX9_needs 128 = .ok (.iload_n 2, 1) := by decide +kernel
theorem dX9_needs_129 : decode cX9_needs 129 = .ok (.iconst 2, 1) := by decide +kernel
theorem dX9_needs_130 : decode cX9_needs 130 = .ok (.aload_n 0, 1) := by decide +kernel
theorem dX9_needs_131 : decode cX9_needs 131 = .ok (.getfield 44, 3) := by decide +kernel
theorem dX9_needs_134 : decode cX9_needs 134 = .ok (.iload_n 3, 1) := by decide +kernel
theorem dX9_needs_135 : decode cX9_needs 135 = .ok (.iaload, 1) := by decide +kernel
theorem dX9_needs_136 : decode cX9_needs 136 = .ok (.imul, 1) := by decide +kernel
theorem dX9_needs_137 : decode cX9_needs 137 = .ok (.isub, 1) := by decide +kernel
theorem dX9_needs_138 : decode cX9_needs 138 = .ok (.goto 4, 3) := by decide +kernel
theorem dX9_needs_141 : decode cX9_needs 141 = .ok (.iconst 0, 1) := by decide +kernel
theorem dX9_needs_142 : decode cX9_needs 142 = .ok (.iload 4, 2) := by decide +kernel
theorem dX9_needs_144 : decode cX9_needs 144 = .ok (.iadd, 1) := by decide +kernel
theorem dX9_needs_145 : decode cX9_needs 145 = .ok (.ireturn, 1) := by decide +kernel
theorem dX9_needs_146 : decode cX9_needs 146 = .ok (.iload 5, 2) := by decide +kernel
theorem dX9_needs_148 : decode cX9_needs 148 = .ok (.iload 4, 2) := by decide +kernel
theorem dX9_needs_150 : decode cX9_needs 150 = .ok (.iadd, 1) := by decide +kernel
theorem dX9_needs_151 : decode cX9_needs 151 = .ok (.ireturn, 1) := by decide +kernel
theorem dX9_needs_152 : decode cX9_needs 152 = .ok (.aload_n 0, 1) := by decide +kernel
theorem dX9_needs_153 : decode cX9_needs 153 = .ok (.getfield 153, 3) := by decide +kernel
theorem dX9_needs_156 : decode cX9_needs 156 = .ok (.iconst 2, 1) := by decide +kernel
theorem dX9_needs_157 : decode cX9_needs 157 = .ok (.if_icmp .ge 8, 3) := by decide +kernel
theorem dX9_needs_160 : decode cX9_needs 160 = .ok (.bipush 99, 2) := by decide +kernel
theorem dX9_needs_162 : decode cX9_needs 162 = .ok (.goto 5, 3) := by decide +kernel
theorem dX9_needs_165 : decode cX9_needs 165 = .ok (.iload 5, 2) := by decide +kernel
theorem dX9_needs_167 : decode cX9_needs 167 = .ok (.iload 4, 2) := by decide +kernel
theorem dX9_needs_169 : decode cX9_needs 169 = .ok (.iadd, 1) := by decide +kernel
theorem dX9_needs_170 : decode cX9_needs 170 = .ok (.ireturn, 1) := by decide +kernel
theorem dX9_wouldNod_0 : decode cX9_wouldNod 0 = .ok (.aload_n 0, 1) := by decide +kernel
theorem dX9_wouldNod_1 : decode cX9_wouldNod 1 = .ok (.getfield 144, 3) := by decide +kernel
theorem dX9_wouldNod_4 : decode cX9_wouldNod 4 = .ok (.aload_n 0, 1) := by decide +kernel
theorem dX9_wouldNod_5 : decode cX9_wouldNod 5 = .ok (.iload_n 1, 1) := by decide +kernel
theorem dX9_wouldNod_6 : decode cX9_wouldNod 6 = .ok (.invokevirtual 160, 3) := by decide +kernel
theorem dX9_wouldNod_9 : decode cX9_wouldNod 9 = .ok (.if_icmp .lt 7, 3) := by decide +kernel
theorem dX9_wouldNod_12 : decode cX9_wouldNod 12 = .ok (.iconst 1, 1) := by decide +kernel
theorem dX9_wouldNod_13 : decode cX9_wouldNod 13 = .ok (.goto 4, 3) := by decide +kernel
theorem dX9_wouldNod_16 : decode cX9_wouldNod 16 = .ok (.iconst 0, 1) := by decide +kernel
theorem dX9_wouldNod_17 : decode cX9_wouldNod 17 = .ok (.ireturn, 1) := by decide +kernel
theorem dX9_hears_0 : decode cX9_hears 0 = .ok (.aload_n 0, 1) := by decide +kernel
theorem dX9_hears_1 : decode cX9_hears 1 = .ok (.dup, 1) := by decide +kernel
theorem dX9_hears_2 : decode cX9_hears 2 = .ok (.getfield 153, 3) := by decide +kernel
theorem dX9_hears_5 : decode cX9_hears 5 = .ok (.iconst 1, 1) := by decide +kernel
theorem dX9_hears_6 : decode cX9_hears 6 = .ok (.iadd, 1) := by decide +kernel
theorem dX9_hears_7 : decode cX9_hears 7 = .ok (.putfield 153, 3) := by decide +kernel
theorem dX9_hears_10 : decode cX9_hears 10 = .ok (.iload_n 2, 1) := by decide +kernel
theorem dX9_hears_11 : decode cX9_hears 11 = .ok (.ifCond .eq 51, 3) := by decide +kernel
theorem dX9_hears_14 : decode cX9_hears 14 = .ok (.aload_n 0, 1) := by decide +kernel
theorem dX9_hears_15 : decode cX9_hears 15 = .ok (.getfield 44, 3) := by decide +kernel
theorem dX9_hears_18 : decode cX9_hears 18 = .ok (.aload_n 0, 1) := by decide +kernel
theorem dX9_hears_19 : decode cX9_hears 19 = .ok (.getfield 25, 3) := by decide +kernel
theorem dX9_hears_22 : decode cX9_hears 22 = .ok (.iconst 4, 1) := by decide +kernel
theorem dX9_hears_23 : decode cX9_hears 23 = .ok (.iconst 3, 1) := by decide +kernel
theorem dX9_hears_24 : decode cX9_hears 24 = .ok (.iload_n 1, 1) := by decide +kernel
theorem dX9_hears_25 : decode cX9_hears 25 = .ok (.imul, 1) := by decide +kernel
theorem dX9_hears_26 : decode cX9_hears 26 = .ok (.iadd, 1) := by decide +kernel
theorem dX9_hears_27 : decode cX9_hears 27 = .ok (.iconst 2, 1) := by decide +kernel
theorem dX9_hears_28 : decode cX9_hears 28 = .ok (.iadd, 1) := by decide +kernel
theorem dX9_hears_29 : decode cX9_hears 29 = .ok (.iaload, 1) := by decide +kernel
theorem dX9_hears_30 : decode cX9_hears 30 = .ok (.dup2, 1) := by decide +kernel
theorem dX9_hears_31 : decode cX9_hears 31 = .ok (.iaload, 1) := by decide +kernel
theorem dX9_hears_32 : decode cX9_hears 32 = .ok (.iconst 1, 1) := by decide +kernel
theorem dX9_hears_33 : decode cX9_hears 33 = .ok (.iadd, 1) := by decide +kernel
theorem dX9_hears_34 : decode cX9_hears 34 = .ok (.iastore, 1) := by decide +kernel
theorem dX9_hears_35 : decode cX9_hears 35 = .ok (.aload_n 0, 1) := by decide +kernel
theorem dX9_hears_36 : decode cX9_hears 36 = .ok (.aload_n 0, 1) := by decide +kernel
theorem dX9_hears_37 : decode cX9_hears 37 = .ok (.getfield 144, 3) := by decide +kernel
theorem dX9_hears_40 : decode cX9_hears 40 = .ok (.bipush 20, 2) := by decide +kernel
theorem dX9_hears_42 : decode cX9_hears 42 = .ok (.if_icmp .ge 12, 3) := by decide +kernel
theorem dX9_hears_45 : decode cX9_hears 45 = .ok (.aload_n 0, 1) := by decide +kernel
theorem dX9_hears_46 : decode cX9_hears 46 = .ok (.getfield 144, 3) := by decide +kernel
theorem dX9_hears_49 : decode cX9_hears 49 = .ok (.iconst 1, 1) := by decide +kernel
theorem dX9_hears_50 : decode cX9_hears 50 = .ok (.iadd, 1) := by decide +kernel
theorem dX9_hears_51 : decode cX9_hears 51 = .ok (.goto 5, 3) := by decide +kernel
theorem dX9_hears_54 : decode cX9_hears 54 = .ok (.bipush 20, 2) := by decide +kernel
theorem dX9_hears_56 : decode cX9_hears 56 = .ok (.putfield 144, 3) := by decide +kernel
theorem dX9_hears_59 : decode cX9_hears 59 = .ok (.goto 42, 3) := by decide +kernel
theorem dX9_hears_62 : decode cX9_hears 62 = .ok (.aload_n 0, 1) := by decide +kernel
theorem dX9_hears_63 : decode cX9_hears 63 = .ok (.getfield 25, 3) := by decide +kernel
theorem dX9_hears_66 : decode cX9_hears 66 = .ok (.iconst 4, 1) := by decide +kernel
theorem dX9_hears_67 : decode cX9_hears 67 = .ok (.iconst 3, 1) := by decide +kernel
theorem dX9_hears_68 : decode cX9_hears 68 = .ok (.iload_n 1, 1) := by decide +kernel
theorem dX9_hears_69 : decode cX9_hears 69 = .ok (.imul, 1) := by decide +kernel
theorem dX9_hears_70 : decode cX9_hears 70 = .ok (.iadd, 1) := by decide +kernel
theorem dX9_hears_71 : decode cX9_hears 71 = .ok (.iconst 1, 1) := by decide +kernel
theorem dX9_hears_72 : decode cX9_hears 72 = .ok (.iadd, 1) := by decide +kernel
theorem dX9_hears_73 : decode cX9_hears 73 = .ok (.iaload, 1) := by decide +kernel
theorem dX9_hears_74 : decode cX9_hears 74 = .ok (.iconst 4, 1) := by decide +kernel
theorem dX9_hears_75 : decode cX9_hears 75 = .ok (.idiv, 1) := by decide +kernel
theorem dX9_hears_76 : decode cX9_hears 76 = .ok (.iconst 1, 1) := by decide +kernel
theorem dX9_hears_77 : decode cX9_hears 77 = .ok (.iadd, 1) := by decide +kernel
theorem dX9_hears_78 : decode cX9_hears 78 = .ok (.istore_n 3, 1) := by decide +kernel
theorem dX9_hears_79 : decode cX9_hears 79 = .ok (.aload_n 0, 1) := by decide +kernel
theorem dX9_hears_80 : decode cX9_hears 80 = .ok (.aload_n 0, 1) := by decide +kernel
theorem dX9_hears_81 : decode cX9_hears 81 = .ok (.getfield 144, 3) := by decide +kernel
theorem dX9_hears_84 : decode cX9_hears 84 = .ok (.iload_n 3, 1) := by decide +kernel
theorem dX9_hears_85 : decode cX9_hears 85 = .ok (.if_icmp .le 12, 3) := by decide +kernel
theorem dX9_hears_88 : decode cX9_hears 88 = .ok (.aload_n 0, 1) := by decide +kernel
theorem dX9_hears_89 : decode cX9_hears 89 = .ok (.getfield 144, 3) := by decide +kernel
theorem dX9_hears_92 : decode cX9_hears 92 = .ok (.iload_n 3, 1) := by decide +kernel
theorem dX9_hears_93 : decode cX9_hears 93 = .ok (.isub, 1) := by decide +kernel
theorem dX9_hears_94 : decode cX9_hears 94 = .ok (.goto 4, 3) := by decide +kernel
theorem dX9_hears_97 : decode cX9_hears 97 = .ok (.iconst 0, 1) := by decide +kernel
theorem dX9_hears_98 : decode cX9_hears 98 = .ok (.putfield 144, 3) := by decide +kernel
theorem dX9_hears_101 : decode cX9_hears 101 = .ok (.return_, 1) := by decide +kernel
theorem dX9_notes_0 : decode cX9_notes 0 = .ok (.aload_n 0, 1) := by decide +kernel
theorem dX9_notes_1 : decode cX9_notes 1 = .ok (.getfield 141, 3) := by decide +kernel
theorem dX9_notes_4 : decode cX9_notes 4 = .ok (.bipush 24, 2) := by decide +kernel
theorem dX9_notes_6 : decode cX9_notes 6 = .ok (.if_icmp .ne 43, 3) := by decide +kernel
theorem dX9_notes_9 : decode cX9_notes 9 = .ok (.iconst 0, 1) := by decide +kernel
theorem dX9_notes_10 : decode cX9_notes 10 = .ok (.istore_n 1, 1) := by decide +kernel
theorem dX9_notes_11 : decode cX9_notes 11 = .ok (.iload_n 1, 1) := by decide +kernel
theorem dX9_notes_12 : decode cX9_notes 12 = .ok (.sipush 874, 3) := by decide +kernel
theorem dX9_notes_15 : decode cX9_notes 15 = .ok (.if_icmp .ge 24, 3) := by decide +kernel
theorem dX9_notes_18 : decode cX9_notes 18 = .ok (.aload_n 0, 1) := by decide +kernel
theorem dX9_notes_19 : decode cX9_notes 19 = .ok (.getfield 31, 3) := by decide +kernel
theorem dX9_notes_22 : decode cX9_notes 22 = .ok (.iload_n 1, 1) := by decide +kernel
theorem dX9_notes_23 : decode cX9_notes 23 = .ok (.aload_n 0, 1) := by decide +kernel
theorem dX9_notes_24 : decode cX9_notes 24 = .ok (.getfield 31, 3) := by decide +kernel
theorem dX9_notes_27 : decode cX9_notes 27 = .ok (.iload_n 1, 1) := by decide +kernel
theorem dX9_notes_28 : decode cX9_notes 28 = .ok (.bipush 38, 2) := by decide +kernel
theorem dX9_notes_30 : decode cX9_notes 30 = .ok (.iadd, 1) := by decide +kernel
theorem dX9_notes_31 : decode cX9_notes 31 = .ok (.iaload, 1) := by decide +kernel
theorem dX9_notes_32 : decode cX9_notes 32 = .ok (.iastore, 1) := by decide +kernel
theorem dX9_notes_33 : decode cX9_notes 33 = .ok (.iinc 1 1, 3) := by decide +kernel
theorem dX9_notes_36 : decode cX9_notes 36 = .ok (.goto (-25), 3) := by decide +kernel
theorem dX9_notes_39 : decode cX9_notes 39 = .ok (.aload_n 0, 1) := by decide +kernel
theorem dX9_notes_40 : decode cX9_notes 40 = .ok (.dup, 1) := by decide +kernel
theorem dX9_notes_41 : decode cX9_notes 41 = .ok (.getfield 141, 3) := by decide +kernel
theorem dX9_notes_44 : decode cX9_notes 44 = .ok (.iconst 1, 1) := by decide +kernel
theorem dX9_notes_45 : decode cX9_notes 45 = .ok (.isub, 1) := by decide +kernel
theorem dX9_notes_46 : decode cX9_notes 46 = .ok (.putfield 141, 3) := by decide +kernel
theorem dX9_notes_49 : decode cX9_notes 49 = .ok (.aload_n 0, 1) := by decide +kernel
theorem dX9_notes_50 : decode cX9_notes 50 = .ok (.getfield 25, 3) := by decide +kernel
theorem dX9_notes_53 : decode cX9_notes 53 = .ok (.iconst 0, 1) := by decide +kernel
theorem dX9_notes_54 : decode cX9_notes 54 = .ok (.aload_n 0, 1) := by decide +kernel
theorem dX9_notes_55 : decode cX9_notes 55 = .ok (.getfield 31, 3) := by decide +kernel
theorem dX9_notes_58 : decode cX9_notes 58 = .ok (.bipush 38, 2) := by decide +kernel
theorem dX9_notes_60 : decode cX9_notes 60 = .ok (.aload_n 0, 1) := by decide +kernel
theorem dX9_notes_61 : decode cX9_notes 61 = .ok (.getfield 141, 3) := by decide +kernel
theorem dX9_notes_64 : decode cX9_notes 64 = .ok (.imul, 1) := by decide +kernel
theorem dX9_notes_65 : decode cX9_notes 65 = .ok (.invokestatic 137, 3) := by decide +kernel
theorem dX9_notes_68 : decode cX9_notes 68 = .ok (.aload_n 0, 1) := by decide +kernel
theorem dX9_notes_69 : decode cX9_notes 69 = .ok (.dup, 1) := by decide +kernel
theorem dX9_notes_70 : decode cX9_notes 70 = .ok (.getfield 141, 3) := by decide +kernel
theorem dX9_notes_73 : decode cX9_notes 73 = .ok (.iconst 1, 1) := by decide +kernel
theorem dX9_notes_74 : decode cX9_notes 74 = .ok (.iadd, 1) := by decide +kernel
theorem dX9_notes_75 : decode cX9_notes 75 = .ok (.putfield 141, 3) := by decide +kernel
theorem dX9_notes_78 : decode cX9_notes 78 = .ok (.return_, 1) := by decide +kernel
theorem dX9_wasTold_0 : decode cX9_wasTold 0 = .ok (.aload_n 0, 1) := by decide +kernel
theorem dX9_wasTold_1 : decode cX9_wasTold 1 = .ok (.getfield 25, 3) := by decide +kernel
theorem dX9_wasTold_4 : decode cX9_wasTold 4 = .ok (.bipush 22, 2) := by decide +kernel
theorem dX9_wasTold_6 : decode cX9_wasTold 6 = .ok (.iconst 4, 1) := by decide +kernel
theorem dX9_wasTold_7 : decode cX9_wasTold 7 = .ok (.iload_n 1, 1) := by decide +kernel
theorem dX9_wasTold_8 : decode cX9_wasTold 8 = .ok (.imul, 1) := by decide +kernel
theorem dX9_wasTold_9 : decode cX9_wasTold 9 = .ok (.iadd, 1) := by decide +kernel
theorem dX9_wasTold_10 : decode cX9_wasTold 10 = .ok (.iconst 2, 1) := by decide +kernel
theorem dX9_wasTold_11 : decode cX9_wasTold 11 = .ok (.iadd, 1) := by decide +kernel
theorem dX9_wasTold_12 : decode cX9_wasTold 12 = .ok (.iaload, 1) := by decide +kernel
theorem dX9_wasTold_13 : decode cX9_wasTold 13 = .ok (.iload_n 2, 1) := by decide +kernel
theorem dX9_wasTold_14 : decode cX9_wasTold 14 = .ok (.invokestatic 156, 3) := by decide +kernel
theorem dX9_wasTold_17 : decode cX9_wasTold 17 = .ok (.ireturn, 1) := by decide +kernel
theorem dX9_tell_0 : decode cX9_tell 0 = .ok (.aload_n 0, 1) := by decide +kernel
theorem dX9_tell_1 : decode cX9_tell 1 = .ok (.iload_n 1, 1) := by decide +kernel
theorem dX9_tell_2 : decode cX9_tell 2 = .ok (.invokevirtual 163, 3) := by decide +kernel
theorem dX9_tell_5 : decode cX9_tell 5 = .ok (.ifCond .eq 11, 3) := by decide +kernel
theorem dX9_tell_8 : decode cX9_tell 8 = .ok (.aload_n 0, 1) := by decide +kernel
theorem dX9_tell_9 : decode cX9_tell 9 = .ok (.iload_n 2, 1) := by decide +kernel
theorem dX9_tell_10 : decode cX9_tell 10 = .ok (.invokevirtual 166, 3) := by decide +kernel
theorem dX9_tell_13 : decode cX9_tell 13 = .ok (.ifCond .ne 6, 3) := by decide +kernel
theorem dX9_tell_16 : decode cX9_tell 16 = .ok (.ldc 67, 2) := by decide +kernel
theorem dX9_tell_18 : decode cX9_tell 18 = .ok (.ireturn, 1) := by decide +kernel
theorem dX9_tell_19 : decode cX9_tell 19 = .ok (.aload_n 0, 1) := by decide +kernel
theorem dX9_tell_20 : decode cX9_tell 20 = .ok (.iload_n 1, 1) := by decide +kernel
theorem dX9_tell_21 : decode cX9_tell 21 = .ok (.iload_n 2, 1) := by decide +kernel
theorem dX9_tell_22 : decode cX9_tell 22 = .ok (.invokevirtual 169, 3) := by decide +kernel
theorem dX9_tell_25 : decode cX9_tell 25 = .ok (.ifCond .eq 6, 3) := by decide +kernel
theorem dX9_tell_28 : decode cX9_tell 28 = .ok (.ldc 172, 2) := by decide +kernel
theorem dX9_tell_30 : decode cX9_tell 30 = .ok (.ireturn, 1) := by decide +kernel
theorem dX9_tell_31 : decode cX9_tell 31 = .ok (.aload_n 0, 1) := by decide +kernel
theorem dX9_tell_32 : decode cX9_tell 32 = .ok (.invokevirtual 173, 3) := by decide +kernel
theorem dX9_tell_35 : decode cX9_tell 35 = .ok (.bipush 22, 2) := by decide +kernel
theorem dX9_tell_37 : decode cX9_tell 37 = .ok (.iconst 4, 1) := by decide +kernel
theorem dX9_tell_38 : decode cX9_tell 38 = .ok (.iload_n 1, 1) := by decide +kernel
theorem dX9_tell_39 : decode cX9_tell 39 = .ok (.imul, 1) := by decide +kernel
theorem dX9_tell_40 : decode cX9_tell 40 = .ok (.iadd, 1) := by decide +kernel
theorem dX9_tell_41 : decode cX9_tell 41 = .ok (.istore_n 3, 1) := by decide +kernel
theorem dX9_tell_42 : decode cX9_tell 42 = .ok (.aload_n 0, 1) := by decide +kernel
theorem dX9_tell_43 : decode cX9_tell 43 = .ok (.iload_n 1, 1) := by decide +kernel
theorem dX9_tell_44 : decode cX9_tell 44 = .ok (.invokevirtual 176, 3) := by decide +kernel
theorem dX9_tell_47 : decode cX9_tell 47 = .ok (.aload_n 0, 1) := by decide +kernel
theorem dX9_tell_48 : decode cX9_tell 48 = .ok (.iload_n 2, 1) := by decide +kernel
theorem dX9_tell_49 : decode cX9_tell 49 = .ok (.invokevirtual 180, 3) := by decide +kernel
theorem dX9_tell_52 : decode cX9_tell 52 = .ok (.istore 4, 2) := by decide +kernel
theorem dX9_tell_54 : decode cX9_tell 54 = .ok (.aload_n 0, 1) := by decide +kernel
theorem dX9_tell_55 : decode cX9_tell 55 = .ok (.iload_n 2, 1) := by decide +kernel
theorem dX9_tell_56 : decode cX9_tell 56 = .ok (.iload 4, 2) := by decide +kernel
theorem dX9_tell_58 : decode cX9_tell 58 = .ok (.invokevirtual 183, 3) := by decide +kernel
theorem dX9_tell_61 : decode cX9_tell 61 = .ok (.aload_n 0, 1) := by decide +kernel
theorem dX9_tell_62 : decode cX9_tell 62 = .ok (.getfield 25, 3) := by decide +kernel
theorem dX9_tell_65 : decode cX9_tell 65 = .ok (.iload_n 3, 1) := by decide +kernel
theorem dX9_tell_66 : decode cX9_tell 66 = .ok (.iconst 0, 1) := by decide +kernel
theorem dX9_tell_67 : decode cX9_tell 67 = .ok (.iadd, 1) := by decide +kernel
theorem dX9_tell_68 : decode cX9_tell 68 = .ok (.aload_n 0, 1) := by decide +kernel
theorem dX9_tell_69 : decode cX9_tell 69 = .ok (.getfield 144, 3) := by decide +kernel
theorem dX9_tell_72 : decode cX9_tell 72 = .ok (.iastore, 1) := by decide +kernel
theorem dX9_tell_73 : decode cX9_tell 73 = .ok (.aload_n 0, 1) := by decide +kernel
theorem dX9_tell_74 : decode cX9_tell 74 = .ok (.getfield 25, 3) := by decide +kernel
theorem dX9_tell_77 : decode cX9_tell 77 = .ok (.iload_n 3, 1) := by decide +kernel
theorem dX9_tell_78 : decode cX9_tell 78 = .ok (.iconst 2, 1) := by decide +kernel
theorem dX9_tell_79 : decode cX9_tell 79 = .ok (.iadd, 1) := by decide +kernel
theorem dX9_tell_80 : decode cX9_tell 80 = .ok (.dup2, 1) := by decide +kernel
theorem dX9_tell_81 : decode cX9_tell 81 = .ok (.iaload, 1) := by decide +kernel
theorem dX9_tell_82 : decode cX9_tell 82 = .ok (.iconst 1, 1) := by decide +kernel
theorem dX9_tell_83 : decode cX9_tell 83 = .ok (.iload_n 2, 1) := by decide +kernel
theorem dX9_tell_84 : decode cX9_tell 84 = .ok (.ishl, 1) := by decide +kernel
theorem dX9_tell_85 : decode cX9_tell 85 = .ok (.ior, 1) := by decide +kernel
theorem dX9_tell_86 : decode cX9_tell 86 = .ok (.iastore, 1) := by decide +kernel
theorem dX9_tell_87 : decode cX9_tell 87 = .ok (.aload_n 0, 1) := by decide +kernel
theorem dX9_tell_88 : decode cX9_tell 88 = .ok (.getfield 25, 3) := by decide +kernel
theorem dX9_tell_91 : decode cX9_tell 91 = .ok (.iload_n 3, 1) := by decide +kernel
theorem dX9_tell_92 : decode cX9_tell 92 = .ok (.iconst 3, 1) := by decide +kernel
theorem dX9_tell_93 : decode cX9_tell 93 = .ok (.iadd, 1) := by decide +kernel
theorem dX9_tell_94 : decode cX9_tell 94 = .ok (.dup2, 1) := by decide +kernel
theorem dX9_tell_95 : decode cX9_tell 95 = .ok (.iaload, 1) := by decide +kernel
theorem dX9_tell_96 : decode cX9_tell 96 = .ok (.iload 4, 2) := by decide +kernel
theorem dX9_tell_98 : decode cX9_tell 98 = .ok (.ifCond .eq 9, 3) := by decide +kernel
theorem dX9_tell_101 : decode cX9_tell 101 = .ok (.iconst 1, 1) := by decide +kernel
theorem dX9_tell_102 : decode cX9_tell 102 = .ok (.iload_n 2, 1) := by decide +kernel
theorem dX9_tell_103 : decode cX9_tell 103 = .ok (.ishl, 1) := by decide +kernel
theorem dX9_tell_104 : decode cX9_tell 104 = .ok (.goto 4, 3) := by decide +kernel
theorem dX9_tell_107 : decode cX9_tell 107 = .ok (.iconst 0, 1) := by decide +kernel
theorem dX9_tell_108 : decode cX9_tell 108 = .ok (.ior, 1) := by decide +kernel
theorem dX9_tell_109 : decode cX9_tell 109 = .ok (.iastore, 1) := by decide +kernel
theorem dX9_tell_110 : decode cX9_tell 110 = .ok (.aload_n 0, 1) := by decide +kernel
theorem dX9_tell_111 : decode cX9_tell 111 = .ok (.getfield 25, 3) := by decide +kernel
theorem dX9_tell_114 : decode cX9_tell 114 = .ok (.iconst 1, 1) := by decide +kernel
theorem dX9_tell_115 : decode cX9_tell 115 = .ok (.dup2, 1) := by decide +kernel
theorem dX9_tell_116 : decode cX9_tell 116 = .ok (.iaload, 1) := by decide +kernel
theorem dX9_tell_117 : decode cX9_tell 117 = .ok (.iload 4, 2) := by decide +kernel
theorem dX9_tell_119 : decode cX9_tell 119 = .ok (.ifCond .eq 12, 3) := by decide +kernel
theorem dX9_tell_122 : decode cX9_tell 122 = .ok (.aload_n 0, 1) := by decide +kernel
theorem dX9_tell_123 : decode cX9_tell 123 = .ok (.getfield 25, 3) := by decide +kernel
theorem dX9_tell_126 : decode cX9_tell 126 = .ok (.iconst 0, 1) := by decide +kernel
theorem dX9_tell_127 : decode cX9_tell 127 = .ok (.iaload, 1) := by decide +kernel
theorem dX9_tell_128 : decode cX9_tell 128 = .ok (.goto 10, 3) := by decide +kernel
theorem dX9_tell_131 : decode cX9_tell 131 = .ok (.aload_n 0, 1) := by decide +kernel
theorem dX9_tell_132 : decode cX9_tell 132 = .ok (.getfield 25, 3) := by decide +kernel
theorem dX9_tell_135 : decode cX9_tell 135 = .ok (.iconst 0, 1) := by decide +kernel
theorem dX9_tell_136 : decode cX9_tell 136 = .ok (.iaload, 1) := by decide +kernel
theorem dX9_tell_137 : decode cX9_tell 137 = .ok (.ineg, 1) := by decide +kernel
theorem dX9_tell_138 : decode cX9_tell 138 = .ok (.iadd, 1) := by decide +kernel
theorem dX9_tell_139 : decode cX9_tell 139 = .ok (.iastore, 1) := by decide +kernel
theorem dX9_tell_140 : decode cX9_tell 140 = .ok (.iload 4, 2) := by decide +kernel
theorem dX9_tell_142 : decode cX9_tell 142 = .ok (.ifCond .eq 7, 3) := by decide +kernel
theorem dX9_tell_145 : decode cX9_tell 145 = .ok (.iconst 1, 1) := by decide +kernel
theorem dX9_tell_146 : decode cX9_tell 146 = .ok (.goto 4, 3) := by decide +kernel
theorem dX9_tell_149 : decode cX9_tell 149 = .ok (.iconst 0, 1) := by decide +kernel
theorem dX9_tell_150 : decode cX9_tell 150 = .ok (.ireturn, 1) := by decide +kernel
theorem dX9_supper_0 : decode cX9_supper 0 = .ok (.aload_n 0, 1) := by decide +kernel
theorem dX9_supper_1 : decode cX9_supper 1 = .ok (.iload_n 1, 1) := by decide +kernel
theorem dX9_supper_2 : decode cX9_supper 2 = .ok (.invokevirtual 163, 3) := by decide +kernel
theorem dX9_supper_5 : decode cX9_supper 5 = .ok (.ifCond .ne 6, 3) := by decide +kernel
theorem dX9_supper_8 : decode cX9_supper 8 = .ok (.ldc 67, 2) := by decide +kernel
theorem dX9_supper_10 : decode cX9_supper 10 = .ok (.ireturn, 1) := by decide +kernel
theorem dX9_supper_11 : decode cX9_supper 11 = .ok (.aload_n 0, 1) := by decide +kernel
theorem dX9_supper_12 : decode cX9_supper 12 = .ok (.invokevirtual 173, 3) := by decide +kernel
theorem dX9_supper_15 : decode cX9_supper 15 = .ok (.bipush 22, 2) := by decide +kernel
theorem dX9_supper_17 : decode cX9_supper 17 = .ok (.iconst 4, 1) := by decide +kernel
theorem dX9_supper_18 : decode cX9_supper 18 = .ok (.iload_n 1, 1) := by decide +kernel
theorem dX9_supper_19 : decode cX9_supper 19 = .ok (.imul, 1) := by decide +kernel
theorem dX9_supper_20 : decode cX9_supper 20 = .ok (.iadd, 1) := by decide +kernel
theorem dX9_supper_21 : decode cX9_supper 21 = .ok (.iconst 0, 1) := by decide +kernel
theorem dX9_supper_22 : decode cX9_supper 22 = .ok (.iadd, 1) := by decide +kernel
theorem dX9_supper_23 : decode cX9_supper 23 = .ok (.istore_n 2, 1) := by decide +kernel
theorem dX9_supper_24 : decode cX9_supper 24 = .ok (.aload_n 0, 1) := by decide +kernel
theorem dX9_supper_25 : decode cX9_supper 25 = .ok (.getfield 25, 3) := by decide +kernel
theorem dX9_supper_28 : decode cX9_supper 28 = .ok (.iload_n 2, 1) := by decide +kernel
theorem dX9_supper_29 : decode cX9_supper 29 = .ok (.aload_n 0, 1) := by decide +kernel
theorem dX9_supper_30 : decode cX9_supper 30 = .ok (.getfield 25, 3) := by decide +kernel
theorem dX9_supper_33 : decode cX9_supper 33 = .ok (.iload_n 2, 1) := by decide +kernel
theorem dX9_supper_34 : decode cX9_supper 34 = .ok (.iaload, 1) := by decide +kernel
theorem dX9_supper_35 : decode cX9_supper 35 = .ok (.bipush 18, 2) := by decide +kernel
theorem dX9_supper_37 : decode cX9_supper 37 = .ok (.if_icmp .ge 14, 3) := by decide +kernel
theorem dX9_supper_40 : decode cX9_supper 40 = .ok (.aload_n 0, 1) := by decide +kernel
theorem dX9_supper_41 : decode cX9_supper 41 = .ok (.getfield 25, 3) := by decide +kernel
theorem dX9_supper_44 : decode cX9_supper 44 = .ok (.iload_n 2, 1) := by decide +kernel
theorem dX9_supper_45 : decode cX9_supper 45 = .ok (.iaload, 1) := by decide +kernel
theorem dX9_supper_46 : decode cX9_supper 46 = .ok (.iconst 2, 1) := by decide +kernel
theorem dX9_supper_47 : decode cX9_supper 47 = .ok (.iadd, 1) := by decide +kernel
theorem dX9_supper_48 : decode cX9_supper 48 = .ok (.goto 5, 3) := by decide +kernel
theorem dX9_supper_51 : decode cX9_supper 51 = .ok (.bipush 20, 2) := by decide +kernel
theorem dX9_supper_53 : decode cX9_supper 53 = .ok (.iastore, 1) := by decide +kernel
theorem dX9_supper_54 : decode cX9_supper 54 = .ok (.aload_n 0, 1) := by decide +kernel
theorem dX9_supper_55 : decode cX9_supper 55 = .ok (.getfield 25, 3) := by decide +kernel
theorem dX9_supper_58 : decode cX9_supper 58 = .ok (.iconst 1, 1) := by decide +kernel
theorem dX9_supper_59 : decode cX9_supper 59 = .ok (.dup2, 1) := by decide +kernel
theorem dX9_supper_60 : decode cX9_supper 60 = .ok (.iaload, 1) := by decide +kernel
theorem dX9_supper_61 : decode cX9_supper 61 = .ok (.iconst 1, 1) := by decide +kernel
theorem dX9_supper_62 : decode cX9_supper 62 = .ok (.isub, 1) := by decide +kernel
theorem dX9_supper_63 : decode cX9_supper 63 = .ok (.iastore, 1) := by decide +kernel
theorem dX9_supper_64 : decode cX9_supper 64 = .ok (.aload_n 0, 1) := by decide +kernel
theorem dX9_supper_65 : decode cX9_supper 65 = .ok (.getfield 25, 3) := by decide +kernel
theorem dX9_supper_68 : decode cX9_supper 68 = .ok (.iload_n 2, 1) := by decide +kernel
theorem dX9_supper_69 : decode cX9_supper 69 = .ok (.iaload, 1) := by decide +kernel
theorem dX9_supper_70 : decode cX9_supper 70 = .ok (.ireturn, 1) := by decide +kernel
theorem dX9_forget_0 : decode cX9_forget 0 = .ok (.aload_n 0, 1) := by decide +kernel
theorem dX9_forget_1 : decode cX9_forget 1 = .ok (.iload_n 1, 1) := by decide +kernel
theorem dX9_forget_2 : decode cX9_forget 2 = .ok (.invokevirtual 163, 3) := by decide +kernel
theorem dX9_forget_5 : decode cX9_forget 5 = .ok (.ifCond .eq 11, 3) := by decide +kernel
theorem dX9_forget_8 : decode cX9_forget 8 = .ok (.aload_n 0, 1) := by decide +kernel
theorem dX9_forget_9 : decode cX9_forget 9 = .ok (.iload_n 2, 1) := by decide +kernel
theorem dX9_forget_10 : decode cX9_forget 10 = .ok (.invokevirtual 166, 3) := by decide +kernel
theorem dX9_forget_13 : decode cX9_forget 13 = .ok (.ifCond .ne 6, 3) := by decide +kernel
theorem dX9_forget_16 : decode cX9_forget 16 = .ok (.ldc 67, 2) := by decide +kernel
theorem dX9_forget_18 : decode cX9_forget 18 = .ok (.ireturn, 1) := by decide +kernel
theorem dX9_forget_19 : decode cX9_forget 19 = .ok (.aload_n 0, 1) := by decide +kernel
theorem dX9_forget_20 : decode cX9_forget 20 = .ok (.iload_n 1, 1) := by decide +kernel
theorem dX9_forget_21 : decode cX9_forget 21 = .ok (.iload_n 2, 1) := by decide +kernel
theorem dX9_forget_22 : decode cX9_forget 22 = .ok (.invokevirtual 169, 3) := by decide +kernel
theorem dX9_forget_25 : decode cX9_forget 25 = .ok (.ifCond .ne 6, 3) := by decide +kernel
theorem dX9_forget_28 : decode cX9_forget 28 = .ok (.ldc 172, 2) := by decide +kernel
theorem dX9_forget_30 : decode cX9_forget 30 = .ok (.ireturn, 1) := by decide +kernel
theorem dX9_forget_31 : decode cX9_forget 31 = .ok (.aload_n 0, 1) := by decide +kernel
theorem dX9_forget_32 : decode cX9_forget 32 = .ok (.invokevirtual 173, 3) := by decide +kernel
theorem dX9_forget_35 : decode cX9_forget 35 = .ok (.bipush 22, 2) := by decide +kernel
theorem dX9_forget_37 : decode cX9_forget 37 = .ok (.iconst 4, 1) := by decide +kernel
theorem dX9_forget_38 : decode cX9_forget 38 = .ok (.iload_n 1, 1) := by decide +kernel
theorem dX9_forget_39 : decode cX9_forget 39 = .ok (.imul, 1) := by decide +kernel
theorem dX9_forget_40 : decode cX9_forget 40 = .ok (.iadd, 1) := by decide +kernel
theorem dX9_forget_41 : decode cX9_forget 41 = .ok (.istore_n 3, 1) := by decide +kernel
theorem dX9_forget_42 : decode cX9_forget 42 = .ok (.aload_n 0, 1) := by decide +kernel
theorem dX9_forget_43 : decode cX9_forget 43 = .ok (.getfield 25, 3) := by decide +kernel
theorem dX9_forget_46 : decode cX9_forget 46 = .ok (.iload_n 3, 1) := by decide +kernel
theorem dX9_forget_47 : decode cX9_forget 47 = .ok (.iconst 2, 1) := by decide +kernel
theorem dX9_forget_48 : decode cX9_forget 48 = .ok (.iadd, 1) := by decide +kernel
theorem dX9_forget_49 : decode cX9_forget 49 = .ok (.dup2, 1) := by decide +kernel
theorem dX9_forget_50 : decode cX9_forget 50 = .ok (.iaload, 1) := by decide +kernel
theorem dX9_forget_51 : decode cX9_forget 51 = .ok (.iconst 1, 1) := by decide +kernel
theorem dX9_forget_52 : decode cX9_forget 52 = .ok (.iload_n 2, 1) := by decide +kernel
theorem dX9_forget_53 : decode cX9_forget 53 = .ok (.ishl, 1) := by decide +kernel
theorem dX9_forget_54 : decode cX9_forget 54 = .ok (.iconst (-1), 1) := by decide +kernel
theorem dX9_forget_55 : decode cX9_forget 55 = .ok (.ixor, 1) := by decide +kernel
theorem dX9_forget_56 : decode cX9_forget 56 = .ok (.iand, 1) := by decide +kernel
theorem dX9_forget_57 : decode cX9_forget 57 = .ok (.iastore, 1) := by decide +kernel
theorem dX9_forget_58 : decode cX9_forget 58 = .ok (.aload_n 0, 1) := by decide +kernel
theorem dX9_forget_59 : decode cX9_forget 59 = .ok (.getfield 25, 3) := by decide +kernel
theorem dX9_forget_62 : decode cX9_forget 62 = .ok (.iload_n 3, 1) := by decide +kernel
theorem dX9_forget_63 : decode cX9_forget 63 = .ok (.iconst 3, 1) := by decide +kernel
theorem dX9_forget_64 : decode cX9_forget 64 = .ok (.iadd, 1) := by decide +kernel
theorem dX9_forget_65 : decode cX9_forget 65 = .ok (.dup2, 1) := by decide +kernel
theorem dX9_forget_66 : decode cX9_forget 66 = .ok (.iaload, 1) := by decide +kernel
theorem dX9_forget_67 : decode cX9_forget 67 = .ok (.iconst 1, 1) := by decide +kernel
theorem dX9_forget_68 : decode cX9_forget 68 = .ok (.iload_n 2, 1) := by decide +kernel
theorem dX9_forget_69 : decode cX9_forget 69 = .ok (.ishl, 1) := by decide +kernel
theorem dX9_forget_70 : decode cX9_forget 70 = .ok (.iconst (-1), 1) := by decide +kernel
theorem dX9_forget_71 : decode cX9_forget 71 = .ok (.ixor, 1) := by decide +kernel
theorem dX9_forget_72 : decode cX9_forget 72 = .ok (.iand, 1) := by decide +kernel
theorem dX9_forget_73 : decode cX9_forget 73 = .ok (.iastore, 1) := by decide +kernel
theorem dX9_forget_74 : decode cX9_forget 74 = .ok (.aload_n 0, 1) := by decide +kernel
theorem dX9_forget_75 : decode cX9_forget 75 = .ok (.getfield 25, 3) := by decide +kernel
theorem dX9_forget_78 : decode cX9_forget 78 = .ok (.iload_n 3, 1) := by decide +kernel
theorem dX9_forget_79 : decode cX9_forget 79 = .ok (.iconst 2, 1) := by decide +kernel
theorem dX9_forget_80 : decode cX9_forget 80 = .ok (.iadd, 1) := by decide +kernel
theorem dX9_forget_81 : decode cX9_forget 81 = .ok (.iaload, 1) := by decide +kernel
theorem dX9_forget_82 : decode cX9_forget 82 = .ok (.invokestatic 150, 3) := by decide +kernel
theorem dX9_forget_85 : decode cX9_forget 85 = .ok (.ireturn, 1) := by decide +kernel
theorem dX9_undo_0 : decode cX9_undo 0 = .ok (.aload_n 0, 1) := by decide +kernel
theorem dX9_undo_1 : decode cX9_undo 1 = .ok (.getfield 141, 3) := by decide +kernel
theorem dX9_undo_4 : decode cX9_undo 4 = .ok (.ifCond .ne 6, 3) := by decide +kernel
theorem dX9_undo_7 : decode cX9_undo 7 = .ok (.ldc 172, 2) := by decide +kernel
theorem dX9_undo_9 : decode cX9_undo 9 = .ok (.ireturn, 1) := by decide +kernel
theorem dX9_undo_10 : decode cX9_undo 10 = .ok (.aload_n 0, 1) := by decide +kernel
theorem dX9_undo_11 : decode cX9_undo 11 = .ok (.dup, 1) := by decide +kernel
theorem dX9_undo_12 : decode cX9_undo 12 = .ok (.getfield 141, 3) := by decide +kernel
theorem dX9_undo_15 : decode cX9_undo 15 = .ok (.iconst 1, 1) := by decide +kernel
theorem dX9_undo_16 : decode cX9_undo 16 = .ok (.isub, 1) := by decide +kernel
theorem dX9_undo_17 : decode cX9_undo 17 = .ok (.putfield 141, 3) := by decide +kernel
theorem dX9_undo_20 : decode cX9_undo 20 = .ok (.aload_n 0, 1) := by decide +kernel
theorem dX9_undo_21 : decode cX9_undo 21 = .ok (.getfield 31, 3) := by decide +kernel
theorem dX9_undo_24 : decode cX9_undo 24 = .ok (.bipush 38, 2) := by decide +kernel
theorem dX9_undo_26 : decode cX9_undo 26 = .ok (.aload_n 0, 1) := by decide +kernel
theorem dX9_undo_27 : decode cX9_undo 27 = .ok (.getfield 141, 3) := by decide +kernel
theorem dX9_undo_30 : decode cX9_undo 30 = .ok (.imul, 1) := by decide +kernel
theorem dX9_undo_31 : decode cX9_undo 31 = .ok (.aload_n 0, 1) := by decide +kernel
theorem dX9_undo_32 : decode cX9_undo 32 = .ok (.getfield 25, 3) := by decide +kernel
theorem dX9_undo_35 : decode cX9_undo 35 = .ok (.iconst 0, 1) := by decide +kernel
theorem dX9_undo_36 : decode cX9_undo 36 = .ok (.invokestatic 137, 3) := by decide +kernel
theorem dX9_undo_39 : decode cX9_undo 39 = .ok (.aload_n 0, 1) := by decide +kernel
theorem dX9_undo_40 : decode cX9_undo 40 = .ok (.getfield 141, 3) := by decide +kernel
theorem dX9_undo_43 : decode cX9_undo 43 = .ok (.ireturn, 1) := by decide +kernel
theorem dX9_strangersWith_0 : decode cX9_strangersWith 0 = .ok (.iconst 0, 1) := by decide +kernel
theorem dX9_strangersWith_1 : decode cX9_strangersWith 1 = .ok (.istore_n 3, 1) := by decide +kernel
theorem dX9_strangersWith_2 : decode cX9_strangersWith 2 = .ok (.iconst 0, 1) := by decide +kernel
theorem dX9_strangersWith_3 : decode cX9_strangersWith 3 = .ok (.istore 4, 2) := by decide +kernel
theorem dX9_strangersWith_5 : decode cX9_strangersWith 5 = .ok (.iload 4, 2) := by decide +kernel
theorem dX9_strangersWith_7 : decode cX9_strangersWith 7 = .ok (.aload_n 0, 1) := by decide +kernel
theorem dX9_strangersWith_8 : decode cX9_strangersWith 8 = .ok (.getfield 25, 3) := by decide +kernel
theorem dX9_strangersWith_11 : decode cX9_strangersWith 11 = .ok (.iconst 3, 1) := by decide +kernel
theorem dX9_strangersWith_12 : decode cX9_strangersWith 12 = .ok (.iaload, 1) := by decide +kernel
theorem dX9_strangersWith_13 : decode cX9_strangersWith 13 = .ok (.if_icmp .ge 38, 3) := by decide +kernel
theorem dX9_strangersWith_16 : decode cX9_strangersWith 16 = .ok (.iload_n 3, 1) := by decide +kernel
theorem dX9_strangersWith_17 : decode cX9_strangersWith 17 = .ok (.aload_n 0, 1) := by decide +kernel
theorem dX9_strangersWith_18 : decode cX9_strangersWith 18 = .ok (.getfield 25, 3) := by decide +kernel
theorem dX9_strangersWith_21 : decode cX9_strangersWith 21 = .ok (.bipush 22, 2) := by decide +kernel
theorem dX9_strangersWith_23 : decode cX9_strangersWith 23 = .ok (.iconst 4, 1) := by decide +kernel
theorem dX9_strangersWith_24 : decode cX9_strangersWith 24 = .ok (.iload 4, 2) := by decide +kernel
theorem dX9_strangersWith_26 : decode cX9_strangersWith 26 = .ok (.imul, 1) := by decide +kernel
theorem dX9_strangersWith_27 : decode cX9_strangersWith 27 = .ok (.iadd, 1) := by decide +kernel
theorem dX9_strangersWith_28 : decode cX9_strangersWith 28 = .ok (.iload_n 2, 1) := by decide +kernel
theorem dX9_strangersWith_29 : decode cX9_strangersWith 29 = .ok (.iadd, 1) := by decide +kernel
theorem dX9_strangersWith_30 : decode cX9_strangersWith 30 = .ok (.iaload, 1) := by decide +kernel
theorem dX9_strangersWith_31 : decode cX9_strangersWith 31 = .ok (.iload_n 1, 1) := by decide +kernel
theorem dX9_strangersWith_32 : decode cX9_strangersWith 32 = .ok (.invokestatic 156, 3) := by decide +kernel
theorem dX9_strangersWith_35 : decode cX9_strangersWith 35 = .ok (.ifCond .eq 7, 3) := by decide +kernel
theorem dX9_strangersWith_38 : decode cX9_strangersWith 38 = .ok (.iconst 1, 1) := by decide +kernel
theorem dX9_strangersWith_39 : decode cX9_strangersWith 39 = .ok (.goto 4, 3) := by decide +kernel
theorem dX9_strangersWith_42 : decode cX9_strangersWith 42 = .ok (.iconst 0, 1) := by decide +kernel
theorem dX9_strangersWith_43 : decode cX9_strangersWith 43 = .ok (.iadd, 1) := by decide +kernel
theorem dX9_strangersWith_44 : decode cX9_strangersWith 44 = .ok (.istore_n 3, 1) := by decide +kernel
theorem dX9_strangersWith_45 : decode cX9_strangersWith 45 = .ok (.iinc 4 1, 3) := by decide +kernel
theorem dX9_strangersWith_48 : decode cX9_strangersWith 48 = .ok (.goto (-43), 3) := by decide +kernel
theorem dX9_strangersWith_51 : decode cX9_strangersWith 51 = .ok (.iload_n 3, 1) := by decide +kernel
theorem dX9_strangersWith_52 : decode cX9_strangersWith 52 = .ok (.ireturn, 1) := by decide +kernel
theorem dX9_noddedAt_0 : decode cX9_noddedAt 0 = .ok (.aload_n 0, 1) := by decide +kernel
theorem dX9_noddedAt_1 : decode cX9_noddedAt 1 = .ok (.iload_n 1, 1) := by decide +kernel
theorem dX9_noddedAt_2 : decode cX9_noddedAt 2 = .ok (.iconst 3, 1) := by decide +kernel
theorem dX9_noddedAt_3 : decode cX9_noddedAt 3 = .ok (.invokevirtual 187, 3) := by decide +kernel
theorem dX9_noddedAt_6 : decode cX9_noddedAt 6 = .ok (.ireturn, 1) := by decide +kernel
theorem dX9_lie_0 : decode cX9_lie 0 = .ok (.aload_n 0, 1) := by decide +kernel
theorem dX9_lie_1 : decode cX9_lie 1 = .ok (.iload_n 1, 1) := by decide +kernel
theorem dX9_lie_2 : decode cX9_lie 2 = .ok (.invokevirtual 166, 3) := by decide +kernel
theorem dX9_lie_5 : decode cX9_lie 5 = .ok (.ifCond .ne 6, 3) := by decide +kernel
theorem dX9_lie_8 : decode cX9_lie 8 = .ok (.ldc 67, 2) := by decide +kernel
theorem dX9_lie_10 : decode cX9_lie 10 = .ok (.ireturn, 1) := by decide +kernel
theorem dX9_lie_11 : decode cX9_lie 11 = .ok (.iload_n 2, 1) := by decide +kernel
theorem dX9_lie_12 : decode cX9_lie 12 = .ok (.tableswitch 71 0 3 #[32, 45, 58, 65], 32) := by decide +kernel
theorem dX9_lie_44 : decode cX9_lie 44 = .ok (.aload_n 0, 1) := by decide +kernel
theorem dX9_lie_45 : decode cX9_lie 45 = .ok (.getfield 25, 3) := by decide +kernel
theorem dX9_lie_48 : decode cX9_lie 48 = .ok (.iconst 4, 1) := by decide +kernel
theorem dX9_lie_49 : decode cX9_lie 49 = .ok (.iconst 3, 1) := by decide +kernel
theorem dX9_lie_50 : decode cX9_lie 50 = .ok (.iload_n 1, 1) := by decide +kernel
theorem dX9_lie_51 : decode cX9_lie 51 = .ok (.imul, 1) := by decide +kernel
theorem dX9_lie_52 : decode cX9_lie 52 = .ok (.iadd, 1) := by decide +kernel
theorem dX9_lie_53 : decode cX9_lie 53 = .ok (.iconst 1, 1) := by decide +kernel
theorem dX9_lie_54 : decode cX9_lie 54 = .ok (.iadd, 1) := by decide +kernel
theorem dX9_lie_55 : decode cX9_lie 55 = .ok (.iaload, 1) := by decide +kernel
theorem dX9_lie_56 : decode cX9_lie 56 = .ok (.ireturn, 1) := by decide +kernel
theorem dX9_lie_57 : decode cX9_lie 57 = .ok (.aload_n 0, 1) := by decide +kernel
theorem dX9_lie_58 : decode cX9_lie 58 = .ok (.getfield 25, 3) := by decide +kernel
theorem dX9_lie_61 : decode cX9_lie 61 = .ok (.iconst 4, 1) := by decide +kernel
theorem dX9_lie_62 : decode cX9_lie 62 = .ok (.iconst 3, 1) := by decide +kernel
theorem dX9_lie_63 : decode cX9_lie 63 = .ok (.iload_n 1, 1) := by decide +kernel
theorem dX9_lie_64 : decode cX9_lie 64 = .ok (.imul, 1) := by decide +kernel
theorem dX9_lie_65 : decode cX9_lie 65 = .ok (.iadd, 1) := by decide +kernel
theorem dX9_lie_66 : decode cX9_lie 66 = .ok (.iconst 2, 1) := by decide +kernel
theorem dX9_lie_67 : decode cX9_lie 67 = .ok (.iadd, 1) := by decide +kernel
theorem dX9_lie_68 : decode cX9_lie 68 = .ok (.iaload, 1) := by decide +kernel
theorem dX9_lie_69 : decode cX9_lie 69 = .ok (.ireturn, 1) := by decide +kernel
theorem dX9_lie_70 : decode cX9_lie 70 = .ok (.aload_n 0, 1) := by decide +kernel
theorem dX9_lie_71 : decode cX9_lie 71 = .ok (.iload_n 1, 1) := by decide +kernel
theorem dX9_lie_72 : decode cX9_lie 72 = .ok (.iconst 2, 1) := by decide +kernel
theorem dX9_lie_73 : decode cX9_lie 73 = .ok (.invokevirtual 187, 3) := by decide +kernel
theorem dX9_lie_76 : decode cX9_lie 76 = .ok (.ireturn, 1) := by decide +kernel
theorem dX9_lie_77 : decode cX9_lie 77 = .ok (.aload_n 0, 1) := by decide +kernel
theorem dX9_lie_78 : decode cX9_lie 78 = .ok (.iload_n 1, 1) := by decide +kernel
theorem dX9_lie_79 : decode cX9_lie 79 = .ok (.invokevirtual 190, 3) := by decide +kernel
theorem dX9_lie_82 : decode cX9_lie 82 = .ok (.ireturn, 1) := by decide +kernel
theorem dX9_lie_83 : decode cX9_lie 83 = .ok (.ldc 67, 2) := by decide +kernel
theorem dX9_lie_85 : decode cX9_lie 85 = .ok (.ireturn, 1) := by decide +kernel
theorem dX9_stranger_0 : decode cX9_stranger 0 = .ok (.aload_n 0, 1) := by decide +kernel
theorem dX9_stranger_1 : decode cX9_stranger 1 = .ok (.iload_n 1, 1) := by decide +kernel
theorem dX9_stranger_2 : decode cX9_stranger 2 = .ok (.invokevirtual 163, 3) := by decide +kernel
theorem dX9_stranger_5 : decode cX9_stranger 5 = .ok (.ifCond .eq 28, 3) := by decide +kernel
theorem dX9_stranger_8 : decode cX9_stranger 8 = .ok (.iload_n 2, 1) := by decide +kernel
theorem dX9_stranger_9 : decode cX9_stranger 9 = .ok (.iconst 0, 1) := by decide +kernel
theorem dX9_stranger_10 : decode cX9_stranger 10 = .ok (.iconst 3, 1) := by decide +kernel
theorem dX9_stranger_11 : decode cX9_stranger 11 = .ok (.invokestatic 59, 3) := by decide +kernel
theorem dX9_stranger_14 : decode cX9_stranger 14 = .ok (.ifCond .eq 19, 3) := by decide +kernel
theorem dX9_stranger_17 : decode cX9_stranger 17 = .ok (.aload_n 0, 1) := by decide +kernel
theorem dX9_stranger_18 : decode cX9_stranger 18 = .ok (.getfield 25, 3) := by decide +kernel
theorem dX9_stranger_21 : decode cX9_stranger 21 = .ok (.bipush 22, 2) := by decide +kernel
theorem dX9_stranger_23 : decode cX9_stranger 23 = .ok (.iconst 4, 1) := by decide +kernel
theorem dX9_stranger_24 : decode cX9_stranger 24 = .ok (.iload_n 1, 1) := by decide +kernel
theorem dX9_stranger_25 : decode cX9_stranger 25 = .ok (.imul, 1) := by decide +kernel
theorem dX9_stranger_26 : decode cX9_stranger 26 = .ok (.iadd, 1) := by decide +kernel
theorem dX9_stranger_27 : decode cX9_stranger 27 = .ok (.iload_n 2, 1) := by decide +kernel
theorem dX9_stranger_28 : decode cX9_stranger 28 = .ok (.iadd, 1) := by decide +kernel
theorem dX9_stranger_29 : decode cX9_stranger 29 = .ok (.iaload, 1) := by decide +kernel
theorem dX9_stranger_30 : decode cX9_stranger 30 = .ok (.goto 5, 3) := by decide +kernel
theorem dX9_stranger_33 : decode cX9_stranger 33 = .ok (.ldc 67, 2) := by decide +kernel
theorem dX9_stranger_35 : decode cX9_stranger 35 = .ok (.ireturn, 1) := by decide +kernel
theorem dX9_need_0 : decode cX9_need 0 = .ok (.aload_n 0, 1) := by decide +kernel
theorem dX9_need_1 : decode cX9_need 1 = .ok (.iload_n 1, 1) := by decide +kernel
theorem dX9_need_2 : decode cX9_need 2 = .ok (.invokevirtual 163, 3) := by decide +kernel
theorem dX9_need_5 : decode cX9_need 5 = .ok (.ifCond .eq 11, 3) := by decide +kernel
theorem dX9_need_8 : decode cX9_need 8 = .ok (.aload_n 0, 1) := by decide +kernel
theorem dX9_need_9 : decode cX9_need 9 = .ok (.iload_n 2, 1) := by decide +kernel
theorem dX9_need_10 : decode cX9_need 10 = .ok (.invokevirtual 166, 3) := by decide +kernel
theorem dX9_need_13 : decode cX9_need 13 = .ok (.ifCond .ne 6, 3) := by decide +kernel
theorem dX9_need_16 : decode cX9_need 16 = .ok (.ldc 67, 2) := by decide +kernel
theorem dX9_need_18 : decode cX9_need 18 = .ok (.ireturn, 1) := by decide +kernel
theorem dX9_need_19 : decode cX9_need 19 = .ok (.aload_n 0, 1) := by decide +kernel
theorem dX9_need_20 : decode cX9_need 20 = .ok (.iload_n 1, 1) := by decide +kernel
theorem dX9_need_21 : decode cX9_need 21 = .ok (.invokevirtual 176, 3) := by decide +kernel
theorem dX9_need_24 : decode cX9_need 24 = .ok (.aload_n 0, 1) := by decide +kernel
theorem dX9_need_25 : decode cX9_need 25 = .ok (.iload_n 2, 1) := by decide +kernel
theorem dX9_need_26 : decode cX9_need 26 = .ok (.invokevirtual 160, 3) := by decide +kernel
theorem dX9_need_29 : decode cX9_need 29 = .ok (.ireturn, 1) := by decide +kernel
theorem dX9_untold_0 : decode cX9_untold 0 = .ok (.iconst 1, 1) := by decide +kernel
theorem dX9_untold_1 : decode cX9_untold 1 = .ok (.aload_n 0, 1) := by decide +kernel
theorem dX9_untold_2 : decode cX9_untold 2 = .ok (.getfield 25, 3) := by decide +kernel
theorem dX9_untold_5 : decode cX9_untold 5 = .ok (.iconst 2, 1) := by decide +kernel
theorem dX9_untold_6 : decode cX9_untold 6 = .ok (.iaload, 1) := by decide +kernel
theorem dX9_untold_7 : decode cX9_untold 7 = .ok (.ishl, 1) := by decide +kernel
theorem dX9_untold_8 : decode cX9_untold 8 = .ok (.iconst 1, 1) := by decide +kernel
theorem dX9_untold_9 : decode cX9_untold 9 = .ok (.isub, 1) := by decide +kernel
theorem dX9_untold_10 : decode cX9_untold 10 = .ok (.aload_n 0, 1) := by decide +kernel
theorem dX9_untold_11 : decode cX9_untold 11 = .ok (.getfield 25, 3) := by decide +kernel
theorem dX9_untold_14 : decode cX9_untold 14 = .ok (.bipush 22, 2) := by decide +kernel
theorem dX9_untold_16 : decode cX9_untold 16 = .ok (.iconst 4, 1) := by decide +kernel
theorem dX9_untold_17 : decode cX9_untold 17 = .ok (.iload_n 1, 1) := by decide +kernel
theorem dX9_untold_18 : decode cX9_untold 18 = .ok (.imul, 1) := by decide +kernel
theorem dX9_untold_19 : decode cX9_untold 19 = .ok (.iadd, 1) := by decide +kernel
theorem dX9_untold_20 : decode cX9_untold 20 = .ok (.iconst 2, 1) := by decide +kernel
theorem dX9_untold_21 : decode cX9_untold 21 = .ok (.iadd, 1) := by decide +kernel
theorem dX9_untold_22 : decode cX9_untold 22 = .ok (.iaload, 1) := by decide +kernel
theorem dX9_untold_23 : decode cX9_untold 23 = .ok (.iconst (-1), 1) := by decide +kernel
theorem dX9_untold_24 : decode cX9_untold 24 = .ok (.ixor, 1) := by decide +kernel
theorem dX9_untold_25 : decode cX9_untold 25 = .ok (.iand, 1) := by decide +kernel
theorem dX9_untold_26 : decode cX9_untold 26 = .ok (.ireturn, 1) := by decide +kernel
theorem dX9_nods_0 : decode cX9_nods 0 = .ok (.aload_n 0, 1) := by decide +kernel
theorem dX9_nods_1 : decode cX9_nods 1 = .ok (.iload_n 1, 1) := by decide +kernel
theorem dX9_nods_2 : decode cX9_nods 2 = .ok (.invokevirtual 163, 3) := by decide +kernel
theorem dX9_nods_5 : decode cX9_nods 5 = .ok (.ifCond .ne 6, 3) := by decide +kernel
theorem dX9_nods_8 : decode cX9_nods 8 = .ok (.ldc 67, 2) := by decide +kernel
theorem dX9_nods_10 : decode cX9_nods 10 = .ok (.ireturn, 1) := by decide +kernel
theorem dX9_nods_11 : decode cX9_nods 11 = .ok (.aload_n 0, 1) := by decide +kernel
theorem dX9_nods_12 : decode cX9_nods 12 = .ok (.iload_n 1, 1) := by decide +kernel
theorem dX9_nods_13 : decode cX9_nods 13 = .ok (.invokevirtual 176, 3) := by decide +kernel
theorem dX9_nods_16 : decode cX9_nods 16 = .ok (.iconst 0, 1) := by decide +kernel
theorem dX9_nods_17 : decode cX9_nods 17 = .ok (.istore_n 2, 1) := by decide +kernel
theorem dX9_nods_18 : decode cX9_nods 18 = .ok (.iconst 0, 1) := by decide +kernel
theorem dX9_nods_19 : decode cX9_nods 19 = .ok (.istore_n 3, 1) := by decide +kernel
theorem dX9_nods_20 : decode cX9_nods 20 = .ok (.iload_n 3, 1) := by decide +kernel
theorem dX9_nods_21 : decode cX9_nods 21 = .ok (.aload_n 0, 1) := by decide +kernel
theorem dX9_nods_22 : decode cX9_nods 22 = .ok (.getfield 25, 3) := by decide +kernel
theorem dX9_nods_25 : decode cX9_nods 25 = .ok (.iconst 2, 1) := by decide +kernel
theorem dX9_nods_26 : decode cX9_nods 26 = .ok (.iaload, 1) := by decide +kernel
theorem dX9_nods_27 : decode cX9_nods 27 = .ok (.if_icmp .ge 39, 3) := by decide +kernel
theorem dX9_nods_30 : decode cX9_nods 30 = .ok (.iload_n 2, 1) := by decide +kernel
theorem dX9_nods_31 : decode cX9_nods 31 = .ok (.aload_n 0, 1) := by decide +kernel
theorem dX9_nods_32 : decode cX9_nods 32 = .ok (.iload_n 1, 1) := by decide +kernel
theorem dX9_nods_33 : decode cX9_nods 33 = .ok (.invokevirtual 193, 3) := by decide +kernel
theorem dX9_nods_36 : decode cX9_nods 36 = .ok (.iload_n 3, 1) := by decide +kernel
theorem dX9_nods_37 : decode cX9_nods 37 = .ok (.invokestatic 156, 3) := by decide +kernel
theorem dX9_nods_40 : decode cX9_nods 40 = .ok (.ifCond .eq 17, 3) := by decide +kernel
theorem dX9_nods_43 : decode cX9_nods 43 = .ok (.aload_n 0, 1) := by decide +kernel
theorem dX9_nods_44 : decode cX9_nods 44 = .ok (.iload_n 3, 1) := by decide +kernel
theorem dX9_nods_45 : decode cX9_nods 45 = .ok (.invokevirtual 180, 3) := by decide +kernel
theorem dX9_nods_48 : decode cX9_nods 48 = .ok (.ifCond .eq 9, 3) := by decide +kernel
theorem dX9_nods_51 : decode cX9_nods 51 = .ok (.iconst 1, 1) := by decide +kernel
theorem dX9_nods_52 : decode cX9_nods 52 = .ok (.iload_n 3, 1) := by decide +kernel
theorem dX9_nods_53 : decode cX9_nods 53 = .ok (.ishl, 1) := by decide +kernel
theorem dX9_nods_54 : decode cX9_nods 54 = .ok (.goto 4, 3) := by decide +kernel
theorem dX9_nods_57 : decode cX9_nods 57 = .ok (.iconst 0, 1) := by decide +kernel
theorem dX9_nods_58 : decode cX9_nods 58 = .ok (.ior, 1) := by decide +kernel
theorem dX9_nods_59 : decode cX9_nods 59 = .ok (.istore_n 2, 1) := by decide +kernel
theorem dX9_nods_60 : decode cX9_nods 60 = .ok (.iinc 3 1, 3) := by decide +kernel
theorem dX9_nods_63 : decode cX9_nods 63 = .ok (.goto (-43), 3) := by decide +kernel
theorem dX9_nods_66 : decode cX9_nods 66 = .ok (.iload_n 2, 1) := by decide +kernel
theorem dX9_nods_67 : decode cX9_nods 67 = .ok (.ireturn, 1) := by decide +kernel
theorem dX9_nodsAt_0 : decode cX9_nodsAt 0 = .ok (.aload_n 0, 1) := by decide +kernel
theorem dX9_nodsAt_1 : decode cX9_nodsAt 1 = .ok (.iload_n 1, 1) := by decide +kernel
theorem dX9_nodsAt_2 : decode cX9_nodsAt 2 = .ok (.invokevirtual 176, 3) := by decide +kernel
theorem dX9_nodsAt_5 : decode cX9_nodsAt 5 = .ok (.iconst 0, 1) := by decide +kernel
theorem dX9_nodsAt_6 : decode cX9_nodsAt 6 = .ok (.istore_n 3, 1) := by decide +kernel
theorem dX9_nodsAt_7 : decode cX9_nodsAt 7 = .ok (.iconst 0, 1) := by decide +kernel
theorem dX9_nodsAt_8 : decode cX9_nodsAt 8 = .ok (.istore 4, 2) := by decide +kernel
theorem dX9_nodsAt_10 : decode cX9_nodsAt 10 = .ok (.iload 4, 2) := by decide +kernel
theorem dX9_nodsAt_12 : decode cX9_nodsAt 12 = .ok (.iload_n 2, 1) := by decide +kernel
theorem dX9_nodsAt_13 : decode cX9_nodsAt 13 = .ok (.if_icmp .ge 48, 3) := by decide +kernel
theorem dX9_nodsAt_16 : decode cX9_nodsAt 16 = .ok (.aload_n 0, 1) := by decide +kernel
theorem dX9_nodsAt_17 : decode cX9_nodsAt 17 = .ok (.aload_n 0, 1) := by decide +kernel
theorem dX9_nodsAt_18 : decode cX9_nodsAt 18 = .ok (.getfield 47, 3) := by decide +kernel
theorem dX9_nodsAt_21 : decode cX9_nodsAt 21 = .ok (.iload 4, 2) := by decide +kernel
theorem dX9_nodsAt_23 : decode cX9_nodsAt 23 = .ok (.iaload, 1) := by decide +kernel
theorem dX9_nodsAt_24 : decode cX9_nodsAt 24 = .ok (.invokevirtual 180, 3) := by decide +kernel
theorem dX9_nodsAt_27 : decode cX9_nodsAt 27 = .ok (.istore 5, 2) := by decide +kernel
theorem dX9_nodsAt_29 : decode cX9_nodsAt 29 = .ok (.aload_n 0, 1) := by decide +kernel
theorem dX9_nodsAt_30 : decode cX9_nodsAt 30 = .ok (.aload_n 0, 1) := by decide +kernel
theorem dX9_nodsAt_31 : decode cX9_nodsAt 31 = .ok (.getfield 47, 3) := by decide +kernel
theorem dX9_nodsAt_34 : decode cX9_nodsAt 34 = .ok (.iload 4, 2) := by decide +kernel
theorem dX9_nodsAt_36 : decode cX9_nodsAt 36 = .ok (.iaload, 1) := by decide +kernel
theorem dX9_nodsAt_37 : decode cX9_nodsAt 37 = .ok (.iload 5, 2) := by decide +kernel
theorem dX9_nodsAt_39 : decode cX9_nodsAt 39 = .ok (.invokevirtual 183, 3) := by decide +kernel
theorem dX9_nodsAt_42 : decode cX9_nodsAt 42 = .ok (.iload_n 3, 1) := by decide +kernel
theorem dX9_nodsAt_43 : decode cX9_nodsAt 43 = .ok (.iload 5, 2) := by decide +kernel
theorem dX9_nodsAt_45 : decode cX9_nodsAt 45 = .ok (.ifCond .eq 7, 3) := by decide +kernel
theorem dX9_nodsAt_48 : decode cX9_nodsAt 48 = .ok (.iconst 1, 1) := by decide +kernel
theorem dX9_nodsAt_49 : decode cX9_nodsAt 49 = .ok (.goto 4, 3) := by decide +kernel
theorem dX9_nodsAt_52 : decode cX9_nodsAt 52 = .ok (.iconst 0, 1) := by decide +kernel
theorem dX9_nodsAt_53 : decode cX9_nodsAt 53 = .ok (.iadd, 1) := by decide +kernel
theorem dX9_nodsAt_54 : decode cX9_nodsAt 54 = .ok (.istore_n 3, 1) := by decide +kernel
theorem dX9_nodsAt_55 : decode cX9_nodsAt 55 = .ok (.iinc 4 1, 3) := by decide +kernel
theorem dX9_nodsAt_58 : decode cX9_nodsAt 58 = .ok (.goto (-48), 3) := by decide +kernel
theorem dX9_nodsAt_61 : decode cX9_nodsAt 61 = .ok (.iload_n 3, 1) := by decide +kernel
theorem dX9_nodsAt_62 : decode cX9_nodsAt 62 = .ok (.ireturn, 1) := by decide +kernel
theorem dX9_goesOn_0 : decode cX9_goesOn 0 = .ok (.iload_n 2, 1) := by decide +kernel
theorem dX9_goesOn_1 : decode cX9_goesOn 1 = .ok (.iconst 1, 1) := by decide +kernel
theorem dX9_goesOn_2 : decode cX9_goesOn 2 = .ok (.isub, 1) := by decide +kernel
theorem dX9_goesOn_3 : decode cX9_goesOn 3 = .ok (.istore_n 3, 1) := by decide +kernel
theorem dX9_goesOn_4 : decode cX9_goesOn 4 = .ok (.iconst 0, 1) := by decide +kernel
theorem dX9_goesOn_5 : decode cX9_goesOn 5 = .ok (.istore 4, 2) := by decide +kernel
theorem dX9_goesOn_7 : decode cX9_goesOn 7 = .ok (.iconst 0, 1) := by decide +kernel
theorem dX9_goesOn_8 : decode cX9_goesOn 8 = .ok (.istore 5, 2) := by decide +kernel
theorem dX9_goesOn_10 : decode cX9_goesOn 10 = .ok (.iload 5, 2) := by decide +kernel
theorem dX9_goesOn_12 : decode cX9_goesOn 12 = .ok (.iload_n 2, 1) := by decide +kernel
theorem dX9_goesOn_13 : decode cX9_goesOn 13 = .ok (.if_icmp .ge 23, 3) := by decide +kernel
theorem dX9_goesOn_16 : decode cX9_goesOn 16 = .ok (.iload 4, 2) := by decide +kernel
theorem dX9_goesOn_18 : decode cX9_goesOn 18 = .ok (.iconst 1, 1) := by decide +kernel
theorem dX9_goesOn_19 : decode cX9_goesOn 19 = .ok (.aload_n 0, 1) := by decide +kernel
theorem dX9_goesOn_20 : decode cX9_goesOn 20 = .ok (.getfield 47, 3) := by decide +kernel
theorem dX9_goesOn_23 : decode cX9_goesOn 23 = .ok (.iload 5, 2) := by decide +kernel
theorem dX9_goesOn_25 : decode cX9_goesOn 25 = .ok (.iaload, 1) := by decide +kernel
theorem dX9_goesOn_26 : decode cX9_goesOn 26 = .ok (.ishl, 1) := by decide +kernel
theorem dX9_goesOn_27 : decode cX9_goesOn 27 = .ok (.ior, 1) := by decide +kernel
theorem dX9_goesOn_28 : decode cX9_goesOn 28 = .ok (.istore 4, 2) := by decide +kernel
theorem dX9_goesOn_30 : decode cX9_goesOn 30 = .ok (.iinc 5 1, 3) := by decide +kernel
theorem dX9_goesOn_33 : decode cX9_goesOn 33 = .ok (.goto (-23), 3) := by decide +kernel
theorem dX9_goesOn_36 : decode cX9_goesOn 36 = .ok (.iload_n 3, 1) := by decide +kernel
theorem dX9_goesOn_37 : decode cX9_goesOn 37 = .ok (.ifCond .lt 103, 3) := by decide +kernel
theorem dX9_goesOn_40 : decode cX9_goesOn 40 = .ok (.iload 4, 2) := by decide +kernel
theorem dX9_goesOn_42 : decode cX9_goesOn 42 = .ok (.iconst 1, 1) := by decide +kernel
theorem dX9_goesOn_43 : decode cX9_goesOn 43 = .ok (.aload_n 0, 1) := by decide +kernel
theorem dX9_goesOn_44 : decode cX9_goesOn 44 = .ok (.getfield 47, 3) := by decide +kernel
theorem dX9_goesOn_47 : decode cX9_goesOn 47 = .ok (.iload_n 3, 1) := by decide +kernel
theorem dX9_goesOn_48 : decode cX9_goesOn 48 = .ok (.iaload, 1) := by decide +kernel
theorem dX9_goesOn_49 : decode cX9_goesOn 49 = .ok (.ishl, 1) := by decide +kernel
theorem dX9_goesOn_50 : decode cX9_goesOn 50 = .ok (.iconst (-1), 1) := by decide +kernel
theorem dX9_goesOn_51 : decode cX9_goesOn 51 = .ok (.ixor, 1) := by decide +kernel
theorem dX9_goesOn_52 : decode cX9_goesOn 52 = .ok (.iand, 1) := by decide +kernel
theorem dX9_goesOn_53 : decode cX9_goesOn 53 = .ok (.istore 4, 2) := by decide +kernel
theorem dX9_goesOn_55 : decode cX9_goesOn 55 = .ok (.aload_n 0, 1) := by decide +kernel
theorem dX9_goesOn_56 : decode cX9_goesOn 56 = .ok (.getfield 47, 3) := by decide +kernel
theorem dX9_goesOn_59 : decode cX9_goesOn 59 = .ok (.iload_n 3, 1) := by decide +kernel
theorem dX9_goesOn_60 : decode cX9_goesOn 60 = .ok (.iaload, 1) := by decide +kernel
theorem dX9_goesOn_61 : decode cX9_goesOn 61 = .ok (.iconst 1, 1) := by decide +kernel
theorem dX9_goesOn_62 : decode cX9_goesOn 62 = .ok (.iadd, 1) := by decide +kernel
theorem dX9_goesOn_63 : decode cX9_goesOn 63 = .ok (.istore 5, 2) := by decide +kernel
theorem dX9_goesOn_65 : decode cX9_goesOn 65 = .ok (.iload 5, 2) := by decide +kernel
theorem dX9_goesOn_67 : decode cX9_goesOn 67 = .ok (.bipush 6, 2) := by decide +kernel
theorem dX9_goesOn_69 : decode cX9_goesOn 69 = .ok (.if_icmp .ge 28, 3) := by decide +kernel
theorem dX9_goesOn_72 : decode cX9_goesOn 72 = .ok (.iload_n 1, 1) := by decide +kernel
theorem dX9_goesOn_73 : decode cX9_goesOn 73 = .ok (.iload 5, 2) := by decide +kernel
theorem dX9_goesOn_75 : decode cX9_goesOn 75 = .ok (.invokestatic 156, 3) := by decide +kernel
theorem dX9_goesOn_78 : decode cX9_goesOn 78 = .ok (.ifCond .eq 13, 3) := by decide +kernel
theorem dX9_goesOn_81 : decode cX9_goesOn 81 = .ok (.iload 4, 2) := by decide +kernel
theorem dX9_goesOn_83 : decode cX9_goesOn 83 = .ok (.iload 5, 2) := by decide +kernel
theorem dX9_goesOn_85 : decode cX9_goesOn 85 = .ok (.invokestatic 156, 3) := by decide +kernel
theorem dX9_goesOn_88 : decode cX9_goesOn 88 = .ok (.ifCond .eq 9, 3) := by decide +kernel
theorem dX9_goesOn_91 : decode cX9_goesOn 91 = .ok (.iinc 5 1, 3) := by decide +kernel
theorem dX9_goesOn_94 : decode cX9_goesOn 94 = .ok (.goto (-29), 3) := by decide +kernel
theorem dX9_goesOn_97 : decode cX9_goesOn 97 = .ok (.iload 5, 2) := by decide +kernel
theorem dX9_goesOn_99 : decode cX9_goesOn 99 = .ok (.bipush 6, 2) := by decide +kernel
theorem dX9_goesOn_101 : decode cX9_goesOn 101 = .ok (.if_icmp .ge 33, 3) := by decide +kernel
theorem dX9_goesOn_104 : decode cX9_goesOn 104 = .ok (.aload_n 0, 1) := by decide +kernel
theorem dX9_goesOn_105 : decode cX9_goesOn 105 = .ok (.getfield 47, 3) := by decide +kernel
theorem dX9_goesOn_108 : decode cX9_goesOn 108 = .ok (.iload_n 3, 1) := by decide +kernel
theorem dX9_goesOn_109 : decode cX9_goesOn 109 = .ok (.iload 5, 2) := by decide +kernel
theorem dX9_goesOn_111 : decode cX9_goesOn 111 = .ok (.iastore, 1) := by decide +kernel
theorem dX9_goesOn_112 : decode cX9_goesOn 112 = .ok (.iload 4, 2) := by decide +kernel
theorem dX9_goesOn_114 : decode cX9_goesOn 114 = .ok (.iconst 1, 1) := by decide +kernel
theorem dX9_goesOn_115 : decode cX9_goesOn 115 = .ok (.iload 5, 2) := by decide +kernel
theorem dX9_goesOn_117 : decode cX9_goesOn 117 = .ok (.ishl, 1) := by decide +kernel
theorem dX9_goesOn_118 : decode cX9_goesOn 118 = .ok (.ior, 1) := by decide +kernel
theorem dX9_goesOn_119 : decode cX9_goesOn 119 = .ok (.istore 4, 2) := by decide +kernel
theorem dX9_goesOn_121 : decode cX9_goesOn 121 = .ok (.aload_n 0, 1) := by decide +kernel
theorem dX9_goesOn_122 : decode cX9_goesOn 122 = .ok (.iload_n 1, 1) := by decide +kernel
theorem dX9_goesOn_123 : decode cX9_goesOn 123 = .ok (.iload 4, 2) := by decide +kernel
theorem dX9_goesOn_125 : decode cX9_goesOn 125 = .ok (.iload_n 3, 1) := by decide +kernel
theorem dX9_goesOn_126 : decode cX9_goesOn 126 = .ok (.iconst 1, 1) := by decide +kernel
theorem dX9_goesOn_127 : decode cX9_goesOn 127 = .ok (.iadd, 1) := by decide +kernel
theorem dX9_goesOn_128 : decode cX9_goesOn 128 = .ok (.iload_n 2, 1) := by decide +kernel
theorem dX9_goesOn_129 : decode cX9_goesOn 129 = .ok (.invokevirtual 196, 3) := by decide +kernel
theorem dX9_goesOn_132 : decode cX9_goesOn 132 = .ok (.iconst 1, 1) := by decide +kernel
theorem dX9_goesOn_133 : decode cX9_goesOn 133 = .ok (.ireturn, 1) := by decide +kernel
theorem dX9_goesOn_134 : decode cX9_goesOn 134 = .ok (.iinc 3 (-1), 3) := by decide +kernel
theorem dX9_goesOn_137 : decode cX9_goesOn 137 = .ok (.goto (-101), 3) := by decide +kernel
theorem dX9_goesOn_140 : decode cX9_goesOn 140 = .ok (.iconst 0, 1) := by decide +kernel
theorem dX9_goesOn_141 : decode cX9_goesOn 141 = .ok (.ireturn, 1) := by decide +kernel
theorem dX9_fills_0 : decode cX9_fills 0 = .ok (.iload_n 2, 1) := by decide +kernel
theorem dX9_fills_1 : decode cX9_fills 1 = .ok (.istore 5, 2) := by decide +kernel
theorem dX9_fills_3 : decode cX9_fills 3 = .ok (.iload_n 3, 1) := by decide +kernel
theorem dX9_fills_4 : decode cX9_fills 4 = .ok (.istore 6, 2) := by decide +kernel
theorem dX9_fills_6 : decode cX9_fills 6 = .ok (.iload 6, 2) := by decide +kernel
theorem dX9_fills_8 : decode cX9_fills 8 = .ok (.iload 4, 2) := by decide +kernel
theorem dX9_fills_10 : decode cX9_fills 10 = .ok (.if_icmp .ge 55, 3) := by decide +kernel
theorem dX9_fills_13 : decode cX9_fills 13 = .ok (.iconst 0, 1) := by decide +kernel
theorem dX9_fills_14 : decode cX9_fills 14 = .ok (.istore 7, 2) := by decide +kernel
theorem dX9_fills_16 : decode cX9_fills 16 = .ok (.iload_n 1, 1) := by decide +kernel
theorem dX9_fills_17 : decode cX9_fills 17 = .ok (.iload 7, 2) := by decide +kernel
theorem dX9_fills_19 : decode cX9_fills 19 = .ok (.invokestatic 156, 3) := by decide +kernel
theorem dX9_fills_22 : decode cX9_fills 22 = .ok (.ifCond .eq 13, 3) := by decide +kernel
theorem dX9_fills_25 : decode cX9_fills 25 = .ok (.iload 5, 2) := by decide +kernel
theorem dX9_fills_27 : decode cX9_fills 27 = .ok (.iload 7, 2) := by decide +kernel
theorem dX9_fills_29 : decode cX9_fills 29 = .ok (.invokestatic 156, 3) := by decide +kernel
theorem dX9_fills_32 : decode cX9_fills 32 = .ok (.ifCond .eq 9, 3) := by decide +kernel
theorem dX9_fills_35 : decode cX9_fills 35 = .ok (.iinc 7 1, 3) := by decide +kernel
theorem dX9_fills_38 : decode cX9_fills 38 = .ok (.goto (-22), 3) := by decide +kernel
theorem dX9_fills_41 : decode cX9_fills 41 = .ok (.aload_n 0, 1) := by decide +kernel
theorem dX9_fills_42 : decode cX9_fills 42 = .ok (.getfield 47, 3) := by decide +kernel
theorem dX9_fills_45 : decode cX9_fills 45 = .ok (.iload 6, 2) := by decide +kernel
theorem dX9_fills_47 : decode cX9_fills 47 = .ok (.iload 7, 2) := by decide +kernel
theorem dX9_fills_49 : decode cX9_fills 49 = .ok (.iastore, 1) := by decide +kernel
theorem dX9_fills_50 : decode cX9_fills 50 = .ok (.iload 5, 2) := by decide +kernel
theorem dX9_fills_52 : decode cX9_fills 52 = .ok (.iconst 1, 1) := by decide +kernel
theorem dX9_fills_53 : decode cX9_fills 53 = .ok (.iload 7, 2) := by decide +kernel
theorem dX9_fills_55 : decode cX9_fills 55 = .ok (.ishl, 1) := by decide +kernel
theorem dX9_fills_56 : decode cX9_fills 56 = .ok (.ior, 1) := by decide +kernel
theorem dX9_fills_57 : decode cX9_fills 57 = .ok (.istore 5, 2) := by decide +kernel
theorem dX9_fills_59 : decode cX9_fills 59 = .ok (.iinc 6 1, 3) := by decide +kernel
theorem dX9_fills_62 : decode cX9_fills 62 = .ok (.goto (-56), 3) := by decide +kernel
theorem dX9_fills_65 : decode cX9_fills 65 = .ok (.return_, 1) := by decide +kernel
theorem dX9_order_0 : decode cX9_order 0 = .ok (.aload_n 0, 1) := by decide +kernel
theorem dX9_order_1 : decode cX9_order 1 = .ok (.iload_n 1, 1) := by decide +kernel
theorem dX9_order_2 : decode cX9_order 2 = .ok (.invokevirtual 163, 3) := by decide +kernel
theorem dX9_order_5 : decode cX9_order 5 = .ok (.ifCond .eq 30, 3) := by decide +kernel
theorem dX9_order_8 : decode cX9_order 8 = .ok (.iload_n 2, 1) := by decide +kernel
theorem dX9_order_9 : decode cX9_order 9 = .ok (.iconst 0, 1) := by decide +kernel
theorem dX9_order_10 : decode cX9_order 10 = .ok (.iconst 1, 1) := by decide +kernel
theorem dX9_order_11 : decode cX9_order 11 = .ok (.aload_n 0, 1) := by decide +kernel
theorem dX9_order_12 : decode cX9_order 12 = .ok (.getfield 25, 3) := by decide +kernel
theorem dX9_order_15 : decode cX9_order 15 = .ok (.iconst 2, 1) := by decide +kernel
theorem dX9_order_16 : decode cX9_order 16 = .ok (.iaload, 1) := by decide +kernel
theorem dX9_order_17 : decode cX9_order 17 = .ok (.ishl, 1) := by decide +kernel
theorem dX9_order_18 : decode cX9_order 18 = .ok (.iconst 1, 1) := by decide +kernel
theorem dX9_order_19 : decode cX9_order 19 = .ok (.isub, 1) := by decide +kernel
theorem dX9_order_20 : decode cX9_order 20 = .ok (.invokestatic 59, 3) := by decide +kernel
theorem dX9_order_23 : decode cX9_order 23 = .ok (.ifCond .eq 12, 3) := by decide +kernel
theorem dX9_order_26 : decode cX9_order 26 = .ok (.iload_n 3, 1) := by decide +kernel
theorem dX9_order_27 : decode cX9_order 27 = .ok (.iconst (-1), 1) := by decide +kernel
theorem dX9_order_28 : decode cX9_order 28 = .ok (.iconst 5, 1) := by decide +kernel
theorem dX9_order_29 : decode cX9_order 29 = .ok (.invokestatic 59, 3) := by decide +kernel
theorem dX9_order_32 : decode cX9_order 32 = .ok (.ifCond .ne 6, 3) := by decide +kernel
theorem dX9_order_35 : decode cX9_order 35 = .ok (.ldc 67, 2) := by decide +kernel
theorem dX9_order_37 : decode cX9_order 37 = .ok (.ireturn, 1) := by decide +kernel
theorem dX9_order_38 : decode cX9_order 38 = .ok (.iload_n 2, 1) := by decide +kernel
theorem dX9_order_39 : decode cX9_order 39 = .ok (.aload_n 0, 1) := by decide +kernel
theorem dX9_order_40 : decode cX9_order 40 = .ok (.getfield 25, 3) := by decide +kernel
theorem dX9_order_43 : decode cX9_order 43 = .ok (.bipush 22, 2) := by decide +kernel
theorem dX9_order_45 : decode cX9_order 45 = .ok (.iconst 4, 1) := by decide +kernel
theorem dX9_order_46 : decode cX9_order 46 = .ok (.iload_n 1, 1) := by decide +kernel
theorem dX9_order_47 : decode cX9_order 47 = .ok (.imul, 1) := by decide +kernel
theorem dX9_order_48 : decode cX9_order 48 = .ok (.iadd, 1) := by decide +kernel
theorem dX9_order_49 : decode cX9_order 49 = .ok (.iconst 2, 1) := by decide +kernel
theorem dX9_order_50 : decode cX9_order 50 = .ok (.iadd, 1) := by decide +kernel
theorem dX9_order_51 : decode cX9_order 51 = .ok (.iaload, 1) := by decide +kernel
theorem dX9_order_52 : decode cX9_order 52 = .ok (.iand, 1) := by decide +kernel
theorem dX9_order_53 : decode cX9_order 53 = .ok (.ifCond .eq 6, 3) := by decide +kernel
theorem dX9_order_56 : decode cX9_order 56 = .ok (.ldc 172, 2) := by decide +kernel
theorem dX9_order_58 : decode cX9_order 58 = .ok (.ireturn, 1) := by decide +kernel
theorem dX9_order_59 : decode cX9_order 59 = .ok (.iload_n 2, 1) := by decide +kernel
theorem dX9_order_60 : decode cX9_order 60 = .ok (.invokestatic 150, 3) := by decide +kernel
theorem dX9_order_63 : decode cX9_order 63 = .ok (.istore 4, 2) := by decide +kernel
theorem dX9_order_65 : decode cX9_order 65 = .ok (.aload_n 0, 1) := by decide +kernel
theorem dX9_order_66 : decode cX9_order 66 = .ok (.iload_n 2, 1) := by decide +kernel
theorem dX9_order_67 : decode cX9_order 67 = .ok (.iconst 0, 1) := by decide +kernel
theorem dX9_order_68 : decode cX9_order 68 = .ok (.iconst 0, 1) := by decide +kernel
theorem dX9_order_69 : decode cX9_order 69 = .ok (.iload 4, 2) := by decide +kernel
theorem dX9_order_71 : decode cX9_order 71 = .ok (.invokevirtual 196, 3) := by decide +kernel
theorem dX9_order_74 : decode cX9_order 74 = .ok (.aload_n 0, 1) := by decide +kernel
theorem dX9_order_75 : decode cX9_order 75 = .ok (.ldc 53, 2) := by decide +kernel
theorem dX9_order_77 : decode cX9_order 77 = .ok (.putfield 200, 3) := by decide +kernel
theorem dX9_order_80 : decode cX9_order 80 = .ok (.iconst 1, 1) := by decide +kernel
theorem dX9_order_81 : decode cX9_order 81 = .ok (.istore 5, 2) := by decide +kernel
theorem dX9_order_83 : decode cX9_order 83 = .ok (.iload 5, 2) := by decide +kernel
theorem dX9_order_85 : decode cX9_order 85 = .ok (.ifCond .eq 69, 3) := by decide +kernel
theorem dX9_order_88 : decode cX9_order 88 = .ok (.aload_n 0, 1) := by decide +kernel
theorem dX9_order_89 : decode cX9_order 89 = .ok (.iload_n 1, 1) := by decide +kernel
theorem dX9_order_90 : decode cX9_order 90 = .ok (.iload 4, 2) := by decide +kernel
theorem dX9_order_92 : decode cX9_order 92 = .ok (.invokevirtual 203, 3) := by decide +kernel
theorem dX9_order_95 : decode cX9_order 95 = .ok (.istore 6, 2) := by decide +kernel
theorem dX9_order_97 : decode cX9_order 97 = .ok (.iload 6, 2) := by decide +kernel
theorem dX9_order_99 : decode cX9_order 99 = .ok (.aload_n 0, 1) := by decide +kernel
theorem dX9_order_100 : decode cX9_order 100 = .ok (.getfield 200, 3) := by decide +kernel
theorem dX9_order_103 : decode cX9_order 103 = .ok (.if_icmp .le 39, 3) := by decide +kernel
theorem dX9_order_106 : decode cX9_order 106 = .ok (.aload_n 0, 1) := by decide +kernel
theorem dX9_order_107 : decode cX9_order 107 = .ok (.iload 6, 2) := by decide +kernel
theorem dX9_order_109 : decode cX9_order 109 = .ok (.putfield 200, 3) := by decide +kernel
theorem dX9_order_112 : decode cX9_order 112 = .ok (.iconst 0, 1) := by decide +kernel
theorem dX9_order_113 : decode cX9_order 113 = .ok (.istore 7, 2) := by decide +kernel
theorem dX9_order_115 : decode cX9_order 115 = .ok (.iload 7, 2) := by decide +kernel
theorem dX9_order_117 : decode cX9_order 117 = .ok (.iload 4, 2) := by decide +kernel
theorem dX9_order_119 : decode cX9_order 119 = .ok (.if_icmp .ge 23, 3) := by decide +kernel
theorem dX9_order_122 : decode cX9_order 122 = .ok (.aload_n 0, 1) := by decide +kernel
theorem dX9_order_123 : decode cX9_order 123 = .ok (.getfield 50, 3) := by decide +kernel
theorem dX9_order_126 : decode cX9_order 126 = .ok (.iload 7, 2) := by decide +kernel
theorem dX9_order_128 : decode cX9_order 128 = .ok (.aload_n 0, 1) := by decide +kernel
theorem dX9_order_129 : decode cX9_order 129 = .ok (.getfield 47, 3) := by decide +kernel
theorem dX9_order_132 : decode cX9_order 132 = .ok (.iload 7, 2) := by decide +kernel
theorem dX9_order_134 : decode cX9_order 134 = .ok (.iaload, 1) := by decide +kernel
theorem dX9_order_135 : decode cX9_order 135 = .ok (.iastore, 1) := by decide +kernel
theorem dX9_order_136 : decode cX9_order 136 = .ok (.iinc 7 1, 3) := by decide +kernel
theorem dX9_order_139 : decode cX9_order 139 = .ok (.goto (-24), 3) := by decide +kernel
theorem dX9_order_142 : decode cX9_order 142 = .ok (.aload_n 0, 1) := by decide +kernel
theorem dX9_order_143 : decode cX9_order 143 = .ok (.iload_n 2, 1) := by decide +kernel
theorem dX9_order_144 : decode cX9_order 144 = .ok (.iload 4, 2) := by decide +kernel
theorem dX9_order_146 : decode cX9_order 146 = .ok (.invokevirtual 206, 3) := by decide +kernel
theorem dX9_order_149 : decode cX9_order 149 = .ok (.istore 5, 2) := by decide +kernel
theorem dX9_order_151 : decode cX9_order 151 = .ok (.goto (-68), 3) := by decide +kernel
theorem dX9_order_154 : decode cX9_order 154 = .ok (.iload_n 3, 1) := by decide +kernel
theorem dX9_order_155 : decode cX9_order 155 = .ok (.iconst (-1), 1) := by decide +kernel
theorem dX9_order_156 : decode cX9_order 156 = .ok (.if_icmp .ne 10, 3) := by decide +kernel
theorem dX9_order_159 : decode cX9_order 159 = .ok (.aload_n 0, 1) := by decide +kernel
theorem dX9_order_160 : decode cX9_order 160 = .ok (.getfield 200, 3) := by decide +kernel
theorem dX9_order_163 : decode cX9_order 163 = .ok (.goto 20, 3) := by decide +kernel
theorem dX9_order_166 : decode cX9_order 166 = .ok (.iload_n 3, 1) := by decide +kernel
theorem dX9_order_167 : decode cX9_order 167 = .ok (.iload 4, 2) := by decide +kernel
theorem dX9_order_169 : decode cX9_order 169 = .ok (.if_icmp .ge 12, 3) := by decide +kernel
theorem dX9_order_172 : decode cX9_order 172 = .ok (.aload_n 0, 1) := by decide +kernel
theorem dX9_order_173 : decode cX9_order 173 = .ok (.getfield 50, 3) := by decide +kernel
theorem dX9_order_176 : decode cX9_order 176 = .ok (.iload_n 3, 1) := by decide +kernel
theorem dX9_order_177 : decode cX9_order 177 = .ok (.iaload, 1) := by decide +kernel
theorem dX9_order_178 : decode cX9_order 178 = .ok (.goto 5, 3) := by decide +kernel
theorem dX9_order_181 : decode cX9_order 181 = .ok (.ldc 53, 2) := by decide +kernel
theorem dX9_order_183 : decode cX9_order 183 = .ok (.ireturn, 1) := by decide +kernel
theorem dX9_aheadOf_0 : decode cX9_aheadOf 0 = .ok (.aload_n 0, 1) := by decide +kernel
theorem dX9_aheadOf_1 : decode cX9_aheadOf 1 = .ok (.iload_n 1, 1) := by decide +kernel
theorem dX9_aheadOf_2 : decode cX9_aheadOf 2 = .ok (.invokevirtual 193, 3) := by decide +kernel
theorem dX9_aheadOf_5 : decode cX9_aheadOf 5 = .ok (.iconst 1, 1) := by decide +kernel
theorem dX9_aheadOf_6 : decode cX9_aheadOf 6 = .ok (.iload_n 2, 1) := by decide +kernel
theorem dX9_aheadOf_7 : decode cX9_aheadOf 7 = .ok (.ishl, 1) := by decide +kernel
theorem dX9_aheadOf_8 : decode cX9_aheadOf 8 = .ok (.iconst (-1), 1) := by decide +kernel
theorem dX9_aheadOf_9 : decode cX9_aheadOf 9 = .ok (.ixor, 1) := by decide +kernel
theorem dX9_aheadOf_10 : decode cX9_aheadOf 10 = .ok (.iand, 1) := by decide +kernel
theorem dX9_aheadOf_11 : decode cX9_aheadOf 11 = .ok (.istore_n 3, 1) := by decide +kernel
theorem dX9_aheadOf_12 : decode cX9_aheadOf 12 = .ok (.iload_n 3, 1) := by decide +kernel
theorem dX9_aheadOf_13 : decode cX9_aheadOf 13 = .ok (.invokestatic 150, 3) := by decide +kernel
theorem dX9_aheadOf_16 : decode cX9_aheadOf 16 = .ok (.istore 4, 2) := by decide +kernel
theorem dX9_aheadOf_18 : decode cX9_aheadOf 18 = .ok (.iconst 0, 1) := by decide +kernel
theorem dX9_aheadOf_19 : decode cX9_aheadOf 19 = .ok (.istore 5, 2) := by decide +kernel
theorem dX9_aheadOf_21 : decode cX9_aheadOf 21 = .ok (.iload 5, 2) := by decide +kernel
theorem dX9_aheadOf_23 : decode cX9_aheadOf 23 = .ok (.iload 4, 2) := by decide +kernel
theorem dX9_aheadOf_25 : decode cX9_aheadOf 25 = .ok (.if_icmp .gt 57, 3) := by decide +kernel
theorem dX9_aheadOf_28 : decode cX9_aheadOf 28 = .ok (.aload_n 0, 1) := by decide +kernel
theorem dX9_aheadOf_29 : decode cX9_aheadOf 29 = .ok (.iload_n 3, 1) := by decide +kernel
theorem dX9_aheadOf_30 : decode cX9_aheadOf 30 = .ok (.iconst 0, 1) := by decide +kernel
theorem dX9_aheadOf_31 : decode cX9_aheadOf 31 = .ok (.iconst 0, 1) := by decide +kernel
theorem dX9_aheadOf_32 : decode cX9_aheadOf 32 = .ok (.iload 5, 2) := by decide +kernel
theorem dX9_aheadOf_34 : decode cX9_aheadOf 34 = .ok (.invokevirtual 196, 3) := by decide +kernel
theorem dX9_aheadOf_37 : decode cX9_aheadOf 37 = .ok (.iconst 1, 1) := by decide +kernel
theorem dX9_aheadOf_38 : decode cX9_aheadOf 38 = .ok (.istore 6, 2) := by decide +kernel
theorem dX9_aheadOf_40 : decode cX9_aheadOf 40 = .ok (.iload 6, 2) := by decide +kernel
theorem dX9_aheadOf_42 : decode cX9_aheadOf 42 = .ok (.ifCond .eq 34, 3) := by decide +kernel
theorem dX9_aheadOf_45 : decode cX9_aheadOf 45 = .ok (.aload_n 0, 1) := by decide +kernel
theorem dX9_aheadOf_46 : decode cX9_aheadOf 46 = .ok (.iload_n 1, 1) := by decide +kernel
theorem dX9_aheadOf_47 : decode cX9_aheadOf 47 = .ok (.iload 5, 2) := by decide +kernel
theorem dX9_aheadOf_49 : decode cX9_aheadOf 49 = .ok (.invokevirtual 203, 3) := by decide +kernel
theorem dX9_aheadOf_52 : decode cX9_aheadOf 52 = .ok (.pop, 1) := by decide +kernel
theorem dX9_aheadOf_53 : decode cX9_aheadOf 53 = .ok (.aload_n 0, 1) := by decide +kernel
theorem dX9_aheadOf_54 : decode cX9_aheadOf 54 = .ok (.iload_n 2, 1) := by decide +kernel
theorem dX9_aheadOf_55 : decode cX9_aheadOf 55 = .ok (.invokevirtual 180, 3) := by decide +kernel
theorem dX9_aheadOf_58 : decode cX9_aheadOf 58 = .ok (.ifCond .eq 6, 3) := by decide +kernel
theorem dX9_aheadOf_61 : decode cX9_aheadOf 61 = .ok (.iload 5, 2) := by decide +kernel
theorem dX9_aheadOf_63 : decode cX9_aheadOf 63 = .ok (.ireturn, 1) := by decide +kernel
theorem dX9_aheadOf_64 : decode cX9_aheadOf 64 = .ok (.aload_n 0, 1) := by decide +kernel
theorem dX9_aheadOf_65 : decode cX9_aheadOf 65 = .ok (.iload_n 3, 1) := by decide +kernel
theorem dX9_aheadOf_66 : decode cX9_aheadOf 66 = .ok (.iload 5, 2) := by decide +kernel
theorem dX9_aheadOf_68 : decode cX9_aheadOf 68 = .ok (.invokevirtual 206, 3) := by decide +kernel
theorem dX9_aheadOf_71 : decode cX9_aheadOf 71 = .ok (.istore 6, 2) := by decide +kernel
theorem dX9_aheadOf_73 : decode cX9_aheadOf 73 = .ok (.goto (-33), 3) := by decide +kernel
theorem dX9_aheadOf_76 : decode cX9_aheadOf 76 = .ok (.iinc 5 1, 3) := by decide +kernel
theorem dX9_aheadOf_79 : decode cX9_aheadOf 79 = .ok (.goto (-58), 3) := by decide +kernel
theorem dX9_aheadOf_82 : decode cX9_aheadOf 82 = .ok (.ldc 53, 2) := by decide +kernel
theorem dX9_aheadOf_84 : decode cX9_aheadOf 84 = .ok (.ireturn, 1) := by decide +kernel
theorem dX9_comesIn_0 : decode cX9_comesIn 0 = .ok (.aload_n 0, 1) := by decide +kernel
theorem dX9_comesIn_1 : decode cX9_comesIn 1 = .ok (.iload_n 1, 1) := by decide +kernel
theorem dX9_comesIn_2 : decode cX9_comesIn 2 = .ok (.invokevirtual 163, 3) := by decide +kernel
theorem dX9_comesIn_5 : decode cX9_comesIn 5 = .ok (.ifCond .eq 20, 3) := by decide +kernel
theorem dX9_comesIn_8 : decode cX9_comesIn 8 = .ok (.aload_n 0, 1) := by decide +kernel
theorem dX9_comesIn_9 : decode cX9_comesIn 9 = .ok (.iload_n 2, 1) := by decide +kernel
theorem dX9_comesIn_10 : decode cX9_comesIn 10 = .ok (.invokevirtual 166, 3) := by decide +kernel
theorem dX9_comesIn_13 : decode cX9_comesIn 13 = .ok (.ifCond .eq 12, 3) := by decide +kernel
theorem dX9_comesIn_16 : decode cX9_comesIn 16 = .ok (.iload_n 3, 1) := by decide +kernel
theorem dX9_comesIn_17 : decode cX9_comesIn 17 = .ok (.iconst 0, 1) := by decide +kernel
theorem dX9_comesIn_18 : decode cX9_comesIn 18 = .ok (.iconst 1, 1) := by decide +kernel
theorem dX9_comesIn_19 : decode cX9_comesIn 19 = .ok (.invokestatic 59, 3) := by decide +kernel
theorem dX9_comesIn_22 : decode cX9_comesIn 22 = .ok (.ifCond .ne 6, 3) := by decide +kernel
theorem dX9_comesIn_25 : decode cX9_comesIn 25 = .ok (.ldc 67, 2) := by decide +kernel
theorem dX9_comesIn_27 : decode cX9_comesIn 27 = .ok (.ireturn, 1) := by decide +kernel
theorem dX9_comesIn_28 : decode cX9_comesIn 28 = .ok (.aload_n 0, 1) := by decide +kernel
theorem dX9_comesIn_29 : decode cX9_comesIn 29 = .ok (.iload_n 1, 1) := by decide +kernel
theorem dX9_comesIn_30 : decode cX9_comesIn 30 = .ok (.iload_n 2, 1) := by decide +kernel
theorem dX9_comesIn_31 : decode cX9_comesIn 31 = .ok (.invokevirtual 169, 3) := by decide +kernel
theorem dX9_comesIn_34 : decode cX9_comesIn 34 = .ok (.ifCond .eq 6, 3) := by decide +kernel
theorem dX9_comesIn_37 : decode cX9_comesIn 37 = .ok (.ldc 172, 2) := by decide +kernel
theorem dX9_comesIn_39 : decode cX9_comesIn 39 = .ok (.ireturn, 1) := by decide +kernel
theorem dX9_comesIn_40 : decode cX9_comesIn 40 = .ok (.aload_n 0, 1) := by decide +kernel
theorem dX9_comesIn_41 : decode cX9_comesIn 41 = .ok (.iload_n 1, 1) := by decide +kernel
theorem dX9_comesIn_42 : decode cX9_comesIn 42 = .ok (.iload_n 2, 1) := by decide +kernel
theorem dX9_comesIn_43 : decode cX9_comesIn 43 = .ok (.invokevirtual 209, 3) := by decide +kernel
theorem dX9_comesIn_46 : decode cX9_comesIn 46 = .ok (.istore 4, 2) := by decide +kernel
theorem dX9_comesIn_48 : decode cX9_comesIn 48 = .ok (.iload_n 3, 1) := by decide +kernel
theorem dX9_comesIn_49 : decode cX9_comesIn 49 = .ok (.ifCond .ne 8, 3) := by decide +kernel
theorem dX9_comesIn_52 : decode cX9_comesIn 52 = .ok (.iload 4, 2) := by decide +kernel
theorem dX9_comesIn_54 : decode cX9_comesIn 54 = .ok (.goto 19, 3) := by decide +kernel
theorem dX9_comesIn_57 : decode cX9_comesIn 57 = .ok (.iload 4, 2) := by decide +kernel
theorem dX9_comesIn_59 : decode cX9_comesIn 59 = .ok (.ifCond .le 12, 3) := by decide +kernel
theorem dX9_comesIn_62 : decode cX9_comesIn 62 = .ok (.aload_n 0, 1) := by decide +kernel
theorem dX9_comesIn_63 : decode cX9_comesIn 63 = .ok (.getfield 47, 3) := by decide +kernel
theorem dX9_comesIn_66 : decode cX9_comesIn 66 = .ok (.iconst 0, 1) := by decide +kernel
theorem dX9_comesIn_67 : decode cX9_comesIn 67 = .ok (.iaload, 1) := by decide +kernel
theorem dX9_comesIn_68 : decode cX9_comesIn 68 = .ok (.goto 5, 3) := by decide +kernel
theorem dX9_comesIn_71 : decode cX9_comesIn 71 = .ok (.ldc 53, 2) := by decide +kernel
theorem dX9_comesIn_73 : decode cX9_comesIn 73 = .ok (.ireturn, 1) := by decide +kernel
theorem dX9_dead_0 : decode cX9_dead 0 = .ok (.aload_n 0, 1) := by decide +kernel
theorem dX9_dead_1 : decode cX9_dead 1 = .ok (.iload_n 1, 1) := by decide +kernel
theorem dX9_dead_2 : decode cX9_dead 2 = .ok (.invokevirtual 163, 3) := by decide +kernel
theorem dX9_dead_5 : decode cX9_dead 5 = .ok (.ifCond .ne 6, 3) := by decide +kernel
theorem dX9_dead_8 : decode cX9_dead 8 = .ok (.ldc 67, 2) := by decide +kernel
theorem dX9_dead_10 : decode cX9_dead 10 = .ok (.ireturn, 1) := by decide +kernel
theorem dX9_dead_11 : decode cX9_dead 11 = .ok (.iconst 0, 1) := by decide +kernel
theorem dX9_dead_12 : decode cX9_dead 12 = .ok (.istore_n 2, 1) := by decide +kernel
theorem dX9_dead_13 : decode cX9_dead 13 = .ok (.iconst 0, 1) := by decide +kernel
theorem dX9_dead_14 : decode cX9_dead 14 = .ok (.istore_n 3, 1) := by decide +kernel
theorem dX9_dead_15 : decode cX9_dead 15 = .ok (.iload_n 3, 1) := by decide +kernel
theorem dX9_dead_16 : decode cX9_dead 16 = .ok (.aload_n 0, 1) := by decide +kernel
theorem dX9_dead_17 : decode cX9_dead 17 = .ok (.getfield 25, 3) := by decide +kernel
theorem dX9_dead_20 : decode cX9_dead 20 = .ok (.iconst 2, 1) := by decide +kernel
theorem dX9_dead_21 : decode cX9_dead 21 = .ok (.iaload, 1) := by decide +kernel
theorem dX9_dead_22 : decode cX9_dead 22 = .ok (.if_icmp .ge 42, 3) := by decide +kernel
theorem dX9_dead_25 : decode cX9_dead 25 = .ok (.iload_n 2, 1) := by decide +kernel
theorem dX9_dead_26 : decode cX9_dead 26 = .ok (.aload_n 0, 1) := by decide +kernel
theorem dX9_dead_27 : decode cX9_dead 27 = .ok (.iload_n 1, 1) := by decide +kernel
theorem dX9_dead_28 : decode cX9_dead 28 = .ok (.invokevirtual 193, 3) := by decide +kernel
theorem dX9_dead_31 : decode cX9_dead 31 = .ok (.iload_n 3, 1) := by decide +kernel
theorem dX9_dead_32 : decode cX9_dead 32 = .ok (.invokestatic 156, 3) := by decide +kernel
theorem dX9_dead_35 : decode cX9_dead 35 = .ok (.ifCond .eq 20, 3) := by decide +kernel
theorem dX9_dead_38 : decode cX9_dead 38 = .ok (.aload_n 0, 1) := by decide +kernel
theorem dX9_dead_39 : decode cX9_dead 39 = .ok (.iload_n 1, 1) := by decide +kernel
theorem dX9_dead_40 : decode cX9_dead 40 = .ok (.iload_n 3, 1) := by decide +kernel
theorem dX9_dead_41 : decode cX9_dead 41 = .ok (.invokevirtual 209, 3) := by decide +kernel
theorem dX9_dead_44 : decode cX9_dead 44 = .ok (.ldc 53, 2) := by decide +kernel
theorem dX9_dead_46 : decode cX9_dead 46 = .ok (.if_icmp .ne 9, 3) := by decide +kernel
theorem dX9_dead_49 : decode cX9_dead 49 = .ok (.iconst 1, 1) := by decide +kernel
theorem dX9_dead_50 : decode cX9_dead 50 = .ok (.iload_n 3, 1) := by decide +kernel
theorem dX9_dead_51 : decode cX9_dead 51 = .ok (.ishl, 1) := by decide +kernel
theorem dX9_dead_52 : decode cX9_dead 52 = .ok (.goto 4, 3) := by decide +kernel
theorem dX9_dead_55 : decode cX9_dead 55 = .ok (.iconst 0, 1) := by decide +kernel
theorem dX9_dead_56 : decode cX9_dead 56 = .ok (.ior, 1) := by decide +kernel
theorem dX9_dead_57 : decode cX9_dead 57 = .ok (.istore_n 2, 1) := by decide +kernel
theorem dX9_dead_58 : decode cX9_dead 58 = .ok (.iinc 3 1, 3) := by decide +kernel
theorem dX9_dead_61 : decode cX9_dead 61 = .ok (.goto (-46), 3) := by decide +kernel
theorem dX9_dead_64 : decode cX9_dead 64 = .ok (.iload_n 2, 1) := by decide +kernel
theorem dX9_dead_65 : decode cX9_dead 65 = .ok (.ireturn, 1) := by decide +kernel
theorem dX9_helps_0 : decode cX9_helps 0 = .ok (.aload_n 0, 1) := by decide +kernel
theorem dX9_helps_1 : decode cX9_helps 1 = .ok (.iload_n 1, 1) := by decide +kernel
theorem dX9_helps_2 : decode cX9_helps 2 = .ok (.invokevirtual 176, 3) := by decide +kernel
theorem dX9_helps_5 : decode cX9_helps 5 = .ok (.aload_n 0, 1) := by decide +kernel
theorem dX9_helps_6 : decode cX9_helps 6 = .ok (.iload_n 3, 1) := by decide +kernel
theorem dX9_helps_7 : decode cX9_helps 7 = .ok (.invokevirtual 180, 3) := by decide +kernel
theorem dX9_helps_10 : decode cX9_helps 10 = .ok (.istore 4, 2) := by decide +kernel
theorem dX9_helps_12 : decode cX9_helps 12 = .ok (.aload_n 0, 1) := by decide +kernel
theorem dX9_helps_13 : decode cX9_helps 13 = .ok (.iload_n 2, 1) := by decide +kernel
theorem dX9_helps_14 : decode cX9_helps 14 = .ok (.aload_n 0, 1) := by decide +kernel
theorem dX9_helps_15 : decode cX9_helps 15 = .ok (.iload_n 2, 1) := by decide +kernel
theorem dX9_helps_16 : decode cX9_helps 16 = .ok (.invokevirtual 180, 3) := by decide +kernel
theorem dX9_helps_19 : decode cX9_helps 19 = .ok (.invokevirtual 183, 3) := by decide +kernel
theorem dX9_helps_22 : decode cX9_helps 22 = .ok (.iload 4, 2) := by decide +kernel
theorem dX9_helps_24 : decode cX9_helps 24 = .ok (.ifCond .ne 15, 3) := by decide +kernel
theorem dX9_helps_27 : decode cX9_helps 27 = .ok (.aload_n 0, 1) := by decide +kernel
theorem dX9_helps_28 : decode cX9_helps 28 = .ok (.iload_n 3, 1) := by decide +kernel
theorem dX9_helps_29 : decode cX9_helps 29 = .ok (.invokevirtual 180, 3) := by decide +kernel
theorem dX9_helps_32 : decode cX9_helps 32 = .ok (.ifCond .eq 7, 3) := by decide +kernel
theorem dX9_helps_35 : decode cX9_helps 35 = .ok (.iconst 1, 1) := by decide +kernel
theorem dX9_helps_36 : decode cX9_helps 36 = .ok (.goto 4, 3) := by decide +kernel
theorem dX9_helps_39 : decode cX9_helps 39 = .ok (.iconst 0, 1) := by decide +kernel
theorem dX9_helps_40 : decode cX9_helps 40 = .ok (.ireturn, 1) := by decide +kernel
