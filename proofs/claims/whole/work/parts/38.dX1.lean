theorem dX1_init_0 : decode cX1_init 0 = .ok (.aload_n 0, 1) := by decide +kernel
theorem dX1_init_1 : decode cX1_init 1 = .ok (.invokespecial 3, 3) := by decide +kernel
theorem dX1_init_4 : decode cX1_init 4 = .ok (.aload_n 0, 1) := by decide +kernel
theorem dX1_init_5 : decode cX1_init 5 = .ok (.bipush 16, 2) := by decide +kernel
theorem dX1_init_7 : decode cX1_init 7 = .ok (.newarray .int, 2) := by decide +kernel
theorem dX1_init_9 : decode cX1_init 9 = .ok (.putfield 11, 3) := by decide +kernel
theorem dX1_init_12 : decode cX1_init 12 = .ok (.aload_n 0, 1) := by decide +kernel
theorem dX1_init_13 : decode cX1_init 13 = .ok (.iconst 0, 1) := by decide +kernel
theorem dX1_init_14 : decode cX1_init 14 = .ok (.putfield 15, 3) := by decide +kernel
theorem dX1_init_17 : decode cX1_init 17 = .ok (.return_, 1) := by decide +kernel
theorem dX1_answer_0 : decode cX1_answer 0 = .ok (.aload_n 0, 1) := by decide +kernel
theorem dX1_answer_1 : decode cX1_answer 1 = .ok (.iconst 0, 1) := by decide +kernel
theorem dX1_answer_2 : decode cX1_answer 2 = .ok (.putfield 15, 3) := by decide +kernel
theorem dX1_answer_5 : decode cX1_answer 5 = .ok (.iload_n 3, 1) := by decide +kernel
theorem dX1_answer_6 : decode cX1_answer 6 = .ok (.ifCond .ne 13, 3) := by decide +kernel
theorem dX1_answer_9 : decode cX1_answer 9 = .ok (.aload_n 0, 1) := by decide +kernel
theorem dX1_answer_10 : decode cX1_answer 10 = .ok (.aload_n 1, 1) := by decide +kernel
theorem dX1_answer_11 : decode cX1_answer 11 = .ok (.iload_n 2, 1) := by decide +kernel
theorem dX1_answer_12 : decode cX1_answer 12 = .ok (.iconst 0, 1) := by decide +kernel
theorem dX1_answer_13 : decode cX1_answer 13 = .ok (.invokevirtual 19, 3) := by decide +kernel
theorem dX1_answer_16 : decode cX1_answer 16 = .ok (.goto 10, 3) := by decide +kernel
theorem dX1_answer_19 : decode cX1_answer 19 = .ok (.aload_n 0, 1) := by decide +kernel
theorem dX1_answer_20 : decode cX1_answer 20 = .ok (.aload_n 1, 1) := by decide +kernel
theorem dX1_answer_21 : decode cX1_answer 21 = .ok (.iload_n 2, 1) := by decide +kernel
theorem dX1_answer_22 : decode cX1_answer 22 = .ok (.iconst 0, 1) := by decide +kernel
theorem dX1_answer_23 : decode cX1_answer 23 = .ok (.invokevirtual 23, 3) := by decide +kernel
theorem dX1_answer_26 : decode cX1_answer 26 = .ok (.ireturn, 1) := by decide +kernel
theorem dX1_traceAt_0 : decode cX1_traceAt 0 = .ok (.iload_n 1, 1) := by decide +kernel
theorem dX1_traceAt_1 : decode cX1_traceAt 1 = .ok (.ifCond .lt 20, 3) := by decide +kernel
theorem dX1_traceAt_4 : decode cX1_traceAt 4 = .ok (.iload_n 1, 1) := by decide +kernel
theorem dX1_traceAt_5 : decode cX1_traceAt 5 = .ok (.aload_n 0, 1) := by decide +kernel
theorem dX1_traceAt_6 : decode cX1_traceAt 6 = .ok (.getfield 15, 3) := by decide +kernel
theorem dX1_traceAt_9 : decode cX1_traceAt 9 = .ok (.if_icmp .ge 12, 3) := by decide +kernel
theorem dX1_traceAt_12 : decode cX1_traceAt 12 = .ok (.aload_n 0, 1) := by decide +kernel
theorem dX1_traceAt_13 : decode cX1_traceAt 13 = .ok (.getfield 11, 3) := by decide +kernel
theorem dX1_traceAt_16 : decode cX1_traceAt 16 = .ok (.iload_n 1, 1) := by decide +kernel
theorem dX1_traceAt_17 : decode cX1_traceAt 17 = .ok (.iaload, 1) := by decide +kernel
theorem dX1_traceAt_18 : decode cX1_traceAt 18 = .ok (.goto 5, 3) := by decide +kernel
theorem dX1_traceAt_21 : decode cX1_traceAt 21 = .ok (.ldc 26, 2) := by decide +kernel
theorem dX1_traceAt_23 : decode cX1_traceAt 23 = .ok (.ireturn, 1) := by decide +kernel
theorem dX1_sizeOf_0 : decode cX1_sizeOf 0 = .ok (.aload_n 0, 1) := by decide +kernel
theorem dX1_sizeOf_1 : decode cX1_sizeOf 1 = .ok (.aload_n 1, 1) := by decide +kernel
theorem dX1_sizeOf_2 : decode cX1_sizeOf 2 = .ok (.getstatic 27, 3) := by decide +kernel
theorem dX1_sizeOf_5 : decode cX1_sizeOf 5 = .ok (.aload_n 1, 1) := by decide +kernel
theorem dX1_sizeOf_6 : decode cX1_sizeOf 6 = .ok (.getfield 30, 3) := by decide +kernel
theorem dX1_sizeOf_9 : decode cX1_sizeOf 9 = .ok (.iload_n 2, 1) := by decide +kernel
theorem dX1_sizeOf_10 : decode cX1_sizeOf 10 = .ok (.iaload, 1) := by decide +kernel
theorem dX1_sizeOf_11 : decode cX1_sizeOf 11 = .ok (.invokestatic 35, 3) := by decide +kernel
theorem dX1_sizeOf_14 : decode cX1_sizeOf 14 = .ok (.iload_n 2, 1) := by decide +kernel
theorem dX1_sizeOf_15 : decode cX1_sizeOf 15 = .ok (.iload_n 3, 1) := by decide +kernel
theorem dX1_sizeOf_16 : decode cX1_sizeOf 16 = .ok (.invokevirtual 39, 3) := by decide +kernel
theorem dX1_sizeOf_19 : decode cX1_sizeOf 19 = .ok (.ireturn, 1) := by decide +kernel
theorem dX1_markOf_0 : decode cX1_markOf 0 = .ok (.aload_n 0, 1) := by decide +kernel
theorem dX1_markOf_1 : decode cX1_markOf 1 = .ok (.aload_n 1, 1) := by decide +kernel
theorem dX1_markOf_2 : decode cX1_markOf 2 = .ok (.getstatic 43, 3) := by decide +kernel
theorem dX1_markOf_5 : decode cX1_markOf 5 = .ok (.aload_n 1, 1) := by decide +kernel
theorem dX1_markOf_6 : decode cX1_markOf 6 = .ok (.getfield 30, 3) := by decide +kernel
theorem dX1_markOf_9 : decode cX1_markOf 9 = .ok (.iload_n 2, 1) := by decide +kernel
theorem dX1_markOf_10 : decode cX1_markOf 10 = .ok (.iaload, 1) := by decide +kernel
theorem dX1_markOf_11 : decode cX1_markOf 11 = .ok (.invokestatic 35, 3) := by decide +kernel
theorem dX1_markOf_14 : decode cX1_markOf 14 = .ok (.iload_n 2, 1) := by decide +kernel
theorem dX1_markOf_15 : decode cX1_markOf 15 = .ok (.iload_n 3, 1) := by decide +kernel
theorem dX1_markOf_16 : decode cX1_markOf 16 = .ok (.invokevirtual 39, 3) := by decide +kernel
theorem dX1_markOf_19 : decode cX1_markOf 19 = .ok (.ireturn, 1) := by decide +kernel
theorem dX1_nearestBody_0 : decode cX1_nearestBody 0 = .ok (.iload_n 1, 1) := by decide +kernel
theorem dX1_nearestBody_1 : decode cX1_nearestBody 1 = .ok (.istore_n 2, 1) := by decide +kernel
theorem dX1_nearestBody_2 : decode cX1_nearestBody 2 = .ok (.iconst 0, 1) := by decide +kernel
theorem dX1_nearestBody_3 : decode cX1_nearestBody 3 = .ok (.istore_n 3, 1) := by decide +kernel
theorem dX1_nearestBody_4 : decode cX1_nearestBody 4 = .ok (.iload_n 3, 1) := by decide +kernel
theorem dX1_nearestBody_5 : decode cX1_nearestBody 5 = .ok (.bipush 6, 2) := by decide +kernel
theorem dX1_nearestBody_7 : decode cX1_nearestBody 7 = .ok (.if_icmp .ge 20, 3) := by decide +kernel
theorem dX1_nearestBody_10 : decode cX1_nearestBody 10 = .ok (.aload_n 0, 1) := by decide +kernel
theorem dX1_nearestBody_11 : decode cX1_nearestBody 11 = .ok (.iload_n 2, 1) := by decide +kernel
theorem dX1_nearestBody_12 : decode cX1_nearestBody 12 = .ok (.iaload, 1) := by decide +kernel
theorem dX1_nearestBody_13 : decode cX1_nearestBody 13 = .ok (.ifCond .ne 14, 3) := by decide +kernel
theorem dX1_nearestBody_16 : decode cX1_nearestBody 16 = .ok (.iload_n 2, 1) := by decide +kernel
theorem dX1_nearestBody_17 : decode cX1_nearestBody 17 = .ok (.invokestatic 48, 3) := by decide +kernel
theorem dX1_nearestBody_20 : decode cX1_nearestBody 20 = .ok (.istore_n 2, 1) := by decide +kernel
theorem dX1_nearestBody_21 : decode cX1_nearestBody 21 = .ok (.iinc 3 1, 3) := by decide +kernel
theorem dX1_nearestBody_24 : decode cX1_nearestBody 24 = .ok (.goto (-20), 3) := by decide +kernel
theorem dX1_nearestBody_27 : decode cX1_nearestBody 27 = .ok (.aload_n 0, 1) := by decide +kernel
theorem dX1_nearestBody_28 : decode cX1_nearestBody 28 = .ok (.iload_n 2, 1) := by decide +kernel
theorem dX1_nearestBody_29 : decode cX1_nearestBody 29 = .ok (.iaload, 1) := by decide +kernel
theorem dX1_nearestBody_30 : decode cX1_nearestBody 30 = .ok (.ireturn, 1) := by decide +kernel
theorem dX1_run_0 : decode cX1_run 0 = .ok (.iload 4, 2) := by decide +kernel
theorem dX1_run_2 : decode cX1_run 2 = .ok (.bipush 20, 2) := by decide +kernel
theorem dX1_run_4 : decode cX1_run 4 = .ok (.if_icmp .le 5, 3) := by decide +kernel
theorem dX1_run_7 : decode cX1_run 7 = .ok (.iconst 0, 1) := by decide +kernel
theorem dX1_run_8 : decode cX1_run 8 = .ok (.ireturn, 1) := by decide +kernel
theorem dX1_run_9 : decode cX1_run 9 = .ok (.aload_n 0, 1) := by decide +kernel
theorem dX1_run_10 : decode cX1_run 10 = .ok (.iload_n 2, 1) := by decide +kernel
theorem dX1_run_11 : decode cX1_run 11 = .ok (.invokevirtual 52, 3) := by decide +kernel
theorem dX1_run_14 : decode cX1_run 14 = .ok (.iload 4, 2) := by decide +kernel
theorem dX1_run_16 : decode cX1_run 16 = .ok (.iconst 1, 1) := by decide +kernel
theorem dX1_run_17 : decode cX1_run 17 = .ok (.iadd, 1) := by decide +kernel
theorem dX1_run_18 : decode cX1_run 18 = .ok (.istore 5, 2) := by decide +kernel
theorem dX1_run_20 : decode cX1_run 20 = .ok (.iload_n 2, 1) := by decide +kernel
theorem dX1_run_21 : decode cX1_run 21 = .ok (.tableswitch 212 10 24 #[75, 82, 102, 114, 128, 212, 212, 212, 212, 212, 141, 143, 164, 179, 199], 75) := by decide +kernel
theorem dX1_run_96 : decode cX1_run 96 = .ok (.aload_n 1, 1) := by decide +kernel
theorem dX1_run_97 : decode cX1_run 97 = .ok (.getfield 56, 3) := by decide +kernel
theorem dX1_run_100 : decode cX1_run 100 = .ok (.iload_n 3, 1) := by decide +kernel
theorem dX1_run_101 : decode cX1_run 101 = .ok (.iaload, 1) := by decide +kernel
theorem dX1_run_102 : decode cX1_run 102 = .ok (.ireturn, 1) := by decide +kernel
theorem dX1_run_103 : decode cX1_run 103 = .ok (.aload_n 0, 1) := by decide +kernel
theorem dX1_run_104 : decode cX1_run 104 = .ok (.aload_n 1, 1) := by decide +kernel
theorem dX1_run_105 : decode cX1_run 105 = .ok (.bipush 10, 2) := by decide +kernel
theorem dX1_run_107 : decode cX1_run 107 = .ok (.iload_n 3, 1) := by decide +kernel
theorem dX1_run_108 : decode cX1_run 108 = .ok (.iload 5, 2) := by decide +kernel
theorem dX1_run_110 : decode cX1_run 110 = .ok (.invokevirtual 39, 3) := by decide +kernel
theorem dX1_run_113 : decode cX1_run 113 = .ok (.aload_n 0, 1) := by decide +kernel
theorem dX1_run_114 : decode cX1_run 114 = .ok (.aload_n 1, 1) := by decide +kernel
theorem dX1_run_115 : decode cX1_run 115 = .ok (.iload_n 3, 1) := by decide +kernel
theorem dX1_run_116 : decode cX1_run 116 = .ok (.iload 5, 2) := by decide +kernel
theorem dX1_run_118 : decode cX1_run 118 = .ok (.invokevirtual 23, 3) := by decide +kernel
theorem dX1_run_121 : decode cX1_run 121 = .ok (.iadd, 1) := by decide +kernel
theorem dX1_run_122 : decode cX1_run 122 = .ok (.ireturn, 1) := by decide +kernel
theorem dX1_run_123 : decode cX1_run 123 = .ok (.aload_n 0, 1) := by decide +kernel
theorem dX1_run_124 : decode cX1_run 124 = .ok (.aload_n 1, 1) := by decide +kernel
theorem dX1_run_125 : decode cX1_run 125 = .ok (.bipush 11, 2) := by decide +kernel
theorem dX1_run_127 : decode cX1_run 127 = .ok (.iload_n 3, 1) := by decide +kernel
theorem dX1_run_128 : decode cX1_run 128 = .ok (.iload 5, 2) := by decide +kernel
theorem dX1_run_130 : decode cX1_run 130 = .ok (.invokevirtual 39, 3) := by decide +kernel
theorem dX1_run_133 : decode cX1_run 133 = .ok (.ineg, 1) := by decide +kernel
theorem dX1_run_134 : decode cX1_run 134 = .ok (.ireturn, 1) := by decide +kernel
theorem dX1_run_135 : decode cX1_run 135 = .ok (.aload_n 0, 1) := by decide +kernel
theorem dX1_run_136 : decode cX1_run 136 = .ok (.aload_n 1, 1) := by decide +kernel
theorem dX1_run_137 : decode cX1_run 137 = .ok (.bipush 10, 2) := by decide +kernel
theorem dX1_run_139 : decode cX1_run 139 = .ok (.iload_n 3, 1) := by decide +kernel
theorem dX1_run_140 : decode cX1_run 140 = .ok (.iload 5, 2) := by decide +kernel
theorem dX1_run_142 : decode cX1_run 142 = .ok (.invokevirtual 39, 3) := by decide +kernel
theorem dX1_run_145 : decode cX1_run 145 = .ok (.bipush 100, 2) := by decide +kernel
theorem dX1_run_147 : decode cX1_run 147 = .ok (.isub, 1) := by decide +kernel
theorem dX1_run_148 : decode cX1_run 148 = .ok (.ireturn, 1) := by decide +kernel
theorem dX1_run_149 : decode cX1_run 149 = .ok (.iconst 2, 1) := by decide +kernel
theorem dX1_run_150 : decode cX1_run 150 = .ok (.aload_n 0, 1) := by decide +kernel
theorem dX1_run_151 : decode cX1_run 151 = .ok (.aload_n 1, 1) := by decide +kernel
theorem dX1_run_152 : decode cX1_run 152 = .ok (.bipush 13, 2) := by decide +kernel
theorem dX1_run_154 : decode cX1_run 154 = .ok (.iload_n 3, 1) := by decide +kernel
theorem dX1_run_155 : decode cX1_run 155 = .ok (.iload 5, 2) := by decide +kernel
theorem dX1_run_157 : decode cX1_run 157 = .ok (.invokevirtual 39, 3) := by decide +kernel
theorem dX1_run_160 : decode cX1_run 160 = .ok (.imul, 1) := by decide +kernel
theorem dX1_run_161 : decode cX1_run 161 = .ok (.ireturn, 1) := by decide +kernel
theorem dX1_run_162 : decode cX1_run 162 = .ok (.iload_n 3, 1) := by decide +kernel
theorem dX1_run_163 : decode cX1_run 163 = .ok (.ireturn, 1) := by decide +kernel
theorem dX1_run_164 : decode cX1_run 164 = .ok (.aload_n 0, 1) := by decide +kernel
theorem dX1_run_165 : decode cX1_run 165 = .ok (.aload_n 1, 1) := by decide +kernel
theorem dX1_run_166 : decode cX1_run 166 = .ok (.bipush 20, 2) := by decide +kernel
theorem dX1_run_168 : decode cX1_run 168 = .ok (.iload_n 3, 1) := by decide +kernel
theorem dX1_run_169 : decode cX1_run 169 = .ok (.iload 5, 2) := by decide +kernel
theorem dX1_run_171 : decode cX1_run 171 = .ok (.invokevirtual 39, 3) := by decide +kernel
theorem dX1_run_174 : decode cX1_run 174 = .ok (.aload_n 1, 1) := by decide +kernel
theorem dX1_run_175 : decode cX1_run 175 = .ok (.aload_n 1, 1) := by decide +kernel
theorem dX1_run_176 : decode cX1_run 176 = .ok (.getfield 59, 3) := by decide +kernel
theorem dX1_run_179 : decode cX1_run 179 = .ok (.iload_n 3, 1) := by decide +kernel
theorem dX1_run_180 : decode cX1_run 180 = .ok (.invokevirtual 62, 3) := by decide +kernel
theorem dX1_run_183 : decode cX1_run 183 = .ok (.iadd, 1) := by decide +kernel
theorem dX1_run_184 : decode cX1_run 184 = .ok (.ireturn, 1) := by decide +kernel
theorem dX1_run_185 : decode cX1_run 185 = .ok (.aload_n 0, 1) := by decide +kernel
theorem dX1_run_186 : decode cX1_run 186 = .ok (.aload_n 1, 1) := by decide +kernel
theorem dX1_run_187 : decode cX1_run 187 = .ok (.bipush 21, 2) := by decide +kernel
theorem dX1_run_189 : decode cX1_run 189 = .ok (.iload_n 3, 1) := by decide +kernel
theorem dX1_run_190 : decode cX1_run 190 = .ok (.iload 5, 2) := by decide +kernel
theorem dX1_run_192 : decode cX1_run 192 = .ok (.invokevirtual 39, 3) := by decide +kernel
theorem dX1_run_195 : decode cX1_run 195 = .ok (.sipush 1000, 3) := by decide +kernel
theorem dX1_run_198 : decode cX1_run 198 = .ok (.isub, 1) := by decide +kernel
theorem dX1_run_199 : decode cX1_run 199 = .ok (.ireturn, 1) := by decide +kernel
theorem dX1_run_200 : decode cX1_run 200 = .ok (.aload_n 0, 1) := by decide +kernel
theorem dX1_run_201 : decode cX1_run 201 = .ok (.aload_n 1, 1) := by decide +kernel
theorem dX1_run_202 : decode cX1_run 202 = .ok (.bipush 20, 2) := by decide +kernel
theorem dX1_run_204 : decode cX1_run 204 = .ok (.iload_n 3, 1) := by decide +kernel
theorem dX1_run_205 : decode cX1_run 205 = .ok (.iload 5, 2) := by decide +kernel
theorem dX1_run_207 : decode cX1_run 207 = .ok (.invokevirtual 39, 3) := by decide +kernel
theorem dX1_run_210 : decode cX1_run 210 = .ok (.aload_n 0, 1) := by decide +kernel
theorem dX1_run_211 : decode cX1_run 211 = .ok (.aload_n 1, 1) := by decide +kernel
theorem dX1_run_212 : decode cX1_run 212 = .ok (.iload_n 3, 1) := by decide +kernel
theorem dX1_run_213 : decode cX1_run 213 = .ok (.iload 5, 2) := by decide +kernel
theorem dX1_run_215 : decode cX1_run 215 = .ok (.invokevirtual 19, 3) := by decide +kernel
theorem dX1_run_218 : decode cX1_run 218 = .ok (.isub, 1) := by decide +kernel
theorem dX1_run_219 : decode cX1_run 219 = .ok (.ireturn, 1) := by decide +kernel
theorem dX1_run_220 : decode cX1_run 220 = .ok (.iconst 2, 1) := by decide +kernel
theorem dX1_run_221 : decode cX1_run 221 = .ok (.aload_n 0, 1) := by decide +kernel
theorem dX1_run_222 : decode cX1_run 222 = .ok (.aload_n 1, 1) := by decide +kernel
theorem dX1_run_223 : decode cX1_run 223 = .ok (.bipush 21, 2) := by decide +kernel
theorem dX1_run_225 : decode cX1_run 225 = .ok (.iload_n 3, 1) := by decide +kernel
theorem dX1_run_226 : decode cX1_run 226 = .ok (.iload 5, 2) := by decide +kernel
theorem dX1_run_228 : decode cX1_run 228 = .ok (.invokevirtual 39, 3) := by decide +kernel
theorem dX1_run_231 : decode cX1_run 231 = .ok (.imul, 1) := by decide +kernel
theorem dX1_run_232 : decode cX1_run 232 = .ok (.ireturn, 1) := by decide +kernel
theorem dX1_run_233 : decode cX1_run 233 = .ok (.iconst 0, 1) := by decide +kernel
theorem dX1_run_234 : decode cX1_run 234 = .ok (.ireturn, 1) := by decide +kernel
theorem dX1_leaveTrace_0 : decode cX1_leaveTrace 0 = .ok (.aload_n 0, 1) := by decide +kernel
theorem dX1_leaveTrace_1 : decode cX1_leaveTrace 1 = .ok (.getfield 15, 3) := by decide +kernel
theorem dX1_leaveTrace_4 : decode cX1_leaveTrace 4 = .ok (.bipush 16, 2) := by decide +kernel
theorem dX1_leaveTrace_6 : decode cX1_leaveTrace 6 = .ok (.if_icmp .ge 23, 3) := by decide +kernel
theorem dX1_leaveTrace_9 : decode cX1_leaveTrace 9 = .ok (.aload_n 0, 1) := by decide +kernel
theorem dX1_leaveTrace_10 : decode cX1_leaveTrace 10 = .ok (.getfield 11, 3) := by decide +kernel
theorem dX1_leaveTrace_13 : decode cX1_leaveTrace 13 = .ok (.aload_n 0, 1) := by decide +kernel
theorem dX1_leaveTrace_14 : decode cX1_leaveTrace 14 = .ok (.getfield 15, 3) := by decide +kernel
theorem dX1_leaveTrace_17 : decode cX1_leaveTrace 17 = .ok (.iload_n 1, 1) := by decide +kernel
theorem dX1_leaveTrace_18 : decode cX1_leaveTrace 18 = .ok (.iastore, 1) := by decide +kernel
theorem dX1_leaveTrace_19 : decode cX1_leaveTrace 19 = .ok (.aload_n 0, 1) := by decide +kernel
theorem dX1_leaveTrace_20 : decode cX1_leaveTrace 20 = .ok (.dup, 1) := by decide +kernel
theorem dX1_leaveTrace_21 : decode cX1_leaveTrace 21 = .ok (.getfield 15, 3) := by decide +kernel
theorem dX1_leaveTrace_24 : decode cX1_leaveTrace 24 = .ok (.iconst 1, 1) := by decide +kernel
theorem dX1_leaveTrace_25 : decode cX1_leaveTrace 25 = .ok (.iadd, 1) := by decide +kernel
theorem dX1_leaveTrace_26 : decode cX1_leaveTrace 26 = .ok (.putfield 15, 3) := by decide +kernel
theorem dX1_leaveTrace_29 : decode cX1_leaveTrace 29 = .ok (.return_, 1) := by decide +kernel
