theorem dX1_init_0 : decode cX1_init 0 = .ok (.aload_n 0, 1) := by decide +kernel
theorem dX1_init_1 : decode cX1_init 1 = .ok (.invokespecial 3, 3) := by decide +kernel
theorem dX1_init_4 : decode cX1_init 4 = .ok (.aload_n 0, 1) := by decide +kernel
theorem dX1_init_5 : decode cX1_init 5 = .ok (.bipush 16, 2) := by decide +kernel
theorem dX1_init_7 : decode cX1_init 7 = .ok (.newarray .int, 2) := by decide +kernel
theorem dX1_init_9 : decode cX1_init 9 = .ok (.putfield 11, 3) := by decide +kernel
theorem dX1_init_12 : decode cX1_init 12 = .ok (.aload_n 0, 1) := by decide +kernel
theorem dX1_init_13 : decode cX1_init 13 = .ok (.iconst 0, 1) := by decide +kernel
theorem dX1_init_14 : decode cX1_init 14 = .ok (.putfield 15, 3) := by decide +kernel
theorem dX1_init_17 : decode cX1_init 17 = .ok (.aload_n 0, 1) := by decide +kernel
theorem dX1_init_18 : decode cX1_init 18 = .ok (.aload_n 1, 1) := by decide +kernel
theorem dX1_init_19 : decode cX1_init 19 = .ok (.putfield 19, 3) := by decide +kernel
theorem dX1_init_22 : decode cX1_init 22 = .ok (.return_, 1) := by decide +kernel
theorem dX1_answer_0 : decode cX1_answer 0 = .ok (.aload_n 0, 1) := by decide +kernel
theorem dX1_answer_1 : decode cX1_answer 1 = .ok (.iconst 0, 1) := by decide +kernel
theorem dX1_answer_2 : decode cX1_answer 2 = .ok (.putfield 15, 3) := by decide +kernel
theorem dX1_answer_5 : decode cX1_answer 5 = .ok (.iload_n 2, 1) := by decide +kernel
theorem dX1_answer_6 : decode cX1_answer 6 = .ok (.ifCond .ne 12, 3) := by decide +kernel
theorem dX1_answer_9 : decode cX1_answer 9 = .ok (.aload_n 0, 1) := by decide +kernel
theorem dX1_answer_10 : decode cX1_answer 10 = .ok (.iload_n 1, 1) := by decide +kernel
theorem dX1_answer_11 : decode cX1_answer 11 = .ok (.iconst 0, 1) := by decide +kernel
theorem dX1_answer_12 : decode cX1_answer 12 = .ok (.invokevirtual 23, 3) := by decide +kernel
theorem dX1_answer_15 : decode cX1_answer 15 = .ok (.goto 9, 3) := by decide +kernel
theorem dX1_answer_18 : decode cX1_answer 18 = .ok (.aload_n 0, 1) := by decide +kernel
theorem dX1_answer_19 : decode cX1_answer 19 = .ok (.iload_n 1, 1) := by decide +kernel
theorem dX1_answer_20 : decode cX1_answer 20 = .ok (.iconst 0, 1) := by decide +kernel
theorem dX1_answer_21 : decode cX1_answer 21 = .ok (.invokevirtual 27, 3) := by decide +kernel
theorem dX1_answer_24 : decode cX1_answer 24 = .ok (.ireturn, 1) := by decide +kernel
theorem dX1_traceAt_0 : decode cX1_traceAt 0 = .ok (.iload_n 1, 1) := by decide +kernel
theorem dX1_traceAt_1 : decode cX1_traceAt 1 = .ok (.ifCond .lt 20, 3) := by decide +kernel
theorem dX1_traceAt_4 : decode cX1_traceAt 4 = .ok (.iload_n 1, 1) := by decide +kernel
theorem dX1_traceAt_5 : decode cX1_traceAt 5 = .ok (.aload_n 0, 1) := by decide +kernel
theorem dX1_traceAt_6 : decode cX1_traceAt 6 = .ok (.getfield 15, 3) := by decide +kernel
theorem dX1_traceAt_9 : decode cX1_traceAt 9 = .ok (.if_icmp .ge 12, 3) := by decide +kernel
theorem dX1_traceAt_12 : decode cX1_traceAt 12 = .ok (.aload_n 0, 1) := by decide +kernel
theorem dX1_traceAt_13 : decode cX1_traceAt 13 = .ok (.getfield 11, 3) := by decide +kernel
theorem dX1_traceAt_16 : decode cX1_traceAt 16 = .ok (.iload_n 1, 1) := by decide +kernel
theorem dX1_traceAt_17 : decode cX1_traceAt 17 = .ok (.iaload, 1) := by decide +kernel
theorem dX1_traceAt_18 : decode cX1_traceAt 18 = .ok (.goto 5, 3) := by decide +kernel
theorem dX1_traceAt_21 : decode cX1_traceAt 21 = .ok (.ldc 30, 2) := by decide +kernel
theorem dX1_traceAt_23 : decode cX1_traceAt 23 = .ok (.ireturn, 1) := by decide +kernel
theorem dX1_sizeOf_0 : decode cX1_sizeOf 0 = .ok (.aload_n 0, 1) := by decide +kernel
theorem dX1_sizeOf_1 : decode cX1_sizeOf 1 = .ok (.getstatic 31, 3) := by decide +kernel
theorem dX1_sizeOf_4 : decode cX1_sizeOf 4 = .ok (.aload_n 0, 1) := by decide +kernel
theorem dX1_sizeOf_5 : decode cX1_sizeOf 5 = .ok (.getfield 19, 3) := by decide +kernel
theorem dX1_sizeOf_8 : decode cX1_sizeOf 8 = .ok (.getfield 34, 3) := by decide +kernel
theorem dX1_sizeOf_11 : decode cX1_sizeOf 11 = .ok (.iload_n 1, 1) := by decide +kernel
theorem dX1_sizeOf_12 : decode cX1_sizeOf 12 = .ok (.iaload, 1) := by decide +kernel
theorem dX1_sizeOf_13 : decode cX1_sizeOf 13 = .ok (.invokestatic 39, 3) := by decide +kernel
theorem dX1_sizeOf_16 : decode cX1_sizeOf 16 = .ok (.iload_n 1, 1) := by decide +kernel
theorem dX1_sizeOf_17 : decode cX1_sizeOf 17 = .ok (.iload_n 2, 1) := by decide +kernel
theorem dX1_sizeOf_18 : decode cX1_sizeOf 18 = .ok (.invokevirtual 43, 3) := by decide +kernel
theorem dX1_sizeOf_21 : decode cX1_sizeOf 21 = .ok (.ireturn, 1) := by decide +kernel
theorem dX1_markOf_0 : decode cX1_markOf 0 = .ok (.aload_n 0, 1) := by decide +kernel
theorem dX1_markOf_1 : decode cX1_markOf 1 = .ok (.getstatic 47, 3) := by decide +kernel
theorem dX1_markOf_4 : decode cX1_markOf 4 = .ok (.aload_n 0, 1) := by decide +kernel
theorem dX1_markOf_5 : decode cX1_markOf 5 = .ok (.getfield 19, 3) := by decide +kernel
theorem dX1_markOf_8 : decode cX1_markOf 8 = .ok (.getfield 34, 3) := by decide +kernel
theorem dX1_markOf_11 : decode cX1_markOf 11 = .ok (.iload_n 1, 1) := by decide +kernel
theorem dX1_markOf_12 : decode cX1_markOf 12 = .ok (.iaload, 1) := by decide +kernel
theorem dX1_markOf_13 : decode cX1_markOf 13 = .ok (.invokestatic 39, 3) := by decide +kernel
theorem dX1_markOf_16 : decode cX1_markOf 16 = .ok (.iload_n 1, 1) := by decide +kernel
theorem dX1_markOf_17 : decode cX1_markOf 17 = .ok (.iload_n 2, 1) := by decide +kernel
theorem dX1_markOf_18 : decode cX1_markOf 18 = .ok (.invokevirtual 43, 3) := by decide +kernel
theorem dX1_markOf_21 : decode cX1_markOf 21 = .ok (.ireturn, 1) := by decide +kernel
theorem dX1_nearestBody_0 : decode cX1_nearestBody 0 = .ok (.iload_n 1, 1) := by decide +kernel
theorem dX1_nearestBody_1 : decode cX1_nearestBody 1 = .ok (.istore_n 2, 1) := by decide +kernel
theorem dX1_nearestBody_2 : decode cX1_nearestBody 2 = .ok (.iconst 0, 1) := by decide +kernel
theorem dX1_nearestBody_3 : decode cX1_nearestBody 3 = .ok (.istore_n 3, 1) := by decide +kernel
theorem dX1_nearestBody_4 : decode cX1_nearestBody 4 = .ok (.iload_n 3, 1) := by decide +kernel
theorem dX1_nearestBody_5 : decode cX1_nearestBody 5 = .ok (.bipush 6, 2) := by decide +kernel
theorem dX1_nearestBody_7 : decode cX1_nearestBody 7 = .ok (.if_icmp .ge 20, 3) := by decide +kernel
theorem dX1_nearestBody_10 : decode cX1_nearestBody 10 = .ok (.aload_n 0, 1) := by decide +kernel
theorem dX1_nearestBody_11 : decode cX1_nearestBody 11 = .ok (.iload_n 2, 1) := by decide +kernel
theorem dX1_nearestBody_12 : decode cX1_nearestBody 12 = .ok (.iaload, 1) := by decide +kernel
theorem dX1_nearestBody_13 : decode cX1_nearestBody 13 = .ok (.ifCond .ne 14, 3) := by decide +kernel
theorem dX1_nearestBody_16 : decode cX1_nearestBody 16 = .ok (.iload_n 2, 1) := by decide +kernel
theorem dX1_nearestBody_17 : decode cX1_nearestBody 17 = .ok (.invokestatic 52, 3) := by decide +kernel
theorem dX1_nearestBody_20 : decode cX1_nearestBody 20 = .ok (.istore_n 2, 1) := by decide +kernel
theorem dX1_nearestBody_21 : decode cX1_nearestBody 21 = .ok (.iinc 3 1, 3) := by decide +kernel
theorem dX1_nearestBody_24 : decode cX1_nearestBody 24 = .ok (.goto (-20), 3) := by decide +kernel
theorem dX1_nearestBody_27 : decode cX1_nearestBody 27 = .ok (.aload_n 0, 1) := by decide +kernel
theorem dX1_nearestBody_28 : decode cX1_nearestBody 28 = .ok (.iload_n 2, 1) := by decide +kernel
theorem dX1_nearestBody_29 : decode cX1_nearestBody 29 = .ok (.iaload, 1) := by decide +kernel
theorem dX1_nearestBody_30 : decode cX1_nearestBody 30 = .ok (.ireturn, 1) := by decide +kernel
theorem dX1_run_0 : decode cX1_run 0 = .ok (.iload_n 3, 1) := by decide +kernel
theorem dX1_run_1 : decode cX1_run 1 = .ok (.bipush 20, 2) := by decide +kernel
theorem dX1_run_3 : decode cX1_run 3 = .ok (.if_icmp .le 5, 3) := by decide +kernel
theorem dX1_run_6 : decode cX1_run 6 = .ok (.iconst 0, 1) := by decide +kernel
theorem dX1_run_7 : decode cX1_run 7 = .ok (.ireturn, 1) := by decide +kernel
theorem dX1_run_8 : decode cX1_run 8 = .ok (.aload_n 0, 1) := by decide +kernel
theorem dX1_run_9 : decode cX1_run 9 = .ok (.iload_n 1, 1) := by decide +kernel
theorem dX1_run_10 : decode cX1_run 10 = .ok (.invokevirtual 56, 3) := by decide +kernel
theorem dX1_run_13 : decode cX1_run 13 = .ok (.iload_n 3, 1) := by decide +kernel
theorem dX1_run_14 : decode cX1_run 14 = .ok (.iconst 1, 1) := by decide +kernel
theorem dX1_run_15 : decode cX1_run 15 = .ok (.iadd, 1) := by decide +kernel
theorem dX1_run_16 : decode cX1_run 16 = .ok (.istore 4, 2) := by decide +kernel
theorem dX1_run_18 : decode cX1_run 18 = .ok (.iload_n 1, 1) := by decide +kernel
theorem dX1_run_19 : decode cX1_run 19 = .ok (.tableswitch 209 10 24 #[73, 83, 101, 112, 125, 209, 209, 209, 209, 209, 137, 139, 165, 179, 197], 73) := by decide +kernel
theorem dX1_run_92 : decode cX1_run 92 = .ok (.aload_n 0, 1) := by decide +kernel
theorem dX1_run_93 : decode cX1_run 93 = .ok (.getfield 19, 3) := by decide +kernel
theorem dX1_run_96 : decode cX1_run 96 = .ok (.getfield 60, 3) := by decide +kernel
theorem dX1_run_99 : decode cX1_run 99 = .ok (.iload_n 2, 1) := by decide +kernel
theorem dX1_run_100 : decode cX1_run 100 = .ok (.iaload, 1) := by decide +kernel
theorem dX1_run_101 : decode cX1_run 101 = .ok (.ireturn, 1) := by decide +kernel
theorem dX1_run_102 : decode cX1_run 102 = .ok (.aload_n 0, 1) := by decide +kernel
theorem dX1_run_103 : decode cX1_run 103 = .ok (.bipush 10, 2) := by decide +kernel
theorem dX1_run_105 : decode cX1_run 105 = .ok (.iload_n 2, 1) := by decide +kernel
theorem dX1_run_106 : decode cX1_run 106 = .ok (.iload 4, 2) := by decide +kernel
theorem dX1_run_108 : decode cX1_run 108 = .ok (.invokevirtual 43, 3) := by decide +kernel
theorem dX1_run_111 : decode cX1_run 111 = .ok (.aload_n 0, 1) := by decide +kernel
theorem dX1_run_112 : decode cX1_run 112 = .ok (.iload_n 2, 1) := by decide +kernel
theorem dX1_run_113 : decode cX1_run 113 = .ok (.iload 4, 2) := by decide +kernel
theorem dX1_run_115 : decode cX1_run 115 = .ok (.invokevirtual 27, 3) := by decide +kernel
theorem dX1_run_118 : decode cX1_run 118 = .ok (.iadd, 1) := by decide +kernel
theorem dX1_run_119 : decode cX1_run 119 = .ok (.ireturn, 1) := by decide +kernel
theorem dX1_run_120 : decode cX1_run 120 = .ok (.aload_n 0, 1) := by decide +kernel
theorem dX1_run_121 : decode cX1_run 121 = .ok (.bipush 11, 2) := by decide +kernel
theorem dX1_run_123 : decode cX1_run 123 = .ok (.iload_n 2, 1) := by decide +kernel
theorem dX1_run_124 : decode cX1_run 124 = .ok (.iload 4, 2) := by decide +kernel
theorem dX1_run_126 : decode cX1_run 126 = .ok (.invokevirtual 43, 3) := by decide +kernel
theorem dX1_run_129 : decode cX1_run 129 = .ok (.ineg, 1) := by decide +kernel
theorem dX1_run_130 : decode cX1_run 130 = .ok (.ireturn, 1) := by decide +kernel
theorem dX1_run_131 : decode cX1_run 131 = .ok (.aload_n 0, 1) := by decide +kernel
theorem dX1_run_132 : decode cX1_run 132 = .ok (.bipush 10, 2) := by decide +kernel
theorem dX1_run_134 : decode cX1_run 134 = .ok (.iload_n 2, 1) := by decide +kernel
theorem dX1_run_135 : decode cX1_run 135 = .ok (.iload 4, 2) := by decide +kernel
theorem dX1_run_137 : decode cX1_run 137 = .ok (.invokevirtual 43, 3) := by decide +kernel
theorem dX1_run_140 : decode cX1_run 140 = .ok (.bipush 100, 2) := by decide +kernel
theorem dX1_run_142 : decode cX1_run 142 = .ok (.isub, 1) := by decide +kernel
theorem dX1_run_143 : decode cX1_run 143 = .ok (.ireturn, 1) := by decide +kernel
theorem dX1_run_144 : decode cX1_run 144 = .ok (.iconst 2, 1) := by decide +kernel
theorem dX1_run_145 : decode cX1_run 145 = .ok (.aload_n 0, 1) := by decide +kernel
theorem dX1_run_146 : decode cX1_run 146 = .ok (.bipush 13, 2) := by decide +kernel
theorem dX1_run_148 : decode cX1_run 148 = .ok (.iload_n 2, 1) := by decide +kernel
theorem dX1_run_149 : decode cX1_run 149 = .ok (.iload 4, 2) := by decide +kernel
theorem dX1_run_151 : decode cX1_run 151 = .ok (.invokevirtual 43, 3) := by decide +kernel
theorem dX1_run_154 : decode cX1_run 154 = .ok (.imul, 1) := by decide +kernel
theorem dX1_run_155 : decode cX1_run 155 = .ok (.ireturn, 1) := by decide +kernel
theorem dX1_run_156 : decode cX1_run 156 = .ok (.iload_n 2, 1) := by decide +kernel
theorem dX1_run_157 : decode cX1_run 157 = .ok (.ireturn, 1) := by decide +kernel
theorem dX1_run_158 : decode cX1_run 158 = .ok (.aload_n 0, 1) := by decide +kernel
theorem dX1_run_159 : decode cX1_run 159 = .ok (.bipush 20, 2) := by decide +kernel
theorem dX1_run_161 : decode cX1_run 161 = .ok (.iload_n 2, 1) := by decide +kernel
theorem dX1_run_162 : decode cX1_run 162 = .ok (.iload 4, 2) := by decide +kernel
theorem dX1_run_164 : decode cX1_run 164 = .ok (.invokevirtual 43, 3) := by decide +kernel
theorem dX1_run_167 : decode cX1_run 167 = .ok (.aload_n 0, 1) := by decide +kernel
theorem dX1_run_168 : decode cX1_run 168 = .ok (.getfield 19, 3) := by decide +kernel
theorem dX1_run_171 : decode cX1_run 171 = .ok (.aload_n 0, 1) := by decide +kernel
theorem dX1_run_172 : decode cX1_run 172 = .ok (.getfield 19, 3) := by decide +kernel
theorem dX1_run_175 : decode cX1_run 175 = .ok (.getfield 63, 3) := by decide +kernel
theorem dX1_run_178 : decode cX1_run 178 = .ok (.iload_n 2, 1) := by decide +kernel
theorem dX1_run_179 : decode cX1_run 179 = .ok (.invokevirtual 66, 3) := by decide +kernel
theorem dX1_run_182 : decode cX1_run 182 = .ok (.iadd, 1) := by decide +kernel
theorem dX1_run_183 : decode cX1_run 183 = .ok (.ireturn, 1) := by decide +kernel
theorem dX1_run_184 : decode cX1_run 184 = .ok (.aload_n 0, 1) := by decide +kernel
theorem dX1_run_185 : decode cX1_run 185 = .ok (.bipush 21, 2) := by decide +kernel
theorem dX1_run_187 : decode cX1_run 187 = .ok (.iload_n 2, 1) := by decide +kernel
theorem dX1_run_188 : decode cX1_run 188 = .ok (.iload 4, 2) := by decide +kernel
theorem dX1_run_190 : decode cX1_run 190 = .ok (.invokevirtual 43, 3) := by decide +kernel
theorem dX1_run_193 : decode cX1_run 193 = .ok (.sipush 1000, 3) := by decide +kernel
theorem dX1_run_196 : decode cX1_run 196 = .ok (.isub, 1) := by decide +kernel
theorem dX1_run_197 : decode cX1_run 197 = .ok (.ireturn, 1) := by decide +kernel
theorem dX1_run_198 : decode cX1_run 198 = .ok (.aload_n 0, 1) := by decide +kernel
theorem dX1_run_199 : decode cX1_run 199 = .ok (.bipush 20, 2) := by decide +kernel
theorem dX1_run_201 : decode cX1_run 201 = .ok (.iload_n 2, 1) := by decide +kernel
theorem dX1_run_202 : decode cX1_run 202 = .ok (.iload 4, 2) := by decide +kernel
theorem dX1_run_204 : decode cX1_run 204 = .ok (.invokevirtual 43, 3) := by decide +kernel
theorem dX1_run_207 : decode cX1_run 207 = .ok (.aload_n 0, 1) := by decide +kernel
theorem dX1_run_208 : decode cX1_run 208 = .ok (.iload_n 2, 1) := by decide +kernel
theorem dX1_run_209 : decode cX1_run 209 = .ok (.iload 4, 2) := by decide +kernel
theorem dX1_run_211 : decode cX1_run 211 = .ok (.invokevirtual 23, 3) := by decide +kernel
theorem dX1_run_214 : decode cX1_run 214 = .ok (.isub, 1) := by decide +kernel
theorem dX1_run_215 : decode cX1_run 215 = .ok (.ireturn, 1) := by decide +kernel
theorem dX1_run_216 : decode cX1_run 216 = .ok (.iconst 2, 1) := by decide +kernel
theorem dX1_run_217 : decode cX1_run 217 = .ok (.aload_n 0, 1) := by decide +kernel
theorem dX1_run_218 : decode cX1_run 218 = .ok (.bipush 21, 2) := by decide +kernel
theorem dX1_run_220 : decode cX1_run 220 = .ok (.iload_n 2, 1) := by decide +kernel
theorem dX1_run_221 : decode cX1_run 221 = .ok (.iload 4, 2) := by decide +kernel
theorem dX1_run_223 : decode cX1_run 223 = .ok (.invokevirtual 43, 3) := by decide +kernel
theorem dX1_run_226 : decode cX1_run 226 = .ok (.imul, 1) := by decide +kernel
theorem dX1_run_227 : decode cX1_run 227 = .ok (.ireturn, 1) := by decide +kernel
theorem dX1_run_228 : decode cX1_run 228 = .ok (.iconst 0, 1) := by decide +kernel
theorem dX1_run_229 : decode cX1_run 229 = .ok (.ireturn, 1) := by decide +kernel
theorem dX1_leaveTrace_0 : decode cX1_leaveTrace 0 = .ok (.aload_n 0, 1) := by decide +kernel
theorem dX1_leaveTrace_1 : decode cX1_leaveTrace 1 = .ok (.getfield 15, 3) := by decide +kernel
theorem dX1_leaveTrace_4 : decode cX1_leaveTrace 4 = .ok (.bipush 16, 2) := by decide +kernel
theorem dX1_leaveTrace_6 : decode cX1_leaveTrace 6 = .ok (.if_icmp .ge 23, 3) := by decide +kernel
theorem dX1_leaveTrace_9 : decode cX1_leaveTrace 9 = .ok (.aload_n 0, 1) := by decide +kernel
theorem dX1_leaveTrace_10 : decode cX1_leaveTrace 10 = .ok (.getfield 11, 3) := by decide +kernel
theorem dX1_leaveTrace_13 : decode cX1_leaveTrace 13 = .ok (.aload_n 0, 1) := by decide +kernel
theorem dX1_leaveTrace_14 : decode cX1_leaveTrace 14 = .ok (.getfield 15, 3) := by decide +kernel
theorem dX1_leaveTrace_17 : decode cX1_leaveTrace 17 = .ok (.iload_n 1, 1) := by decide +kernel
theorem dX1_leaveTrace_18 : decode cX1_leaveTrace 18 = .ok (.iastore, 1) := by decide +kernel
theorem dX1_leaveTrace_19 : decode cX1_leaveTrace 19 = .ok (.aload_n 0, 1) := by decide +kernel
theorem dX1_leaveTrace_20 : decode cX1_leaveTrace 20 = .ok (.dup, 1) := by decide +kernel
theorem dX1_leaveTrace_21 : decode cX1_leaveTrace 21 = .ok (.getfield 15, 3) := by decide +kernel
theorem dX1_leaveTrace_24 : decode cX1_leaveTrace 24 = .ok (.iconst 1, 1) := by decide +kernel
theorem dX1_leaveTrace_25 : decode cX1_leaveTrace 25 = .ok (.iadd, 1) := by decide +kernel
theorem dX1_leaveTrace_26 : decode cX1_leaveTrace 26 = .ok (.putfield 15, 3) := by decide +kernel
theorem dX1_leaveTrace_29 : decode cX1_leaveTrace 29 = .ok (.return_, 1) := by decide +kernel
