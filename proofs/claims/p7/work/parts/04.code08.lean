theorem d_10_58_13 : decode prog_10_method_58_code 13 = .ok (.bipush 15, 2) := by decide +kernel
theorem d_10_58_15 : decode prog_10_method_58_code 15 = .ok (.if_icmp .eq 15, 3) := by decide +kernel
theorem d_10_58_18 : decode prog_10_method_58_code 18 = .ok (.iload_n 0, 1) := by decide +kernel
theorem d_10_58_19 : decode prog_10_method_58_code 19 = .ok (.bipush 16, 2) := by decide +kernel
theorem d_10_58_21 : decode prog_10_method_58_code 21 = .ok (.if_icmp .eq 9, 3) := by decide +kernel
theorem d_10_58_24 : decode prog_10_method_58_code 24 = .ok (.iload_n 0, 1) := by decide +kernel
theorem d_10_58_25 : decode prog_10_method_58_code 25 = .ok (.bipush 17, 2) := by decide +kernel
theorem d_10_58_27 : decode prog_10_method_58_code 27 = .ok (.if_icmp .ne 7, 3) := by decide +kernel
theorem d_10_58_30 : decode prog_10_method_58_code 30 = .ok (.iconst 1, 1) := by decide +kernel
theorem d_10_58_31 : decode prog_10_method_58_code 31 = .ok (.goto 4, 3) := by decide +kernel
theorem d_10_58_34 : decode prog_10_method_58_code 34 = .ok (.iconst 0, 1) := by decide +kernel
theorem d_10_58_35 : decode prog_10_method_58_code 35 = .ok (.ireturn, 1) := by decide +kernel
theorem d_10_59_0 : decode prog_10_method_59_code 0 = .ok (.iload_n 1, 1) := by decide +kernel
theorem d_10_59_1 : decode prog_10_method_59_code 1 = .ok (.istore_n 3, 1) := by decide +kernel
theorem d_10_59_2 : decode prog_10_method_59_code 2 = .ok (.iload_n 2, 1) := by decide +kernel
theorem d_10_59_3 : decode prog_10_method_59_code 3 = .ok (.iconst 2, 1) := by decide +kernel
theorem d_10_59_4 : decode prog_10_method_59_code 4 = .ok (.if_icmp .ne 18, 3) := by decide +kernel
theorem d_10_59_7 : decode prog_10_method_59_code 7 = .ok (.aload_n 0, 1) := by decide +kernel
theorem d_10_59_8 : decode prog_10_method_59_code 8 = .ok (.getfield 66, 3) := by decide +kernel
theorem d_10_59_11 : decode prog_10_method_59_code 11 = .ok (.iload_n 3, 1) := by decide +kernel
theorem d_10_59_12 : decode prog_10_method_59_code 12 = .ok (.iaload, 1) := by decide +kernel
theorem d_10_59_13 : decode prog_10_method_59_code 13 = .ok (.invokestatic 442, 3) := by decide +kernel
theorem d_10_59_16 : decode prog_10_method_59_code 16 = .ok (.ifCond .eq 39, 3) := by decide +kernel
theorem d_10_59_19 : decode prog_10_method_59_code 19 = .ok (.goto 15, 3) := by decide +kernel
theorem d_10_59_22 : decode prog_10_method_59_code 22 = .ok (.aload_n 0, 1) := by decide +kernel
theorem d_10_59_23 : decode prog_10_method_59_code 23 = .ok (.getfield 66, 3) := by decide +kernel
theorem d_10_59_26 : decode prog_10_method_59_code 26 = .ok (.iload_n 3, 1) := by decide +kernel
theorem d_10_59_27 : decode prog_10_method_59_code 27 = .ok (.iaload, 1) := by decide +kernel
theorem d_10_59_28 : decode prog_10_method_59_code 28 = .ok (.invokestatic 445, 3) := by decide +kernel
theorem d_10_59_31 : decode prog_10_method_59_code 31 = .ok (.ifCond .eq 24, 3) := by decide +kernel
theorem d_10_59_34 : decode prog_10_method_59_code 34 = .ok (.aload_n 0, 1) := by decide +kernel
theorem d_10_59_35 : decode prog_10_method_59_code 35 = .ok (.aload_n 0, 1) := by decide +kernel
theorem d_10_59_36 : decode prog_10_method_59_code 36 = .ok (.getfield 78, 3) := by decide +kernel
theorem d_10_59_39 : decode prog_10_method_59_code 39 = .ok (.iload_n 3, 1) := by decide +kernel
theorem d_10_59_40 : decode prog_10_method_59_code 40 = .ok (.iaload, 1) := by decide +kernel
theorem d_10_59_41 : decode prog_10_method_59_code 41 = .ok (.iload_n 2, 1) := by decide +kernel
theorem d_10_59_42 : decode prog_10_method_59_code 42 = .ok (.invokevirtual 421, 3) := by decide +kernel
theorem d_10_59_45 : decode prog_10_method_59_code 45 = .ok (.aload_n 0, 1) := by decide +kernel
theorem d_10_59_46 : decode prog_10_method_59_code 46 = .ok (.getfield 75, 3) := by decide +kernel
theorem d_10_59_49 : decode prog_10_method_59_code 49 = .ok (.iload_n 3, 1) := by decide +kernel
theorem d_10_59_50 : decode prog_10_method_59_code 50 = .ok (.iaload, 1) := by decide +kernel
theorem d_10_59_51 : decode prog_10_method_59_code 51 = .ok (.istore_n 3, 1) := by decide +kernel
theorem d_10_59_52 : decode prog_10_method_59_code 52 = .ok (.goto (-50), 3) := by decide +kernel
theorem d_10_59_55 : decode prog_10_method_59_code 55 = .ok (.aload_n 0, 1) := by decide +kernel
theorem d_10_59_56 : decode prog_10_method_59_code 56 = .ok (.iload_n 3, 1) := by decide +kernel
theorem d_10_59_57 : decode prog_10_method_59_code 57 = .ok (.iload_n 2, 1) := by decide +kernel
theorem d_10_59_58 : decode prog_10_method_59_code 58 = .ok (.invokevirtual 421, 3) := by decide +kernel
theorem d_10_59_61 : decode prog_10_method_59_code 61 = .ok (.return_, 1) := by decide +kernel
theorem d_10_5_0 : decode prog_10_method_5_code 0 = .ok (.iconst 0, 1) := by decide +kernel
theorem d_10_5_1 : decode prog_10_method_5_code 1 = .ok (.istore_n 2, 1) := by decide +kernel
theorem d_10_5_2 : decode prog_10_method_5_code 2 = .ok (.iconst 0, 1) := by decide +kernel
theorem d_10_5_3 : decode prog_10_method_5_code 3 = .ok (.istore_n 3, 1) := by decide +kernel
theorem d_10_5_4 : decode prog_10_method_5_code 4 = .ok (.iconst 1, 1) := by decide +kernel
theorem d_10_5_5 : decode prog_10_method_5_code 5 = .ok (.istore 4, 2) := by decide +kernel
theorem d_10_5_7 : decode prog_10_method_5_code 7 = .ok (.iload 4, 2) := by decide +kernel
theorem d_10_5_9 : decode prog_10_method_5_code 9 = .ok (.ifCond .eq 499, 3) := by decide +kernel
theorem d_10_5_12 : decode prog_10_method_5_code 12 = .ok (.iload_n 2, 1) := by decide +kernel
theorem d_10_5_13 : decode prog_10_method_5_code 13 = .ok (.iload_n 1, 1) := by decide +kernel
theorem d_10_5_14 : decode prog_10_method_5_code 14 = .ok (.if_icmp .ge 31, 3) := by decide +kernel
theorem d_10_5_17 : decode prog_10_method_5_code 17 = .ok (.aload_n 0, 1) := by decide +kernel
theorem d_10_5_18 : decode prog_10_method_5_code 18 = .ok (.getfield 15, 3) := by decide +kernel
theorem d_10_5_21 : decode prog_10_method_5_code 21 = .ok (.iload_n 2, 1) := by decide +kernel
theorem d_10_5_22 : decode prog_10_method_5_code 22 = .ok (.baload, 1) := by decide +kernel
theorem d_10_5_23 : decode prog_10_method_5_code 23 = .ok (.bipush 32, 2) := by decide +kernel
theorem d_10_5_25 : decode prog_10_method_5_code 25 = .ok (.if_icmp .eq 14, 3) := by decide +kernel
theorem d_10_5_28 : decode prog_10_method_5_code 28 = .ok (.aload_n 0, 1) := by decide +kernel
theorem d_10_5_29 : decode prog_10_method_5_code 29 = .ok (.getfield 15, 3) := by decide +kernel
theorem d_10_5_32 : decode prog_10_method_5_code 32 = .ok (.iload_n 2, 1) := by decide +kernel
theorem d_10_5_33 : decode prog_10_method_5_code 33 = .ok (.baload, 1) := by decide +kernel
theorem d_10_5_34 : decode prog_10_method_5_code 34 = .ok (.bipush 10, 2) := by decide +kernel
theorem d_10_5_36 : decode prog_10_method_5_code 36 = .ok (.if_icmp .ne 9, 3) := by decide +kernel
theorem d_10_5_39 : decode prog_10_method_5_code 39 = .ok (.iinc 2 1, 3) := by decide +kernel
theorem d_10_5_42 : decode prog_10_method_5_code 42 = .ok (.goto (-30), 3) := by decide +kernel
theorem d_10_5_45 : decode prog_10_method_5_code 45 = .ok (.aload_n 0, 1) := by decide +kernel
theorem d_10_5_46 : decode prog_10_method_5_code 46 = .ok (.getfield 19, 3) := by decide +kernel
theorem d_10_5_49 : decode prog_10_method_5_code 49 = .ok (.iload_n 3, 1) := by decide +kernel
theorem d_10_5_50 : decode prog_10_method_5_code 50 = .ok (.iload_n 2, 1) := by decide +kernel
theorem d_10_5_51 : decode prog_10_method_5_code 51 = .ok (.iastore, 1) := by decide +kernel
theorem d_10_5_52 : decode prog_10_method_5_code 52 = .ok (.iload_n 2, 1) := by decide +kernel
theorem d_10_5_53 : decode prog_10_method_5_code 53 = .ok (.iload_n 1, 1) := by decide +kernel
theorem d_10_5_54 : decode prog_10_method_5_code 54 = .ok (.if_icmp .ne 13, 3) := by decide +kernel
theorem d_10_5_57 : decode prog_10_method_5_code 57 = .ok (.aload_n 0, 1) := by decide +kernel
theorem d_10_5_58 : decode prog_10_method_5_code 58 = .ok (.getfield 23, 3) := by decide +kernel
theorem d_10_5_61 : decode prog_10_method_5_code 61 = .ok (.iload_n 3, 1) := by decide +kernel
theorem d_10_5_62 : decode prog_10_method_5_code 62 = .ok (.iconst 0, 1) := by decide +kernel
theorem d_10_5_63 : decode prog_10_method_5_code 63 = .ok (.iastore, 1) := by decide +kernel
theorem d_10_5_64 : decode prog_10_method_5_code 64 = .ok (.goto 405, 3) := by decide +kernel
theorem d_10_5_67 : decode prog_10_method_5_code 67 = .ok (.aload_n 0, 1) := by decide +kernel
theorem d_10_5_68 : decode prog_10_method_5_code 68 = .ok (.getfield 15, 3) := by decide +kernel
theorem d_10_5_71 : decode prog_10_method_5_code 71 = .ok (.iload_n 2, 1) := by decide +kernel
theorem d_10_5_72 : decode prog_10_method_5_code 72 = .ok (.baload, 1) := by decide +kernel
theorem d_10_5_73 : decode prog_10_method_5_code 73 = .ok (.invokestatic 26, 3) := by decide +kernel
theorem d_10_5_76 : decode prog_10_method_5_code 76 = .ok (.ifCond .eq 93, 3) := by decide +kernel
theorem d_10_5_79 : decode prog_10_method_5_code 79 = .ok (.iload_n 2, 1) := by decide +kernel
theorem d_10_5_80 : decode prog_10_method_5_code 80 = .ok (.iload_n 1, 1) := by decide +kernel
theorem d_10_5_81 : decode prog_10_method_5_code 81 = .ok (.if_icmp .ge 33, 3) := by decide +kernel
theorem d_10_5_84 : decode prog_10_method_5_code 84 = .ok (.aload_n 0, 1) := by decide +kernel
theorem d_10_5_85 : decode prog_10_method_5_code 85 = .ok (.getfield 15, 3) := by decide +kernel
theorem d_10_5_88 : decode prog_10_method_5_code 88 = .ok (.iload_n 2, 1) := by decide +kernel
theorem d_10_5_89 : decode prog_10_method_5_code 89 = .ok (.baload, 1) := by decide +kernel
theorem d_10_5_90 : decode prog_10_method_5_code 90 = .ok (.invokestatic 26, 3) := by decide +kernel
theorem d_10_5_93 : decode prog_10_method_5_code 93 = .ok (.ifCond .ne 15, 3) := by decide +kernel
theorem d_10_5_96 : decode prog_10_method_5_code 96 = .ok (.aload_n 0, 1) := by decide +kernel
theorem d_10_5_97 : decode prog_10_method_5_code 97 = .ok (.getfield 15, 3) := by decide +kernel
theorem d_10_5_100 : decode prog_10_method_5_code 100 = .ok (.iload_n 2, 1) := by decide +kernel
theorem d_10_5_101 : decode prog_10_method_5_code 101 = .ok (.baload, 1) := by decide +kernel
theorem d_10_5_102 : decode prog_10_method_5_code 102 = .ok (.invokestatic 30, 3) := by decide +kernel
theorem d_10_5_105 : decode prog_10_method_5_code 105 = .ok (.ifCond .eq 9, 3) := by decide +kernel
theorem d_10_5_108 : decode prog_10_method_5_code 108 = .ok (.iinc 2 1, 3) := by decide +kernel
theorem d_10_5_111 : decode prog_10_method_5_code 111 = .ok (.goto (-32), 3) := by decide +kernel
theorem d_10_5_114 : decode prog_10_method_5_code 114 = .ok (.aload_n 0, 1) := by decide +kernel
theorem d_10_5_115 : decode prog_10_method_5_code 115 = .ok (.getfield 23, 3) := by decide +kernel
theorem d_10_5_118 : decode prog_10_method_5_code 118 = .ok (.iload_n 3, 1) := by decide +kernel
theorem d_10_5_119 : decode prog_10_method_5_code 119 = .ok (.aload_n 0, 1) := by decide +kernel
theorem d_10_5_120 : decode prog_10_method_5_code 120 = .ok (.getfield 15, 3) := by decide +kernel
theorem d_10_5_123 : decode prog_10_method_5_code 123 = .ok (.aload_n 0, 1) := by decide +kernel
theorem d_10_5_124 : decode prog_10_method_5_code 124 = .ok (.getfield 19, 3) := by decide +kernel
theorem d_10_5_127 : decode prog_10_method_5_code 127 = .ok (.iload_n 3, 1) := by decide +kernel
theorem d_10_5_128 : decode prog_10_method_5_code 128 = .ok (.iaload, 1) := by decide +kernel
theorem d_10_5_129 : decode prog_10_method_5_code 129 = .ok (.iload_n 2, 1) := by decide +kernel
theorem d_10_5_130 : decode prog_10_method_5_code 130 = .ok (.aload_n 0, 1) := by decide +kernel
theorem d_10_5_131 : decode prog_10_method_5_code 131 = .ok (.getfield 19, 3) := by decide +kernel
theorem d_10_5_134 : decode prog_10_method_5_code 134 = .ok (.iload_n 3, 1) := by decide +kernel
theorem d_10_5_135 : decode prog_10_method_5_code 135 = .ok (.iaload, 1) := by decide +kernel
theorem d_10_5_136 : decode prog_10_method_5_code 136 = .ok (.isub, 1) := by decide +kernel
theorem d_10_5_137 : decode prog_10_method_5_code 137 = .ok (.invokestatic 33, 3) := by decide +kernel
theorem d_10_5_140 : decode prog_10_method_5_code 140 = .ok (.ifCond .eq 7, 3) := by decide +kernel
theorem d_10_5_143 : decode prog_10_method_5_code 143 = .ok (.iconst 2, 1) := by decide +kernel
theorem d_10_5_144 : decode prog_10_method_5_code 144 = .ok (.goto 21, 3) := by decide +kernel
theorem d_10_5_147 : decode prog_10_method_5_code 147 = .ok (.iload_n 2, 1) := by decide +kernel
theorem d_10_5_148 : decode prog_10_method_5_code 148 = .ok (.aload_n 0, 1) := by decide +kernel
theorem d_10_5_149 : decode prog_10_method_5_code 149 = .ok (.getfield 19, 3) := by decide +kernel
theorem d_10_5_152 : decode prog_10_method_5_code 152 = .ok (.iload_n 3, 1) := by decide +kernel
theorem d_10_5_153 : decode prog_10_method_5_code 153 = .ok (.iaload, 1) := by decide +kernel
theorem d_10_5_154 : decode prog_10_method_5_code 154 = .ok (.isub, 1) := by decide +kernel
theorem d_10_5_155 : decode prog_10_method_5_code 155 = .ok (.bipush 8, 2) := by decide +kernel
theorem d_10_5_157 : decode prog_10_method_5_code 157 = .ok (.if_icmp .gt 7, 3) := by decide +kernel
theorem d_10_5_160 : decode prog_10_method_5_code 160 = .ok (.iconst 1, 1) := by decide +kernel
theorem d_10_5_161 : decode prog_10_method_5_code 161 = .ok (.goto 4, 3) := by decide +kernel
theorem d_10_5_164 : decode prog_10_method_5_code 164 = .ok (.iconst 5, 1) := by decide +kernel
theorem d_10_5_165 : decode prog_10_method_5_code 165 = .ok (.iastore, 1) := by decide +kernel
theorem d_10_5_166 : decode prog_10_method_5_code 166 = .ok (.goto 303, 3) := by decide +kernel
theorem d_10_5_169 : decode prog_10_method_5_code 169 = .ok (.aload_n 0, 1) := by decide +kernel
theorem d_10_5_170 : decode prog_10_method_5_code 170 = .ok (.getfield 15, 3) := by decide +kernel
theorem d_10_5_173 : decode prog_10_method_5_code 173 = .ok (.iload_n 2, 1) := by decide +kernel
theorem d_10_5_174 : decode prog_10_method_5_code 174 = .ok (.baload, 1) := by decide +kernel
theorem d_10_5_175 : decode prog_10_method_5_code 175 = .ok (.invokestatic 30, 3) := by decide +kernel
theorem d_10_5_178 : decode prog_10_method_5_code 178 = .ok (.ifCond .eq 86, 3) := by decide +kernel
theorem d_10_5_181 : decode prog_10_method_5_code 181 = .ok (.lconst 0, 1) := by decide +kernel
theorem d_10_5_182 : decode prog_10_method_5_code 182 = .ok (.lstore 5, 2) := by decide +kernel
theorem d_10_5_184 : decode prog_10_method_5_code 184 = .ok (.iload_n 2, 1) := by decide +kernel
theorem d_10_5_185 : decode prog_10_method_5_code 185 = .ok (.iload_n 1, 1) := by decide +kernel
theorem d_10_5_186 : decode prog_10_method_5_code 186 = .ok (.if_icmp .ge 47, 3) := by decide +kernel
theorem d_10_5_189 : decode prog_10_method_5_code 189 = .ok (.aload_n 0, 1) := by decide +kernel
theorem d_10_5_190 : decode prog_10_method_5_code 190 = .ok (.getfield 15, 3) := by decide +kernel
theorem d_10_5_193 : decode prog_10_method_5_code 193 = .ok (.iload_n 2, 1) := by decide +kernel
theorem d_10_5_194 : decode prog_10_method_5_code 194 = .ok (.baload, 1) := by decide +kernel
theorem d_10_5_195 : decode prog_10_method_5_code 195 = .ok (.invokestatic 30, 3) := by decide +kernel
theorem d_10_5_198 : decode prog_10_method_5_code 198 = .ok (.ifCond .eq 35, 3) := by decide +kernel
theorem d_10_5_201 : decode prog_10_method_5_code 201 = .ok (.ldc2_w 37, 3) := by decide +kernel
theorem d_10_5_204 : decode prog_10_method_5_code 204 = .ok (.ldc2_w 39, 3) := by decide +kernel
theorem d_10_5_207 : decode prog_10_method_5_code 207 = .ok (.lload 5, 2) := by decide +kernel
theorem d_10_5_209 : decode prog_10_method_5_code 209 = .ok (.lmul, 1) := by decide +kernel
theorem d_10_5_210 : decode prog_10_method_5_code 210 = .ok (.aload_n 0, 1) := by decide +kernel
theorem d_10_5_211 : decode prog_10_method_5_code 211 = .ok (.getfield 15, 3) := by decide +kernel
theorem d_10_5_214 : decode prog_10_method_5_code 214 = .ok (.iload_n 2, 1) := by decide +kernel
theorem d_10_5_215 : decode prog_10_method_5_code 215 = .ok (.baload, 1) := by decide +kernel
theorem d_10_5_216 : decode prog_10_method_5_code 216 = .ok (.i2l, 1) := by decide +kernel
theorem d_10_5_217 : decode prog_10_method_5_code 217 = .ok (.ladd, 1) := by decide +kernel
theorem d_10_5_218 : decode prog_10_method_5_code 218 = .ok (.ldc2_w 41, 3) := by decide +kernel
theorem d_10_5_221 : decode prog_10_method_5_code 221 = .ok (.lsub, 1) := by decide +kernel
theorem d_10_5_222 : decode prog_10_method_5_code 222 = .ok (.invokestatic 43, 3) := by decide +kernel
theorem d_10_5_225 : decode prog_10_method_5_code 225 = .ok (.lstore 5, 2) := by decide +kernel
theorem d_10_5_227 : decode prog_10_method_5_code 227 = .ok (.iinc 2 1, 3) := by decide +kernel
theorem d_10_5_230 : decode prog_10_method_5_code 230 = .ok (.goto (-46), 3) := by decide +kernel
theorem d_10_5_233 : decode prog_10_method_5_code 233 = .ok (.aload_n 0, 1) := by decide +kernel
theorem d_10_5_234 : decode prog_10_method_5_code 234 = .ok (.getfield 49, 3) := by decide +kernel
theorem d_10_5_237 : decode prog_10_method_5_code 237 = .ok (.iload_n 3, 1) := by decide +kernel
theorem d_10_5_238 : decode prog_10_method_5_code 238 = .ok (.lload 5, 2) := by decide +kernel
theorem d_10_5_240 : decode prog_10_method_5_code 240 = .ok (.lastore, 1) := by decide +kernel
theorem d_10_5_241 : decode prog_10_method_5_code 241 = .ok (.aload_n 0, 1) := by decide +kernel
theorem d_10_5_242 : decode prog_10_method_5_code 242 = .ok (.getfield 23, 3) := by decide +kernel
theorem d_10_5_245 : decode prog_10_method_5_code 245 = .ok (.iload_n 3, 1) := by decide +kernel
theorem d_10_5_246 : decode prog_10_method_5_code 246 = .ok (.lload 5, 2) := by decide +kernel
theorem d_10_5_248 : decode prog_10_method_5_code 248 = .ok (.ldc2_w 53, 3) := by decide +kernel
theorem d_10_5_251 : decode prog_10_method_5_code 251 = .ok (.lcmp, 1) := by decide +kernel
theorem d_10_5_252 : decode prog_10_method_5_code 252 = .ok (.ifCond .gt 7, 3) := by decide +kernel
theorem d_10_5_255 : decode prog_10_method_5_code 255 = .ok (.iconst 3, 1) := by decide +kernel
theorem d_10_5_256 : decode prog_10_method_5_code 256 = .ok (.goto 4, 3) := by decide +kernel
theorem d_10_5_259 : decode prog_10_method_5_code 259 = .ok (.iconst 5, 1) := by decide +kernel
theorem d_10_5_260 : decode prog_10_method_5_code 260 = .ok (.iastore, 1) := by decide +kernel
theorem d_10_5_261 : decode prog_10_method_5_code 261 = .ok (.goto 208, 3) := by decide +kernel
theorem d_10_5_264 : decode prog_10_method_5_code 264 = .ok (.aload_n 0, 1) := by decide +kernel
theorem d_10_5_265 : decode prog_10_method_5_code 265 = .ok (.getfield 15, 3) := by decide +kernel
theorem d_10_5_268 : decode prog_10_method_5_code 268 = .ok (.iload_n 2, 1) := by decide +kernel
theorem d_10_5_269 : decode prog_10_method_5_code 269 = .ok (.baload, 1) := by decide +kernel
theorem d_10_5_270 : decode prog_10_method_5_code 270 = .ok (.istore 5, 2) := by decide +kernel
theorem d_10_5_272 : decode prog_10_method_5_code 272 = .ok (.iload_n 2, 1) := by decide +kernel
theorem d_10_5_273 : decode prog_10_method_5_code 273 = .ok (.iconst 1, 1) := by decide +kernel
theorem d_10_5_274 : decode prog_10_method_5_code 274 = .ok (.iadd, 1) := by decide +kernel
theorem d_10_5_275 : decode prog_10_method_5_code 275 = .ok (.iload_n 1, 1) := by decide +kernel
theorem d_10_5_276 : decode prog_10_method_5_code 276 = .ok (.if_icmp .ge 14, 3) := by decide +kernel
theorem d_10_5_279 : decode prog_10_method_5_code 279 = .ok (.aload_n 0, 1) := by decide +kernel
theorem d_10_5_280 : decode prog_10_method_5_code 280 = .ok (.getfield 15, 3) := by decide +kernel
theorem d_10_5_283 : decode prog_10_method_5_code 283 = .ok (.iload_n 2, 1) := by decide +kernel
theorem d_10_5_284 : decode prog_10_method_5_code 284 = .ok (.iconst 1, 1) := by decide +kernel
theorem d_10_5_285 : decode prog_10_method_5_code 285 = .ok (.iadd, 1) := by decide +kernel
theorem d_10_5_286 : decode prog_10_method_5_code 286 = .ok (.baload, 1) := by decide +kernel
theorem d_10_5_287 : decode prog_10_method_5_code 287 = .ok (.goto 4, 3) := by decide +kernel
theorem d_10_5_290 : decode prog_10_method_5_code 290 = .ok (.iconst 0, 1) := by decide +kernel
theorem d_10_5_291 : decode prog_10_method_5_code 291 = .ok (.istore 6, 2) := by decide +kernel
theorem d_10_5_293 : decode prog_10_method_5_code 293 = .ok (.iload 6, 2) := by decide +kernel
theorem d_10_5_295 : decode prog_10_method_5_code 295 = .ok (.bipush 61, 2) := by decide +kernel
theorem d_10_5_297 : decode prog_10_method_5_code 297 = .ok (.if_icmp .ne 28, 3) := by decide +kernel
theorem d_10_5_300 : decode prog_10_method_5_code 300 = .ok (.iload 5, 2) := by decide +kernel
theorem d_10_5_302 : decode prog_10_method_5_code 302 = .ok (.bipush 58, 2) := by decide +kernel
theorem d_10_5_304 : decode prog_10_method_5_code 304 = .ok (.if_icmp .eq 17, 3) := by decide +kernel
theorem d_10_5_307 : decode prog_10_method_5_code 307 = .ok (.iload 5, 2) := by decide +kernel
theorem d_10_5_309 : decode prog_10_method_5_code 309 = .ok (.bipush 60, 2) := by decide +kernel
theorem d_10_5_311 : decode prog_10_method_5_code 311 = .ok (.if_icmp .eq 10, 3) := by decide +kernel
theorem d_10_5_314 : decode prog_10_method_5_code 314 = .ok (.iload 5, 2) := by decide +kernel
theorem d_10_5_316 : decode prog_10_method_5_code 316 = .ok (.bipush 62, 2) := by decide +kernel
theorem d_10_5_318 : decode prog_10_method_5_code 318 = .ok (.if_icmp .ne 7, 3) := by decide +kernel
theorem d_10_5_321 : decode prog_10_method_5_code 321 = .ok (.iconst 1, 1) := by decide +kernel
theorem d_10_5_322 : decode prog_10_method_5_code 322 = .ok (.goto 4, 3) := by decide +kernel
theorem d_10_5_325 : decode prog_10_method_5_code 325 = .ok (.iconst 0, 1) := by decide +kernel
theorem d_10_5_326 : decode prog_10_method_5_code 326 = .ok (.istore 7, 2) := by decide +kernel
theorem d_10_5_328 : decode prog_10_method_5_code 328 = .ok (.iload 5, 2) := by decide +kernel
theorem d_10_5_330 : decode prog_10_method_5_code 330 = .ok (.bipush 43, 2) := by decide +kernel
theorem d_10_5_332 : decode prog_10_method_5_code 332 = .ok (.if_icmp .eq 101, 3) := by decide +kernel
theorem d_10_5_335 : decode prog_10_method_5_code 335 = .ok (.iload 5, 2) := by decide +kernel
theorem d_10_5_337 : decode prog_10_method_5_code 337 = .ok (.bipush 45, 2) := by decide +kernel
theorem d_10_5_339 : decode prog_10_method_5_code 339 = .ok (.if_icmp .eq 94, 3) := by decide +kernel
theorem d_10_5_342 : decode prog_10_method_5_code 342 = .ok (.iload 5, 2) := by decide +kernel
theorem d_10_5_344 : decode prog_10_method_5_code 344 = .ok (.bipush 42, 2) := by decide +kernel
theorem d_10_5_346 : decode prog_10_method_5_code 346 = .ok (.if_icmp .eq 87, 3) := by decide +kernel
theorem d_10_5_349 : decode prog_10_method_5_code 349 = .ok (.iload 5, 2) := by decide +kernel
theorem d_10_5_351 : decode prog_10_method_5_code 351 = .ok (.bipush 94, 2) := by decide +kernel
theorem d_10_5_353 : decode prog_10_method_5_code 353 = .ok (.if_icmp .eq 80, 3) := by decide +kernel
theorem d_10_5_356 : decode prog_10_method_5_code 356 = .ok (.iload 5, 2) := by decide +kernel
theorem d_10_5_358 : decode prog_10_method_5_code 358 = .ok (.bipush 40, 2) := by decide +kernel
theorem d_10_5_360 : decode prog_10_method_5_code 360 = .ok (.if_icmp .eq 73, 3) := by decide +kernel
theorem d_10_5_363 : decode prog_10_method_5_code 363 = .ok (.iload 5, 2) := by decide +kernel
theorem d_10_5_365 : decode prog_10_method_5_code 365 = .ok (.bipush 41, 2) := by decide +kernel
theorem d_10_5_367 : decode prog_10_method_5_code 367 = .ok (.if_icmp .eq 66, 3) := by decide +kernel
theorem d_10_5_370 : decode prog_10_method_5_code 370 = .ok (.iload 5, 2) := by decide +kernel
theorem d_10_5_372 : decode prog_10_method_5_code 372 = .ok (.bipush 91, 2) := by decide +kernel
theorem d_10_5_374 : decode prog_10_method_5_code 374 = .ok (.if_icmp .eq 59, 3) := by decide +kernel
theorem d_10_5_377 : decode prog_10_method_5_code 377 = .ok (.iload 5, 2) := by decide +kernel
theorem d_10_5_379 : decode prog_10_method_5_code 379 = .ok (.bipush 93, 2) := by decide +kernel
theorem d_10_5_381 : decode prog_10_method_5_code 381 = .ok (.if_icmp .eq 52, 3) := by decide +kernel
theorem d_10_5_384 : decode prog_10_method_5_code 384 = .ok (.iload 5, 2) := by decide +kernel
theorem d_10_5_386 : decode prog_10_method_5_code 386 = .ok (.bipush 44, 2) := by decide +kernel
theorem d_10_5_388 : decode prog_10_method_5_code 388 = .ok (.if_icmp .eq 45, 3) := by decide +kernel
theorem d_10_5_391 : decode prog_10_method_5_code 391 = .ok (.iload 5, 2) := by decide +kernel
theorem d_10_5_393 : decode prog_10_method_5_code 393 = .ok (.bipush 59, 2) := by decide +kernel
theorem d_10_5_395 : decode prog_10_method_5_code 395 = .ok (.if_icmp .eq 38, 3) := by decide +kernel
theorem d_10_5_398 : decode prog_10_method_5_code 398 = .ok (.iload 5, 2) := by decide +kernel
theorem d_10_5_400 : decode prog_10_method_5_code 400 = .ok (.bipush 58, 2) := by decide +kernel
theorem d_10_5_402 : decode prog_10_method_5_code 402 = .ok (.if_icmp .eq 31, 3) := by decide +kernel
theorem d_10_5_405 : decode prog_10_method_5_code 405 = .ok (.iload 5, 2) := by decide +kernel
theorem d_10_5_407 : decode prog_10_method_5_code 407 = .ok (.bipush 60, 2) := by decide +kernel
theorem d_10_5_409 : decode prog_10_method_5_code 409 = .ok (.if_icmp .eq 24, 3) := by decide +kernel
theorem d_10_5_412 : decode prog_10_method_5_code 412 = .ok (.iload 5, 2) := by decide +kernel
theorem d_10_5_414 : decode prog_10_method_5_code 414 = .ok (.bipush 61, 2) := by decide +kernel
theorem d_10_5_416 : decode prog_10_method_5_code 416 = .ok (.if_icmp .eq 17, 3) := by decide +kernel
theorem d_10_5_419 : decode prog_10_method_5_code 419 = .ok (.iload 5, 2) := by decide +kernel
theorem d_10_5_421 : decode prog_10_method_5_code 421 = .ok (.bipush 62, 2) := by decide +kernel
theorem d_10_5_423 : decode prog_10_method_5_code 423 = .ok (.if_icmp .eq 10, 3) := by decide +kernel
theorem d_10_5_426 : decode prog_10_method_5_code 426 = .ok (.iload 5, 2) := by decide +kernel
theorem d_10_5_428 : decode prog_10_method_5_code 428 = .ok (.bipush 35, 2) := by decide +kernel
theorem d_10_5_430 : decode prog_10_method_5_code 430 = .ok (.if_icmp .ne 7, 3) := by decide +kernel
theorem d_10_5_433 : decode prog_10_method_5_code 433 = .ok (.iconst 1, 1) := by decide +kernel
theorem d_10_5_434 : decode prog_10_method_5_code 434 = .ok (.goto 4, 3) := by decide +kernel
theorem d_10_5_437 : decode prog_10_method_5_code 437 = .ok (.iconst 0, 1) := by decide +kernel
theorem d_10_5_438 : decode prog_10_method_5_code 438 = .ok (.istore 8, 2) := by decide +kernel
theorem d_10_5_440 : decode prog_10_method_5_code 440 = .ok (.aload_n 0, 1) := by decide +kernel
theorem d_10_5_441 : decode prog_10_method_5_code 441 = .ok (.getfield 23, 3) := by decide +kernel
theorem d_10_5_444 : decode prog_10_method_5_code 444 = .ok (.iload_n 3, 1) := by decide +kernel
theorem d_10_5_445 : decode prog_10_method_5_code 445 = .ok (.iload 8, 2) := by decide +kernel
theorem d_10_5_447 : decode prog_10_method_5_code 447 = .ok (.ifCond .eq 7, 3) := by decide +kernel
theorem d_10_5_450 : decode prog_10_method_5_code 450 = .ok (.iconst 4, 1) := by decide +kernel
theorem d_10_5_451 : decode prog_10_method_5_code 451 = .ok (.goto 4, 3) := by decide +kernel
theorem d_10_5_454 : decode prog_10_method_5_code 454 = .ok (.iconst 5, 1) := by decide +kernel
theorem d_10_5_455 : decode prog_10_method_5_code 455 = .ok (.iastore, 1) := by decide +kernel
theorem d_10_5_456 : decode prog_10_method_5_code 456 = .ok (.iload_n 2, 1) := by decide +kernel
theorem d_10_5_457 : decode prog_10_method_5_code 457 = .ok (.iload 7, 2) := by decide +kernel
theorem d_10_5_459 : decode prog_10_method_5_code 459 = .ok (.ifCond .eq 7, 3) := by decide +kernel
theorem d_10_5_462 : decode prog_10_method_5_code 462 = .ok (.iconst 2, 1) := by decide +kernel
theorem d_10_5_463 : decode prog_10_method_5_code 463 = .ok (.goto 4, 3) := by decide +kernel
theorem d_10_5_466 : decode prog_10_method_5_code 466 = .ok (.iconst 1, 1) := by decide +kernel
theorem d_10_5_467 : decode prog_10_method_5_code 467 = .ok (.iadd, 1) := by decide +kernel
theorem d_10_5_468 : decode prog_10_method_5_code 468 = .ok (.istore_n 2, 1) := by decide +kernel
theorem d_10_5_469 : decode prog_10_method_5_code 469 = .ok (.aload_n 0, 1) := by decide +kernel
theorem d_10_5_470 : decode prog_10_method_5_code 470 = .ok (.getfield 55, 3) := by decide +kernel
theorem d_10_5_473 : decode prog_10_method_5_code 473 = .ok (.iload_n 3, 1) := by decide +kernel
theorem d_10_5_474 : decode prog_10_method_5_code 474 = .ok (.iload_n 2, 1) := by decide +kernel
theorem d_10_5_475 : decode prog_10_method_5_code 475 = .ok (.iastore, 1) := by decide +kernel
theorem d_10_5_476 : decode prog_10_method_5_code 476 = .ok (.aload_n 0, 1) := by decide +kernel
theorem d_10_5_477 : decode prog_10_method_5_code 477 = .ok (.getfield 23, 3) := by decide +kernel
theorem d_10_5_480 : decode prog_10_method_5_code 480 = .ok (.iload_n 3, 1) := by decide +kernel
theorem d_10_5_481 : decode prog_10_method_5_code 481 = .ok (.iaload, 1) := by decide +kernel
theorem d_10_5_482 : decode prog_10_method_5_code 482 = .ok (.ifCond .eq 17, 3) := by decide +kernel
theorem d_10_5_485 : decode prog_10_method_5_code 485 = .ok (.aload_n 0, 1) := by decide +kernel
theorem d_10_5_486 : decode prog_10_method_5_code 486 = .ok (.getfield 23, 3) := by decide +kernel
theorem d_10_5_489 : decode prog_10_method_5_code 489 = .ok (.iload_n 3, 1) := by decide +kernel
theorem d_10_5_490 : decode prog_10_method_5_code 490 = .ok (.iaload, 1) := by decide +kernel
theorem d_10_5_491 : decode prog_10_method_5_code 491 = .ok (.iconst 5, 1) := by decide +kernel
theorem d_10_5_492 : decode prog_10_method_5_code 492 = .ok (.if_icmp .eq 7, 3) := by decide +kernel
theorem d_10_5_495 : decode prog_10_method_5_code 495 = .ok (.iconst 1, 1) := by decide +kernel
theorem d_10_5_496 : decode prog_10_method_5_code 496 = .ok (.goto 4, 3) := by decide +kernel
theorem d_10_5_499 : decode prog_10_method_5_code 499 = .ok (.iconst 0, 1) := by decide +kernel
theorem d_10_5_500 : decode prog_10_method_5_code 500 = .ok (.istore 4, 2) := by decide +kernel
theorem d_10_5_502 : decode prog_10_method_5_code 502 = .ok (.iinc 3 1, 3) := by decide +kernel
theorem d_10_5_505 : decode prog_10_method_5_code 505 = .ok (.goto (-498), 3) := by decide +kernel
theorem d_10_5_508 : decode prog_10_method_5_code 508 = .ok (.return_, 1) := by decide +kernel
theorem d_10_60_0 : decode prog_10_method_60_code 0 = .ok (.aload_n 0, 1) := by decide +kernel
theorem d_10_60_1 : decode prog_10_method_60_code 1 = .ok (.aload_n 0, 1) := by decide +kernel
theorem d_10_60_2 : decode prog_10_method_60_code 2 = .ok (.getfield 90, 3) := by decide +kernel
theorem d_10_60_5 : decode prog_10_method_60_code 5 = .ok (.iload_n 1, 1) := by decide +kernel
theorem d_10_60_6 : decode prog_10_method_60_code 6 = .ok (.iaload, 1) := by decide +kernel
theorem d_10_60_7 : decode prog_10_method_60_code 7 = .ok (.aload_n 0, 1) := by decide +kernel
theorem d_10_60_8 : decode prog_10_method_60_code 8 = .ok (.getfield 72, 3) := by decide +kernel
theorem d_10_60_11 : decode prog_10_method_60_code 11 = .ok (.iload_n 1, 1) := by decide +kernel
theorem d_10_60_12 : decode prog_10_method_60_code 12 = .ok (.iaload, 1) := by decide +kernel
theorem d_10_60_13 : decode prog_10_method_60_code 13 = .ok (.invokevirtual 434, 3) := by decide +kernel
theorem d_10_60_16 : decode prog_10_method_60_code 16 = .ok (.istore_n 2, 1) := by decide +kernel
theorem d_10_60_17 : decode prog_10_method_60_code 17 = .ok (.iload_n 2, 1) := by decide +kernel
theorem d_10_60_18 : decode prog_10_method_60_code 18 = .ok (.ifCond .ge 9, 3) := by decide +kernel
theorem d_10_60_21 : decode prog_10_method_60_code 21 = .ok (.aload_n 0, 1) := by decide +kernel
theorem d_10_60_22 : decode prog_10_method_60_code 22 = .ok (.iload_n 1, 1) := by decide +kernel
theorem d_10_60_23 : decode prog_10_method_60_code 23 = .ok (.invokevirtual 437, 3) := by decide +kernel
theorem d_10_60_26 : decode prog_10_method_60_code 26 = .ok (.ireturn, 1) := by decide +kernel
theorem d_10_60_27 : decode prog_10_method_60_code 27 = .ok (.aload_n 0, 1) := by decide +kernel
theorem d_10_60_28 : decode prog_10_method_60_code 28 = .ok (.getfield 144, 3) := by decide +kernel
theorem d_10_60_31 : decode prog_10_method_60_code 31 = .ok (.iload_n 2, 1) := by decide +kernel
theorem d_10_60_32 : decode prog_10_method_60_code 32 = .ok (.iaload, 1) := by decide +kernel
theorem d_10_60_33 : decode prog_10_method_60_code 33 = .ok (.ifCond .ne 10, 3) := by decide +kernel
theorem d_10_60_36 : decode prog_10_method_60_code 36 = .ok (.aload_n 0, 1) := by decide +kernel
theorem d_10_60_37 : decode prog_10_method_60_code 37 = .ok (.getfield 147, 3) := by decide +kernel
theorem d_10_60_40 : decode prog_10_method_60_code 40 = .ok (.iload_n 2, 1) := by decide +kernel
theorem d_10_60_41 : decode prog_10_method_60_code 41 = .ok (.iaload, 1) := by decide +kernel
theorem d_10_60_42 : decode prog_10_method_60_code 42 = .ok (.ireturn, 1) := by decide +kernel
theorem d_10_60_43 : decode prog_10_method_60_code 43 = .ok (.aload_n 0, 1) := by decide +kernel
theorem d_10_60_44 : decode prog_10_method_60_code 44 = .ok (.getfield 144, 3) := by decide +kernel
theorem d_10_60_47 : decode prog_10_method_60_code 47 = .ok (.iload_n 2, 1) := by decide +kernel
theorem d_10_60_48 : decode prog_10_method_60_code 48 = .ok (.iaload, 1) := by decide +kernel
theorem d_10_60_49 : decode prog_10_method_60_code 49 = .ok (.iconst 5, 1) := by decide +kernel
theorem d_10_60_50 : decode prog_10_method_60_code 50 = .ok (.if_icmp .ne 28, 3) := by decide +kernel
theorem d_10_60_53 : decode prog_10_method_60_code 53 = .ok (.aload_n 0, 1) := by decide +kernel
theorem d_10_60_54 : decode prog_10_method_60_code 54 = .ok (.getfield 147, 3) := by decide +kernel
theorem d_10_60_57 : decode prog_10_method_60_code 57 = .ok (.iload_n 2, 1) := by decide +kernel
theorem d_10_60_58 : decode prog_10_method_60_code 58 = .ok (.iaload, 1) := by decide +kernel
theorem d_10_60_59 : decode prog_10_method_60_code 59 = .ok (.iconst 2, 1) := by decide +kernel
theorem d_10_60_60 : decode prog_10_method_60_code 60 = .ok (.if_icmp .gt 12, 3) := by decide +kernel
theorem d_10_60_63 : decode prog_10_method_60_code 63 = .ok (.aload_n 0, 1) := by decide +kernel
theorem d_10_60_64 : decode prog_10_method_60_code 64 = .ok (.getfield 147, 3) := by decide +kernel
theorem d_10_60_67 : decode prog_10_method_60_code 67 = .ok (.iload_n 2, 1) := by decide +kernel
theorem d_10_60_68 : decode prog_10_method_60_code 68 = .ok (.iaload, 1) := by decide +kernel
theorem d_10_60_69 : decode prog_10_method_60_code 69 = .ok (.goto 8, 3) := by decide +kernel
theorem d_10_60_72 : decode prog_10_method_60_code 72 = .ok (.aload_n 0, 1) := by decide +kernel
theorem d_10_60_73 : decode prog_10_method_60_code 73 = .ok (.iload_n 1, 1) := by decide +kernel
theorem d_10_60_74 : decode prog_10_method_60_code 74 = .ok (.invokevirtual 437, 3) := by decide +kernel
theorem d_10_60_77 : decode prog_10_method_60_code 77 = .ok (.ireturn, 1) := by decide +kernel
theorem d_10_60_78 : decode prog_10_method_60_code 78 = .ok (.aload_n 0, 1) := by decide +kernel
theorem d_10_60_79 : decode prog_10_method_60_code 79 = .ok (.getfield 144, 3) := by decide +kernel
theorem d_10_60_82 : decode prog_10_method_60_code 82 = .ok (.iload_n 2, 1) := by decide +kernel
theorem d_10_60_83 : decode prog_10_method_60_code 83 = .ok (.iaload, 1) := by decide +kernel
theorem d_10_60_84 : decode prog_10_method_60_code 84 = .ok (.iconst 2, 1) := by decide +kernel
theorem d_10_60_85 : decode prog_10_method_60_code 85 = .ok (.if_icmp .ne 12, 3) := by decide +kernel
theorem d_10_60_88 : decode prog_10_method_60_code 88 = .ok (.aload_n 0, 1) := by decide +kernel
theorem d_10_60_89 : decode prog_10_method_60_code 89 = .ok (.getfield 147, 3) := by decide +kernel
theorem d_10_60_92 : decode prog_10_method_60_code 92 = .ok (.iload_n 2, 1) := by decide +kernel
theorem d_10_60_93 : decode prog_10_method_60_code 93 = .ok (.iaload, 1) := by decide +kernel
theorem d_10_60_94 : decode prog_10_method_60_code 94 = .ok (.ifCond .ne 9, 3) := by decide +kernel
theorem d_10_60_97 : decode prog_10_method_60_code 97 = .ok (.aload_n 0, 1) := by decide +kernel
theorem d_10_60_98 : decode prog_10_method_60_code 98 = .ok (.iload_n 1, 1) := by decide +kernel
theorem d_10_60_99 : decode prog_10_method_60_code 99 = .ok (.invokevirtual 437, 3) := by decide +kernel
theorem d_10_60_102 : decode prog_10_method_60_code 102 = .ok (.ireturn, 1) := by decide +kernel
theorem d_10_60_103 : decode prog_10_method_60_code 103 = .ok (.aload_n 0, 1) := by decide +kernel
theorem d_10_60_104 : decode prog_10_method_60_code 104 = .ok (.getfield 276, 3) := by decide +kernel
theorem d_10_60_107 : decode prog_10_method_60_code 107 = .ok (.iload_n 2, 1) := by decide +kernel
theorem d_10_60_108 : decode prog_10_method_60_code 108 = .ok (.iaload, 1) := by decide +kernel
theorem d_10_60_109 : decode prog_10_method_60_code 109 = .ok (.ifCond .le 13, 3) := by decide +kernel
theorem d_10_60_112 : decode prog_10_method_60_code 112 = .ok (.aload_n 0, 1) := by decide +kernel
theorem d_10_60_113 : decode prog_10_method_60_code 113 = .ok (.aload_n 0, 1) := by decide +kernel
theorem d_10_60_114 : decode prog_10_method_60_code 114 = .ok (.getfield 72, 3) := by decide +kernel
theorem d_10_60_117 : decode prog_10_method_60_code 117 = .ok (.iload_n 1, 1) := by decide +kernel
theorem d_10_60_118 : decode prog_10_method_60_code 118 = .ok (.iaload, 1) := by decide +kernel
theorem d_10_60_119 : decode prog_10_method_60_code 119 = .ok (.invokevirtual 132, 3) := by decide +kernel
theorem d_10_60_122 : decode prog_10_method_60_code 122 = .ok (.aload_n 0, 1) := by decide +kernel
theorem d_10_60_123 : decode prog_10_method_60_code 123 = .ok (.getfield 147, 3) := by decide +kernel
theorem d_10_60_126 : decode prog_10_method_60_code 126 = .ok (.iload_n 2, 1) := by decide +kernel
theorem d_10_60_127 : decode prog_10_method_60_code 127 = .ok (.iaload, 1) := by decide +kernel
theorem d_10_60_128 : decode prog_10_method_60_code 128 = .ok (.ireturn, 1) := by decide +kernel
theorem d_10_61_0 : decode prog_10_method_61_code 0 = .ok (.aload_n 0, 1) := by decide +kernel
theorem d_10_61_1 : decode prog_10_method_61_code 1 = .ok (.aload_n 0, 1) := by decide +kernel
theorem d_10_61_2 : decode prog_10_method_61_code 2 = .ok (.getfield 75, 3) := by decide +kernel
theorem d_10_61_5 : decode prog_10_method_61_code 5 = .ok (.iload_n 1, 1) := by decide +kernel
theorem d_10_61_6 : decode prog_10_method_61_code 6 = .ok (.iaload, 1) := by decide +kernel
