theorem d_10_18_38 : decode prog_10_method_18_code 38 = .ok (.putfield 93, 3) := by decide +kernel
theorem d_10_18_41 : decode prog_10_method_18_code 41 = .ok (.aload_n 0, 1) := by decide +kernel
theorem d_10_18_42 : decode prog_10_method_18_code 42 = .ok (.dup, 1) := by decide +kernel
theorem d_10_18_43 : decode prog_10_method_18_code 43 = .ok (.getfield 171, 3) := by decide +kernel
theorem d_10_18_46 : decode prog_10_method_18_code 46 = .ok (.iconst 1, 1) := by decide +kernel
theorem d_10_18_47 : decode prog_10_method_18_code 47 = .ok (.iadd, 1) := by decide +kernel
theorem d_10_18_48 : decode prog_10_method_18_code 48 = .ok (.putfield 171, 3) := by decide +kernel
theorem d_10_18_51 : decode prog_10_method_18_code 51 = .ok (.aload_n 0, 1) := by decide +kernel
theorem d_10_18_52 : decode prog_10_method_18_code 52 = .ok (.getfield 93, 3) := by decide +kernel
theorem d_10_18_55 : decode prog_10_method_18_code 55 = .ok (.ireturn, 1) := by decide +kernel
theorem d_10_19_0 : decode prog_10_method_19_code 0 = .ok (.aload_n 0, 1) := by decide +kernel
theorem d_10_19_1 : decode prog_10_method_19_code 1 = .ok (.ldc 177, 2) := by decide +kernel
theorem d_10_19_3 : decode prog_10_method_19_code 3 = .ok (.invokevirtual 102, 3) := by decide +kernel
theorem d_10_19_6 : decode prog_10_method_19_code 6 = .ok (.ifCond .ne 12, 3) := by decide +kernel
theorem d_10_19_9 : decode prog_10_method_19_code 9 = .ok (.aload_n 0, 1) := by decide +kernel
theorem d_10_19_10 : decode prog_10_method_19_code 10 = .ok (.ldc 179, 2) := by decide +kernel
theorem d_10_19_12 : decode prog_10_method_19_code 12 = .ok (.invokevirtual 102, 3) := by decide +kernel
theorem d_10_19_15 : decode prog_10_method_19_code 15 = .ok (.ifCond .eq 7, 3) := by decide +kernel
theorem d_10_19_18 : decode prog_10_method_19_code 18 = .ok (.iconst 1, 1) := by decide +kernel
theorem d_10_19_19 : decode prog_10_method_19_code 19 = .ok (.goto 4, 3) := by decide +kernel
theorem d_10_19_22 : decode prog_10_method_19_code 22 = .ok (.iconst 0, 1) := by decide +kernel
theorem d_10_19_23 : decode prog_10_method_19_code 23 = .ok (.ireturn, 1) := by decide +kernel
theorem d_10_1_0 : decode prog_10_method_1_code 0 = .ok (.lload_n 0, 1) := by decide +kernel
theorem d_10_1_1 : decode prog_10_method_1_code 1 = .ok (.lload_n 2, 1) := by decide +kernel
theorem d_10_1_2 : decode prog_10_method_1_code 2 = .ok (.lcmp, 1) := by decide +kernel
theorem d_10_1_3 : decode prog_10_method_1_code 3 = .ok (.ifCond .lt 14, 3) := by decide +kernel
theorem d_10_1_6 : decode prog_10_method_1_code 6 = .ok (.lload_n 0, 1) := by decide +kernel
theorem d_10_1_7 : decode prog_10_method_1_code 7 = .ok (.lload 4, 2) := by decide +kernel
theorem d_10_1_9 : decode prog_10_method_1_code 9 = .ok (.lcmp, 1) := by decide +kernel
theorem d_10_1_10 : decode prog_10_method_1_code 10 = .ok (.ifCond .gt 7, 3) := by decide +kernel
theorem d_10_1_13 : decode prog_10_method_1_code 13 = .ok (.iconst 1, 1) := by decide +kernel
theorem d_10_1_14 : decode prog_10_method_1_code 14 = .ok (.goto 4, 3) := by decide +kernel
theorem d_10_1_17 : decode prog_10_method_1_code 17 = .ok (.iconst 0, 1) := by decide +kernel
theorem d_10_1_18 : decode prog_10_method_1_code 18 = .ok (.ireturn, 1) := by decide +kernel
theorem d_10_20_0 : decode prog_10_method_20_code 0 = .ok (.aload_n 0, 1) := by decide +kernel
theorem d_10_20_1 : decode prog_10_method_20_code 1 = .ok (.ldc 181, 2) := by decide +kernel
theorem d_10_20_3 : decode prog_10_method_20_code 3 = .ok (.invokevirtual 102, 3) := by decide +kernel
theorem d_10_20_6 : decode prog_10_method_20_code 6 = .ok (.ifCond .ne 8, 3) := by decide +kernel
theorem d_10_20_9 : decode prog_10_method_20_code 9 = .ok (.aload_n 0, 1) := by decide +kernel
theorem d_10_20_10 : decode prog_10_method_20_code 10 = .ok (.invokevirtual 106, 3) := by decide +kernel
theorem d_10_20_13 : decode prog_10_method_20_code 13 = .ok (.ireturn, 1) := by decide +kernel
theorem d_10_20_14 : decode prog_10_method_20_code 14 = .ok (.aload_n 0, 1) := by decide +kernel
theorem d_10_20_15 : decode prog_10_method_20_code 15 = .ok (.invokevirtual 183, 3) := by decide +kernel
theorem d_10_20_18 : decode prog_10_method_20_code 18 = .ok (.ifCond .ne 5, 3) := by decide +kernel
theorem d_10_20_21 : decode prog_10_method_20_code 21 = .ok (.iconst (-1), 1) := by decide +kernel
theorem d_10_20_22 : decode prog_10_method_20_code 22 = .ok (.ireturn, 1) := by decide +kernel
theorem d_10_20_23 : decode prog_10_method_20_code 23 = .ok (.aload_n 0, 1) := by decide +kernel
theorem d_10_20_24 : decode prog_10_method_20_code 24 = .ok (.bipush 21, 2) := by decide +kernel
theorem d_10_20_26 : decode prog_10_method_20_code 26 = .ok (.aload_n 0, 1) := by decide +kernel
theorem d_10_20_27 : decode prog_10_method_20_code 27 = .ok (.getfield 58, 3) := by decide +kernel
theorem d_10_20_30 : decode prog_10_method_20_code 30 = .ok (.invokevirtual 187, 3) := by decide +kernel
theorem d_10_20_33 : decode prog_10_method_20_code 33 = .ok (.istore_n 1, 1) := by decide +kernel
theorem d_10_20_34 : decode prog_10_method_20_code 34 = .ok (.aload_n 0, 1) := by decide +kernel
theorem d_10_20_35 : decode prog_10_method_20_code 35 = .ok (.getfield 93, 3) := by decide +kernel
theorem d_10_20_38 : decode prog_10_method_20_code 38 = .ok (.istore_n 2, 1) := by decide +kernel
theorem d_10_20_39 : decode prog_10_method_20_code 39 = .ok (.iconst (-1), 1) := by decide +kernel
theorem d_10_20_40 : decode prog_10_method_20_code 40 = .ok (.istore_n 3, 1) := by decide +kernel
theorem d_10_20_41 : decode prog_10_method_20_code 41 = .ok (.iconst (-1), 1) := by decide +kernel
theorem d_10_20_42 : decode prog_10_method_20_code 42 = .ok (.istore 4, 2) := by decide +kernel
theorem d_10_20_44 : decode prog_10_method_20_code 44 = .ok (.aload_n 0, 1) := by decide +kernel
theorem d_10_20_45 : decode prog_10_method_20_code 45 = .ok (.dup, 1) := by decide +kernel
theorem d_10_20_46 : decode prog_10_method_20_code 46 = .ok (.getfield 58, 3) := by decide +kernel
theorem d_10_20_49 : decode prog_10_method_20_code 49 = .ok (.iconst 1, 1) := by decide +kernel
theorem d_10_20_50 : decode prog_10_method_20_code 50 = .ok (.iadd, 1) := by decide +kernel
theorem d_10_20_51 : decode prog_10_method_20_code 51 = .ok (.putfield 58, 3) := by decide +kernel
theorem d_10_20_54 : decode prog_10_method_20_code 54 = .ok (.aload_n 0, 1) := by decide +kernel
theorem d_10_20_55 : decode prog_10_method_20_code 55 = .ok (.getfield 75, 3) := by decide +kernel
theorem d_10_20_58 : decode prog_10_method_20_code 58 = .ok (.iload_n 1, 1) := by decide +kernel
theorem d_10_20_59 : decode prog_10_method_20_code 59 = .ok (.aload_n 0, 1) := by decide +kernel
theorem d_10_20_60 : decode prog_10_method_20_code 60 = .ok (.aload_n 0, 1) := by decide +kernel
theorem d_10_20_61 : decode prog_10_method_20_code 61 = .ok (.getfield 153, 3) := by decide +kernel
theorem d_10_20_64 : decode prog_10_method_20_code 64 = .ok (.aload_n 0, 1) := by decide +kernel
theorem d_10_20_65 : decode prog_10_method_20_code 65 = .ok (.getfield 93, 3) := by decide +kernel
theorem d_10_20_68 : decode prog_10_method_20_code 68 = .ok (.iaload, 1) := by decide +kernel
theorem d_10_20_69 : decode prog_10_method_20_code 69 = .ok (.aload_n 0, 1) := by decide +kernel
theorem d_10_20_70 : decode prog_10_method_20_code 70 = .ok (.getfield 190, 3) := by decide +kernel
theorem d_10_20_73 : decode prog_10_method_20_code 73 = .ok (.invokevirtual 193, 3) := by decide +kernel
theorem d_10_20_76 : decode prog_10_method_20_code 76 = .ok (.iastore, 1) := by decide +kernel
theorem d_10_20_77 : decode prog_10_method_20_code 77 = .ok (.aload_n 0, 1) := by decide +kernel
theorem d_10_20_78 : decode prog_10_method_20_code 78 = .ok (.ldc 196, 2) := by decide +kernel
theorem d_10_20_80 : decode prog_10_method_20_code 80 = .ok (.invokevirtual 102, 3) := by decide +kernel
theorem d_10_20_83 : decode prog_10_method_20_code 83 = .ok (.ifCond .ne 28, 3) := by decide +kernel
theorem d_10_20_86 : decode prog_10_method_20_code 86 = .ok (.aload_n 0, 1) := by decide +kernel
theorem d_10_20_87 : decode prog_10_method_20_code 87 = .ok (.invokevirtual 198, 3) := by decide +kernel
theorem d_10_20_90 : decode prog_10_method_20_code 90 = .ok (.ifCond .ne 21, 3) := by decide +kernel
theorem d_10_20_93 : decode prog_10_method_20_code 93 = .ok (.aload_n 0, 1) := by decide +kernel
theorem d_10_20_94 : decode prog_10_method_20_code 94 = .ok (.ldc 201, 2) := by decide +kernel
theorem d_10_20_96 : decode prog_10_method_20_code 96 = .ok (.invokevirtual 102, 3) := by decide +kernel
theorem d_10_20_99 : decode prog_10_method_20_code 99 = .ok (.ifCond .ne 12, 3) := by decide +kernel
theorem d_10_20_102 : decode prog_10_method_20_code 102 = .ok (.aload_n 0, 1) := by decide +kernel
theorem d_10_20_103 : decode prog_10_method_20_code 103 = .ok (.ldc 202, 2) := by decide +kernel
theorem d_10_20_105 : decode prog_10_method_20_code 105 = .ok (.invokevirtual 102, 3) := by decide +kernel
theorem d_10_20_108 : decode prog_10_method_20_code 108 = .ok (.ifCond .eq 79, 3) := by decide +kernel
theorem d_10_20_111 : decode prog_10_method_20_code 111 = .ok (.aload_n 0, 1) := by decide +kernel
theorem d_10_20_112 : decode prog_10_method_20_code 112 = .ok (.iconst (-1), 1) := by decide +kernel
theorem d_10_20_113 : decode prog_10_method_20_code 113 = .ok (.putfield 204, 3) := by decide +kernel
theorem d_10_20_116 : decode prog_10_method_20_code 116 = .ok (.aload_n 0, 1) := by decide +kernel
theorem d_10_20_117 : decode prog_10_method_20_code 117 = .ok (.iload_n 2, 1) := by decide +kernel
theorem d_10_20_118 : decode prog_10_method_20_code 118 = .ok (.invokevirtual 207, 3) := by decide +kernel
theorem d_10_20_121 : decode prog_10_method_20_code 121 = .ok (.ifCond .ne 5, 3) := by decide +kernel
theorem d_10_20_124 : decode prog_10_method_20_code 124 = .ok (.iconst (-1), 1) := by decide +kernel
theorem d_10_20_125 : decode prog_10_method_20_code 125 = .ok (.ireturn, 1) := by decide +kernel
theorem d_10_20_126 : decode prog_10_method_20_code 126 = .ok (.aload_n 0, 1) := by decide +kernel
theorem d_10_20_127 : decode prog_10_method_20_code 127 = .ok (.getfield 204, 3) := by decide +kernel
theorem d_10_20_130 : decode prog_10_method_20_code 130 = .ok (.ifCond .lt 15, 3) := by decide +kernel
theorem d_10_20_133 : decode prog_10_method_20_code 133 = .ok (.iload_n 3, 1) := by decide +kernel
theorem d_10_20_134 : decode prog_10_method_20_code 134 = .ok (.ifCond .ge 11, 3) := by decide +kernel
theorem d_10_20_137 : decode prog_10_method_20_code 137 = .ok (.aload_n 0, 1) := by decide +kernel
theorem d_10_20_138 : decode prog_10_method_20_code 138 = .ok (.getfield 210, 3) := by decide +kernel
theorem d_10_20_141 : decode prog_10_method_20_code 141 = .ok (.istore_n 3, 1) := by decide +kernel
theorem d_10_20_142 : decode prog_10_method_20_code 142 = .ok (.goto 21, 3) := by decide +kernel
theorem d_10_20_145 : decode prog_10_method_20_code 145 = .ok (.aload_n 0, 1) := by decide +kernel
theorem d_10_20_146 : decode prog_10_method_20_code 146 = .ok (.getfield 204, 3) := by decide +kernel
theorem d_10_20_149 : decode prog_10_method_20_code 149 = .ok (.ifCond .lt 14, 3) := by decide +kernel
theorem d_10_20_152 : decode prog_10_method_20_code 152 = .ok (.aload_n 0, 1) := by decide +kernel
theorem d_10_20_153 : decode prog_10_method_20_code 153 = .ok (.getfield 87, 3) := by decide +kernel
theorem d_10_20_156 : decode prog_10_method_20_code 156 = .ok (.iload 4, 2) := by decide +kernel
theorem d_10_20_158 : decode prog_10_method_20_code 158 = .ok (.aload_n 0, 1) := by decide +kernel
theorem d_10_20_159 : decode prog_10_method_20_code 159 = .ok (.getfield 210, 3) := by decide +kernel
theorem d_10_20_162 : decode prog_10_method_20_code 162 = .ok (.iastore, 1) := by decide +kernel
theorem d_10_20_163 : decode prog_10_method_20_code 163 = .ok (.aload_n 0, 1) := by decide +kernel
theorem d_10_20_164 : decode prog_10_method_20_code 164 = .ok (.getfield 204, 3) := by decide +kernel
theorem d_10_20_167 : decode prog_10_method_20_code 167 = .ok (.ifCond .lt 9, 3) := by decide +kernel
theorem d_10_20_170 : decode prog_10_method_20_code 170 = .ok (.aload_n 0, 1) := by decide +kernel
theorem d_10_20_171 : decode prog_10_method_20_code 171 = .ok (.getfield 204, 3) := by decide +kernel
theorem d_10_20_174 : decode prog_10_method_20_code 174 = .ok (.istore 4, 2) := by decide +kernel
theorem d_10_20_176 : decode prog_10_method_20_code 176 = .ok (.aload_n 0, 1) := by decide +kernel
theorem d_10_20_177 : decode prog_10_method_20_code 177 = .ok (.ldc 213, 2) := by decide +kernel
theorem d_10_20_179 : decode prog_10_method_20_code 179 = .ok (.invokevirtual 215, 3) := by decide +kernel
theorem d_10_20_182 : decode prog_10_method_20_code 182 = .ok (.ifCond .ne (-105), 3) := by decide +kernel
theorem d_10_20_185 : decode prog_10_method_20_code 185 = .ok (.iconst (-1), 1) := by decide +kernel
theorem d_10_20_186 : decode prog_10_method_20_code 186 = .ok (.ireturn, 1) := by decide +kernel
theorem d_10_20_187 : decode prog_10_method_20_code 187 = .ok (.aload_n 0, 1) := by decide +kernel
theorem d_10_20_188 : decode prog_10_method_20_code 188 = .ok (.getfield 81, 3) := by decide +kernel
theorem d_10_20_191 : decode prog_10_method_20_code 191 = .ok (.iload_n 1, 1) := by decide +kernel
theorem d_10_20_192 : decode prog_10_method_20_code 192 = .ok (.iload_n 3, 1) := by decide +kernel
theorem d_10_20_193 : decode prog_10_method_20_code 193 = .ok (.iastore, 1) := by decide +kernel
theorem d_10_20_194 : decode prog_10_method_20_code 194 = .ok (.iconst (-1), 1) := by decide +kernel
theorem d_10_20_195 : decode prog_10_method_20_code 195 = .ok (.istore 5, 2) := by decide +kernel
theorem d_10_20_197 : decode prog_10_method_20_code 197 = .ok (.iconst 1, 1) := by decide +kernel
theorem d_10_20_198 : decode prog_10_method_20_code 198 = .ok (.istore 6, 2) := by decide +kernel
theorem d_10_20_200 : decode prog_10_method_20_code 200 = .ok (.iload 6, 2) := by decide +kernel
theorem d_10_20_202 : decode prog_10_method_20_code 202 = .ok (.ifCond .eq 147, 3) := by decide +kernel
theorem d_10_20_205 : decode prog_10_method_20_code 205 = .ok (.aload_n 0, 1) := by decide +kernel
theorem d_10_20_206 : decode prog_10_method_20_code 206 = .ok (.getfield 23, 3) := by decide +kernel
theorem d_10_20_209 : decode prog_10_method_20_code 209 = .ok (.aload_n 0, 1) := by decide +kernel
theorem d_10_20_210 : decode prog_10_method_20_code 210 = .ok (.getfield 58, 3) := by decide +kernel
theorem d_10_20_213 : decode prog_10_method_20_code 213 = .ok (.iaload, 1) := by decide +kernel
theorem d_10_20_214 : decode prog_10_method_20_code 214 = .ok (.iconst 1, 1) := by decide +kernel
theorem d_10_20_215 : decode prog_10_method_20_code 215 = .ok (.if_icmp .ne 84, 3) := by decide +kernel
theorem d_10_20_218 : decode prog_10_method_20_code 218 = .ok (.aload_n 0, 1) := by decide +kernel
theorem d_10_20_219 : decode prog_10_method_20_code 219 = .ok (.aload_n 0, 1) := by decide +kernel
theorem d_10_20_220 : decode prog_10_method_20_code 220 = .ok (.getfield 58, 3) := by decide +kernel
theorem d_10_20_223 : decode prog_10_method_20_code 223 = .ok (.iconst 1, 1) := by decide +kernel
theorem d_10_20_224 : decode prog_10_method_20_code 224 = .ok (.iadd, 1) := by decide +kernel
theorem d_10_20_225 : decode prog_10_method_20_code 225 = .ok (.ldc 218, 2) := by decide +kernel
theorem d_10_20_227 : decode prog_10_method_20_code 227 = .ok (.invokevirtual 62, 3) := by decide +kernel
theorem d_10_20_230 : decode prog_10_method_20_code 230 = .ok (.ifCond .eq 69, 3) := by decide +kernel
theorem d_10_20_233 : decode prog_10_method_20_code 233 = .ok (.aload_n 0, 1) := by decide +kernel
theorem d_10_20_234 : decode prog_10_method_20_code 234 = .ok (.bipush 28, 2) := by decide +kernel
theorem d_10_20_236 : decode prog_10_method_20_code 236 = .ok (.aload_n 0, 1) := by decide +kernel
theorem d_10_20_237 : decode prog_10_method_20_code 237 = .ok (.getfield 58, 3) := by decide +kernel
theorem d_10_20_240 : decode prog_10_method_20_code 240 = .ok (.invokevirtual 187, 3) := by decide +kernel
theorem d_10_20_243 : decode prog_10_method_20_code 243 = .ok (.istore 7, 2) := by decide +kernel
theorem d_10_20_245 : decode prog_10_method_20_code 245 = .ok (.aload_n 0, 1) := by decide +kernel
theorem d_10_20_246 : decode prog_10_method_20_code 246 = .ok (.getfield 75, 3) := by decide +kernel
theorem d_10_20_249 : decode prog_10_method_20_code 249 = .ok (.iload 7, 2) := by decide +kernel
theorem d_10_20_251 : decode prog_10_method_20_code 251 = .ok (.aload_n 0, 1) := by decide +kernel
theorem d_10_20_252 : decode prog_10_method_20_code 252 = .ok (.aload_n 0, 1) := by decide +kernel
theorem d_10_20_253 : decode prog_10_method_20_code 253 = .ok (.getfield 58, 3) := by decide +kernel
theorem d_10_20_256 : decode prog_10_method_20_code 256 = .ok (.iconst 4, 1) := by decide +kernel
theorem d_10_20_257 : decode prog_10_method_20_code 257 = .ok (.iconst 0, 1) := by decide +kernel
theorem d_10_20_258 : decode prog_10_method_20_code 258 = .ok (.invokevirtual 220, 3) := by decide +kernel
theorem d_10_20_261 : decode prog_10_method_20_code 261 = .ok (.iastore, 1) := by decide +kernel
theorem d_10_20_262 : decode prog_10_method_20_code 262 = .ok (.aload_n 0, 1) := by decide +kernel
theorem d_10_20_263 : decode prog_10_method_20_code 263 = .ok (.getfield 159, 3) := by decide +kernel
theorem d_10_20_266 : decode prog_10_method_20_code 266 = .ok (.aload_n 0, 1) := by decide +kernel
theorem d_10_20_267 : decode prog_10_method_20_code 267 = .ok (.getfield 75, 3) := by decide +kernel
theorem d_10_20_270 : decode prog_10_method_20_code 270 = .ok (.iload 7, 2) := by decide +kernel
theorem d_10_20_272 : decode prog_10_method_20_code 272 = .ok (.iaload, 1) := by decide +kernel
theorem d_10_20_273 : decode prog_10_method_20_code 273 = .ok (.iload_n 1, 1) := by decide +kernel
theorem d_10_20_274 : decode prog_10_method_20_code 274 = .ok (.iastore, 1) := by decide +kernel
theorem d_10_20_275 : decode prog_10_method_20_code 275 = .ok (.aload_n 0, 1) := by decide +kernel
theorem d_10_20_276 : decode prog_10_method_20_code 276 = .ok (.iload_n 1, 1) := by decide +kernel
theorem d_10_20_277 : decode prog_10_method_20_code 277 = .ok (.iload 5, 2) := by decide +kernel
theorem d_10_20_279 : decode prog_10_method_20_code 279 = .ok (.iload 7, 2) := by decide +kernel
theorem d_10_20_281 : decode prog_10_method_20_code 281 = .ok (.invokevirtual 224, 3) := by decide +kernel
theorem d_10_20_284 : decode prog_10_method_20_code 284 = .ok (.istore 5, 2) := by decide +kernel
theorem d_10_20_286 : decode prog_10_method_20_code 286 = .ok (.aload_n 0, 1) := by decide +kernel
theorem d_10_20_287 : decode prog_10_method_20_code 287 = .ok (.dup, 1) := by decide +kernel
theorem d_10_20_288 : decode prog_10_method_20_code 288 = .ok (.getfield 58, 3) := by decide +kernel
theorem d_10_20_291 : decode prog_10_method_20_code 291 = .ok (.iconst 2, 1) := by decide +kernel
theorem d_10_20_292 : decode prog_10_method_20_code 292 = .ok (.iadd, 1) := by decide +kernel
theorem d_10_20_293 : decode prog_10_method_20_code 293 = .ok (.putfield 58, 3) := by decide +kernel
theorem d_10_20_296 : decode prog_10_method_20_code 296 = .ok (.goto (-91), 3) := by decide +kernel
theorem d_10_20_299 : decode prog_10_method_20_code 299 = .ok (.aload_n 0, 1) := by decide +kernel
theorem d_10_20_300 : decode prog_10_method_20_code 300 = .ok (.invokevirtual 227, 3) := by decide +kernel
theorem d_10_20_303 : decode prog_10_method_20_code 303 = .ok (.istore 7, 2) := by decide +kernel
theorem d_10_20_305 : decode prog_10_method_20_code 305 = .ok (.iload 7, 2) := by decide +kernel
theorem d_10_20_307 : decode prog_10_method_20_code 307 = .ok (.ifCond .ge 5, 3) := by decide +kernel
theorem d_10_20_310 : decode prog_10_method_20_code 310 = .ok (.iconst (-1), 1) := by decide +kernel
theorem d_10_20_311 : decode prog_10_method_20_code 311 = .ok (.ireturn, 1) := by decide +kernel
theorem d_10_20_312 : decode prog_10_method_20_code 312 = .ok (.aload_n 0, 1) := by decide +kernel
theorem d_10_20_313 : decode prog_10_method_20_code 313 = .ok (.iload_n 1, 1) := by decide +kernel
theorem d_10_20_314 : decode prog_10_method_20_code 314 = .ok (.iload 5, 2) := by decide +kernel
theorem d_10_20_316 : decode prog_10_method_20_code 316 = .ok (.iload 7, 2) := by decide +kernel
theorem d_10_20_318 : decode prog_10_method_20_code 318 = .ok (.invokevirtual 224, 3) := by decide +kernel
theorem d_10_20_321 : decode prog_10_method_20_code 321 = .ok (.istore 5, 2) := by decide +kernel
theorem d_10_20_323 : decode prog_10_method_20_code 323 = .ok (.aload_n 0, 1) := by decide +kernel
theorem d_10_20_324 : decode prog_10_method_20_code 324 = .ok (.ldc 213, 2) := by decide +kernel
theorem d_10_20_326 : decode prog_10_method_20_code 326 = .ok (.invokevirtual 102, 3) := by decide +kernel
theorem d_10_20_329 : decode prog_10_method_20_code 329 = .ok (.istore 6, 2) := by decide +kernel
theorem d_10_20_331 : decode prog_10_method_20_code 331 = .ok (.iload 6, 2) := by decide +kernel
theorem d_10_20_333 : decode prog_10_method_20_code 333 = .ok (.ifCond .eq 13, 3) := by decide +kernel
theorem d_10_20_336 : decode prog_10_method_20_code 336 = .ok (.aload_n 0, 1) := by decide +kernel
theorem d_10_20_337 : decode prog_10_method_20_code 337 = .ok (.dup, 1) := by decide +kernel
theorem d_10_20_338 : decode prog_10_method_20_code 338 = .ok (.getfield 58, 3) := by decide +kernel
theorem d_10_20_341 : decode prog_10_method_20_code 341 = .ok (.iconst 1, 1) := by decide +kernel
theorem d_10_20_342 : decode prog_10_method_20_code 342 = .ok (.iadd, 1) := by decide +kernel
theorem d_10_20_343 : decode prog_10_method_20_code 343 = .ok (.putfield 58, 3) := by decide +kernel
theorem d_10_20_346 : decode prog_10_method_20_code 346 = .ok (.goto (-146), 3) := by decide +kernel
theorem d_10_20_349 : decode prog_10_method_20_code 349 = .ok (.aload_n 0, 1) := by decide +kernel
theorem d_10_20_350 : decode prog_10_method_20_code 350 = .ok (.ldc 230, 2) := by decide +kernel
theorem d_10_20_352 : decode prog_10_method_20_code 352 = .ok (.invokevirtual 215, 3) := by decide +kernel
theorem d_10_20_355 : decode prog_10_method_20_code 355 = .ok (.ifCond .ne 5, 3) := by decide +kernel
theorem d_10_20_358 : decode prog_10_method_20_code 358 = .ok (.iconst (-1), 1) := by decide +kernel
theorem d_10_20_359 : decode prog_10_method_20_code 359 = .ok (.ireturn, 1) := by decide +kernel
theorem d_10_20_360 : decode prog_10_method_20_code 360 = .ok (.aload_n 0, 1) := by decide +kernel
theorem d_10_20_361 : decode prog_10_method_20_code 361 = .ok (.iload_n 2, 1) := by decide +kernel
theorem d_10_20_362 : decode prog_10_method_20_code 362 = .ok (.putfield 93, 3) := by decide +kernel
theorem d_10_20_365 : decode prog_10_method_20_code 365 = .ok (.aload_n 0, 1) := by decide +kernel
theorem d_10_20_366 : decode prog_10_method_20_code 366 = .ok (.dup, 1) := by decide +kernel
theorem d_10_20_367 : decode prog_10_method_20_code 367 = .ok (.getfield 109, 3) := by decide +kernel
theorem d_10_20_370 : decode prog_10_method_20_code 370 = .ok (.iconst 1, 1) := by decide +kernel
theorem d_10_20_371 : decode prog_10_method_20_code 371 = .ok (.isub, 1) := by decide +kernel
theorem d_10_20_372 : decode prog_10_method_20_code 372 = .ok (.putfield 109, 3) := by decide +kernel
theorem d_10_20_375 : decode prog_10_method_20_code 375 = .ok (.iload_n 1, 1) := by decide +kernel
theorem d_10_20_376 : decode prog_10_method_20_code 376 = .ok (.ireturn, 1) := by decide +kernel
theorem d_10_21_0 : decode prog_10_method_21_code 0 = .ok (.iload_n 2, 1) := by decide +kernel
theorem d_10_21_1 : decode prog_10_method_21_code 1 = .ok (.ifCond .ge 13, 3) := by decide +kernel
theorem d_10_21_4 : decode prog_10_method_21_code 4 = .ok (.aload_n 0, 1) := by decide +kernel
theorem d_10_21_5 : decode prog_10_method_21_code 5 = .ok (.getfield 78, 3) := by decide +kernel
theorem d_10_21_8 : decode prog_10_method_21_code 8 = .ok (.iload_n 1, 1) := by decide +kernel
theorem d_10_21_9 : decode prog_10_method_21_code 9 = .ok (.iload_n 3, 1) := by decide +kernel
theorem d_10_21_10 : decode prog_10_method_21_code 10 = .ok (.iastore, 1) := by decide +kernel
theorem d_10_21_11 : decode prog_10_method_21_code 11 = .ok (.goto 10, 3) := by decide +kernel
theorem d_10_21_14 : decode prog_10_method_21_code 14 = .ok (.aload_n 0, 1) := by decide +kernel
theorem d_10_21_15 : decode prog_10_method_21_code 15 = .ok (.getfield 87, 3) := by decide +kernel
theorem d_10_21_18 : decode prog_10_method_21_code 18 = .ok (.iload_n 2, 1) := by decide +kernel
theorem d_10_21_19 : decode prog_10_method_21_code 19 = .ok (.iload_n 3, 1) := by decide +kernel
theorem d_10_21_20 : decode prog_10_method_21_code 20 = .ok (.iastore, 1) := by decide +kernel
theorem d_10_21_21 : decode prog_10_method_21_code 21 = .ok (.iload_n 3, 1) := by decide +kernel
theorem d_10_21_22 : decode prog_10_method_21_code 22 = .ok (.ireturn, 1) := by decide +kernel
theorem d_10_22_0 : decode prog_10_method_22_code 0 = .ok (.aload_n 0, 1) := by decide +kernel
theorem d_10_22_1 : decode prog_10_method_22_code 1 = .ok (.ldc 196, 2) := by decide +kernel
theorem d_10_22_3 : decode prog_10_method_22_code 3 = .ok (.invokevirtual 102, 3) := by decide +kernel
theorem d_10_22_6 : decode prog_10_method_22_code 6 = .ok (.ifCond .eq 65, 3) := by decide +kernel
theorem d_10_22_9 : decode prog_10_method_22_code 9 = .ok (.aload_n 0, 1) := by decide +kernel
theorem d_10_22_10 : decode prog_10_method_22_code 10 = .ok (.dup, 1) := by decide +kernel
theorem d_10_22_11 : decode prog_10_method_22_code 11 = .ok (.getfield 58, 3) := by decide +kernel
theorem d_10_22_14 : decode prog_10_method_22_code 14 = .ok (.iconst 1, 1) := by decide +kernel
theorem d_10_22_15 : decode prog_10_method_22_code 15 = .ok (.iadd, 1) := by decide +kernel
theorem d_10_22_16 : decode prog_10_method_22_code 16 = .ok (.putfield 58, 3) := by decide +kernel
theorem d_10_22_19 : decode prog_10_method_22_code 19 = .ok (.aload_n 0, 1) := by decide +kernel
theorem d_10_22_20 : decode prog_10_method_22_code 20 = .ok (.invokevirtual 198, 3) := by decide +kernel
theorem d_10_22_23 : decode prog_10_method_22_code 23 = .ok (.ifCond .ne 16, 3) := by decide +kernel
theorem d_10_22_26 : decode prog_10_method_22_code 26 = .ok (.aload_n 0, 1) := by decide +kernel
theorem d_10_22_27 : decode prog_10_method_22_code 27 = .ok (.invokevirtual 106, 3) := by decide +kernel
theorem d_10_22_30 : decode prog_10_method_22_code 30 = .ok (.ifCond .le 7, 3) := by decide +kernel
theorem d_10_22_33 : decode prog_10_method_22_code 33 = .ok (.iconst 1, 1) := by decide +kernel
theorem d_10_22_34 : decode prog_10_method_22_code 34 = .ok (.goto 4, 3) := by decide +kernel
theorem d_10_22_37 : decode prog_10_method_22_code 37 = .ok (.iconst 0, 1) := by decide +kernel
theorem d_10_22_38 : decode prog_10_method_22_code 38 = .ok (.ireturn, 1) := by decide +kernel
theorem d_10_22_39 : decode prog_10_method_22_code 39 = .ok (.aload_n 0, 1) := by decide +kernel
theorem d_10_22_40 : decode prog_10_method_22_code 40 = .ok (.ldc 177, 2) := by decide +kernel
theorem d_10_22_42 : decode prog_10_method_22_code 42 = .ok (.invokevirtual 102, 3) := by decide +kernel
theorem d_10_22_45 : decode prog_10_method_22_code 45 = .ok (.ifCond .eq 7, 3) := by decide +kernel
theorem d_10_22_48 : decode prog_10_method_22_code 48 = .ok (.iconst 1, 1) := by decide +kernel
theorem d_10_22_49 : decode prog_10_method_22_code 49 = .ok (.goto 4, 3) := by decide +kernel
theorem d_10_22_52 : decode prog_10_method_22_code 52 = .ok (.iconst 2, 1) := by decide +kernel
theorem d_10_22_53 : decode prog_10_method_22_code 53 = .ok (.istore_n 2, 1) := by decide +kernel
theorem d_10_22_54 : decode prog_10_method_22_code 54 = .ok (.aload_n 0, 1) := by decide +kernel
theorem d_10_22_55 : decode prog_10_method_22_code 55 = .ok (.dup, 1) := by decide +kernel
theorem d_10_22_56 : decode prog_10_method_22_code 56 = .ok (.getfield 58, 3) := by decide +kernel
theorem d_10_22_59 : decode prog_10_method_22_code 59 = .ok (.iconst 1, 1) := by decide +kernel
theorem d_10_22_60 : decode prog_10_method_22_code 60 = .ok (.iadd, 1) := by decide +kernel
theorem d_10_22_61 : decode prog_10_method_22_code 61 = .ok (.putfield 58, 3) := by decide +kernel
theorem d_10_22_64 : decode prog_10_method_22_code 64 = .ok (.aload_n 0, 1) := by decide +kernel
theorem d_10_22_65 : decode prog_10_method_22_code 65 = .ok (.iload_n 2, 1) := by decide +kernel
theorem d_10_22_66 : decode prog_10_method_22_code 66 = .ok (.iconst 1, 1) := by decide +kernel
theorem d_10_22_67 : decode prog_10_method_22_code 67 = .ok (.invokevirtual 232, 3) := by decide +kernel
theorem d_10_22_70 : decode prog_10_method_22_code 70 = .ok (.ireturn, 1) := by decide +kernel
theorem d_10_22_71 : decode prog_10_method_22_code 71 = .ok (.aload_n 0, 1) := by decide +kernel
theorem d_10_22_72 : decode prog_10_method_22_code 72 = .ok (.ldc 202, 2) := by decide +kernel
theorem d_10_22_74 : decode prog_10_method_22_code 74 = .ok (.invokevirtual 102, 3) := by decide +kernel
theorem d_10_22_77 : decode prog_10_method_22_code 77 = .ok (.ifCond .eq 8, 3) := by decide +kernel
theorem d_10_22_80 : decode prog_10_method_22_code 80 = .ok (.aload_n 0, 1) := by decide +kernel
theorem d_10_22_81 : decode prog_10_method_22_code 81 = .ok (.invokevirtual 236, 3) := by decide +kernel
theorem d_10_22_84 : decode prog_10_method_22_code 84 = .ok (.ireturn, 1) := by decide +kernel
theorem d_10_22_85 : decode prog_10_method_22_code 85 = .ok (.aload_n 0, 1) := by decide +kernel
theorem d_10_22_86 : decode prog_10_method_22_code 86 = .ok (.ldc 177, 2) := by decide +kernel
theorem d_10_22_88 : decode prog_10_method_22_code 88 = .ok (.invokevirtual 102, 3) := by decide +kernel
theorem d_10_22_91 : decode prog_10_method_22_code 91 = .ok (.ifCond .eq 7, 3) := by decide +kernel
theorem d_10_22_94 : decode prog_10_method_22_code 94 = .ok (.iconst 1, 1) := by decide +kernel
theorem d_10_22_95 : decode prog_10_method_22_code 95 = .ok (.goto 17, 3) := by decide +kernel
theorem d_10_22_98 : decode prog_10_method_22_code 98 = .ok (.aload_n 0, 1) := by decide +kernel
theorem d_10_22_99 : decode prog_10_method_22_code 99 = .ok (.ldc 179, 2) := by decide +kernel
theorem d_10_22_101 : decode prog_10_method_22_code 101 = .ok (.invokevirtual 102, 3) := by decide +kernel
theorem d_10_22_104 : decode prog_10_method_22_code 104 = .ok (.ifCond .eq 7, 3) := by decide +kernel
theorem d_10_22_107 : decode prog_10_method_22_code 107 = .ok (.iconst 2, 1) := by decide +kernel
theorem d_10_22_108 : decode prog_10_method_22_code 108 = .ok (.goto 4, 3) := by decide +kernel
theorem d_10_22_111 : decode prog_10_method_22_code 111 = .ok (.iconst 0, 1) := by decide +kernel
theorem d_10_22_112 : decode prog_10_method_22_code 112 = .ok (.istore_n 2, 1) := by decide +kernel
theorem d_10_22_113 : decode prog_10_method_22_code 113 = .ok (.iload_n 2, 1) := by decide +kernel
theorem d_10_22_114 : decode prog_10_method_22_code 114 = .ok (.ifCond .le 13, 3) := by decide +kernel
theorem d_10_22_117 : decode prog_10_method_22_code 117 = .ok (.aload_n 0, 1) := by decide +kernel
theorem d_10_22_118 : decode prog_10_method_22_code 118 = .ok (.dup, 1) := by decide +kernel
theorem d_10_22_119 : decode prog_10_method_22_code 119 = .ok (.getfield 58, 3) := by decide +kernel
theorem d_10_22_122 : decode prog_10_method_22_code 122 = .ok (.iconst 1, 1) := by decide +kernel
theorem d_10_22_123 : decode prog_10_method_22_code 123 = .ok (.iadd, 1) := by decide +kernel
theorem d_10_22_124 : decode prog_10_method_22_code 124 = .ok (.putfield 58, 3) := by decide +kernel
theorem d_10_22_127 : decode prog_10_method_22_code 127 = .ok (.aload_n 0, 1) := by decide +kernel
theorem d_10_22_128 : decode prog_10_method_22_code 128 = .ok (.ldc 201, 2) := by decide +kernel
theorem d_10_22_130 : decode prog_10_method_22_code 130 = .ok (.invokevirtual 102, 3) := by decide +kernel
theorem d_10_22_133 : decode prog_10_method_22_code 133 = .ok (.ifCond .eq 9, 3) := by decide +kernel
theorem d_10_22_136 : decode prog_10_method_22_code 136 = .ok (.aload_n 0, 1) := by decide +kernel
theorem d_10_22_137 : decode prog_10_method_22_code 137 = .ok (.iload_n 2, 1) := by decide +kernel
theorem d_10_22_138 : decode prog_10_method_22_code 138 = .ok (.invokevirtual 239, 3) := by decide +kernel
theorem d_10_22_141 : decode prog_10_method_22_code 141 = .ok (.ireturn, 1) := by decide +kernel
theorem d_10_22_142 : decode prog_10_method_22_code 142 = .ok (.aload_n 0, 1) := by decide +kernel
theorem d_10_22_143 : decode prog_10_method_22_code 143 = .ok (.ldc 242, 2) := by decide +kernel
theorem d_10_22_145 : decode prog_10_method_22_code 145 = .ok (.invokevirtual 102, 3) := by decide +kernel
theorem d_10_22_148 : decode prog_10_method_22_code 148 = .ok (.ifCond .eq 12, 3) := by decide +kernel
theorem d_10_22_151 : decode prog_10_method_22_code 151 = .ok (.aload_n 0, 1) := by decide +kernel
theorem d_10_22_152 : decode prog_10_method_22_code 152 = .ok (.iload_n 2, 1) := by decide +kernel
theorem d_10_22_153 : decode prog_10_method_22_code 153 = .ok (.iload_n 1, 1) := by decide +kernel
theorem d_10_22_154 : decode prog_10_method_22_code 154 = .ok (.invokevirtual 244, 3) := by decide +kernel
theorem d_10_22_157 : decode prog_10_method_22_code 157 = .ok (.goto 9, 3) := by decide +kernel
theorem d_10_22_160 : decode prog_10_method_22_code 160 = .ok (.aload_n 0, 1) := by decide +kernel
theorem d_10_22_161 : decode prog_10_method_22_code 161 = .ok (.iload_n 2, 1) := by decide +kernel
theorem d_10_22_162 : decode prog_10_method_22_code 162 = .ok (.iconst 0, 1) := by decide +kernel
theorem d_10_22_163 : decode prog_10_method_22_code 163 = .ok (.invokevirtual 232, 3) := by decide +kernel
theorem d_10_22_166 : decode prog_10_method_22_code 166 = .ok (.ireturn, 1) := by decide +kernel
theorem d_10_23_0 : decode prog_10_method_23_code 0 = .ok (.aload_n 0, 1) := by decide +kernel
theorem d_10_23_1 : decode prog_10_method_23_code 1 = .ok (.getfield 23, 3) := by decide +kernel
theorem d_10_23_4 : decode prog_10_method_23_code 4 = .ok (.aload_n 0, 1) := by decide +kernel
theorem d_10_23_5 : decode prog_10_method_23_code 5 = .ok (.getfield 58, 3) := by decide +kernel
theorem d_10_23_8 : decode prog_10_method_23_code 8 = .ok (.iaload, 1) := by decide +kernel
theorem d_10_23_9 : decode prog_10_method_23_code 9 = .ok (.iconst 1, 1) := by decide +kernel
theorem d_10_23_10 : decode prog_10_method_23_code 10 = .ok (.if_icmp .ne 19, 3) := by decide +kernel
theorem d_10_23_13 : decode prog_10_method_23_code 13 = .ok (.aload_n 0, 1) := by decide +kernel
theorem d_10_23_14 : decode prog_10_method_23_code 14 = .ok (.getfield 247, 3) := by decide +kernel
theorem d_10_23_17 : decode prog_10_method_23_code 17 = .ok (.aload_n 0, 1) := by decide +kernel
theorem d_10_23_18 : decode prog_10_method_23_code 18 = .ok (.getfield 190, 3) := by decide +kernel
theorem d_10_23_21 : decode prog_10_method_23_code 21 = .ok (.iconst 1, 1) := by decide +kernel
theorem d_10_23_22 : decode prog_10_method_23_code 22 = .ok (.iadd, 1) := by decide +kernel
theorem d_10_23_23 : decode prog_10_method_23_code 23 = .ok (.iaload, 1) := by decide +kernel
theorem d_10_23_24 : decode prog_10_method_23_code 24 = .ok (.bipush 60, 2) := by decide +kernel
theorem d_10_23_26 : decode prog_10_method_23_code 26 = .ok (.if_icmp .lt 10, 3) := by decide +kernel
theorem d_10_23_29 : decode prog_10_method_23_code 29 = .ok (.aload_n 0, 1) := by decide +kernel
theorem d_10_23_30 : decode prog_10_method_23_code 30 = .ok (.invokevirtual 106, 3) := by decide +kernel
theorem d_10_23_33 : decode prog_10_method_23_code 33 = .ok (.ifCond .le 7, 3) := by decide +kernel
theorem d_10_23_36 : decode prog_10_method_23_code 36 = .ok (.iconst 1, 1) := by decide +kernel
theorem d_10_23_37 : decode prog_10_method_23_code 37 = .ok (.goto 4, 3) := by decide +kernel
theorem d_10_23_40 : decode prog_10_method_23_code 40 = .ok (.iconst 0, 1) := by decide +kernel
theorem d_10_23_41 : decode prog_10_method_23_code 41 = .ok (.ireturn, 1) := by decide +kernel
theorem d_10_24_0 : decode prog_10_method_24_code 0 = .ok (.iconst 1, 1) := by decide +kernel
theorem d_10_24_1 : decode prog_10_method_24_code 1 = .ok (.istore_n 3, 1) := by decide +kernel
theorem d_10_24_2 : decode prog_10_method_24_code 2 = .ok (.iload_n 3, 1) := by decide +kernel
theorem d_10_24_3 : decode prog_10_method_24_code 3 = .ok (.ifCond .eq 77, 3) := by decide +kernel
theorem d_10_24_6 : decode prog_10_method_24_code 6 = .ok (.aload_n 0, 1) := by decide +kernel
theorem d_10_24_7 : decode prog_10_method_24_code 7 = .ok (.invokevirtual 250, 3) := by decide +kernel
theorem d_10_24_10 : decode prog_10_method_24_code 10 = .ok (.ifCond .ne 5, 3) := by decide +kernel
theorem d_10_24_13 : decode prog_10_method_24_code 13 = .ok (.iconst 0, 1) := by decide +kernel
theorem d_10_24_14 : decode prog_10_method_24_code 14 = .ok (.ireturn, 1) := by decide +kernel
theorem d_10_24_15 : decode prog_10_method_24_code 15 = .ok (.aload_n 0, 1) := by decide +kernel
theorem d_10_24_16 : decode prog_10_method_24_code 16 = .ok (.getfield 247, 3) := by decide +kernel
theorem d_10_24_19 : decode prog_10_method_24_code 19 = .ok (.aload_n 0, 1) := by decide +kernel
theorem d_10_24_20 : decode prog_10_method_24_code 20 = .ok (.getfield 190, 3) := by decide +kernel
theorem d_10_24_23 : decode prog_10_method_24_code 23 = .ok (.iconst 1, 1) := by decide +kernel
theorem d_10_24_24 : decode prog_10_method_24_code 24 = .ok (.iadd, 1) := by decide +kernel
theorem d_10_24_25 : decode prog_10_method_24_code 25 = .ok (.dup2, 1) := by decide +kernel
theorem d_10_24_26 : decode prog_10_method_24_code 26 = .ok (.iaload, 1) := by decide +kernel
theorem d_10_24_27 : decode prog_10_method_24_code 27 = .ok (.iconst 1, 1) := by decide +kernel
theorem d_10_24_28 : decode prog_10_method_24_code 28 = .ok (.iadd, 1) := by decide +kernel
theorem d_10_24_29 : decode prog_10_method_24_code 29 = .ok (.iastore, 1) := by decide +kernel
theorem d_10_24_30 : decode prog_10_method_24_code 30 = .ok (.aload_n 0, 1) := by decide +kernel
theorem d_10_24_31 : decode prog_10_method_24_code 31 = .ok (.getfield 168, 3) := by decide +kernel
theorem d_10_24_34 : decode prog_10_method_24_code 34 = .ok (.aload_n 0, 1) := by decide +kernel
theorem d_10_24_35 : decode prog_10_method_24_code 35 = .ok (.aload_n 0, 1) := by decide +kernel
theorem d_10_24_36 : decode prog_10_method_24_code 36 = .ok (.getfield 58, 3) := by decide +kernel
theorem d_10_24_39 : decode prog_10_method_24_code 39 = .ok (.iconst 0, 1) := by decide +kernel
theorem d_10_24_40 : decode prog_10_method_24_code 40 = .ok (.iload_n 1, 1) := by decide +kernel
theorem d_10_24_41 : decode prog_10_method_24_code 41 = .ok (.invokevirtual 220, 3) := by decide +kernel
theorem d_10_24_44 : decode prog_10_method_24_code 44 = .ok (.iload_n 2, 1) := by decide +kernel
theorem d_10_24_45 : decode prog_10_method_24_code 45 = .ok (.bastore, 1) := by decide +kernel
theorem d_10_24_46 : decode prog_10_method_24_code 46 = .ok (.aload_n 0, 1) := by decide +kernel
theorem d_10_24_47 : decode prog_10_method_24_code 47 = .ok (.dup, 1) := by decide +kernel
theorem d_10_24_48 : decode prog_10_method_24_code 48 = .ok (.getfield 58, 3) := by decide +kernel
theorem d_10_24_51 : decode prog_10_method_24_code 51 = .ok (.iconst 1, 1) := by decide +kernel
