theorem d_10_68_0 : decode prog_10_method_68_code 0 = .ok (.aload_n 0, 1) := by decide +kernel
theorem d_10_68_1 : decode prog_10_method_68_code 1 = .ok (.invokespecial 460, 3) := by decide +kernel
theorem d_10_68_4 : decode prog_10_method_68_code 4 = .ok (.aload_n 0, 1) := by decide +kernel
theorem d_10_68_5 : decode prog_10_method_68_code 5 = .ok (.sipush 3000, 3) := by decide +kernel
theorem d_10_68_8 : decode prog_10_method_68_code 8 = .ok (.newarray .byte, 2) := by decide +kernel
theorem d_10_68_10 : decode prog_10_method_68_code 10 = .ok (.putfield 15, 3) := by decide +kernel
theorem d_10_68_13 : decode prog_10_method_68_code 13 = .ok (.aload_n 0, 1) := by decide +kernel
theorem d_10_68_14 : decode prog_10_method_68_code 14 = .ok (.sipush 3001, 3) := by decide +kernel
theorem d_10_68_17 : decode prog_10_method_68_code 17 = .ok (.newarray .int, 2) := by decide +kernel
theorem d_10_68_19 : decode prog_10_method_68_code 19 = .ok (.putfield 23, 3) := by decide +kernel
theorem d_10_68_22 : decode prog_10_method_68_code 22 = .ok (.aload_n 0, 1) := by decide +kernel
theorem d_10_68_23 : decode prog_10_method_68_code 23 = .ok (.sipush 3001, 3) := by decide +kernel
theorem d_10_68_26 : decode prog_10_method_68_code 26 = .ok (.newarray .int, 2) := by decide +kernel
theorem d_10_68_28 : decode prog_10_method_68_code 28 = .ok (.putfield 19, 3) := by decide +kernel
theorem d_10_68_31 : decode prog_10_method_68_code 31 = .ok (.aload_n 0, 1) := by decide +kernel
theorem d_10_68_32 : decode prog_10_method_68_code 32 = .ok (.sipush 3001, 3) := by decide +kernel
theorem d_10_68_35 : decode prog_10_method_68_code 35 = .ok (.newarray .int, 2) := by decide +kernel
theorem d_10_68_37 : decode prog_10_method_68_code 37 = .ok (.putfield 55, 3) := by decide +kernel
theorem d_10_68_40 : decode prog_10_method_68_code 40 = .ok (.aload_n 0, 1) := by decide +kernel
theorem d_10_68_41 : decode prog_10_method_68_code 41 = .ok (.sipush 3001, 3) := by decide +kernel
theorem d_10_68_44 : decode prog_10_method_68_code 44 = .ok (.newarray .long, 2) := by decide +kernel
theorem d_10_68_46 : decode prog_10_method_68_code 46 = .ok (.putfield 49, 3) := by decide +kernel
theorem d_10_68_49 : decode prog_10_method_68_code 49 = .ok (.aload_n 0, 1) := by decide +kernel
theorem d_10_68_50 : decode prog_10_method_68_code 50 = .ok (.sipush 6000, 3) := by decide +kernel
theorem d_10_68_53 : decode prog_10_method_68_code 53 = .ok (.newarray .int, 2) := by decide +kernel
theorem d_10_68_55 : decode prog_10_method_68_code 55 = .ok (.putfield 66, 3) := by decide +kernel
theorem d_10_68_58 : decode prog_10_method_68_code 58 = .ok (.aload_n 0, 1) := by decide +kernel
theorem d_10_68_59 : decode prog_10_method_68_code 59 = .ok (.sipush 6000, 3) := by decide +kernel
theorem d_10_68_62 : decode prog_10_method_68_code 62 = .ok (.newarray .int, 2) := by decide +kernel
theorem d_10_68_64 : decode prog_10_method_68_code 64 = .ok (.putfield 72, 3) := by decide +kernel
theorem d_10_68_67 : decode prog_10_method_68_code 67 = .ok (.aload_n 0, 1) := by decide +kernel
theorem d_10_68_68 : decode prog_10_method_68_code 68 = .ok (.sipush 6000, 3) := by decide +kernel
theorem d_10_68_71 : decode prog_10_method_68_code 71 = .ok (.newarray .int, 2) := by decide +kernel
theorem d_10_68_73 : decode prog_10_method_68_code 73 = .ok (.putfield 75, 3) := by decide +kernel
theorem d_10_68_76 : decode prog_10_method_68_code 76 = .ok (.aload_n 0, 1) := by decide +kernel
theorem d_10_68_77 : decode prog_10_method_68_code 77 = .ok (.sipush 6000, 3) := by decide +kernel
theorem d_10_68_80 : decode prog_10_method_68_code 80 = .ok (.newarray .int, 2) := by decide +kernel
theorem d_10_68_82 : decode prog_10_method_68_code 82 = .ok (.putfield 78, 3) := by decide +kernel
theorem d_10_68_85 : decode prog_10_method_68_code 85 = .ok (.aload_n 0, 1) := by decide +kernel
theorem d_10_68_86 : decode prog_10_method_68_code 86 = .ok (.sipush 6000, 3) := by decide +kernel
theorem d_10_68_89 : decode prog_10_method_68_code 89 = .ok (.newarray .int, 2) := by decide +kernel
theorem d_10_68_91 : decode prog_10_method_68_code 91 = .ok (.putfield 81, 3) := by decide +kernel
theorem d_10_68_94 : decode prog_10_method_68_code 94 = .ok (.aload_n 0, 1) := by decide +kernel
theorem d_10_68_95 : decode prog_10_method_68_code 95 = .ok (.sipush 6000, 3) := by decide +kernel
theorem d_10_68_98 : decode prog_10_method_68_code 98 = .ok (.newarray .int, 2) := by decide +kernel
theorem d_10_68_100 : decode prog_10_method_68_code 100 = .ok (.putfield 84, 3) := by decide +kernel
theorem d_10_68_103 : decode prog_10_method_68_code 103 = .ok (.aload_n 0, 1) := by decide +kernel
theorem d_10_68_104 : decode prog_10_method_68_code 104 = .ok (.sipush 6000, 3) := by decide +kernel
theorem d_10_68_107 : decode prog_10_method_68_code 107 = .ok (.newarray .int, 2) := by decide +kernel
theorem d_10_68_109 : decode prog_10_method_68_code 109 = .ok (.putfield 87, 3) := by decide +kernel
theorem d_10_68_112 : decode prog_10_method_68_code 112 = .ok (.aload_n 0, 1) := by decide +kernel
theorem d_10_68_113 : decode prog_10_method_68_code 113 = .ok (.sipush 6000, 3) := by decide +kernel
theorem d_10_68_116 : decode prog_10_method_68_code 116 = .ok (.newarray .int, 2) := by decide +kernel
theorem d_10_68_118 : decode prog_10_method_68_code 118 = .ok (.putfield 90, 3) := by decide +kernel
theorem d_10_68_121 : decode prog_10_method_68_code 121 = .ok (.aload_n 0, 1) := by decide +kernel
theorem d_10_68_122 : decode prog_10_method_68_code 122 = .ok (.sipush 3000, 3) := by decide +kernel
theorem d_10_68_125 : decode prog_10_method_68_code 125 = .ok (.newarray .int, 2) := by decide +kernel
theorem d_10_68_127 : decode prog_10_method_68_code 127 = .ok (.putfield 118, 3) := by decide +kernel
theorem d_10_68_130 : decode prog_10_method_68_code 130 = .ok (.aload_n 0, 1) := by decide +kernel
theorem d_10_68_131 : decode prog_10_method_68_code 131 = .ok (.sipush 3000, 3) := by decide +kernel
theorem d_10_68_134 : decode prog_10_method_68_code 134 = .ok (.newarray .int, 2) := by decide +kernel
theorem d_10_68_136 : decode prog_10_method_68_code 136 = .ok (.putfield 144, 3) := by decide +kernel
theorem d_10_68_139 : decode prog_10_method_68_code 139 = .ok (.aload_n 0, 1) := by decide +kernel
theorem d_10_68_140 : decode prog_10_method_68_code 140 = .ok (.sipush 3000, 3) := by decide +kernel
theorem d_10_68_143 : decode prog_10_method_68_code 143 = .ok (.newarray .int, 2) := by decide +kernel
theorem d_10_68_145 : decode prog_10_method_68_code 145 = .ok (.putfield 147, 3) := by decide +kernel
theorem d_10_68_148 : decode prog_10_method_68_code 148 = .ok (.aload_n 0, 1) := by decide +kernel
theorem d_10_68_149 : decode prog_10_method_68_code 149 = .ok (.sipush 3000, 3) := by decide +kernel
theorem d_10_68_152 : decode prog_10_method_68_code 152 = .ok (.newarray .int, 2) := by decide +kernel
theorem d_10_68_154 : decode prog_10_method_68_code 154 = .ok (.putfield 115, 3) := by decide +kernel
theorem d_10_68_157 : decode prog_10_method_68_code 157 = .ok (.aload_n 0, 1) := by decide +kernel
theorem d_10_68_158 : decode prog_10_method_68_code 158 = .ok (.sipush 3000, 3) := by decide +kernel
theorem d_10_68_161 : decode prog_10_method_68_code 161 = .ok (.newarray .int, 2) := by decide +kernel
theorem d_10_68_163 : decode prog_10_method_68_code 163 = .ok (.putfield 150, 3) := by decide +kernel
theorem d_10_68_166 : decode prog_10_method_68_code 166 = .ok (.aload_n 0, 1) := by decide +kernel
theorem d_10_68_167 : decode prog_10_method_68_code 167 = .ok (.sipush 3000, 3) := by decide +kernel
theorem d_10_68_170 : decode prog_10_method_68_code 170 = .ok (.newarray .int, 2) := by decide +kernel
theorem d_10_68_172 : decode prog_10_method_68_code 172 = .ok (.putfield 273, 3) := by decide +kernel
theorem d_10_68_175 : decode prog_10_method_68_code 175 = .ok (.aload_n 0, 1) := by decide +kernel
theorem d_10_68_176 : decode prog_10_method_68_code 176 = .ok (.sipush 3000, 3) := by decide +kernel
theorem d_10_68_179 : decode prog_10_method_68_code 179 = .ok (.newarray .int, 2) := by decide +kernel
theorem d_10_68_181 : decode prog_10_method_68_code 181 = .ok (.putfield 156, 3) := by decide +kernel
theorem d_10_68_184 : decode prog_10_method_68_code 184 = .ok (.aload_n 0, 1) := by decide +kernel
theorem d_10_68_185 : decode prog_10_method_68_code 185 = .ok (.sipush 3000, 3) := by decide +kernel
theorem d_10_68_188 : decode prog_10_method_68_code 188 = .ok (.newarray .int, 2) := by decide +kernel
theorem d_10_68_190 : decode prog_10_method_68_code 190 = .ok (.putfield 159, 3) := by decide +kernel
theorem d_10_68_193 : decode prog_10_method_68_code 193 = .ok (.aload_n 0, 1) := by decide +kernel
theorem d_10_68_194 : decode prog_10_method_68_code 194 = .ok (.sipush 3000, 3) := by decide +kernel
theorem d_10_68_197 : decode prog_10_method_68_code 197 = .ok (.newarray .boolean, 2) := by decide +kernel
theorem d_10_68_199 : decode prog_10_method_68_code 199 = .ok (.putfield 162, 3) := by decide +kernel
theorem d_10_68_202 : decode prog_10_method_68_code 202 = .ok (.aload_n 0, 1) := by decide +kernel
theorem d_10_68_203 : decode prog_10_method_68_code 203 = .ok (.sipush 3000, 3) := by decide +kernel
theorem d_10_68_206 : decode prog_10_method_68_code 206 = .ok (.newarray .boolean, 2) := by decide +kernel
theorem d_10_68_208 : decode prog_10_method_68_code 208 = .ok (.putfield 165, 3) := by decide +kernel
theorem d_10_68_211 : decode prog_10_method_68_code 211 = .ok (.aload_n 0, 1) := by decide +kernel
theorem d_10_68_212 : decode prog_10_method_68_code 212 = .ok (.sipush 3000, 3) := by decide +kernel
theorem d_10_68_215 : decode prog_10_method_68_code 215 = .ok (.newarray .boolean, 2) := by decide +kernel
theorem d_10_68_217 : decode prog_10_method_68_code 217 = .ok (.putfield 168, 3) := by decide +kernel
theorem d_10_68_220 : decode prog_10_method_68_code 220 = .ok (.aload_n 0, 1) := by decide +kernel
theorem d_10_68_221 : decode prog_10_method_68_code 221 = .ok (.sipush 3000, 3) := by decide +kernel
theorem d_10_68_224 : decode prog_10_method_68_code 224 = .ok (.newarray .int, 2) := by decide +kernel
theorem d_10_68_226 : decode prog_10_method_68_code 226 = .ok (.putfield 129, 3) := by decide +kernel
theorem d_10_68_229 : decode prog_10_method_68_code 229 = .ok (.aload_n 0, 1) := by decide +kernel
theorem d_10_68_230 : decode prog_10_method_68_code 230 = .ok (.sipush 3000, 3) := by decide +kernel
theorem d_10_68_233 : decode prog_10_method_68_code 233 = .ok (.newarray .int, 2) := by decide +kernel
theorem d_10_68_235 : decode prog_10_method_68_code 235 = .ok (.putfield 153, 3) := by decide +kernel
theorem d_10_68_238 : decode prog_10_method_68_code 238 = .ok (.aload_n 0, 1) := by decide +kernel
theorem d_10_68_239 : decode prog_10_method_68_code 239 = .ok (.sipush 3000, 3) := by decide +kernel
theorem d_10_68_242 : decode prog_10_method_68_code 242 = .ok (.newarray .int, 2) := by decide +kernel
theorem d_10_68_244 : decode prog_10_method_68_code 244 = .ok (.putfield 174, 3) := by decide +kernel
theorem d_10_68_247 : decode prog_10_method_68_code 247 = .ok (.aload_n 0, 1) := by decide +kernel
theorem d_10_68_248 : decode prog_10_method_68_code 248 = .ok (.sipush 3000, 3) := by decide +kernel
theorem d_10_68_251 : decode prog_10_method_68_code 251 = .ok (.newarray .int, 2) := by decide +kernel
theorem d_10_68_253 : decode prog_10_method_68_code 253 = .ok (.putfield 247, 3) := by decide +kernel
theorem d_10_68_256 : decode prog_10_method_68_code 256 = .ok (.aload_n 0, 1) := by decide +kernel
theorem d_10_68_257 : decode prog_10_method_68_code 257 = .ok (.sipush 3001, 3) := by decide +kernel
theorem d_10_68_260 : decode prog_10_method_68_code 260 = .ok (.newarray .boolean, 2) := by decide +kernel
theorem d_10_68_262 : decode prog_10_method_68_code 262 = .ok (.putfield 140, 3) := by decide +kernel
theorem d_10_68_265 : decode prog_10_method_68_code 265 = .ok (.aload_n 0, 1) := by decide +kernel
theorem d_10_68_266 : decode prog_10_method_68_code 266 = .ok (.sipush 6000, 3) := by decide +kernel
theorem d_10_68_269 : decode prog_10_method_68_code 269 = .ok (.newarray .int, 2) := by decide +kernel
theorem d_10_68_271 : decode prog_10_method_68_code 271 = .ok (.putfield 258, 3) := by decide +kernel
theorem d_10_68_274 : decode prog_10_method_68_code 274 = .ok (.aload_n 0, 1) := by decide +kernel
theorem d_10_68_275 : decode prog_10_method_68_code 275 = .ok (.sipush 6000, 3) := by decide +kernel
theorem d_10_68_278 : decode prog_10_method_68_code 278 = .ok (.newarray .int, 2) := by decide +kernel
theorem d_10_68_280 : decode prog_10_method_68_code 280 = .ok (.putfield 261, 3) := by decide +kernel
theorem d_10_68_283 : decode prog_10_method_68_code 283 = .ok (.aload_n 0, 1) := by decide +kernel
theorem d_10_68_284 : decode prog_10_method_68_code 284 = .ok (.sipush 3000, 3) := by decide +kernel
theorem d_10_68_287 : decode prog_10_method_68_code 287 = .ok (.newarray .int, 2) := by decide +kernel
theorem d_10_68_289 : decode prog_10_method_68_code 289 = .ok (.putfield 276, 3) := by decide +kernel
theorem d_10_68_292 : decode prog_10_method_68_code 292 = .ok (.aload_n 0, 1) := by decide +kernel
theorem d_10_68_293 : decode prog_10_method_68_code 293 = .ok (.sipush 3000, 3) := by decide +kernel
theorem d_10_68_296 : decode prog_10_method_68_code 296 = .ok (.newarray .int, 2) := by decide +kernel
theorem d_10_68_298 : decode prog_10_method_68_code 298 = .ok (.putfield 279, 3) := by decide +kernel
theorem d_10_68_301 : decode prog_10_method_68_code 301 = .ok (.aload_n 0, 1) := by decide +kernel
theorem d_10_68_302 : decode prog_10_method_68_code 302 = .ok (.sipush 3000, 3) := by decide +kernel
theorem d_10_68_305 : decode prog_10_method_68_code 305 = .ok (.newarray .int, 2) := by decide +kernel
theorem d_10_68_307 : decode prog_10_method_68_code 307 = .ok (.putfield 290, 3) := by decide +kernel
theorem d_10_68_310 : decode prog_10_method_68_code 310 = .ok (.aload_n 0, 1) := by decide +kernel
theorem d_10_68_311 : decode prog_10_method_68_code 311 = .ok (.sipush 3000, 3) := by decide +kernel
theorem d_10_68_314 : decode prog_10_method_68_code 314 = .ok (.newarray .int, 2) := by decide +kernel
theorem d_10_68_316 : decode prog_10_method_68_code 316 = .ok (.putfield 466, 3) := by decide +kernel
theorem d_10_68_319 : decode prog_10_method_68_code 319 = .ok (.aload_n 0, 1) := by decide +kernel
theorem d_10_68_320 : decode prog_10_method_68_code 320 = .ok (.sipush 3000, 3) := by decide +kernel
theorem d_10_68_323 : decode prog_10_method_68_code 323 = .ok (.newarray .int, 2) := by decide +kernel
theorem d_10_68_325 : decode prog_10_method_68_code 325 = .ok (.putfield 469, 3) := by decide +kernel
theorem d_10_68_328 : decode prog_10_method_68_code 328 = .ok (.aload_n 0, 1) := by decide +kernel
theorem d_10_68_329 : decode prog_10_method_68_code 329 = .ok (.sipush 15000, 3) := by decide +kernel
theorem d_10_68_332 : decode prog_10_method_68_code 332 = .ok (.newarray .int, 2) := by decide +kernel
theorem d_10_68_334 : decode prog_10_method_68_code 334 = .ok (.putfield 472, 3) := by decide +kernel
theorem d_10_68_337 : decode prog_10_method_68_code 337 = .ok (.aload_n 0, 1) := by decide +kernel
theorem d_10_68_338 : decode prog_10_method_68_code 338 = .ok (.iconst (-1), 1) := by decide +kernel
theorem d_10_68_339 : decode prog_10_method_68_code 339 = .ok (.putfield 475, 3) := by decide +kernel
theorem d_10_68_342 : decode prog_10_method_68_code 342 = .ok (.return_, 1) := by decide +kernel
theorem d_13_152_0 : decode prog_13_method_152_code 0 = .ok (.getstatic 38, 3) := by decide +kernel
theorem d_13_152_3 : decode prog_13_method_152_code 3 = .ok (.ifCond .eq 10, 3) := by decide +kernel
theorem d_13_152_6 : decode prog_13_method_152_code 6 = .ok (.aload_n 0, 1) := by decide +kernel
theorem d_13_152_7 : decode prog_13_method_152_code 7 = .ok (.getfield 15, 3) := by decide +kernel
theorem d_13_152_10 : decode prog_13_method_152_code 10 = .ok (.goto 4, 3) := by decide +kernel
theorem d_13_152_14 : decode prog_13_method_152_code 14 = .ok (.ireturn, 1) := by decide +kernel
theorem d_13_154_0 : decode prog_13_method_154_code 0 = .ok (.getstatic 38, 3) := by decide +kernel
theorem d_13_154_3 : decode prog_13_method_154_code 3 = .ok (.ifCond .eq 14, 3) := by decide +kernel
theorem d_13_154_6 : decode prog_13_method_154_code 6 = .ok (.aload_n 0, 1) := by decide +kernel
theorem d_13_154_7 : decode prog_13_method_154_code 7 = .ok (.getfield 15, 3) := by decide +kernel
theorem d_13_154_10 : decode prog_13_method_154_code 10 = .ok (.ifCond .ne 7, 3) := by decide +kernel
theorem d_13_154_13 : decode prog_13_method_154_code 13 = .ok (.iconst 1, 1) := by decide +kernel
theorem d_13_154_14 : decode prog_13_method_154_code 14 = .ok (.goto 4, 3) := by decide +kernel
theorem d_13_154_18 : decode prog_13_method_154_code 18 = .ok (.ireturn, 1) := by decide +kernel
theorem d_13_155_0 : decode prog_13_method_155_code 0 = .ok (.iload_n 0, 1) := by decide +kernel
theorem d_13_155_1 : decode prog_13_method_155_code 1 = .ok (.iload_n 1, 1) := by decide +kernel
theorem d_13_155_2 : decode prog_13_method_155_code 2 = .ok (.getstatic 1053, 3) := by decide +kernel
theorem d_13_155_5 : decode prog_13_method_155_code 5 = .ok (.invokestatic 1059, 3) := by decide +kernel
theorem d_13_155_8 : decode prog_13_method_155_code 8 = .ok (.pop, 1) := by decide +kernel
theorem d_13_155_9 : decode prog_13_method_155_code 9 = .ok (.return_, 1) := by decide +kernel
theorem d_13_54_0 : decode prog_13_method_54_code 0 = .ok (.aload_n 0, 1) := by decide +kernel
theorem d_13_54_1 : decode prog_13_method_54_code 1 = .ok (.getfield 9, 3) := by decide +kernel
theorem d_13_54_4 : decode prog_13_method_54_code 4 = .ok (.arraylength, 1) := by decide +kernel
theorem d_13_54_5 : decode prog_13_method_54_code 5 = .ok (.aload_n 0, 1) := by decide +kernel
theorem d_13_54_6 : decode prog_13_method_54_code 6 = .ok (.invokevirtual 335, 3) := by decide +kernel
theorem d_13_54_9 : decode prog_13_method_54_code 9 = .ok (.ishr, 1) := by decide +kernel
theorem d_13_54_10 : decode prog_13_method_54_code 10 = .ok (.ireturn, 1) := by decide +kernel
theorem d_13_56_0 : decode prog_13_method_56_code 0 = .ok (.aload_n 0, 1) := by decide +kernel
theorem d_13_56_1 : decode prog_13_method_56_code 1 = .ok (.invokevirtual 492, 3) := by decide +kernel
theorem d_13_56_4 : decode prog_13_method_56_code 4 = .ok (.ifCond .eq 12, 3) := by decide +kernel
theorem d_13_56_7 : decode prog_13_method_56_code 7 = .ok (.aload_n 0, 1) := by decide +kernel
theorem d_13_56_8 : decode prog_13_method_56_code 8 = .ok (.getfield 9, 3) := by decide +kernel
theorem d_13_56_11 : decode prog_13_method_56_code 11 = .ok (.iload_n 1, 1) := by decide +kernel
theorem d_13_56_12 : decode prog_13_method_56_code 12 = .ok (.invokestatic 495, 3) := by decide +kernel
theorem d_13_56_15 : decode prog_13_method_56_code 15 = .ok (.ireturn, 1) := by decide +kernel
theorem d_14_2_0 : decode prog_14_method_2_code 0 = .ok (.iload_n 1, 1) := by decide +kernel
theorem d_14_2_1 : decode prog_14_method_2_code 1 = .ok (.aload_n 0, 1) := by decide +kernel
theorem d_14_2_2 : decode prog_14_method_2_code 2 = .ok (.arraylength, 1) := by decide +kernel
theorem d_14_2_3 : decode prog_14_method_2_code 3 = .ok (.invokestatic 9, 3) := by decide +kernel
theorem d_14_2_6 : decode prog_14_method_2_code 6 = .ok (.aload_n 0, 1) := by decide +kernel
theorem d_14_2_7 : decode prog_14_method_2_code 7 = .ok (.iload_n 1, 1) := by decide +kernel
theorem d_14_2_8 : decode prog_14_method_2_code 8 = .ok (.baload, 1) := by decide +kernel
theorem d_14_2_9 : decode prog_14_method_2_code 9 = .ok (.sipush 255, 3) := by decide +kernel
theorem d_14_2_12 : decode prog_14_method_2_code 12 = .ok (.iand, 1) := by decide +kernel
theorem d_14_2_13 : decode prog_14_method_2_code 13 = .ok (.i2c, 1) := by decide +kernel
theorem d_14_2_14 : decode prog_14_method_2_code 14 = .ok (.ireturn, 1) := by decide +kernel
theorem d_16_103_0 : decode prog_16_method_103_code 0 = .ok (.iconst 0, 1) := by decide +kernel
theorem d_16_103_1 : decode prog_16_method_103_code 1 = .ok (.istore_n 2, 1) := by decide +kernel
theorem d_16_103_2 : decode prog_16_method_103_code 2 = .ok (.aload_n 0, 1) := by decide +kernel
theorem d_16_103_3 : decode prog_16_method_103_code 3 = .ok (.arraylength, 1) := by decide +kernel
theorem d_16_103_4 : decode prog_16_method_103_code 4 = .ok (.istore_n 3, 1) := by decide +kernel
theorem d_16_103_5 : decode prog_16_method_103_code 5 = .ok (.iload_n 2, 1) := by decide +kernel
theorem d_16_103_6 : decode prog_16_method_103_code 6 = .ok (.iload_n 3, 1) := by decide +kernel
theorem d_16_103_7 : decode prog_16_method_103_code 7 = .ok (.if_icmp .ge 13, 3) := by decide +kernel
theorem d_16_103_10 : decode prog_16_method_103_code 10 = .ok (.aload_n 0, 1) := by decide +kernel
theorem d_16_103_11 : decode prog_16_method_103_code 11 = .ok (.iload_n 2, 1) := by decide +kernel
theorem d_16_103_12 : decode prog_16_method_103_code 12 = .ok (.iload_n 1, 1) := by decide +kernel
theorem d_16_103_13 : decode prog_16_method_103_code 13 = .ok (.iastore, 1) := by decide +kernel
theorem d_16_103_14 : decode prog_16_method_103_code 14 = .ok (.iinc 2 1, 3) := by decide +kernel
theorem d_16_103_17 : decode prog_16_method_103_code 17 = .ok (.goto (-12), 3) := by decide +kernel
theorem d_16_103_20 : decode prog_16_method_103_code 20 = .ok (.return_, 1) := by decide +kernel
theorem d_16_111_0 : decode prog_16_method_111_code 0 = .ok (.iconst 0, 1) := by decide +kernel
theorem d_16_111_1 : decode prog_16_method_111_code 1 = .ok (.istore_n 2, 1) := by decide +kernel
theorem d_16_111_2 : decode prog_16_method_111_code 2 = .ok (.aload_n 0, 1) := by decide +kernel
theorem d_16_111_3 : decode prog_16_method_111_code 3 = .ok (.arraylength, 1) := by decide +kernel
theorem d_16_111_4 : decode prog_16_method_111_code 4 = .ok (.istore_n 3, 1) := by decide +kernel
theorem d_16_111_5 : decode prog_16_method_111_code 5 = .ok (.iload_n 2, 1) := by decide +kernel
theorem d_16_111_6 : decode prog_16_method_111_code 6 = .ok (.iload_n 3, 1) := by decide +kernel
theorem d_16_111_7 : decode prog_16_method_111_code 7 = .ok (.if_icmp .ge 13, 3) := by decide +kernel
theorem d_16_111_10 : decode prog_16_method_111_code 10 = .ok (.aload_n 0, 1) := by decide +kernel
theorem d_16_111_11 : decode prog_16_method_111_code 11 = .ok (.iload_n 2, 1) := by decide +kernel
theorem d_16_111_12 : decode prog_16_method_111_code 12 = .ok (.iload_n 1, 1) := by decide +kernel
theorem d_16_111_13 : decode prog_16_method_111_code 13 = .ok (.bastore, 1) := by decide +kernel
theorem d_16_111_14 : decode prog_16_method_111_code 14 = .ok (.iinc 2 1, 3) := by decide +kernel
theorem d_16_111_17 : decode prog_16_method_111_code 17 = .ok (.goto (-12), 3) := by decide +kernel
theorem d_16_111_20 : decode prog_16_method_111_code 20 = .ok (.return_, 1) := by decide +kernel
theorem d_17_11_0 : decode prog_17_method_11_code 0 = .ok (.iload_n 0, 1) := by decide +kernel
theorem d_17_11_1 : decode prog_17_method_11_code 1 = .ok (.ifCond .lt 8, 3) := by decide +kernel
theorem d_17_11_4 : decode prog_17_method_11_code 4 = .ok (.iload_n 0, 1) := by decide +kernel
theorem d_17_11_5 : decode prog_17_method_11_code 5 = .ok (.iload_n 1, 1) := by decide +kernel
theorem d_17_11_6 : decode prog_17_method_11_code 6 = .ok (.if_icmp .lt 10, 3) := by decide +kernel
theorem d_17_11_16 : decode prog_17_method_11_code 16 = .ok (.iload_n 0, 1) := by decide +kernel
theorem d_17_11_17 : decode prog_17_method_11_code 17 = .ok (.ireturn, 1) := by decide +kernel
theorem d_1_1_0 : decode prog_1_method_1_code 0 = .ok (.aload_n 0, 1) := by decide +kernel
theorem d_1_1_1 : decode prog_1_method_1_code 1 = .ok (.invokespecial 3, 3) := by decide +kernel
theorem d_1_1_4 : decode prog_1_method_1_code 4 = .ok (.new 9, 3) := by decide +kernel
theorem d_1_1_7 : decode prog_1_method_1_code 7 = .ok (.dup, 1) := by decide +kernel
theorem d_1_1_8 : decode prog_1_method_1_code 8 = .ok (.invokespecial 11, 3) := by decide +kernel
theorem d_1_1_11 : decode prog_1_method_1_code 11 = .ok (.astore_n 1, 1) := by decide +kernel
theorem d_1_1_12 : decode prog_1_method_1_code 12 = .ok (.new 12, 3) := by decide +kernel
theorem d_1_1_15 : decode prog_1_method_1_code 15 = .ok (.dup, 1) := by decide +kernel
theorem d_1_1_16 : decode prog_1_method_1_code 16 = .ok (.invokespecial 14, 3) := by decide +kernel
theorem d_1_1_19 : decode prog_1_method_1_code 19 = .ok (.astore_n 2, 1) := by decide +kernel
theorem d_1_1_20 : decode prog_1_method_1_code 20 = .ok (.new 15, 3) := by decide +kernel
theorem d_1_1_23 : decode prog_1_method_1_code 23 = .ok (.dup, 1) := by decide +kernel
theorem d_1_1_24 : decode prog_1_method_1_code 24 = .ok (.aload_n 1, 1) := by decide +kernel
theorem d_1_1_25 : decode prog_1_method_1_code 25 = .ok (.aload_n 2, 1) := by decide +kernel
theorem d_1_1_26 : decode prog_1_method_1_code 26 = .ok (.invokespecial 17, 3) := by decide +kernel
theorem d_1_1_29 : decode prog_1_method_1_code 29 = .ok (.astore_n 3, 1) := by decide +kernel
theorem d_1_1_30 : decode prog_1_method_1_code 30 = .ok (.aload_n 0, 1) := by decide +kernel
theorem d_1_1_31 : decode prog_1_method_1_code 31 = .ok (.sipush 3000, 3) := by decide +kernel
theorem d_1_1_34 : decode prog_1_method_1_code 34 = .ok (.newarray .byte, 2) := by decide +kernel
theorem d_1_1_36 : decode prog_1_method_1_code 36 = .ok (.putfield 20, 3) := by decide +kernel
theorem d_1_1_39 : decode prog_1_method_1_code 39 = .ok (.aload_n 0, 1) := by decide +kernel
theorem d_1_1_40 : decode prog_1_method_1_code 40 = .ok (.aload_n 1, 1) := by decide +kernel
theorem d_1_1_41 : decode prog_1_method_1_code 41 = .ok (.putfield 24, 3) := by decide +kernel
theorem d_1_1_44 : decode prog_1_method_1_code 44 = .ok (.aload_n 0, 1) := by decide +kernel
theorem d_1_1_45 : decode prog_1_method_1_code 45 = .ok (.aload_n 2, 1) := by decide +kernel
theorem d_1_1_46 : decode prog_1_method_1_code 46 = .ok (.putfield 28, 3) := by decide +kernel
theorem d_1_1_49 : decode prog_1_method_1_code 49 = .ok (.aload_n 0, 1) := by decide +kernel
theorem d_1_1_50 : decode prog_1_method_1_code 50 = .ok (.aload_n 3, 1) := by decide +kernel
theorem d_1_1_51 : decode prog_1_method_1_code 51 = .ok (.putfield 32, 3) := by decide +kernel
theorem d_1_1_54 : decode prog_1_method_1_code 54 = .ok (.aload_n 0, 1) := by decide +kernel
theorem d_1_1_55 : decode prog_1_method_1_code 55 = .ok (.new 36, 3) := by decide +kernel
theorem d_1_1_58 : decode prog_1_method_1_code 58 = .ok (.dup, 1) := by decide +kernel
theorem d_1_1_59 : decode prog_1_method_1_code 59 = .ok (.aload_n 1, 1) := by decide +kernel
theorem d_1_1_60 : decode prog_1_method_1_code 60 = .ok (.aload_n 3, 1) := by decide +kernel
theorem d_1_1_61 : decode prog_1_method_1_code 61 = .ok (.new 38, 3) := by decide +kernel
theorem d_1_1_64 : decode prog_1_method_1_code 64 = .ok (.dup, 1) := by decide +kernel
theorem d_1_1_65 : decode prog_1_method_1_code 65 = .ok (.aload_n 2, 1) := by decide +kernel
theorem d_1_1_66 : decode prog_1_method_1_code 66 = .ok (.aload_n 3, 1) := by decide +kernel
theorem d_1_1_67 : decode prog_1_method_1_code 67 = .ok (.invokespecial 40, 3) := by decide +kernel
theorem d_1_1_70 : decode prog_1_method_1_code 70 = .ok (.invokespecial 43, 3) := by decide +kernel
theorem d_1_1_73 : decode prog_1_method_1_code 73 = .ok (.putfield 46, 3) := by decide +kernel
theorem d_1_1_76 : decode prog_1_method_1_code 76 = .ok (.aload_n 0, 1) := by decide +kernel
theorem d_1_1_77 : decode prog_1_method_1_code 77 = .ok (.new 50, 3) := by decide +kernel
theorem d_1_1_80 : decode prog_1_method_1_code 80 = .ok (.dup, 1) := by decide +kernel
theorem d_1_1_81 : decode prog_1_method_1_code 81 = .ok (.invokespecial 52, 3) := by decide +kernel
theorem d_1_1_84 : decode prog_1_method_1_code 84 = .ok (.putfield 53, 3) := by decide +kernel
theorem d_1_1_87 : decode prog_1_method_1_code 87 = .ok (.aload_n 0, 1) := by decide +kernel
theorem d_1_1_88 : decode prog_1_method_1_code 88 = .ok (.iconst 0, 1) := by decide +kernel
theorem d_1_1_89 : decode prog_1_method_1_code 89 = .ok (.putfield 57, 3) := by decide +kernel
theorem d_1_1_92 : decode prog_1_method_1_code 92 = .ok (.return_, 1) := by decide +kernel
theorem d_2_1_0 : decode prog_2_method_1_code 0 = .ok (.aload_n 0, 1) := by decide +kernel
theorem d_2_1_1 : decode prog_2_method_1_code 1 = .ok (.invokespecial 3, 3) := by decide +kernel
theorem d_2_1_4 : decode prog_2_method_1_code 4 = .ok (.aload_n 0, 1) := by decide +kernel
theorem d_2_1_5 : decode prog_2_method_1_code 5 = .ok (.aload_n 1, 1) := by decide +kernel
theorem d_2_1_6 : decode prog_2_method_1_code 6 = .ok (.putfield 9, 3) := by decide +kernel
theorem d_2_1_9 : decode prog_2_method_1_code 9 = .ok (.aload_n 0, 1) := by decide +kernel
theorem d_2_1_10 : decode prog_2_method_1_code 10 = .ok (.aload_n 2, 1) := by decide +kernel
theorem d_2_1_11 : decode prog_2_method_1_code 11 = .ok (.putfield 15, 3) := by decide +kernel
theorem d_2_1_14 : decode prog_2_method_1_code 14 = .ok (.aload_n 0, 1) := by decide +kernel
theorem d_2_1_15 : decode prog_2_method_1_code 15 = .ok (.aload_n 3, 1) := by decide +kernel
theorem d_2_1_16 : decode prog_2_method_1_code 16 = .ok (.putfield 19, 3) := by decide +kernel
theorem d_2_1_19 : decode prog_2_method_1_code 19 = .ok (.aload_n 0, 1) := by decide +kernel
theorem d_2_1_20 : decode prog_2_method_1_code 20 = .ok (.new 23, 3) := by decide +kernel
theorem d_2_1_23 : decode prog_2_method_1_code 23 = .ok (.dup, 1) := by decide +kernel
theorem d_2_1_24 : decode prog_2_method_1_code 24 = .ok (.aload_n 1, 1) := by decide +kernel
theorem d_2_1_25 : decode prog_2_method_1_code 25 = .ok (.aload_n 2, 1) := by decide +kernel
theorem d_2_1_26 : decode prog_2_method_1_code 26 = .ok (.aload_n 3, 1) := by decide +kernel
theorem d_2_1_27 : decode prog_2_method_1_code 27 = .ok (.invokespecial 25, 3) := by decide +kernel
theorem d_2_1_30 : decode prog_2_method_1_code 30 = .ok (.putfield 28, 3) := by decide +kernel
theorem d_2_1_33 : decode prog_2_method_1_code 33 = .ok (.aload_n 0, 1) := by decide +kernel
theorem d_2_1_34 : decode prog_2_method_1_code 34 = .ok (.iconst 0, 1) := by decide +kernel
theorem d_2_1_35 : decode prog_2_method_1_code 35 = .ok (.putfield 32, 3) := by decide +kernel
theorem d_2_1_38 : decode prog_2_method_1_code 38 = .ok (.return_, 1) := by decide +kernel
theorem d_3_1_0 : decode prog_3_method_1_code 0 = .ok (.aload_n 0, 1) := by decide +kernel
theorem d_3_1_1 : decode prog_3_method_1_code 1 = .ok (.invokespecial 3, 3) := by decide +kernel
theorem d_3_1_4 : decode prog_3_method_1_code 4 = .ok (.aload_n 0, 1) := by decide +kernel
theorem d_3_1_5 : decode prog_3_method_1_code 5 = .ok (.sipush 1501, 3) := by decide +kernel
theorem d_3_1_8 : decode prog_3_method_1_code 8 = .ok (.newarray .int, 2) := by decide +kernel
theorem d_3_1_10 : decode prog_3_method_1_code 10 = .ok (.putfield 9, 3) := by decide +kernel
theorem d_3_1_13 : decode prog_3_method_1_code 13 = .ok (.aload_n 0, 1) := by decide +kernel
theorem d_3_1_14 : decode prog_3_method_1_code 14 = .ok (.sipush 1501, 3) := by decide +kernel
theorem d_3_1_17 : decode prog_3_method_1_code 17 = .ok (.newarray .int, 2) := by decide +kernel
theorem d_3_1_19 : decode prog_3_method_1_code 19 = .ok (.putfield 15, 3) := by decide +kernel
theorem d_3_1_22 : decode prog_3_method_1_code 22 = .ok (.aload_n 0, 1) := by decide +kernel
theorem d_3_1_23 : decode prog_3_method_1_code 23 = .ok (.sipush 1501, 3) := by decide +kernel
theorem d_3_1_26 : decode prog_3_method_1_code 26 = .ok (.newarray .int, 2) := by decide +kernel
theorem d_3_1_28 : decode prog_3_method_1_code 28 = .ok (.putfield 18, 3) := by decide +kernel
theorem d_3_1_31 : decode prog_3_method_1_code 31 = .ok (.aload_n 0, 1) := by decide +kernel
theorem d_3_1_32 : decode prog_3_method_1_code 32 = .ok (.sipush 1501, 3) := by decide +kernel
theorem d_3_1_35 : decode prog_3_method_1_code 35 = .ok (.newarray .int, 2) := by decide +kernel
theorem d_3_1_37 : decode prog_3_method_1_code 37 = .ok (.putfield 21, 3) := by decide +kernel
theorem d_3_1_40 : decode prog_3_method_1_code 40 = .ok (.aload_n 0, 1) := by decide +kernel
theorem d_3_1_41 : decode prog_3_method_1_code 41 = .ok (.sipush 1501, 3) := by decide +kernel
theorem d_3_1_44 : decode prog_3_method_1_code 44 = .ok (.newarray .int, 2) := by decide +kernel
theorem d_3_1_46 : decode prog_3_method_1_code 46 = .ok (.putfield 24, 3) := by decide +kernel
theorem d_3_1_49 : decode prog_3_method_1_code 49 = .ok (.aload_n 0, 1) := by decide +kernel
theorem d_3_1_50 : decode prog_3_method_1_code 50 = .ok (.sipush 3000, 3) := by decide +kernel
theorem d_3_1_53 : decode prog_3_method_1_code 53 = .ok (.newarray .int, 2) := by decide +kernel
theorem d_3_1_55 : decode prog_3_method_1_code 55 = .ok (.putfield 27, 3) := by decide +kernel
theorem d_3_1_58 : decode prog_3_method_1_code 58 = .ok (.aload_n 0, 1) := by decide +kernel
theorem d_3_1_59 : decode prog_3_method_1_code 59 = .ok (.sipush 1501, 3) := by decide +kernel
theorem d_3_1_62 : decode prog_3_method_1_code 62 = .ok (.newarray .int, 2) := by decide +kernel
theorem d_3_1_64 : decode prog_3_method_1_code 64 = .ok (.putfield 30, 3) := by decide +kernel
theorem d_3_1_67 : decode prog_3_method_1_code 67 = .ok (.aload_n 0, 1) := by decide +kernel
theorem d_3_1_68 : decode prog_3_method_1_code 68 = .ok (.iconst 0, 1) := by decide +kernel
theorem d_3_1_69 : decode prog_3_method_1_code 69 = .ok (.putfield 33, 3) := by decide +kernel
theorem d_3_1_72 : decode prog_3_method_1_code 72 = .ok (.aload_n 0, 1) := by decide +kernel
theorem d_3_1_73 : decode prog_3_method_1_code 73 = .ok (.iconst 0, 1) := by decide +kernel
theorem d_3_1_74 : decode prog_3_method_1_code 74 = .ok (.putfield 37, 3) := by decide +kernel
theorem d_3_1_77 : decode prog_3_method_1_code 77 = .ok (.return_, 1) := by decide +kernel
theorem d_4_1_0 : decode prog_4_method_1_code 0 = .ok (.aload_n 0, 1) := by decide +kernel
theorem d_4_1_1 : decode prog_4_method_1_code 1 = .ok (.invokespecial 3, 3) := by decide +kernel
theorem d_4_1_4 : decode prog_4_method_1_code 4 = .ok (.aload_n 0, 1) := by decide +kernel
theorem d_4_1_5 : decode prog_4_method_1_code 5 = .ok (.aload_n 1, 1) := by decide +kernel
theorem d_4_1_6 : decode prog_4_method_1_code 6 = .ok (.putfield 9, 3) := by decide +kernel
theorem d_4_1_9 : decode prog_4_method_1_code 9 = .ok (.aload_n 0, 1) := by decide +kernel
theorem d_4_1_10 : decode prog_4_method_1_code 10 = .ok (.aload_n 2, 1) := by decide +kernel
theorem d_4_1_11 : decode prog_4_method_1_code 11 = .ok (.putfield 15, 3) := by decide +kernel
theorem d_4_1_14 : decode prog_4_method_1_code 14 = .ok (.aload_n 0, 1) := by decide +kernel
theorem d_4_1_15 : decode prog_4_method_1_code 15 = .ok (.aload_n 3, 1) := by decide +kernel
theorem d_4_1_16 : decode prog_4_method_1_code 16 = .ok (.putfield 19, 3) := by decide +kernel
theorem d_4_1_19 : decode prog_4_method_1_code 19 = .ok (.return_, 1) := by decide +kernel
theorem d_5_1_0 : decode prog_5_method_1_code 0 = .ok (.aload_n 0, 1) := by decide +kernel
theorem d_5_1_1 : decode prog_5_method_1_code 1 = .ok (.invokespecial 3, 3) := by decide +kernel
theorem d_5_1_4 : decode prog_5_method_1_code 4 = .ok (.aload_n 0, 1) := by decide +kernel
theorem d_5_1_5 : decode prog_5_method_1_code 5 = .ok (.aload_n 1, 1) := by decide +kernel
theorem d_5_1_6 : decode prog_5_method_1_code 6 = .ok (.putfield 9, 3) := by decide +kernel
theorem d_5_1_9 : decode prog_5_method_1_code 9 = .ok (.aload_n 0, 1) := by decide +kernel
theorem d_5_1_10 : decode prog_5_method_1_code 10 = .ok (.aload_n 2, 1) := by decide +kernel
theorem d_5_1_11 : decode prog_5_method_1_code 11 = .ok (.putfield 15, 3) := by decide +kernel
theorem d_5_1_14 : decode prog_5_method_1_code 14 = .ok (.return_, 1) := by decide +kernel
theorem d_6_1_0 : decode prog_6_method_1_code 0 = .ok (.aload_n 0, 1) := by decide +kernel
theorem d_6_1_1 : decode prog_6_method_1_code 1 = .ok (.invokespecial 3, 3) := by decide +kernel
theorem d_6_1_4 : decode prog_6_method_1_code 4 = .ok (.aload_n 0, 1) := by decide +kernel
theorem d_6_1_5 : decode prog_6_method_1_code 5 = .ok (.aload_n 1, 1) := by decide +kernel
theorem d_6_1_6 : decode prog_6_method_1_code 6 = .ok (.putfield 9, 3) := by decide +kernel
theorem d_6_1_9 : decode prog_6_method_1_code 9 = .ok (.aload_n 0, 1) := by decide +kernel
theorem d_6_1_10 : decode prog_6_method_1_code 10 = .ok (.aload_n 2, 1) := by decide +kernel
theorem d_6_1_11 : decode prog_6_method_1_code 11 = .ok (.putfield 15, 3) := by decide +kernel
theorem d_6_1_14 : decode prog_6_method_1_code 14 = .ok (.aload_n 0, 1) := by decide +kernel
theorem d_6_1_15 : decode prog_6_method_1_code 15 = .ok (.sipush 333, 3) := by decide +kernel
theorem d_6_1_18 : decode prog_6_method_1_code 18 = .ok (.newarray .int, 2) := by decide +kernel
theorem d_6_1_20 : decode prog_6_method_1_code 20 = .ok (.putfield 19, 3) := by decide +kernel
theorem d_6_1_23 : decode prog_6_method_1_code 23 = .ok (.aload_n 0, 1) := by decide +kernel
theorem d_6_1_24 : decode prog_6_method_1_code 24 = .ok (.sipush 333, 3) := by decide +kernel
theorem d_6_1_27 : decode prog_6_method_1_code 27 = .ok (.newarray .int, 2) := by decide +kernel
theorem d_6_1_29 : decode prog_6_method_1_code 29 = .ok (.putfield 23, 3) := by decide +kernel
theorem d_6_1_32 : decode prog_6_method_1_code 32 = .ok (.aload_n 0, 1) := by decide +kernel
theorem d_6_1_33 : decode prog_6_method_1_code 33 = .ok (.sipush 333, 3) := by decide +kernel
theorem d_6_1_36 : decode prog_6_method_1_code 36 = .ok (.newarray .int, 2) := by decide +kernel
theorem d_6_1_38 : decode prog_6_method_1_code 38 = .ok (.putfield 26, 3) := by decide +kernel
theorem d_6_1_41 : decode prog_6_method_1_code 41 = .ok (.aload_n 0, 1) := by decide +kernel
theorem d_6_1_42 : decode prog_6_method_1_code 42 = .ok (.sipush 333, 3) := by decide +kernel
theorem d_6_1_45 : decode prog_6_method_1_code 45 = .ok (.newarray .int, 2) := by decide +kernel
theorem d_6_1_47 : decode prog_6_method_1_code 47 = .ok (.putfield 29, 3) := by decide +kernel
theorem d_6_1_50 : decode prog_6_method_1_code 50 = .ok (.aload_n 0, 1) := by decide +kernel
theorem d_6_1_51 : decode prog_6_method_1_code 51 = .ok (.sipush 3000, 3) := by decide +kernel
theorem d_6_1_54 : decode prog_6_method_1_code 54 = .ok (.newarray .int, 2) := by decide +kernel
theorem d_6_1_56 : decode prog_6_method_1_code 56 = .ok (.putfield 32, 3) := by decide +kernel
theorem d_6_1_59 : decode prog_6_method_1_code 59 = .ok (.aload_n 0, 1) := by decide +kernel
theorem d_6_1_60 : decode prog_6_method_1_code 60 = .ok (.iconst 0, 1) := by decide +kernel
theorem d_6_1_61 : decode prog_6_method_1_code 61 = .ok (.putfield 35, 3) := by decide +kernel
theorem d_6_1_64 : decode prog_6_method_1_code 64 = .ok (.aload_n 0, 1) := by decide +kernel
