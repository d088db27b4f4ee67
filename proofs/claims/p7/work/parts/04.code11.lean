theorem d_10_67_90 : decode prog_10_method_67_code 90 = .ok (.iconst 4, 1) := by decide +kernel
theorem d_10_67_91 : decode prog_10_method_67_code 91 = .ok (.if_icmp .eq 46, 3) := by decide +kernel
theorem d_10_67_94 : decode prog_10_method_67_code 94 = .ok (.aload_n 0, 1) := by decide +kernel
theorem d_10_67_95 : decode prog_10_method_67_code 95 = .ok (.getfield 144, 3) := by decide +kernel
theorem d_10_67_98 : decode prog_10_method_67_code 98 = .ok (.iload 4, 2) := by decide +kernel
theorem d_10_67_100 : decode prog_10_method_67_code 100 = .ok (.iaload, 1) := by decide +kernel
theorem d_10_67_101 : decode prog_10_method_67_code 101 = .ok (.iconst 5, 1) := by decide +kernel
theorem d_10_67_102 : decode prog_10_method_67_code 102 = .ok (.if_icmp .ne 25, 3) := by decide +kernel
theorem d_10_67_105 : decode prog_10_method_67_code 105 = .ok (.aload_n 0, 1) := by decide +kernel
theorem d_10_67_106 : decode prog_10_method_67_code 106 = .ok (.getfield 147, 3) := by decide +kernel
theorem d_10_67_109 : decode prog_10_method_67_code 109 = .ok (.iload 4, 2) := by decide +kernel
theorem d_10_67_111 : decode prog_10_method_67_code 111 = .ok (.iaload, 1) := by decide +kernel
theorem d_10_67_112 : decode prog_10_method_67_code 112 = .ok (.bipush 8, 2) := by decide +kernel
theorem d_10_67_114 : decode prog_10_method_67_code 114 = .ok (.if_icmp .eq 23, 3) := by decide +kernel
theorem d_10_67_117 : decode prog_10_method_67_code 117 = .ok (.aload_n 0, 1) := by decide +kernel
theorem d_10_67_118 : decode prog_10_method_67_code 118 = .ok (.getfield 147, 3) := by decide +kernel
theorem d_10_67_121 : decode prog_10_method_67_code 121 = .ok (.iload 4, 2) := by decide +kernel
theorem d_10_67_123 : decode prog_10_method_67_code 123 = .ok (.iaload, 1) := by decide +kernel
theorem d_10_67_124 : decode prog_10_method_67_code 124 = .ok (.ifCond .eq 13, 3) := by decide +kernel
theorem d_10_67_127 : decode prog_10_method_67_code 127 = .ok (.aload_n 0, 1) := by decide +kernel
theorem d_10_67_128 : decode prog_10_method_67_code 128 = .ok (.aload_n 0, 1) := by decide +kernel
theorem d_10_67_129 : decode prog_10_method_67_code 129 = .ok (.getfield 72, 3) := by decide +kernel
theorem d_10_67_132 : decode prog_10_method_67_code 132 = .ok (.iload_n 3, 1) := by decide +kernel
theorem d_10_67_133 : decode prog_10_method_67_code 133 = .ok (.iaload, 1) := by decide +kernel
theorem d_10_67_134 : decode prog_10_method_67_code 134 = .ok (.invokevirtual 132, 3) := by decide +kernel
theorem d_10_67_137 : decode prog_10_method_67_code 137 = .ok (.aload_n 0, 1) := by decide +kernel
theorem d_10_67_138 : decode prog_10_method_67_code 138 = .ok (.getfield 87, 3) := by decide +kernel
theorem d_10_67_141 : decode prog_10_method_67_code 141 = .ok (.iload_n 3, 1) := by decide +kernel
theorem d_10_67_142 : decode prog_10_method_67_code 142 = .ok (.iaload, 1) := by decide +kernel
theorem d_10_67_143 : decode prog_10_method_67_code 143 = .ok (.istore_n 3, 1) := by decide +kernel
theorem d_10_67_144 : decode prog_10_method_67_code 144 = .ok (.goto (-88), 3) := by decide +kernel
theorem d_10_67_147 : decode prog_10_method_67_code 147 = .ok (.iinc 2 1, 3) := by decide +kernel
theorem d_10_67_150 : decode prog_10_method_67_code 150 = .ok (.goto (-143), 3) := by decide +kernel
theorem d_10_67_153 : decode prog_10_method_67_code 153 = .ok (.return_, 1) := by decide +kernel
theorem d_10_68_0 : decode prog_10_method_68_code 0 = .ok (.aload_n 0, 1) := by decide +kernel
theorem d_10_68_1 : decode prog_10_method_68_code 1 = .ok (.invokespecial 460, 3) := by decide +kernel
theorem d_10_68_4 : decode prog_10_method_68_code 4 = .ok (.aload_n 0, 1) := by decide +kernel
theorem d_10_68_5 : decode prog_10_method_68_code 5 = .ok (.sipush 3000, 3) := by decide +kernel
theorem d_10_68_8 : decode prog_10_method_68_code 8 = .ok (.newarray .byte, 2) := by decide +kernel
theorem d_10_68_10 : decode prog_10_method_68_code 10 = .ok (.putfield 15, 3) := by decide +kernel
theorem d_10_68_13 : decode prog_10_method_68_code 13 = .ok (.aload_n 0, 1) := by decide +kernel
theorem d_10_68_14 : decode prog_10_method_68_code 14 = .ok (.sipush 3001, 3) := by decide +kernel
theorem d_10_68_17 : decode prog_10_method_68_code 17 = .ok (.newarray .int, 2) := by decide +kernel
theorem d_10_68_19 : decode prog_10_method_68_code 19 = .ok (.putfield 23, 3) := by decide +kernel
theorem d_10_68_22 : decode prog_10_method_68_code 22 = .ok (.aload_n 0, 1) := by decide +kernel
theorem d_10_68_23 : decode prog_10_method_68_code 23 = .ok (.sipush 3001, 3) := by decide +kernel
theorem d_10_68_26 : decode prog_10_method_68_code 26 = .ok (.newarray .int, 2) := by decide +kernel
theorem d_10_68_28 : decode prog_10_method_68_code 28 = .ok (.putfield 19, 3) := by decide +kernel
theorem d_10_68_31 : decode prog_10_method_68_code 31 = .ok (.aload_n 0, 1) := by decide +kernel
theorem d_10_68_32 : decode prog_10_method_68_code 32 = .ok (.sipush 3001, 3) := by decide +kernel
theorem d_10_68_35 : decode prog_10_method_68_code 35 = .ok (.newarray .int, 2) := by decide +kernel
theorem d_10_68_37 : decode prog_10_method_68_code 37 = .ok (.putfield 55, 3) := by decide +kernel
theorem d_10_68_40 : decode prog_10_method_68_code 40 = .ok (.aload_n 0, 1) := by decide +kernel
theorem d_10_68_41 : decode prog_10_method_68_code 41 = .ok (.sipush 3001, 3) := by decide +kernel
theorem d_10_68_44 : decode prog_10_method_68_code 44 = .ok (.newarray .long, 2) := by decide +kernel
theorem d_10_68_46 : decode prog_10_method_68_code 46 = .ok (.putfield 49, 3) := by decide +kernel
theorem d_10_68_49 : decode prog_10_method_68_code 49 = .ok (.aload_n 0, 1) := by decide +kernel
theorem d_10_68_50 : decode prog_10_method_68_code 50 = .ok (.sipush 6000, 3) := by decide +kernel
theorem d_10_68_53 : decode prog_10_method_68_code 53 = .ok (.newarray .int, 2) := by decide +kernel
theorem d_10_68_55 : decode prog_10_method_68_code 55 = .ok (.putfield 66, 3) := by decide +kernel
theorem d_10_68_58 : decode prog_10_method_68_code 58 = .ok (.aload_n 0, 1) := by decide +kernel
theorem d_10_68_59 : decode prog_10_method_68_code 59 = .ok (.sipush 6000, 3) := by decide +kernel
theorem d_10_68_62 : decode prog_10_method_68_code 62 = .ok (.newarray .int, 2) := by decide +kernel
theorem d_10_68_64 : decode prog_10_method_68_code 64 = .ok (.putfield 72, 3) := by decide +kernel
theorem d_10_68_67 : decode prog_10_method_68_code 67 = .ok (.aload_n 0, 1) := by decide +kernel
theorem d_10_68_68 : decode prog_10_method_68_code 68 = .ok (.sipush 6000, 3) := by decide +kernel
theorem d_10_68_71 : decode prog_10_method_68_code 71 = .ok (.newarray .int, 2) := by decide +kernel
theorem d_10_68_73 : decode prog_10_method_68_code 73 = .ok (.putfield 75, 3) := by decide +kernel
theorem d_10_68_76 : decode prog_10_method_68_code 76 = .ok (.aload_n 0, 1) := by decide +kernel
theorem d_10_68_77 : decode prog_10_method_68_code 77 = .ok (.sipush 6000, 3) := by decide +kernel
theorem d_10_68_80 : decode prog_10_method_68_code 80 = .ok (.newarray .int, 2) := by decide +kernel
theorem d_10_68_82 : decode prog_10_method_68_code 82 = .ok (.putfield 78, 3) := by decide +kernel
theorem d_10_68_85 : decode prog_10_method_68_code 85 = .ok (.aload_n 0, 1) := by decide +kernel
theorem d_10_68_86 : decode prog_10_method_68_code 86 = .ok (.sipush 6000, 3) := by decide +kernel
theorem d_10_68_89 : decode prog_10_method_68_code 89 = .ok (.newarray .int, 2) := by decide +kernel
theorem d_10_68_91 : decode prog_10_method_68_code 91 = .ok (.putfield 81, 3) := by decide +kernel
theorem d_10_68_94 : decode prog_10_method_68_code 94 = .ok (.aload_n 0, 1) := by decide +kernel
theorem d_10_68_95 : decode prog_10_method_68_code 95 = .ok (.sipush 6000, 3) := by decide +kernel
theorem d_10_68_98 : decode prog_10_method_68_code 98 = .ok (.newarray .int, 2) := by decide +kernel
theorem d_10_68_100 : decode prog_10_method_68_code 100 = .ok (.putfield 84, 3) := by decide +kernel
theorem d_10_68_103 : decode prog_10_method_68_code 103 = .ok (.aload_n 0, 1) := by decide +kernel
theorem d_10_68_104 : decode prog_10_method_68_code 104 = .ok (.sipush 6000, 3) := by decide +kernel
theorem d_10_68_107 : decode prog_10_method_68_code 107 = .ok (.newarray .int, 2) := by decide +kernel
theorem d_10_68_109 : decode prog_10_method_68_code 109 = .ok (.putfield 87, 3) := by decide +kernel
theorem d_10_68_112 : decode prog_10_method_68_code 112 = .ok (.aload_n 0, 1) := by decide +kernel
theorem d_10_68_113 : decode prog_10_method_68_code 113 = .ok (.sipush 6000, 3) := by decide +kernel
theorem d_10_68_116 : decode prog_10_method_68_code 116 = .ok (.newarray .int, 2) := by decide +kernel
theorem d_10_68_118 : decode prog_10_method_68_code 118 = .ok (.putfield 90, 3) := by decide +kernel
theorem d_10_68_121 : decode prog_10_method_68_code 121 = .ok (.aload_n 0, 1) := by decide +kernel
theorem d_10_68_122 : decode prog_10_method_68_code 122 = .ok (.sipush 3000, 3) := by decide +kernel
theorem d_10_68_125 : decode prog_10_method_68_code 125 = .ok (.newarray .int, 2) := by decide +kernel
theorem d_10_68_127 : decode prog_10_method_68_code 127 = .ok (.putfield 118, 3) := by decide +kernel
theorem d_10_68_130 : decode prog_10_method_68_code 130 = .ok (.aload_n 0, 1) := by decide +kernel
theorem d_10_68_131 : decode prog_10_method_68_code 131 = .ok (.sipush 3000, 3) := by decide +kernel
theorem d_10_68_134 : decode prog_10_method_68_code 134 = .ok (.newarray .int, 2) := by decide +kernel
theorem d_10_68_136 : decode prog_10_method_68_code 136 = .ok (.putfield 144, 3) := by decide +kernel
theorem d_10_68_139 : decode prog_10_method_68_code 139 = .ok (.aload_n 0, 1) := by decide +kernel
theorem d_10_68_140 : decode prog_10_method_68_code 140 = .ok (.sipush 3000, 3) := by decide +kernel
theorem d_10_68_143 : decode prog_10_method_68_code 143 = .ok (.newarray .int, 2) := by decide +kernel
theorem d_10_68_145 : decode prog_10_method_68_code 145 = .ok (.putfield 147, 3) := by decide +kernel
theorem d_10_68_148 : decode prog_10_method_68_code 148 = .ok (.aload_n 0, 1) := by decide +kernel
theorem d_10_68_149 : decode prog_10_method_68_code 149 = .ok (.sipush 3000, 3) := by decide +kernel
theorem d_10_68_152 : decode prog_10_method_68_code 152 = .ok (.newarray .int, 2) := by decide +kernel
theorem d_10_68_154 : decode prog_10_method_68_code 154 = .ok (.putfield 115, 3) := by decide +kernel
theorem d_10_68_157 : decode prog_10_method_68_code 157 = .ok (.aload_n 0, 1) := by decide +kernel
theorem d_10_68_158 : decode prog_10_method_68_code 158 = .ok (.sipush 3000, 3) := by decide +kernel
theorem d_10_68_161 : decode prog_10_method_68_code 161 = .ok (.newarray .int, 2) := by decide +kernel
theorem d_10_68_163 : decode prog_10_method_68_code 163 = .ok (.putfield 150, 3) := by decide +kernel
theorem d_10_68_166 : decode prog_10_method_68_code 166 = .ok (.aload_n 0, 1) := by decide +kernel
theorem d_10_68_167 : decode prog_10_method_68_code 167 = .ok (.sipush 3000, 3) := by decide +kernel
theorem d_10_68_170 : decode prog_10_method_68_code 170 = .ok (.newarray .int, 2) := by decide +kernel
theorem d_10_68_172 : decode prog_10_method_68_code 172 = .ok (.putfield 273, 3) := by decide +kernel
theorem d_10_68_175 : decode prog_10_method_68_code 175 = .ok (.aload_n 0, 1) := by decide +kernel
theorem d_10_68_176 : decode prog_10_method_68_code 176 = .ok (.sipush 3000, 3) := by decide +kernel
theorem d_10_68_179 : decode prog_10_method_68_code 179 = .ok (.newarray .int, 2) := by decide +kernel
theorem d_10_68_181 : decode prog_10_method_68_code 181 = .ok (.putfield 156, 3) := by decide +kernel
theorem d_10_68_184 : decode prog_10_method_68_code 184 = .ok (.aload_n 0, 1) := by decide +kernel
theorem d_10_68_185 : decode prog_10_method_68_code 185 = .ok (.sipush 3000, 3) := by decide +kernel
theorem d_10_68_188 : decode prog_10_method_68_code 188 = .ok (.newarray .int, 2) := by decide +kernel
theorem d_10_68_190 : decode prog_10_method_68_code 190 = .ok (.putfield 159, 3) := by decide +kernel
theorem d_10_68_193 : decode prog_10_method_68_code 193 = .ok (.aload_n 0, 1) := by decide +kernel
theorem d_10_68_194 : decode prog_10_method_68_code 194 = .ok (.sipush 3000, 3) := by decide +kernel
theorem d_10_68_197 : decode prog_10_method_68_code 197 = .ok (.newarray .boolean, 2) := by decide +kernel
theorem d_10_68_199 : decode prog_10_method_68_code 199 = .ok (.putfield 162, 3) := by decide +kernel
theorem d_10_68_202 : decode prog_10_method_68_code 202 = .ok (.aload_n 0, 1) := by decide +kernel
theorem d_10_68_203 : decode prog_10_method_68_code 203 = .ok (.sipush 3000, 3) := by decide +kernel
theorem d_10_68_206 : decode prog_10_method_68_code 206 = .ok (.newarray .boolean, 2) := by decide +kernel
theorem d_10_68_208 : decode prog_10_method_68_code 208 = .ok (.putfield 165, 3) := by decide +kernel
theorem d_10_68_211 : decode prog_10_method_68_code 211 = .ok (.aload_n 0, 1) := by decide +kernel
theorem d_10_68_212 : decode prog_10_method_68_code 212 = .ok (.sipush 3000, 3) := by decide +kernel
theorem d_10_68_215 : decode prog_10_method_68_code 215 = .ok (.newarray .boolean, 2) := by decide +kernel
theorem d_10_68_217 : decode prog_10_method_68_code 217 = .ok (.putfield 168, 3) := by decide +kernel
theorem d_10_68_220 : decode prog_10_method_68_code 220 = .ok (.aload_n 0, 1) := by decide +kernel
theorem d_10_68_221 : decode prog_10_method_68_code 221 = .ok (.sipush 3000, 3) := by decide +kernel
theorem d_10_68_224 : decode prog_10_method_68_code 224 = .ok (.newarray .int, 2) := by decide +kernel
theorem d_10_68_226 : decode prog_10_method_68_code 226 = .ok (.putfield 129, 3) := by decide +kernel
theorem d_10_68_229 : decode prog_10_method_68_code 229 = .ok (.aload_n 0, 1) := by decide +kernel
theorem d_10_68_230 : decode prog_10_method_68_code 230 = .ok (.sipush 3000, 3) := by decide +kernel
theorem d_10_68_233 : decode prog_10_method_68_code 233 = .ok (.newarray .int, 2) := by decide +kernel
theorem d_10_68_235 : decode prog_10_method_68_code 235 = .ok (.putfield 153, 3) := by decide +kernel
theorem d_10_68_238 : decode prog_10_method_68_code 238 = .ok (.aload_n 0, 1) := by decide +kernel
theorem d_10_68_239 : decode prog_10_method_68_code 239 = .ok (.sipush 3000, 3) := by decide +kernel
theorem d_10_68_242 : decode prog_10_method_68_code 242 = .ok (.newarray .int, 2) := by decide +kernel
theorem d_10_68_244 : decode prog_10_method_68_code 244 = .ok (.putfield 174, 3) := by decide +kernel
theorem d_10_68_247 : decode prog_10_method_68_code 247 = .ok (.aload_n 0, 1) := by decide +kernel
theorem d_10_68_248 : decode prog_10_method_68_code 248 = .ok (.sipush 3000, 3) := by decide +kernel
theorem d_10_68_251 : decode prog_10_method_68_code 251 = .ok (.newarray .int, 2) := by decide +kernel
theorem d_10_68_253 : decode prog_10_method_68_code 253 = .ok (.putfield 247, 3) := by decide +kernel
theorem d_10_68_256 : decode prog_10_method_68_code 256 = .ok (.aload_n 0, 1) := by decide +kernel
theorem d_10_68_257 : decode prog_10_method_68_code 257 = .ok (.sipush 3001, 3) := by decide +kernel
theorem d_10_68_260 : decode prog_10_method_68_code 260 = .ok (.newarray .boolean, 2) := by decide +kernel
theorem d_10_68_262 : decode prog_10_method_68_code 262 = .ok (.putfield 140, 3) := by decide +kernel
theorem d_10_68_265 : decode prog_10_method_68_code 265 = .ok (.aload_n 0, 1) := by decide +kernel
theorem d_10_68_266 : decode prog_10_method_68_code 266 = .ok (.sipush 6000, 3) := by decide +kernel
theorem d_10_68_269 : decode prog_10_method_68_code 269 = .ok (.newarray .int, 2) := by decide +kernel
theorem d_10_68_271 : decode prog_10_method_68_code 271 = .ok (.putfield 258, 3) := by decide +kernel
theorem d_10_68_274 : decode prog_10_method_68_code 274 = .ok (.aload_n 0, 1) := by decide +kernel
theorem d_10_68_275 : decode prog_10_method_68_code 275 = .ok (.sipush 6000, 3) := by decide +kernel
theorem d_10_68_278 : decode prog_10_method_68_code 278 = .ok (.newarray .int, 2) := by decide +kernel
theorem d_10_68_280 : decode prog_10_method_68_code 280 = .ok (.putfield 261, 3) := by decide +kernel
theorem d_10_68_283 : decode prog_10_method_68_code 283 = .ok (.aload_n 0, 1) := by decide +kernel
theorem d_10_68_284 : decode prog_10_method_68_code 284 = .ok (.sipush 3000, 3) := by decide +kernel
theorem d_10_68_287 : decode prog_10_method_68_code 287 = .ok (.newarray .int, 2) := by decide +kernel
theorem d_10_68_289 : decode prog_10_method_68_code 289 = .ok (.putfield 276, 3) := by decide +kernel
theorem d_10_68_292 : decode prog_10_method_68_code 292 = .ok (.aload_n 0, 1) := by decide +kernel
theorem d_10_68_293 : decode prog_10_method_68_code 293 = .ok (.sipush 3000, 3) := by decide +kernel
theorem d_10_68_296 : decode prog_10_method_68_code 296 = .ok (.newarray .int, 2) := by decide +kernel
theorem d_10_68_298 : decode prog_10_method_68_code 298 = .ok (.putfield 279, 3) := by decide +kernel
theorem d_10_68_301 : decode prog_10_method_68_code 301 = .ok (.aload_n 0, 1) := by decide +kernel
theorem d_10_68_302 : decode prog_10_method_68_code 302 = .ok (.sipush 3000, 3) := by decide +kernel
theorem d_10_68_305 : decode prog_10_method_68_code 305 = .ok (.newarray .int, 2) := by decide +kernel
theorem d_10_68_307 : decode prog_10_method_68_code 307 = .ok (.putfield 290, 3) := by decide +kernel
theorem d_10_68_310 : decode prog_10_method_68_code 310 = .ok (.aload_n 0, 1) := by decide +kernel
theorem d_10_68_311 : decode prog_10_method_68_code 311 = .ok (.sipush 3000, 3) := by decide +kernel
theorem d_10_68_314 : decode prog_10_method_68_code 314 = .ok (.newarray .int, 2) := by decide +kernel
theorem d_10_68_316 : decode prog_10_method_68_code 316 = .ok (.putfield 466, 3) := by decide +kernel
theorem d_10_68_319 : decode prog_10_method_68_code 319 = .ok (.aload_n 0, 1) := by decide +kernel
theorem d_10_68_320 : decode prog_10_method_68_code 320 = .ok (.sipush 3000, 3) := by decide +kernel
theorem d_10_68_323 : decode prog_10_method_68_code 323 = .ok (.newarray .int, 2) := by decide +kernel
theorem d_10_68_325 : decode prog_10_method_68_code 325 = .ok (.putfield 469, 3) := by decide +kernel
theorem d_10_68_328 : decode prog_10_method_68_code 328 = .ok (.aload_n 0, 1) := by decide +kernel
theorem d_10_68_329 : decode prog_10_method_68_code 329 = .ok (.sipush 15000, 3) := by decide +kernel
theorem d_10_68_332 : decode prog_10_method_68_code 332 = .ok (.newarray .int, 2) := by decide +kernel
theorem d_10_68_334 : decode prog_10_method_68_code 334 = .ok (.putfield 472, 3) := by decide +kernel
theorem d_10_68_337 : decode prog_10_method_68_code 337 = .ok (.aload_n 0, 1) := by decide +kernel
theorem d_10_68_338 : decode prog_10_method_68_code 338 = .ok (.iconst (-1), 1) := by decide +kernel
theorem d_10_68_339 : decode prog_10_method_68_code 339 = .ok (.putfield 475, 3) := by decide +kernel
theorem d_10_68_342 : decode prog_10_method_68_code 342 = .ok (.return_, 1) := by decide +kernel
theorem d_10_69_0 : decode prog_10_method_69_code 0 = .ok (.aload_n 0, 1) := by decide +kernel
theorem d_10_69_1 : decode prog_10_method_69_code 1 = .ok (.getfield 478, 3) := by decide +kernel
theorem d_10_69_4 : decode prog_10_method_69_code 4 = .ok (.bipush 20, 2) := by decide +kernel
theorem d_10_69_6 : decode prog_10_method_69_code 6 = .ok (.iadd, 1) := by decide +kernel
theorem d_10_69_7 : decode prog_10_method_69_code 7 = .ok (.sipush 3000, 3) := by decide +kernel
theorem d_10_69_10 : decode prog_10_method_69_code 10 = .ok (.if_icmp .le 6, 3) := by decide +kernel
theorem d_10_69_13 : decode prog_10_method_69_code 13 = .ok (.bipush (-3), 2) := by decide +kernel
theorem d_10_69_15 : decode prog_10_method_69_code 15 = .ok (.ireturn, 1) := by decide +kernel
theorem d_10_69_16 : decode prog_10_method_69_code 16 = .ok (.iconst 5, 1) := by decide +kernel
theorem d_10_69_17 : decode prog_10_method_69_code 17 = .ok (.newarray .int, 2) := by decide +kernel
theorem d_10_69_19 : decode prog_10_method_69_code 19 = .ok (.dup, 1) := by decide +kernel
theorem d_10_69_20 : decode prog_10_method_69_code 20 = .ok (.iconst 0, 1) := by decide +kernel
theorem d_10_69_21 : decode prog_10_method_69_code 21 = .ok (.iload_n 1, 1) := by decide +kernel
theorem d_10_69_22 : decode prog_10_method_69_code 22 = .ok (.iastore, 1) := by decide +kernel
theorem d_10_69_23 : decode prog_10_method_69_code 23 = .ok (.dup, 1) := by decide +kernel
theorem d_10_69_24 : decode prog_10_method_69_code 24 = .ok (.iconst 1, 1) := by decide +kernel
theorem d_10_69_25 : decode prog_10_method_69_code 25 = .ok (.iload_n 2, 1) := by decide +kernel
theorem d_10_69_26 : decode prog_10_method_69_code 26 = .ok (.iastore, 1) := by decide +kernel
theorem d_10_69_27 : decode prog_10_method_69_code 27 = .ok (.dup, 1) := by decide +kernel
theorem d_10_69_28 : decode prog_10_method_69_code 28 = .ok (.iconst 2, 1) := by decide +kernel
theorem d_10_69_29 : decode prog_10_method_69_code 29 = .ok (.iload_n 3, 1) := by decide +kernel
theorem d_10_69_30 : decode prog_10_method_69_code 30 = .ok (.iastore, 1) := by decide +kernel
theorem d_10_69_31 : decode prog_10_method_69_code 31 = .ok (.dup, 1) := by decide +kernel
theorem d_10_69_32 : decode prog_10_method_69_code 32 = .ok (.iconst 3, 1) := by decide +kernel
theorem d_10_69_33 : decode prog_10_method_69_code 33 = .ok (.iload 4, 2) := by decide +kernel
theorem d_10_69_35 : decode prog_10_method_69_code 35 = .ok (.iastore, 1) := by decide +kernel
theorem d_10_69_36 : decode prog_10_method_69_code 36 = .ok (.dup, 1) := by decide +kernel
theorem d_10_69_37 : decode prog_10_method_69_code 37 = .ok (.iconst 4, 1) := by decide +kernel
theorem d_10_69_38 : decode prog_10_method_69_code 38 = .ok (.iload 5, 2) := by decide +kernel
theorem d_10_69_40 : decode prog_10_method_69_code 40 = .ok (.iastore, 1) := by decide +kernel
theorem d_10_69_41 : decode prog_10_method_69_code 41 = .ok (.astore 6, 2) := by decide +kernel
theorem d_10_69_43 : decode prog_10_method_69_code 43 = .ok (.iconst 0, 1) := by decide +kernel
theorem d_10_69_44 : decode prog_10_method_69_code 44 = .ok (.istore 7, 2) := by decide +kernel
theorem d_10_69_46 : decode prog_10_method_69_code 46 = .ok (.iload 7, 2) := by decide +kernel
theorem d_10_69_48 : decode prog_10_method_69_code 48 = .ok (.bipush 20, 2) := by decide +kernel
theorem d_10_69_50 : decode prog_10_method_69_code 50 = .ok (.if_icmp .ge 40, 3) := by decide +kernel
theorem d_10_69_53 : decode prog_10_method_69_code 53 = .ok (.aload_n 0, 1) := by decide +kernel
theorem d_10_69_54 : decode prog_10_method_69_code 54 = .ok (.getfield 15, 3) := by decide +kernel
theorem d_10_69_57 : decode prog_10_method_69_code 57 = .ok (.aload_n 0, 1) := by decide +kernel
theorem d_10_69_58 : decode prog_10_method_69_code 58 = .ok (.getfield 478, 3) := by decide +kernel
theorem d_10_69_61 : decode prog_10_method_69_code 61 = .ok (.iload 7, 2) := by decide +kernel
theorem d_10_69_63 : decode prog_10_method_69_code 63 = .ok (.iadd, 1) := by decide +kernel
theorem d_10_69_64 : decode prog_10_method_69_code 64 = .ok (.aload 6, 2) := by decide +kernel
theorem d_10_69_66 : decode prog_10_method_69_code 66 = .ok (.iload 7, 2) := by decide +kernel
theorem d_10_69_68 : decode prog_10_method_69_code 68 = .ok (.iconst 4, 1) := by decide +kernel
theorem d_10_69_69 : decode prog_10_method_69_code 69 = .ok (.idiv, 1) := by decide +kernel
theorem d_10_69_70 : decode prog_10_method_69_code 70 = .ok (.iaload, 1) := by decide +kernel
theorem d_10_69_71 : decode prog_10_method_69_code 71 = .ok (.bipush 24, 2) := by decide +kernel
theorem d_10_69_73 : decode prog_10_method_69_code 73 = .ok (.bipush 8, 2) := by decide +kernel
theorem d_10_69_75 : decode prog_10_method_69_code 75 = .ok (.iload 7, 2) := by decide +kernel
theorem d_10_69_77 : decode prog_10_method_69_code 77 = .ok (.iconst 4, 1) := by decide +kernel
theorem d_10_69_78 : decode prog_10_method_69_code 78 = .ok (.irem, 1) := by decide +kernel
theorem d_10_69_79 : decode prog_10_method_69_code 79 = .ok (.imul, 1) := by decide +kernel
theorem d_10_69_80 : decode prog_10_method_69_code 80 = .ok (.isub, 1) := by decide +kernel
theorem d_10_69_81 : decode prog_10_method_69_code 81 = .ok (.ishr, 1) := by decide +kernel
theorem d_10_69_82 : decode prog_10_method_69_code 82 = .ok (.i2b, 1) := by decide +kernel
theorem d_10_69_83 : decode prog_10_method_69_code 83 = .ok (.bastore, 1) := by decide +kernel
theorem d_10_69_84 : decode prog_10_method_69_code 84 = .ok (.iinc 7 1, 3) := by decide +kernel
theorem d_10_69_87 : decode prog_10_method_69_code 87 = .ok (.goto (-41), 3) := by decide +kernel
theorem d_10_69_90 : decode prog_10_method_69_code 90 = .ok (.aload_n 0, 1) := by decide +kernel
theorem d_10_69_91 : decode prog_10_method_69_code 91 = .ok (.dup, 1) := by decide +kernel
theorem d_10_69_92 : decode prog_10_method_69_code 92 = .ok (.getfield 478, 3) := by decide +kernel
theorem d_10_69_95 : decode prog_10_method_69_code 95 = .ok (.bipush 20, 2) := by decide +kernel
theorem d_10_69_97 : decode prog_10_method_69_code 97 = .ok (.iadd, 1) := by decide +kernel
theorem d_10_69_98 : decode prog_10_method_69_code 98 = .ok (.putfield 478, 3) := by decide +kernel
theorem d_10_69_101 : decode prog_10_method_69_code 101 = .ok (.aload_n 0, 1) := by decide +kernel
theorem d_10_69_102 : decode prog_10_method_69_code 102 = .ok (.getfield 478, 3) := by decide +kernel
theorem d_10_69_105 : decode prog_10_method_69_code 105 = .ok (.ireturn, 1) := by decide +kernel
theorem d_10_6_0 : decode prog_10_method_6_code 0 = .ok (.aload_n 0, 1) := by decide +kernel
theorem d_10_6_1 : decode prog_10_method_6_code 1 = .ok (.getfield 23, 3) := by decide +kernel
theorem d_10_6_4 : decode prog_10_method_6_code 4 = .ok (.iload_n 1, 1) := by decide +kernel
theorem d_10_6_5 : decode prog_10_method_6_code 5 = .ok (.iaload, 1) := by decide +kernel
theorem d_10_6_6 : decode prog_10_method_6_code 6 = .ok (.iconst 2, 1) := by decide +kernel
theorem d_10_6_7 : decode prog_10_method_6_code 7 = .ok (.if_icmp .eq 13, 3) := by decide +kernel
theorem d_10_6_10 : decode prog_10_method_6_code 10 = .ok (.aload_n 0, 1) := by decide +kernel
theorem d_10_6_11 : decode prog_10_method_6_code 11 = .ok (.getfield 23, 3) := by decide +kernel
theorem d_10_6_14 : decode prog_10_method_6_code 14 = .ok (.iload_n 1, 1) := by decide +kernel
theorem d_10_6_15 : decode prog_10_method_6_code 15 = .ok (.iaload, 1) := by decide +kernel
theorem d_10_6_16 : decode prog_10_method_6_code 16 = .ok (.iconst 4, 1) := by decide +kernel
theorem d_10_6_17 : decode prog_10_method_6_code 17 = .ok (.if_icmp .ne 23, 3) := by decide +kernel
theorem d_10_6_20 : decode prog_10_method_6_code 20 = .ok (.aload_n 0, 1) := by decide +kernel
theorem d_10_6_21 : decode prog_10_method_6_code 21 = .ok (.getfield 55, 3) := by decide +kernel
theorem d_10_6_24 : decode prog_10_method_6_code 24 = .ok (.iload_n 1, 1) := by decide +kernel
theorem d_10_6_25 : decode prog_10_method_6_code 25 = .ok (.iaload, 1) := by decide +kernel
theorem d_10_6_26 : decode prog_10_method_6_code 26 = .ok (.aload_n 0, 1) := by decide +kernel
theorem d_10_6_27 : decode prog_10_method_6_code 27 = .ok (.getfield 19, 3) := by decide +kernel
theorem d_10_6_30 : decode prog_10_method_6_code 30 = .ok (.iload_n 1, 1) := by decide +kernel
theorem d_10_6_31 : decode prog_10_method_6_code 31 = .ok (.iaload, 1) := by decide +kernel
theorem d_10_6_32 : decode prog_10_method_6_code 32 = .ok (.isub, 1) := by decide +kernel
theorem d_10_6_33 : decode prog_10_method_6_code 33 = .ok (.aload_n 2, 1) := by decide +kernel
theorem d_10_6_34 : decode prog_10_method_6_code 34 = .ok (.invokevirtual 5, 3) := by decide +kernel
theorem d_10_6_37 : decode prog_10_method_6_code 37 = .ok (.if_icmp .eq 5, 3) := by decide +kernel
theorem d_10_6_40 : decode prog_10_method_6_code 40 = .ok (.iconst 0, 1) := by decide +kernel
theorem d_10_6_41 : decode prog_10_method_6_code 41 = .ok (.ireturn, 1) := by decide +kernel
theorem d_10_6_42 : decode prog_10_method_6_code 42 = .ok (.iconst 0, 1) := by decide +kernel
theorem d_10_6_43 : decode prog_10_method_6_code 43 = .ok (.istore_n 3, 1) := by decide +kernel
theorem d_10_6_44 : decode prog_10_method_6_code 44 = .ok (.iload_n 3, 1) := by decide +kernel
theorem d_10_6_45 : decode prog_10_method_6_code 45 = .ok (.aload_n 2, 1) := by decide +kernel
theorem d_10_6_46 : decode prog_10_method_6_code 46 = .ok (.invokevirtual 5, 3) := by decide +kernel
theorem d_10_6_49 : decode prog_10_method_6_code 49 = .ok (.if_icmp .ge 32, 3) := by decide +kernel
theorem d_10_6_52 : decode prog_10_method_6_code 52 = .ok (.aload_n 0, 1) := by decide +kernel
theorem d_10_6_53 : decode prog_10_method_6_code 53 = .ok (.getfield 15, 3) := by decide +kernel
theorem d_10_6_56 : decode prog_10_method_6_code 56 = .ok (.aload_n 0, 1) := by decide +kernel
theorem d_10_6_57 : decode prog_10_method_6_code 57 = .ok (.getfield 19, 3) := by decide +kernel
theorem d_10_6_60 : decode prog_10_method_6_code 60 = .ok (.iload_n 1, 1) := by decide +kernel
theorem d_10_6_61 : decode prog_10_method_6_code 61 = .ok (.iaload, 1) := by decide +kernel
theorem d_10_6_62 : decode prog_10_method_6_code 62 = .ok (.iload_n 3, 1) := by decide +kernel
theorem d_10_6_63 : decode prog_10_method_6_code 63 = .ok (.iadd, 1) := by decide +kernel
theorem d_10_6_64 : decode prog_10_method_6_code 64 = .ok (.baload, 1) := by decide +kernel
theorem d_10_6_65 : decode prog_10_method_6_code 65 = .ok (.aload_n 2, 1) := by decide +kernel
theorem d_10_6_66 : decode prog_10_method_6_code 66 = .ok (.iload_n 3, 1) := by decide +kernel
theorem d_10_6_67 : decode prog_10_method_6_code 67 = .ok (.invokevirtual 11, 3) := by decide +kernel
theorem d_10_6_70 : decode prog_10_method_6_code 70 = .ok (.if_icmp .eq 5, 3) := by decide +kernel
theorem d_10_6_73 : decode prog_10_method_6_code 73 = .ok (.iconst 0, 1) := by decide +kernel
theorem d_10_6_74 : decode prog_10_method_6_code 74 = .ok (.ireturn, 1) := by decide +kernel
theorem d_10_6_75 : decode prog_10_method_6_code 75 = .ok (.iinc 3 1, 3) := by decide +kernel
theorem d_10_6_78 : decode prog_10_method_6_code 78 = .ok (.goto (-34), 3) := by decide +kernel
theorem d_10_6_81 : decode prog_10_method_6_code 81 = .ok (.iconst 1, 1) := by decide +kernel
theorem d_10_6_82 : decode prog_10_method_6_code 82 = .ok (.ireturn, 1) := by decide +kernel
theorem d_10_70_0 : decode prog_10_method_70_code 0 = .ok (.iload_n 1, 1) := by decide +kernel
theorem d_10_70_1 : decode prog_10_method_70_code 1 = .ok (.i2l, 1) := by decide +kernel
theorem d_10_70_2 : decode prog_10_method_70_code 2 = .ok (.lconst 0, 1) := by decide +kernel
theorem d_10_70_3 : decode prog_10_method_70_code 3 = .ok (.aload_n 0, 1) := by decide +kernel
theorem d_10_70_4 : decode prog_10_method_70_code 4 = .ok (.getfield 478, 3) := by decide +kernel
theorem d_10_70_7 : decode prog_10_method_70_code 7 = .ok (.i2l, 1) := by decide +kernel
theorem d_10_70_8 : decode prog_10_method_70_code 8 = .ok (.invokestatic 481, 3) := by decide +kernel
theorem d_10_70_11 : decode prog_10_method_70_code 11 = .ok (.ifCond .ne 5, 3) := by decide +kernel
theorem d_10_70_14 : decode prog_10_method_70_code 14 = .ok (.iconst (-1), 1) := by decide +kernel
theorem d_10_70_15 : decode prog_10_method_70_code 15 = .ok (.ireturn, 1) := by decide +kernel
theorem d_10_70_16 : decode prog_10_method_70_code 16 = .ok (.aload_n 0, 1) := by decide +kernel
theorem d_10_70_17 : decode prog_10_method_70_code 17 = .ok (.iload_n 1, 1) := by decide +kernel
theorem d_10_70_18 : decode prog_10_method_70_code 18 = .ok (.putfield 478, 3) := by decide +kernel
theorem d_10_70_21 : decode prog_10_method_70_code 21 = .ok (.iload_n 1, 1) := by decide +kernel
theorem d_10_70_22 : decode prog_10_method_70_code 22 = .ok (.ireturn, 1) := by decide +kernel
theorem d_10_71_0 : decode prog_10_method_71_code 0 = .ok (.aload_n 0, 1) := by decide +kernel
theorem d_10_71_1 : decode prog_10_method_71_code 1 = .ok (.aload_n 0, 1) := by decide +kernel
theorem d_10_71_2 : decode prog_10_method_71_code 2 = .ok (.getfield 478, 3) := by decide +kernel
theorem d_10_71_5 : decode prog_10_method_71_code 5 = .ok (.invokevirtual 485, 3) := by decide +kernel
theorem d_10_71_8 : decode prog_10_method_71_code 8 = .ok (.aload_n 0, 1) := by decide +kernel
theorem d_10_71_9 : decode prog_10_method_71_code 9 = .ok (.iconst 0, 1) := by decide +kernel
theorem d_10_71_10 : decode prog_10_method_71_code 10 = .ok (.putfield 478, 3) := by decide +kernel
theorem d_10_71_13 : decode prog_10_method_71_code 13 = .ok (.aload_n 0, 1) := by decide +kernel
theorem d_10_71_14 : decode prog_10_method_71_code 14 = .ok (.getfield 140, 3) := by decide +kernel
theorem d_10_71_17 : decode prog_10_method_71_code 17 = .ok (.iconst 0, 1) := by decide +kernel
theorem d_10_71_18 : decode prog_10_method_71_code 18 = .ok (.invokestatic 488, 3) := by decide +kernel
theorem d_10_71_21 : decode prog_10_method_71_code 21 = .ok (.aload_n 0, 1) := by decide +kernel
theorem d_10_71_22 : decode prog_10_method_71_code 22 = .ok (.iconst 0, 1) := by decide +kernel
theorem d_10_71_23 : decode prog_10_method_71_code 23 = .ok (.putfield 58, 3) := by decide +kernel
theorem d_10_71_26 : decode prog_10_method_71_code 26 = .ok (.aload_n 0, 1) := by decide +kernel
theorem d_10_71_27 : decode prog_10_method_71_code 27 = .ok (.iconst 0, 1) := by decide +kernel
theorem d_10_71_28 : decode prog_10_method_71_code 28 = .ok (.putfield 69, 3) := by decide +kernel
theorem d_10_71_31 : decode prog_10_method_71_code 31 = .ok (.aload_n 0, 1) := by decide +kernel
theorem d_10_71_32 : decode prog_10_method_71_code 32 = .ok (.iconst 0, 1) := by decide +kernel
theorem d_10_71_33 : decode prog_10_method_71_code 33 = .ok (.putfield 112, 3) := by decide +kernel
theorem d_10_71_36 : decode prog_10_method_71_code 36 = .ok (.aload_n 0, 1) := by decide +kernel
theorem d_10_71_37 : decode prog_10_method_71_code 37 = .ok (.iconst (-1), 1) := by decide +kernel
theorem d_10_71_38 : decode prog_10_method_71_code 38 = .ok (.putfield 96, 3) := by decide +kernel
theorem d_10_71_41 : decode prog_10_method_71_code 41 = .ok (.aload_n 0, 1) := by decide +kernel
theorem d_10_71_42 : decode prog_10_method_71_code 42 = .ok (.iconst (-1), 1) := by decide +kernel
theorem d_10_71_43 : decode prog_10_method_71_code 43 = .ok (.putfield 99, 3) := by decide +kernel
theorem d_10_71_46 : decode prog_10_method_71_code 46 = .ok (.aload_n 0, 1) := by decide +kernel
theorem d_10_71_47 : decode prog_10_method_71_code 47 = .ok (.iconst 0, 1) := by decide +kernel
theorem d_10_71_48 : decode prog_10_method_71_code 48 = .ok (.putfield 109, 3) := by decide +kernel
theorem d_10_71_51 : decode prog_10_method_71_code 51 = .ok (.aload_n 0, 1) := by decide +kernel
theorem d_10_71_52 : decode prog_10_method_71_code 52 = .ok (.iconst (-1), 1) := by decide +kernel
theorem d_10_71_53 : decode prog_10_method_71_code 53 = .ok (.putfield 190, 3) := by decide +kernel
theorem d_10_71_56 : decode prog_10_method_71_code 56 = .ok (.aload_n 0, 1) := by decide +kernel
theorem d_10_71_57 : decode prog_10_method_71_code 57 = .ok (.getfield 247, 3) := by decide +kernel
theorem d_10_71_60 : decode prog_10_method_71_code 60 = .ok (.iconst 0, 1) := by decide +kernel
theorem d_10_71_61 : decode prog_10_method_71_code 61 = .ok (.iconst 0, 1) := by decide +kernel
theorem d_10_71_62 : decode prog_10_method_71_code 62 = .ok (.iastore, 1) := by decide +kernel
theorem d_10_71_63 : decode prog_10_method_71_code 63 = .ok (.aload_n 0, 1) := by decide +kernel
theorem d_10_71_64 : decode prog_10_method_71_code 64 = .ok (.getfield 129, 3) := by decide +kernel
theorem d_10_71_67 : decode prog_10_method_71_code 67 = .ok (.iconst 0, 1) := by decide +kernel
theorem d_10_71_68 : decode prog_10_method_71_code 68 = .ok (.iconst (-1), 1) := by decide +kernel
theorem d_10_71_69 : decode prog_10_method_71_code 69 = .ok (.iastore, 1) := by decide +kernel
theorem d_10_71_70 : decode prog_10_method_71_code 70 = .ok (.aload_n 0, 1) := by decide +kernel
theorem d_10_71_71 : decode prog_10_method_71_code 71 = .ok (.getfield 153, 3) := by decide +kernel
theorem d_10_71_74 : decode prog_10_method_71_code 74 = .ok (.iconst 0, 1) := by decide +kernel
theorem d_10_71_75 : decode prog_10_method_71_code 75 = .ok (.iconst 0, 1) := by decide +kernel
theorem d_10_71_76 : decode prog_10_method_71_code 76 = .ok (.iastore, 1) := by decide +kernel
theorem d_10_71_77 : decode prog_10_method_71_code 77 = .ok (.aload_n 0, 1) := by decide +kernel
theorem d_10_71_78 : decode prog_10_method_71_code 78 = .ok (.getfield 174, 3) := by decide +kernel
theorem d_10_71_81 : decode prog_10_method_71_code 81 = .ok (.iconst 0, 1) := by decide +kernel
theorem d_10_71_82 : decode prog_10_method_71_code 82 = .ok (.iconst (-1), 1) := by decide +kernel
theorem d_10_71_83 : decode prog_10_method_71_code 83 = .ok (.iastore, 1) := by decide +kernel
theorem d_10_71_84 : decode prog_10_method_71_code 84 = .ok (.aload_n 0, 1) := by decide +kernel
theorem d_10_71_85 : decode prog_10_method_71_code 85 = .ok (.iconst 0, 1) := by decide +kernel
theorem d_10_71_86 : decode prog_10_method_71_code 86 = .ok (.putfield 93, 3) := by decide +kernel
theorem d_10_71_89 : decode prog_10_method_71_code 89 = .ok (.aload_n 0, 1) := by decide +kernel
theorem d_10_71_90 : decode prog_10_method_71_code 90 = .ok (.iconst 1, 1) := by decide +kernel
theorem d_10_71_91 : decode prog_10_method_71_code 91 = .ok (.putfield 171, 3) := by decide +kernel
theorem d_10_71_94 : decode prog_10_method_71_code 94 = .ok (.aload_n 0, 1) := by decide +kernel
theorem d_10_71_95 : decode prog_10_method_71_code 95 = .ok (.invokevirtual 298, 3) := by decide +kernel
theorem d_10_71_98 : decode prog_10_method_71_code 98 = .ok (.istore_n 1, 1) := by decide +kernel
theorem d_10_71_99 : decode prog_10_method_71_code 99 = .ok (.iload_n 1, 1) := by decide +kernel
theorem d_10_71_100 : decode prog_10_method_71_code 100 = .ok (.ifCond .lt 20, 3) := by decide +kernel
theorem d_10_71_103 : decode prog_10_method_71_code 103 = .ok (.aload_n 0, 1) := by decide +kernel
theorem d_10_71_104 : decode prog_10_method_71_code 104 = .ok (.getfield 23, 3) := by decide +kernel
theorem d_10_71_107 : decode prog_10_method_71_code 107 = .ok (.aload_n 0, 1) := by decide +kernel
theorem d_10_71_108 : decode prog_10_method_71_code 108 = .ok (.getfield 58, 3) := by decide +kernel
theorem d_10_71_111 : decode prog_10_method_71_code 111 = .ok (.iaload, 1) := by decide +kernel
theorem d_10_71_112 : decode prog_10_method_71_code 112 = .ok (.ifCond .eq 8, 3) := by decide +kernel
theorem d_10_71_115 : decode prog_10_method_71_code 115 = .ok (.aload_n 0, 1) := by decide +kernel
theorem d_10_71_116 : decode prog_10_method_71_code 116 = .ok (.invokevirtual 106, 3) := by decide +kernel
theorem d_10_71_119 : decode prog_10_method_71_code 119 = .ok (.pop, 1) := by decide +kernel
theorem d_10_71_120 : decode prog_10_method_71_code 120 = .ok (.aload_n 0, 1) := by decide +kernel
theorem d_10_71_121 : decode prog_10_method_71_code 121 = .ok (.getfield 96, 3) := by decide +kernel
theorem d_10_71_124 : decode prog_10_method_71_code 124 = .ok (.ifCond .lt 8, 3) := by decide +kernel
theorem d_10_71_127 : decode prog_10_method_71_code 127 = .ok (.aload_n 0, 1) := by decide +kernel
theorem d_10_71_128 : decode prog_10_method_71_code 128 = .ok (.getfield 96, 3) := by decide +kernel
theorem d_10_71_131 : decode prog_10_method_71_code 131 = .ok (.ireturn, 1) := by decide +kernel
