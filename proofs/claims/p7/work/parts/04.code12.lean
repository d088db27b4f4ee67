theorem d_10_71_132 : decode prog_10_method_71_code 132 = .ok (.aload_n 0, 1) := by decide +kernel
theorem d_10_71_133 : decode prog_10_method_71_code 133 = .ok (.iload_n 1, 1) := by decide +kernel
theorem d_10_71_134 : decode prog_10_method_71_code 134 = .ok (.invokevirtual 494, 3) := by decide +kernel
theorem d_10_71_137 : decode prog_10_method_71_code 137 = .ok (.aload_n 0, 1) := by decide +kernel
theorem d_10_71_138 : decode prog_10_method_71_code 138 = .ok (.getfield 99, 3) := by decide +kernel
theorem d_10_71_141 : decode prog_10_method_71_code 141 = .ok (.ifCond .lt 8, 3) := by decide +kernel
theorem d_10_71_144 : decode prog_10_method_71_code 144 = .ok (.aload_n 0, 1) := by decide +kernel
theorem d_10_71_145 : decode prog_10_method_71_code 145 = .ok (.getfield 99, 3) := by decide +kernel
theorem d_10_71_148 : decode prog_10_method_71_code 148 = .ok (.ireturn, 1) := by decide +kernel
theorem d_10_71_149 : decode prog_10_method_71_code 149 = .ok (.aload_n 0, 1) := by decide +kernel
theorem d_10_71_150 : decode prog_10_method_71_code 150 = .ok (.invokevirtual 497, 3) := by decide +kernel
theorem d_10_71_153 : decode prog_10_method_71_code 153 = .ok (.bipush (-2), 2) := by decide +kernel
theorem d_10_71_155 : decode prog_10_method_71_code 155 = .ok (.ireturn, 1) := by decide +kernel
theorem d_10_72_0 : decode prog_10_method_72_code 0 = .ok (.aload_n 0, 1) := by decide +kernel
theorem d_10_72_1 : decode prog_10_method_72_code 1 = .ok (.getfield 466, 3) := by decide +kernel
theorem d_10_72_4 : decode prog_10_method_72_code 4 = .ok (.iload_n 1, 1) := by decide +kernel
theorem d_10_72_5 : decode prog_10_method_72_code 5 = .ok (.aload_n 0, 1) := by decide +kernel
theorem d_10_72_6 : decode prog_10_method_72_code 6 = .ok (.getfield 475, 3) := by decide +kernel
theorem d_10_72_9 : decode prog_10_method_72_code 9 = .ok (.iastore, 1) := by decide +kernel
theorem d_10_72_10 : decode prog_10_method_72_code 10 = .ok (.aload_n 0, 1) := by decide +kernel
theorem d_10_72_11 : decode prog_10_method_72_code 11 = .ok (.dup, 1) := by decide +kernel
theorem d_10_72_12 : decode prog_10_method_72_code 12 = .ok (.getfield 475, 3) := by decide +kernel
theorem d_10_72_15 : decode prog_10_method_72_code 15 = .ok (.iconst 1, 1) := by decide +kernel
theorem d_10_72_16 : decode prog_10_method_72_code 16 = .ok (.iadd, 1) := by decide +kernel
theorem d_10_72_17 : decode prog_10_method_72_code 17 = .ok (.putfield 475, 3) := by decide +kernel
theorem d_10_72_20 : decode prog_10_method_72_code 20 = .ok (.return_, 1) := by decide +kernel
theorem d_10_73_0 : decode prog_10_method_73_code 0 = .ok (.aload_n 0, 1) := by decide +kernel
theorem d_10_73_1 : decode prog_10_method_73_code 1 = .ok (.iconst 0, 1) := by decide +kernel
theorem d_10_73_2 : decode prog_10_method_73_code 2 = .ok (.putfield 475, 3) := by decide +kernel
theorem d_10_73_5 : decode prog_10_method_73_code 5 = .ok (.iconst 0, 1) := by decide +kernel
theorem d_10_73_6 : decode prog_10_method_73_code 6 = .ok (.istore_n 1, 1) := by decide +kernel
theorem d_10_73_7 : decode prog_10_method_73_code 7 = .ok (.iload_n 1, 1) := by decide +kernel
theorem d_10_73_8 : decode prog_10_method_73_code 8 = .ok (.aload_n 0, 1) := by decide +kernel
theorem d_10_73_9 : decode prog_10_method_73_code 9 = .ok (.getfield 69, 3) := by decide +kernel
theorem d_10_73_12 : decode prog_10_method_73_code 12 = .ok (.if_icmp .ge 194, 3) := by decide +kernel
theorem d_10_73_15 : decode prog_10_method_73_code 15 = .ok (.aload_n 0, 1) := by decide +kernel
theorem d_10_73_16 : decode prog_10_method_73_code 16 = .ok (.getfield 66, 3) := by decide +kernel
theorem d_10_73_19 : decode prog_10_method_73_code 19 = .ok (.iload_n 1, 1) := by decide +kernel
theorem d_10_73_20 : decode prog_10_method_73_code 20 = .ok (.iaload, 1) := by decide +kernel
theorem d_10_73_21 : decode prog_10_method_73_code 21 = .ok (.bipush 21, 2) := by decide +kernel
theorem d_10_73_23 : decode prog_10_method_73_code 23 = .ok (.if_icmp .eq 6, 3) := by decide +kernel
theorem d_10_73_26 : decode prog_10_method_73_code 26 = .ok (.goto 174, 3) := by decide +kernel
theorem d_10_73_29 : decode prog_10_method_73_code 29 = .ok (.iconst 0, 1) := by decide +kernel
theorem d_10_73_30 : decode prog_10_method_73_code 30 = .ok (.istore_n 2, 1) := by decide +kernel
theorem d_10_73_31 : decode prog_10_method_73_code 31 = .ok (.iload_n 2, 1) := by decide +kernel
theorem d_10_73_32 : decode prog_10_method_73_code 32 = .ok (.aload_n 0, 1) := by decide +kernel
theorem d_10_73_33 : decode prog_10_method_73_code 33 = .ok (.getfield 112, 3) := by decide +kernel
theorem d_10_73_36 : decode prog_10_method_73_code 36 = .ok (.if_icmp .ge 39, 3) := by decide +kernel
theorem d_10_73_39 : decode prog_10_method_73_code 39 = .ok (.aload_n 0, 1) := by decide +kernel
theorem d_10_73_40 : decode prog_10_method_73_code 40 = .ok (.getfield 115, 3) := by decide +kernel
theorem d_10_73_43 : decode prog_10_method_73_code 43 = .ok (.iload_n 2, 1) := by decide +kernel
theorem d_10_73_44 : decode prog_10_method_73_code 44 = .ok (.iaload, 1) := by decide +kernel
theorem d_10_73_45 : decode prog_10_method_73_code 45 = .ok (.aload_n 0, 1) := by decide +kernel
theorem d_10_73_46 : decode prog_10_method_73_code 46 = .ok (.getfield 75, 3) := by decide +kernel
theorem d_10_73_49 : decode prog_10_method_73_code 49 = .ok (.iload_n 1, 1) := by decide +kernel
theorem d_10_73_50 : decode prog_10_method_73_code 50 = .ok (.iaload, 1) := by decide +kernel
theorem d_10_73_51 : decode prog_10_method_73_code 51 = .ok (.if_icmp .ne 18, 3) := by decide +kernel
theorem d_10_73_54 : decode prog_10_method_73_code 54 = .ok (.aload_n 0, 1) := by decide +kernel
theorem d_10_73_55 : decode prog_10_method_73_code 55 = .ok (.getfield 144, 3) := by decide +kernel
theorem d_10_73_58 : decode prog_10_method_73_code 58 = .ok (.iload_n 2, 1) := by decide +kernel
theorem d_10_73_59 : decode prog_10_method_73_code 59 = .ok (.iaload, 1) := by decide +kernel
theorem d_10_73_60 : decode prog_10_method_73_code 60 = .ok (.iconst 4, 1) := by decide +kernel
theorem d_10_73_61 : decode prog_10_method_73_code 61 = .ok (.if_icmp .eq 8, 3) := by decide +kernel
theorem d_10_73_64 : decode prog_10_method_73_code 64 = .ok (.aload_n 0, 1) := by decide +kernel
theorem d_10_73_65 : decode prog_10_method_73_code 65 = .ok (.iload_n 2, 1) := by decide +kernel
theorem d_10_73_66 : decode prog_10_method_73_code 66 = .ok (.invokevirtual 500, 3) := by decide +kernel
theorem d_10_73_69 : decode prog_10_method_73_code 69 = .ok (.iinc 2 1, 3) := by decide +kernel
theorem d_10_73_72 : decode prog_10_method_73_code 72 = .ok (.goto (-41), 3) := by decide +kernel
theorem d_10_73_75 : decode prog_10_method_73_code 75 = .ok (.iconst 0, 1) := by decide +kernel
theorem d_10_73_76 : decode prog_10_method_73_code 76 = .ok (.istore_n 2, 1) := by decide +kernel
theorem d_10_73_77 : decode prog_10_method_73_code 77 = .ok (.iload_n 2, 1) := by decide +kernel
theorem d_10_73_78 : decode prog_10_method_73_code 78 = .ok (.aload_n 0, 1) := by decide +kernel
theorem d_10_73_79 : decode prog_10_method_73_code 79 = .ok (.getfield 112, 3) := by decide +kernel
theorem d_10_73_82 : decode prog_10_method_73_code 82 = .ok (.if_icmp .ge 39, 3) := by decide +kernel
theorem d_10_73_85 : decode prog_10_method_73_code 85 = .ok (.aload_n 0, 1) := by decide +kernel
theorem d_10_73_86 : decode prog_10_method_73_code 86 = .ok (.getfield 115, 3) := by decide +kernel
theorem d_10_73_89 : decode prog_10_method_73_code 89 = .ok (.iload_n 2, 1) := by decide +kernel
theorem d_10_73_90 : decode prog_10_method_73_code 90 = .ok (.iaload, 1) := by decide +kernel
theorem d_10_73_91 : decode prog_10_method_73_code 91 = .ok (.aload_n 0, 1) := by decide +kernel
theorem d_10_73_92 : decode prog_10_method_73_code 92 = .ok (.getfield 75, 3) := by decide +kernel
theorem d_10_73_95 : decode prog_10_method_73_code 95 = .ok (.iload_n 1, 1) := by decide +kernel
theorem d_10_73_96 : decode prog_10_method_73_code 96 = .ok (.iaload, 1) := by decide +kernel
theorem d_10_73_97 : decode prog_10_method_73_code 97 = .ok (.if_icmp .ne 18, 3) := by decide +kernel
theorem d_10_73_100 : decode prog_10_method_73_code 100 = .ok (.aload_n 0, 1) := by decide +kernel
theorem d_10_73_101 : decode prog_10_method_73_code 101 = .ok (.getfield 144, 3) := by decide +kernel
theorem d_10_73_104 : decode prog_10_method_73_code 104 = .ok (.iload_n 2, 1) := by decide +kernel
theorem d_10_73_105 : decode prog_10_method_73_code 105 = .ok (.iaload, 1) := by decide +kernel
theorem d_10_73_106 : decode prog_10_method_73_code 106 = .ok (.iconst 4, 1) := by decide +kernel
theorem d_10_73_107 : decode prog_10_method_73_code 107 = .ok (.if_icmp .ne 8, 3) := by decide +kernel
theorem d_10_73_110 : decode prog_10_method_73_code 110 = .ok (.aload_n 0, 1) := by decide +kernel
theorem d_10_73_111 : decode prog_10_method_73_code 111 = .ok (.iload_n 2, 1) := by decide +kernel
theorem d_10_73_112 : decode prog_10_method_73_code 112 = .ok (.invokevirtual 500, 3) := by decide +kernel
theorem d_10_73_115 : decode prog_10_method_73_code 115 = .ok (.iinc 2 1, 3) := by decide +kernel
theorem d_10_73_118 : decode prog_10_method_73_code 118 = .ok (.goto (-41), 3) := by decide +kernel
theorem d_10_73_121 : decode prog_10_method_73_code 121 = .ok (.iconst 0, 1) := by decide +kernel
theorem d_10_73_122 : decode prog_10_method_73_code 122 = .ok (.istore_n 2, 1) := by decide +kernel
theorem d_10_73_123 : decode prog_10_method_73_code 123 = .ok (.iload_n 2, 1) := by decide +kernel
theorem d_10_73_124 : decode prog_10_method_73_code 124 = .ok (.aload_n 0, 1) := by decide +kernel
theorem d_10_73_125 : decode prog_10_method_73_code 125 = .ok (.getfield 112, 3) := by decide +kernel
theorem d_10_73_128 : decode prog_10_method_73_code 128 = .ok (.if_icmp .ge 72, 3) := by decide +kernel
theorem d_10_73_131 : decode prog_10_method_73_code 131 = .ok (.aload_n 0, 1) := by decide +kernel
theorem d_10_73_132 : decode prog_10_method_73_code 132 = .ok (.getfield 115, 3) := by decide +kernel
theorem d_10_73_135 : decode prog_10_method_73_code 135 = .ok (.iload_n 2, 1) := by decide +kernel
theorem d_10_73_136 : decode prog_10_method_73_code 136 = .ok (.iaload, 1) := by decide +kernel
theorem d_10_73_137 : decode prog_10_method_73_code 137 = .ok (.aload_n 0, 1) := by decide +kernel
theorem d_10_73_138 : decode prog_10_method_73_code 138 = .ok (.getfield 75, 3) := by decide +kernel
theorem d_10_73_141 : decode prog_10_method_73_code 141 = .ok (.iload_n 1, 1) := by decide +kernel
theorem d_10_73_142 : decode prog_10_method_73_code 142 = .ok (.iaload, 1) := by decide +kernel
theorem d_10_73_143 : decode prog_10_method_73_code 143 = .ok (.if_icmp .ne 51, 3) := by decide +kernel
theorem d_10_73_146 : decode prog_10_method_73_code 146 = .ok (.aload_n 0, 1) := by decide +kernel
theorem d_10_73_147 : decode prog_10_method_73_code 147 = .ok (.getfield 144, 3) := by decide +kernel
theorem d_10_73_150 : decode prog_10_method_73_code 150 = .ok (.iload_n 2, 1) := by decide +kernel
theorem d_10_73_151 : decode prog_10_method_73_code 151 = .ok (.iaload, 1) := by decide +kernel
theorem d_10_73_152 : decode prog_10_method_73_code 152 = .ok (.iconst 2, 1) := by decide +kernel
theorem d_10_73_153 : decode prog_10_method_73_code 153 = .ok (.if_icmp .eq 6, 3) := by decide +kernel
theorem d_10_73_156 : decode prog_10_method_73_code 156 = .ok (.goto 38, 3) := by decide +kernel
theorem d_10_73_159 : decode prog_10_method_73_code 159 = .ok (.aload_n 0, 1) := by decide +kernel
theorem d_10_73_160 : decode prog_10_method_73_code 160 = .ok (.getfield 279, 3) := by decide +kernel
theorem d_10_73_163 : decode prog_10_method_73_code 163 = .ok (.iload_n 2, 1) := by decide +kernel
theorem d_10_73_164 : decode prog_10_method_73_code 164 = .ok (.iaload, 1) := by decide +kernel
theorem d_10_73_165 : decode prog_10_method_73_code 165 = .ok (.istore_n 3, 1) := by decide +kernel
theorem d_10_73_166 : decode prog_10_method_73_code 166 = .ok (.iload_n 3, 1) := by decide +kernel
theorem d_10_73_167 : decode prog_10_method_73_code 167 = .ok (.aload_n 0, 1) := by decide +kernel
theorem d_10_73_168 : decode prog_10_method_73_code 168 = .ok (.getfield 279, 3) := by decide +kernel
theorem d_10_73_171 : decode prog_10_method_73_code 171 = .ok (.iload_n 2, 1) := by decide +kernel
theorem d_10_73_172 : decode prog_10_method_73_code 172 = .ok (.iaload, 1) := by decide +kernel
theorem d_10_73_173 : decode prog_10_method_73_code 173 = .ok (.aload_n 0, 1) := by decide +kernel
theorem d_10_73_174 : decode prog_10_method_73_code 174 = .ok (.getfield 276, 3) := by decide +kernel
theorem d_10_73_177 : decode prog_10_method_73_code 177 = .ok (.iload_n 2, 1) := by decide +kernel
theorem d_10_73_178 : decode prog_10_method_73_code 178 = .ok (.iaload, 1) := by decide +kernel
theorem d_10_73_179 : decode prog_10_method_73_code 179 = .ok (.iadd, 1) := by decide +kernel
theorem d_10_73_180 : decode prog_10_method_73_code 180 = .ok (.if_icmp .ge 14, 3) := by decide +kernel
theorem d_10_73_183 : decode prog_10_method_73_code 183 = .ok (.aload_n 0, 1) := by decide +kernel
theorem d_10_73_184 : decode prog_10_method_73_code 184 = .ok (.iload_n 3, 1) := by decide +kernel
theorem d_10_73_185 : decode prog_10_method_73_code 185 = .ok (.invokevirtual 500, 3) := by decide +kernel
theorem d_10_73_188 : decode prog_10_method_73_code 188 = .ok (.iinc 3 1, 3) := by decide +kernel
theorem d_10_73_191 : decode prog_10_method_73_code 191 = .ok (.goto (-25), 3) := by decide +kernel
theorem d_10_73_194 : decode prog_10_method_73_code 194 = .ok (.iinc 2 1, 3) := by decide +kernel
theorem d_10_73_197 : decode prog_10_method_73_code 197 = .ok (.goto (-74), 3) := by decide +kernel
theorem d_10_73_200 : decode prog_10_method_73_code 200 = .ok (.iinc 1 1, 3) := by decide +kernel
theorem d_10_73_203 : decode prog_10_method_73_code 203 = .ok (.goto (-196), 3) := by decide +kernel
theorem d_10_73_206 : decode prog_10_method_73_code 206 = .ok (.iconst 0, 1) := by decide +kernel
theorem d_10_73_207 : decode prog_10_method_73_code 207 = .ok (.istore_n 1, 1) := by decide +kernel
theorem d_10_73_208 : decode prog_10_method_73_code 208 = .ok (.iload_n 1, 1) := by decide +kernel
theorem d_10_73_209 : decode prog_10_method_73_code 209 = .ok (.aload_n 0, 1) := by decide +kernel
theorem d_10_73_210 : decode prog_10_method_73_code 210 = .ok (.getfield 112, 3) := by decide +kernel
theorem d_10_73_213 : decode prog_10_method_73_code 213 = .ok (.if_icmp .ge 222, 3) := by decide +kernel
theorem d_10_73_216 : decode prog_10_method_73_code 216 = .ok (.iconst 5, 1) := by decide +kernel
theorem d_10_73_217 : decode prog_10_method_73_code 217 = .ok (.aload_n 0, 1) := by decide +kernel
theorem d_10_73_218 : decode prog_10_method_73_code 218 = .ok (.getfield 466, 3) := by decide +kernel
theorem d_10_73_221 : decode prog_10_method_73_code 221 = .ok (.iload_n 1, 1) := by decide +kernel
theorem d_10_73_222 : decode prog_10_method_73_code 222 = .ok (.iaload, 1) := by decide +kernel
theorem d_10_73_223 : decode prog_10_method_73_code 223 = .ok (.imul, 1) := by decide +kernel
theorem d_10_73_224 : decode prog_10_method_73_code 224 = .ok (.istore_n 2, 1) := by decide +kernel
theorem d_10_73_225 : decode prog_10_method_73_code 225 = .ok (.aload_n 0, 1) := by decide +kernel
theorem d_10_73_226 : decode prog_10_method_73_code 226 = .ok (.getfield 144, 3) := by decide +kernel
theorem d_10_73_229 : decode prog_10_method_73_code 229 = .ok (.iload_n 1, 1) := by decide +kernel
theorem d_10_73_230 : decode prog_10_method_73_code 230 = .ok (.iaload, 1) := by decide +kernel
theorem d_10_73_231 : decode prog_10_method_73_code 231 = .ok (.istore_n 3, 1) := by decide +kernel
theorem d_10_73_232 : decode prog_10_method_73_code 232 = .ok (.aload_n 0, 1) := by decide +kernel
theorem d_10_73_233 : decode prog_10_method_73_code 233 = .ok (.getfield 174, 3) := by decide +kernel
theorem d_10_73_236 : decode prog_10_method_73_code 236 = .ok (.aload_n 0, 1) := by decide +kernel
theorem d_10_73_237 : decode prog_10_method_73_code 237 = .ok (.getfield 115, 3) := by decide +kernel
theorem d_10_73_240 : decode prog_10_method_73_code 240 = .ok (.iload_n 1, 1) := by decide +kernel
theorem d_10_73_241 : decode prog_10_method_73_code 241 = .ok (.iaload, 1) := by decide +kernel
theorem d_10_73_242 : decode prog_10_method_73_code 242 = .ok (.iaload, 1) := by decide +kernel
theorem d_10_73_243 : decode prog_10_method_73_code 243 = .ok (.istore 4, 2) := by decide +kernel
theorem d_10_73_245 : decode prog_10_method_73_code 245 = .ok (.aload_n 0, 1) := by decide +kernel
theorem d_10_73_246 : decode prog_10_method_73_code 246 = .ok (.getfield 472, 3) := by decide +kernel
theorem d_10_73_249 : decode prog_10_method_73_code 249 = .ok (.iload_n 2, 1) := by decide +kernel
theorem d_10_73_250 : decode prog_10_method_73_code 250 = .ok (.iload_n 3, 1) := by decide +kernel
theorem d_10_73_251 : decode prog_10_method_73_code 251 = .ok (.iconst 5, 1) := by decide +kernel
theorem d_10_73_252 : decode prog_10_method_73_code 252 = .ok (.if_icmp .ge 9, 3) := by decide +kernel
theorem d_10_73_255 : decode prog_10_method_73_code 255 = .ok (.iload_n 3, 1) := by decide +kernel
theorem d_10_73_256 : decode prog_10_method_73_code 256 = .ok (.iconst 1, 1) := by decide +kernel
theorem d_10_73_257 : decode prog_10_method_73_code 257 = .ok (.iadd, 1) := by decide +kernel
theorem d_10_73_258 : decode prog_10_method_73_code 258 = .ok (.goto 37, 3) := by decide +kernel
theorem d_10_73_261 : decode prog_10_method_73_code 261 = .ok (.aload_n 0, 1) := by decide +kernel
theorem d_10_73_262 : decode prog_10_method_73_code 262 = .ok (.getfield 147, 3) := by decide +kernel
theorem d_10_73_265 : decode prog_10_method_73_code 265 = .ok (.iload_n 1, 1) := by decide +kernel
theorem d_10_73_266 : decode prog_10_method_73_code 266 = .ok (.iaload, 1) := by decide +kernel
theorem d_10_73_267 : decode prog_10_method_73_code 267 = .ok (.bipush 8, 2) := by decide +kernel
theorem d_10_73_269 : decode prog_10_method_73_code 269 = .ok (.if_icmp .ne 8, 3) := by decide +kernel
theorem d_10_73_272 : decode prog_10_method_73_code 272 = .ok (.bipush 8, 2) := by decide +kernel
theorem d_10_73_274 : decode prog_10_method_73_code 274 = .ok (.goto 21, 3) := by decide +kernel
theorem d_10_73_277 : decode prog_10_method_73_code 277 = .ok (.aload_n 0, 1) := by decide +kernel
theorem d_10_73_278 : decode prog_10_method_73_code 278 = .ok (.getfield 147, 3) := by decide +kernel
theorem d_10_73_281 : decode prog_10_method_73_code 281 = .ok (.iload_n 1, 1) := by decide +kernel
theorem d_10_73_282 : decode prog_10_method_73_code 282 = .ok (.iaload, 1) := by decide +kernel
theorem d_10_73_283 : decode prog_10_method_73_code 283 = .ok (.iconst 4, 1) := by decide +kernel
theorem d_10_73_284 : decode prog_10_method_73_code 284 = .ok (.iand, 1) := by decide +kernel
theorem d_10_73_285 : decode prog_10_method_73_code 285 = .ok (.ifCond .eq 8, 3) := by decide +kernel
theorem d_10_73_288 : decode prog_10_method_73_code 288 = .ok (.bipush 7, 2) := by decide +kernel
theorem d_10_73_290 : decode prog_10_method_73_code 290 = .ok (.goto 5, 3) := by decide +kernel
theorem d_10_73_293 : decode prog_10_method_73_code 293 = .ok (.bipush 6, 2) := by decide +kernel
theorem d_10_73_295 : decode prog_10_method_73_code 295 = .ok (.iastore, 1) := by decide +kernel
theorem d_10_73_296 : decode prog_10_method_73_code 296 = .ok (.aload_n 0, 1) := by decide +kernel
theorem d_10_73_297 : decode prog_10_method_73_code 297 = .ok (.getfield 472, 3) := by decide +kernel
theorem d_10_73_300 : decode prog_10_method_73_code 300 = .ok (.iload_n 2, 1) := by decide +kernel
theorem d_10_73_301 : decode prog_10_method_73_code 301 = .ok (.iconst 1, 1) := by decide +kernel
theorem d_10_73_302 : decode prog_10_method_73_code 302 = .ok (.iadd, 1) := by decide +kernel
theorem d_10_73_303 : decode prog_10_method_73_code 303 = .ok (.iload_n 3, 1) := by decide +kernel
theorem d_10_73_304 : decode prog_10_method_73_code 304 = .ok (.iconst 4, 1) := by decide +kernel
theorem d_10_73_305 : decode prog_10_method_73_code 305 = .ok (.if_icmp .eq 19, 3) := by decide +kernel
theorem d_10_73_308 : decode prog_10_method_73_code 308 = .ok (.iload_n 3, 1) := by decide +kernel
theorem d_10_73_309 : decode prog_10_method_73_code 309 = .ok (.iconst 3, 1) := by decide +kernel
theorem d_10_73_310 : decode prog_10_method_73_code 310 = .ok (.if_icmp .eq 14, 3) := by decide +kernel
theorem d_10_73_313 : decode prog_10_method_73_code 313 = .ok (.aload_n 0, 1) := by decide +kernel
theorem d_10_73_314 : decode prog_10_method_73_code 314 = .ok (.getfield 147, 3) := by decide +kernel
theorem d_10_73_317 : decode prog_10_method_73_code 317 = .ok (.iload_n 1, 1) := by decide +kernel
theorem d_10_73_318 : decode prog_10_method_73_code 318 = .ok (.iaload, 1) := by decide +kernel
theorem d_10_73_319 : decode prog_10_method_73_code 319 = .ok (.bipush 8, 2) := by decide +kernel
theorem d_10_73_321 : decode prog_10_method_73_code 321 = .ok (.if_icmp .ne 7, 3) := by decide +kernel
theorem d_10_73_324 : decode prog_10_method_73_code 324 = .ok (.iconst 0, 1) := by decide +kernel
theorem d_10_73_325 : decode prog_10_method_73_code 325 = .ok (.goto 11, 3) := by decide +kernel
theorem d_10_73_328 : decode prog_10_method_73_code 328 = .ok (.aload_n 0, 1) := by decide +kernel
theorem d_10_73_329 : decode prog_10_method_73_code 329 = .ok (.getfield 147, 3) := by decide +kernel
theorem d_10_73_332 : decode prog_10_method_73_code 332 = .ok (.iload_n 1, 1) := by decide +kernel
theorem d_10_73_333 : decode prog_10_method_73_code 333 = .ok (.iaload, 1) := by decide +kernel
theorem d_10_73_334 : decode prog_10_method_73_code 334 = .ok (.iconst 3, 1) := by decide +kernel
theorem d_10_73_335 : decode prog_10_method_73_code 335 = .ok (.iand, 1) := by decide +kernel
theorem d_10_73_336 : decode prog_10_method_73_code 336 = .ok (.iastore, 1) := by decide +kernel
theorem d_10_73_337 : decode prog_10_method_73_code 337 = .ok (.aload_n 0, 1) := by decide +kernel
theorem d_10_73_338 : decode prog_10_method_73_code 338 = .ok (.getfield 472, 3) := by decide +kernel
theorem d_10_73_341 : decode prog_10_method_73_code 341 = .ok (.iload_n 2, 1) := by decide +kernel
theorem d_10_73_342 : decode prog_10_method_73_code 342 = .ok (.iconst 2, 1) := by decide +kernel
theorem d_10_73_343 : decode prog_10_method_73_code 343 = .ok (.iadd, 1) := by decide +kernel
theorem d_10_73_344 : decode prog_10_method_73_code 344 = .ok (.iload_n 3, 1) := by decide +kernel
theorem d_10_73_345 : decode prog_10_method_73_code 345 = .ok (.iconst 1, 1) := by decide +kernel
theorem d_10_73_346 : decode prog_10_method_73_code 346 = .ok (.if_icmp .ne 12, 3) := by decide +kernel
theorem d_10_73_349 : decode prog_10_method_73_code 349 = .ok (.aload_n 0, 1) := by decide +kernel
theorem d_10_73_350 : decode prog_10_method_73_code 350 = .ok (.getfield 159, 3) := by decide +kernel
theorem d_10_73_353 : decode prog_10_method_73_code 353 = .ok (.iload_n 1, 1) := by decide +kernel
theorem d_10_73_354 : decode prog_10_method_73_code 354 = .ok (.iaload, 1) := by decide +kernel
theorem d_10_73_355 : decode prog_10_method_73_code 355 = .ok (.goto 18, 3) := by decide +kernel
theorem d_10_73_358 : decode prog_10_method_73_code 358 = .ok (.iload_n 3, 1) := by decide +kernel
theorem d_10_73_359 : decode prog_10_method_73_code 359 = .ok (.iconst 2, 1) := by decide +kernel
theorem d_10_73_360 : decode prog_10_method_73_code 360 = .ok (.if_icmp .ne 12, 3) := by decide +kernel
theorem d_10_73_363 : decode prog_10_method_73_code 363 = .ok (.aload_n 0, 1) := by decide +kernel
theorem d_10_73_364 : decode prog_10_method_73_code 364 = .ok (.getfield 276, 3) := by decide +kernel
theorem d_10_73_367 : decode prog_10_method_73_code 367 = .ok (.iload_n 1, 1) := by decide +kernel
theorem d_10_73_368 : decode prog_10_method_73_code 368 = .ok (.iaload, 1) := by decide +kernel
theorem d_10_73_369 : decode prog_10_method_73_code 369 = .ok (.goto 4, 3) := by decide +kernel
theorem d_10_73_372 : decode prog_10_method_73_code 372 = .ok (.iconst 0, 1) := by decide +kernel
theorem d_10_73_373 : decode prog_10_method_73_code 373 = .ok (.iastore, 1) := by decide +kernel
theorem d_10_73_374 : decode prog_10_method_73_code 374 = .ok (.aload_n 0, 1) := by decide +kernel
theorem d_10_73_375 : decode prog_10_method_73_code 375 = .ok (.getfield 472, 3) := by decide +kernel
theorem d_10_73_378 : decode prog_10_method_73_code 378 = .ok (.iload_n 2, 1) := by decide +kernel
theorem d_10_73_379 : decode prog_10_method_73_code 379 = .ok (.iconst 3, 1) := by decide +kernel
theorem d_10_73_380 : decode prog_10_method_73_code 380 = .ok (.iadd, 1) := by decide +kernel
theorem d_10_73_381 : decode prog_10_method_73_code 381 = .ok (.aload_n 0, 1) := by decide +kernel
theorem d_10_73_382 : decode prog_10_method_73_code 382 = .ok (.getfield 168, 3) := by decide +kernel
theorem d_10_73_385 : decode prog_10_method_73_code 385 = .ok (.iload_n 1, 1) := by decide +kernel
theorem d_10_73_386 : decode prog_10_method_73_code 386 = .ok (.baload, 1) := by decide +kernel
theorem d_10_73_387 : decode prog_10_method_73_code 387 = .ok (.ifCond .ne 12, 3) := by decide +kernel
theorem d_10_73_390 : decode prog_10_method_73_code 390 = .ok (.aload_n 0, 1) := by decide +kernel
theorem d_10_73_391 : decode prog_10_method_73_code 391 = .ok (.getfield 162, 3) := by decide +kernel
theorem d_10_73_394 : decode prog_10_method_73_code 394 = .ok (.iload_n 1, 1) := by decide +kernel
theorem d_10_73_395 : decode prog_10_method_73_code 395 = .ok (.baload, 1) := by decide +kernel
theorem d_10_73_396 : decode prog_10_method_73_code 396 = .ok (.ifCond .eq 7, 3) := by decide +kernel
theorem d_10_73_399 : decode prog_10_method_73_code 399 = .ok (.iconst 1, 1) := by decide +kernel
theorem d_10_73_400 : decode prog_10_method_73_code 400 = .ok (.goto 4, 3) := by decide +kernel
theorem d_10_73_403 : decode prog_10_method_73_code 403 = .ok (.iconst 0, 1) := by decide +kernel
theorem d_10_73_404 : decode prog_10_method_73_code 404 = .ok (.iastore, 1) := by decide +kernel
theorem d_10_73_405 : decode prog_10_method_73_code 405 = .ok (.aload_n 0, 1) := by decide +kernel
theorem d_10_73_406 : decode prog_10_method_73_code 406 = .ok (.getfield 472, 3) := by decide +kernel
theorem d_10_73_409 : decode prog_10_method_73_code 409 = .ok (.iload_n 2, 1) := by decide +kernel
theorem d_10_73_410 : decode prog_10_method_73_code 410 = .ok (.iconst 4, 1) := by decide +kernel
theorem d_10_73_411 : decode prog_10_method_73_code 411 = .ok (.iadd, 1) := by decide +kernel
theorem d_10_73_412 : decode prog_10_method_73_code 412 = .ok (.iload 4, 2) := by decide +kernel
theorem d_10_73_414 : decode prog_10_method_73_code 414 = .ok (.ifCond .ge 7, 3) := by decide +kernel
theorem d_10_73_417 : decode prog_10_method_73_code 417 = .ok (.iconst (-1), 1) := by decide +kernel
theorem d_10_73_418 : decode prog_10_method_73_code 418 = .ok (.goto 10, 3) := by decide +kernel
theorem d_10_73_421 : decode prog_10_method_73_code 421 = .ok (.aload_n 0, 1) := by decide +kernel
theorem d_10_73_422 : decode prog_10_method_73_code 422 = .ok (.getfield 466, 3) := by decide +kernel
theorem d_10_73_425 : decode prog_10_method_73_code 425 = .ok (.iload 4, 2) := by decide +kernel
theorem d_10_73_427 : decode prog_10_method_73_code 427 = .ok (.iaload, 1) := by decide +kernel
theorem d_10_73_428 : decode prog_10_method_73_code 428 = .ok (.iastore, 1) := by decide +kernel
theorem d_10_73_429 : decode prog_10_method_73_code 429 = .ok (.iinc 1 1, 3) := by decide +kernel
theorem d_10_73_432 : decode prog_10_method_73_code 432 = .ok (.goto (-224), 3) := by decide +kernel
theorem d_10_73_435 : decode prog_10_method_73_code 435 = .ok (.aload_n 0, 1) := by decide +kernel
theorem d_10_73_436 : decode prog_10_method_73_code 436 = .ok (.getfield 469, 3) := by decide +kernel
theorem d_10_73_439 : decode prog_10_method_73_code 439 = .ok (.iconst (-1), 1) := by decide +kernel
theorem d_10_73_440 : decode prog_10_method_73_code 440 = .ok (.invokestatic 503, 3) := by decide +kernel
theorem d_10_73_443 : decode prog_10_method_73_code 443 = .ok (.iconst 0, 1) := by decide +kernel
theorem d_10_73_444 : decode prog_10_method_73_code 444 = .ok (.istore_n 1, 1) := by decide +kernel
theorem d_10_73_445 : decode prog_10_method_73_code 445 = .ok (.iload_n 1, 1) := by decide +kernel
theorem d_10_73_446 : decode prog_10_method_73_code 446 = .ok (.aload_n 0, 1) := by decide +kernel
theorem d_10_73_447 : decode prog_10_method_73_code 447 = .ok (.getfield 69, 3) := by decide +kernel
theorem d_10_73_450 : decode prog_10_method_73_code 450 = .ok (.if_icmp .ge 71, 3) := by decide +kernel
theorem d_10_73_453 : decode prog_10_method_73_code 453 = .ok (.aload_n 0, 1) := by decide +kernel
theorem d_10_73_454 : decode prog_10_method_73_code 454 = .ok (.getfield 72, 3) := by decide +kernel
theorem d_10_73_457 : decode prog_10_method_73_code 457 = .ok (.iload_n 1, 1) := by decide +kernel
theorem d_10_73_458 : decode prog_10_method_73_code 458 = .ok (.iaload, 1) := by decide +kernel
theorem d_10_73_459 : decode prog_10_method_73_code 459 = .ok (.istore_n 2, 1) := by decide +kernel
theorem d_10_73_460 : decode prog_10_method_73_code 460 = .ok (.aload_n 0, 1) := by decide +kernel
theorem d_10_73_461 : decode prog_10_method_73_code 461 = .ok (.getfield 23, 3) := by decide +kernel
theorem d_10_73_464 : decode prog_10_method_73_code 464 = .ok (.iload_n 2, 1) := by decide +kernel
theorem d_10_73_465 : decode prog_10_method_73_code 465 = .ok (.iaload, 1) := by decide +kernel
theorem d_10_73_466 : decode prog_10_method_73_code 466 = .ok (.iconst 1, 1) := by decide +kernel
theorem d_10_73_467 : decode prog_10_method_73_code 467 = .ok (.if_icmp .ne 48, 3) := by decide +kernel
theorem d_10_73_470 : decode prog_10_method_73_code 470 = .ok (.aload_n 0, 1) := by decide +kernel
theorem d_10_73_471 : decode prog_10_method_73_code 471 = .ok (.getfield 140, 3) := by decide +kernel
theorem d_10_73_474 : decode prog_10_method_73_code 474 = .ok (.iload_n 2, 1) := by decide +kernel
theorem d_10_73_475 : decode prog_10_method_73_code 475 = .ok (.baload, 1) := by decide +kernel
theorem d_10_73_476 : decode prog_10_method_73_code 476 = .ok (.ifCond .eq 6, 3) := by decide +kernel
theorem d_10_73_479 : decode prog_10_method_73_code 479 = .ok (.goto 36, 3) := by decide +kernel
theorem d_10_73_482 : decode prog_10_method_73_code 482 = .ok (.aload_n 0, 1) := by decide +kernel
theorem d_10_73_483 : decode prog_10_method_73_code 483 = .ok (.aload_n 0, 1) := by decide +kernel
theorem d_10_73_484 : decode prog_10_method_73_code 484 = .ok (.getfield 90, 3) := by decide +kernel
theorem d_10_73_487 : decode prog_10_method_73_code 487 = .ok (.iload_n 1, 1) := by decide +kernel
theorem d_10_73_488 : decode prog_10_method_73_code 488 = .ok (.iaload, 1) := by decide +kernel
theorem d_10_73_489 : decode prog_10_method_73_code 489 = .ok (.iload_n 2, 1) := by decide +kernel
theorem d_10_73_490 : decode prog_10_method_73_code 490 = .ok (.invokevirtual 434, 3) := by decide +kernel
theorem d_10_73_493 : decode prog_10_method_73_code 493 = .ok (.istore_n 3, 1) := by decide +kernel
theorem d_10_73_494 : decode prog_10_method_73_code 494 = .ok (.iload_n 3, 1) := by decide +kernel
theorem d_10_73_495 : decode prog_10_method_73_code 495 = .ok (.ifCond .lt 20, 3) := by decide +kernel
theorem d_10_73_498 : decode prog_10_method_73_code 498 = .ok (.aload_n 0, 1) := by decide +kernel
theorem d_10_73_499 : decode prog_10_method_73_code 499 = .ok (.getfield 469, 3) := by decide +kernel
theorem d_10_73_502 : decode prog_10_method_73_code 502 = .ok (.aload_n 0, 1) := by decide +kernel
theorem d_10_73_503 : decode prog_10_method_73_code 503 = .ok (.getfield 19, 3) := by decide +kernel
theorem d_10_73_506 : decode prog_10_method_73_code 506 = .ok (.iload_n 2, 1) := by decide +kernel
theorem d_10_73_507 : decode prog_10_method_73_code 507 = .ok (.iaload, 1) := by decide +kernel
theorem d_10_73_508 : decode prog_10_method_73_code 508 = .ok (.aload_n 0, 1) := by decide +kernel
theorem d_10_73_509 : decode prog_10_method_73_code 509 = .ok (.getfield 466, 3) := by decide +kernel
theorem d_10_73_512 : decode prog_10_method_73_code 512 = .ok (.iload_n 3, 1) := by decide +kernel
theorem d_10_73_513 : decode prog_10_method_73_code 513 = .ok (.iaload, 1) := by decide +kernel
theorem d_10_73_514 : decode prog_10_method_73_code 514 = .ok (.iastore, 1) := by decide +kernel
theorem d_10_73_515 : decode prog_10_method_73_code 515 = .ok (.iinc 1 1, 3) := by decide +kernel
theorem d_10_73_518 : decode prog_10_method_73_code 518 = .ok (.goto (-73), 3) := by decide +kernel
theorem d_10_73_521 : decode prog_10_method_73_code 521 = .ok (.return_, 1) := by decide +kernel
theorem d_10_74_0 : decode prog_10_method_74_code 0 = .ok (.aload_n 0, 1) := by decide +kernel
theorem d_10_74_1 : decode prog_10_method_74_code 1 = .ok (.getfield 475, 3) := by decide +kernel
theorem d_10_74_4 : decode prog_10_method_74_code 4 = .ok (.ifCond .ge 8, 3) := by decide +kernel
theorem d_10_74_7 : decode prog_10_method_74_code 7 = .ok (.bipush (-2), 2) := by decide +kernel
theorem d_10_74_9 : decode prog_10_method_74_code 9 = .ok (.goto 7, 3) := by decide +kernel
theorem d_10_74_12 : decode prog_10_method_74_code 12 = .ok (.aload_n 0, 1) := by decide +kernel
theorem d_10_74_13 : decode prog_10_method_74_code 13 = .ok (.getfield 475, 3) := by decide +kernel
theorem d_10_74_16 : decode prog_10_method_74_code 16 = .ok (.ireturn, 1) := by decide +kernel
theorem d_10_75_0 : decode prog_10_method_75_code 0 = .ok (.iload_n 2, 1) := by decide +kernel
theorem d_10_75_1 : decode prog_10_method_75_code 1 = .ok (.i2l, 1) := by decide +kernel
theorem d_10_75_2 : decode prog_10_method_75_code 2 = .ok (.lconst 0, 1) := by decide +kernel
theorem d_10_75_3 : decode prog_10_method_75_code 3 = .ok (.ldc2_w 506, 3) := by decide +kernel
theorem d_10_75_6 : decode prog_10_method_75_code 6 = .ok (.invokestatic 481, 3) := by decide +kernel
theorem d_10_75_9 : decode prog_10_method_75_code 9 = .ok (.ifCond .ne 5, 3) := by decide +kernel
theorem d_10_75_12 : decode prog_10_method_75_code 12 = .ok (.iconst (-1), 1) := by decide +kernel
theorem d_10_75_13 : decode prog_10_method_75_code 13 = .ok (.ireturn, 1) := by decide +kernel
theorem d_10_75_14 : decode prog_10_method_75_code 14 = .ok (.iload_n 1, 1) := by decide +kernel
theorem d_10_75_15 : decode prog_10_method_75_code 15 = .ok (.i2l, 1) := by decide +kernel
theorem d_10_75_16 : decode prog_10_method_75_code 16 = .ok (.lconst 0, 1) := by decide +kernel
theorem d_10_75_17 : decode prog_10_method_75_code 17 = .ok (.aload_n 0, 1) := by decide +kernel
theorem d_10_75_18 : decode prog_10_method_75_code 18 = .ok (.getfield 475, 3) := by decide +kernel
theorem d_10_75_21 : decode prog_10_method_75_code 21 = .ok (.iconst 1, 1) := by decide +kernel
theorem d_10_75_22 : decode prog_10_method_75_code 22 = .ok (.isub, 1) := by decide +kernel
theorem d_10_75_23 : decode prog_10_method_75_code 23 = .ok (.i2l, 1) := by decide +kernel
theorem d_10_75_24 : decode prog_10_method_75_code 24 = .ok (.invokestatic 481, 3) := by decide +kernel
theorem d_10_75_27 : decode prog_10_method_75_code 27 = .ok (.ifCond .eq 16, 3) := by decide +kernel
theorem d_10_75_30 : decode prog_10_method_75_code 30 = .ok (.aload_n 0, 1) := by decide +kernel
theorem d_10_75_31 : decode prog_10_method_75_code 31 = .ok (.getfield 472, 3) := by decide +kernel
theorem d_10_75_34 : decode prog_10_method_75_code 34 = .ok (.iconst 5, 1) := by decide +kernel
theorem d_10_75_35 : decode prog_10_method_75_code 35 = .ok (.iload_n 1, 1) := by decide +kernel
theorem d_10_75_36 : decode prog_10_method_75_code 36 = .ok (.imul, 1) := by decide +kernel
theorem d_10_75_37 : decode prog_10_method_75_code 37 = .ok (.iload_n 2, 1) := by decide +kernel
theorem d_10_75_38 : decode prog_10_method_75_code 38 = .ok (.iadd, 1) := by decide +kernel
theorem d_10_75_39 : decode prog_10_method_75_code 39 = .ok (.iaload, 1) := by decide +kernel
theorem d_10_75_40 : decode prog_10_method_75_code 40 = .ok (.goto 5, 3) := by decide +kernel
theorem d_10_75_43 : decode prog_10_method_75_code 43 = .ok (.bipush (-2), 2) := by decide +kernel
theorem d_10_75_45 : decode prog_10_method_75_code 45 = .ok (.ireturn, 1) := by decide +kernel
theorem d_10_76_0 : decode prog_10_method_76_code 0 = .ok (.aload_n 0, 1) := by decide +kernel
theorem d_10_76_1 : decode prog_10_method_76_code 1 = .ok (.getfield 475, 3) := by decide +kernel
theorem d_10_76_4 : decode prog_10_method_76_code 4 = .ok (.ifCond .lt 15, 3) := by decide +kernel
theorem d_10_76_7 : decode prog_10_method_76_code 7 = .ok (.iload_n 1, 1) := by decide +kernel
theorem d_10_76_8 : decode prog_10_method_76_code 8 = .ok (.i2l, 1) := by decide +kernel
theorem d_10_76_9 : decode prog_10_method_76_code 9 = .ok (.lconst 0, 1) := by decide +kernel
theorem d_10_76_10 : decode prog_10_method_76_code 10 = .ok (.ldc2_w 508, 3) := by decide +kernel
theorem d_10_76_13 : decode prog_10_method_76_code 13 = .ok (.invokestatic 481, 3) := by decide +kernel
theorem d_10_76_16 : decode prog_10_method_76_code 16 = .ok (.ifCond .ne 8, 3) := by decide +kernel
theorem d_10_76_19 : decode prog_10_method_76_code 19 = .ok (.bipush (-2), 2) := by decide +kernel
theorem d_10_76_21 : decode prog_10_method_76_code 21 = .ok (.goto 9, 3) := by decide +kernel
theorem d_10_76_24 : decode prog_10_method_76_code 24 = .ok (.aload_n 0, 1) := by decide +kernel
theorem d_10_76_25 : decode prog_10_method_76_code 25 = .ok (.getfield 469, 3) := by decide +kernel
theorem d_10_76_28 : decode prog_10_method_76_code 28 = .ok (.iload_n 1, 1) := by decide +kernel
theorem d_10_76_29 : decode prog_10_method_76_code 29 = .ok (.iaload, 1) := by decide +kernel
theorem d_10_76_30 : decode prog_10_method_76_code 30 = .ok (.ireturn, 1) := by decide +kernel
theorem d_10_7_0 : decode prog_10_method_7_code 0 = .ok (.aload_n 0, 1) := by decide +kernel
theorem d_10_7_1 : decode prog_10_method_7_code 1 = .ok (.aload_n 0, 1) := by decide +kernel
theorem d_10_7_2 : decode prog_10_method_7_code 2 = .ok (.getfield 58, 3) := by decide +kernel
theorem d_10_7_5 : decode prog_10_method_7_code 5 = .ok (.aload_n 1, 1) := by decide +kernel
theorem d_10_7_6 : decode prog_10_method_7_code 6 = .ok (.invokevirtual 62, 3) := by decide +kernel
theorem d_10_7_9 : decode prog_10_method_7_code 9 = .ok (.ireturn, 1) := by decide +kernel
theorem d_10_8_0 : decode prog_10_method_8_code 0 = .ok (.aload_n 0, 1) := by decide +kernel
theorem d_10_8_1 : decode prog_10_method_8_code 1 = .ok (.getfield 55, 3) := by decide +kernel
theorem d_10_8_4 : decode prog_10_method_8_code 4 = .ok (.iload_n 1, 1) := by decide +kernel
theorem d_10_8_5 : decode prog_10_method_8_code 5 = .ok (.iaload, 1) := by decide +kernel
theorem d_10_8_6 : decode prog_10_method_8_code 6 = .ok (.aload_n 0, 1) := by decide +kernel
theorem d_10_8_7 : decode prog_10_method_8_code 7 = .ok (.getfield 19, 3) := by decide +kernel
theorem d_10_8_10 : decode prog_10_method_8_code 10 = .ok (.iload_n 1, 1) := by decide +kernel
theorem d_10_8_11 : decode prog_10_method_8_code 11 = .ok (.iaload, 1) := by decide +kernel
theorem d_10_8_12 : decode prog_10_method_8_code 12 = .ok (.isub, 1) := by decide +kernel
theorem d_10_8_13 : decode prog_10_method_8_code 13 = .ok (.aload_n 0, 1) := by decide +kernel
