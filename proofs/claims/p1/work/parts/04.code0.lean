theorem d_L_0 : decode code 0 = .ok (.new 7, 3) := by decide +kernel
theorem d_L_3 : decode code 3 = .ok (.dup, 1) := by decide +kernel
theorem d_L_4 : decode code 4 = .ok (.invokespecial 9, 3) := by decide +kernel
theorem d_L_7 : decode code 7 = .ok (.astore_n 1, 1) := by decide +kernel
theorem d_L_8 : decode code 8 = .ok (.new 10, 3) := by decide +kernel
theorem d_L_11 : decode code 11 = .ok (.dup, 1) := by decide +kernel
theorem d_L_12 : decode code 12 = .ok (.invokespecial 12, 3) := by decide +kernel
theorem d_L_15 : decode code 15 = .ok (.astore_n 2, 1) := by decide +kernel
theorem d_L_16 : decode code 16 = .ok (.iconst 0, 1) := by decide +kernel
theorem d_L_17 : decode code 17 = .ok (.istore_n 3, 1) := by decide +kernel
theorem d_L_18 : decode code 18 = .ok (.iload_n 3, 1) := by decide +kernel
theorem d_L_19 : decode code 19 = .ok (.aload_n 0, 1) := by decide +kernel
theorem d_L_20 : decode code 20 = .ok (.arraylength, 1) := by decide +kernel
theorem d_L_21 : decode code 21 = .ok (.bipush 6, 2) := by decide +kernel
theorem d_L_23 : decode code 23 = .ok (.isub, 1) := by decide +kernel
theorem d_L_24 : decode code 24 = .ok (.if_icmp .gt 222, 3) := by decide +kernel
theorem d_L_27 : decode code 27 = .ok (.aload_n 0, 1) := by decide +kernel
theorem d_L_28 : decode code 28 = .ok (.iload_n 3, 1) := by decide +kernel
theorem d_L_29 : decode code 29 = .ok (.iaload, 1) := by decide +kernel
theorem d_L_30 : decode code 30 = .ok (.bipush 7, 2) := by decide +kernel
theorem d_L_32 : decode code 32 = .ok (.iand, 1) := by decide +kernel
theorem d_L_33 : decode code 33 = .ok (.tableswitch 207 0 5 #[39, 102, 125, 138, 151, 184], 39) := by decide +kernel
theorem d_L_72 : decode code 72 = .ok (.aload_n 1, 1) := by decide +kernel
theorem d_L_73 : decode code 73 = .ok (.aload_n 0, 1) := by decide +kernel
theorem d_L_74 : decode code 74 = .ok (.iload_n 3, 1) := by decide +kernel
theorem d_L_75 : decode code 75 = .ok (.iconst 1, 1) := by decide +kernel
theorem d_L_76 : decode code 76 = .ok (.iadd, 1) := by decide +kernel
theorem d_L_77 : decode code 77 = .ok (.iaload, 1) := by decide +kernel
theorem d_L_78 : decode code 78 = .ok (.aload_n 0, 1) := by decide +kernel
theorem d_L_79 : decode code 79 = .ok (.iload_n 3, 1) := by decide +kernel
theorem d_L_80 : decode code 80 = .ok (.iconst 2, 1) := by decide +kernel
theorem d_L_81 : decode code 81 = .ok (.iadd, 1) := by decide +kernel
theorem d_L_82 : decode code 82 = .ok (.iaload, 1) := by decide +kernel
theorem d_L_83 : decode code 83 = .ok (.aload_n 0, 1) := by decide +kernel
theorem d_L_84 : decode code 84 = .ok (.iload_n 3, 1) := by decide +kernel
theorem d_L_85 : decode code 85 = .ok (.iconst 3, 1) := by decide +kernel
theorem d_L_86 : decode code 86 = .ok (.iadd, 1) := by decide +kernel
theorem d_L_87 : decode code 87 = .ok (.iaload, 1) := by decide +kernel
theorem d_L_88 : decode code 88 = .ok (.aload_n 0, 1) := by decide +kernel
theorem d_L_89 : decode code 89 = .ok (.iload_n 3, 1) := by decide +kernel
theorem d_L_90 : decode code 90 = .ok (.iconst 4, 1) := by decide +kernel
theorem d_L_91 : decode code 91 = .ok (.iadd, 1) := by decide +kernel
theorem d_L_92 : decode code 92 = .ok (.iaload, 1) := by decide +kernel
theorem d_L_93 : decode code 93 = .ok (.aload_n 0, 1) := by decide +kernel
theorem d_L_94 : decode code 94 = .ok (.iload_n 3, 1) := by decide +kernel
theorem d_L_95 : decode code 95 = .ok (.iconst 5, 1) := by decide +kernel
theorem d_L_96 : decode code 96 = .ok (.iadd, 1) := by decide +kernel
theorem d_L_97 : decode code 97 = .ok (.iaload, 1) := by decide +kernel
theorem d_L_98 : decode code 98 = .ok (.invokevirtual 13, 3) := by decide +kernel
theorem d_L_101 : decode code 101 = .ok (.aload_n 2, 1) := by decide +kernel
theorem d_L_102 : decode code 102 = .ok (.aload_n 0, 1) := by decide +kernel
theorem d_L_103 : decode code 103 = .ok (.iload_n 3, 1) := by decide +kernel
theorem d_L_104 : decode code 104 = .ok (.iconst 1, 1) := by decide +kernel
theorem d_L_105 : decode code 105 = .ok (.iadd, 1) := by decide +kernel
theorem d_L_106 : decode code 106 = .ok (.iaload, 1) := by decide +kernel
theorem d_L_107 : decode code 107 = .ok (.aload_n 0, 1) := by decide +kernel
theorem d_L_108 : decode code 108 = .ok (.iload_n 3, 1) := by decide +kernel
theorem d_L_109 : decode code 109 = .ok (.iconst 2, 1) := by decide +kernel
theorem d_L_110 : decode code 110 = .ok (.iadd, 1) := by decide +kernel
theorem d_L_111 : decode code 111 = .ok (.iaload, 1) := by decide +kernel
theorem d_L_112 : decode code 112 = .ok (.aload_n 0, 1) := by decide +kernel
theorem d_L_113 : decode code 113 = .ok (.iload_n 3, 1) := by decide +kernel
theorem d_L_114 : decode code 114 = .ok (.iconst 3, 1) := by decide +kernel
theorem d_L_115 : decode code 115 = .ok (.iadd, 1) := by decide +kernel
theorem d_L_116 : decode code 116 = .ok (.iaload, 1) := by decide +kernel
theorem d_L_117 : decode code 117 = .ok (.aload_n 0, 1) := by decide +kernel
theorem d_L_118 : decode code 118 = .ok (.iload_n 3, 1) := by decide +kernel
theorem d_L_119 : decode code 119 = .ok (.iconst 4, 1) := by decide +kernel
theorem d_L_120 : decode code 120 = .ok (.iadd, 1) := by decide +kernel
theorem d_L_121 : decode code 121 = .ok (.iaload, 1) := by decide +kernel
theorem d_L_122 : decode code 122 = .ok (.aload_n 0, 1) := by decide +kernel
theorem d_L_123 : decode code 123 = .ok (.iload_n 3, 1) := by decide +kernel
theorem d_L_124 : decode code 124 = .ok (.iconst 5, 1) := by decide +kernel
theorem d_L_125 : decode code 125 = .ok (.iadd, 1) := by decide +kernel
theorem d_L_126 : decode code 126 = .ok (.iaload, 1) := by decide +kernel
theorem d_L_127 : decode code 127 = .ok (.invokevirtual 17, 3) := by decide +kernel
theorem d_L_130 : decode code 130 = .ok (.if_icmp .eq 110, 3) := by decide +kernel
theorem d_L_135 : decode code 135 = .ok (.aload_n 1, 1) := by decide +kernel
theorem d_L_136 : decode code 136 = .ok (.aload_n 0, 1) := by decide +kernel
theorem d_L_137 : decode code 137 = .ok (.iload_n 3, 1) := by decide +kernel
theorem d_L_138 : decode code 138 = .ok (.iconst 1, 1) := by decide +kernel
theorem d_L_139 : decode code 139 = .ok (.iadd, 1) := by decide +kernel
theorem d_L_140 : decode code 140 = .ok (.iaload, 1) := by decide +kernel
theorem d_L_141 : decode code 141 = .ok (.invokevirtual 18, 3) := by decide +kernel
theorem d_L_144 : decode code 144 = .ok (.aload_n 2, 1) := by decide +kernel
theorem d_L_145 : decode code 145 = .ok (.aload_n 0, 1) := by decide +kernel
theorem d_L_146 : decode code 146 = .ok (.iload_n 3, 1) := by decide +kernel
theorem d_L_147 : decode code 147 = .ok (.iconst 1, 1) := by decide +kernel
theorem d_L_148 : decode code 148 = .ok (.iadd, 1) := by decide +kernel
theorem d_L_149 : decode code 149 = .ok (.iaload, 1) := by decide +kernel
theorem d_L_150 : decode code 150 = .ok (.invokevirtual 22, 3) := by decide +kernel
theorem d_L_153 : decode code 153 = .ok (.if_icmp .eq 87, 3) := by decide +kernel
theorem d_L_158 : decode code 158 = .ok (.aload_n 1, 1) := by decide +kernel
theorem d_L_159 : decode code 159 = .ok (.invokevirtual 23, 3) := by decide +kernel
theorem d_L_162 : decode code 162 = .ok (.aload_n 2, 1) := by decide +kernel
theorem d_L_163 : decode code 163 = .ok (.invokevirtual 27, 3) := by decide +kernel
theorem d_L_166 : decode code 166 = .ok (.if_icmp .eq 74, 3) := by decide +kernel
theorem d_L_171 : decode code 171 = .ok (.aload_n 1, 1) := by decide +kernel
theorem d_L_172 : decode code 172 = .ok (.invokevirtual 28, 3) := by decide +kernel
theorem d_L_175 : decode code 175 = .ok (.aload_n 2, 1) := by decide +kernel
theorem d_L_176 : decode code 176 = .ok (.invokevirtual 31, 3) := by decide +kernel
theorem d_L_179 : decode code 179 = .ok (.if_icmp .eq 61, 3) := by decide +kernel
theorem d_L_184 : decode code 184 = .ok (.aload_n 1, 1) := by decide +kernel
theorem d_L_185 : decode code 185 = .ok (.aload_n 0, 1) := by decide +kernel
theorem d_L_186 : decode code 186 = .ok (.iload_n 3, 1) := by decide +kernel
theorem d_L_187 : decode code 187 = .ok (.iconst 1, 1) := by decide +kernel
theorem d_L_188 : decode code 188 = .ok (.iadd, 1) := by decide +kernel
theorem d_L_189 : decode code 189 = .ok (.iaload, 1) := by decide +kernel
theorem d_L_190 : decode code 190 = .ok (.aload_n 0, 1) := by decide +kernel
theorem d_L_191 : decode code 191 = .ok (.iload_n 3, 1) := by decide +kernel
theorem d_L_192 : decode code 192 = .ok (.iconst 2, 1) := by decide +kernel
theorem d_L_193 : decode code 193 = .ok (.iadd, 1) := by decide +kernel
theorem d_L_194 : decode code 194 = .ok (.iaload, 1) := by decide +kernel
theorem d_L_195 : decode code 195 = .ok (.invokevirtual 32, 3) := by decide +kernel
theorem d_L_198 : decode code 198 = .ok (.aload_n 2, 1) := by decide +kernel
theorem d_L_199 : decode code 199 = .ok (.aload_n 0, 1) := by decide +kernel
theorem d_L_200 : decode code 200 = .ok (.iload_n 3, 1) := by decide +kernel
theorem d_L_201 : decode code 201 = .ok (.iconst 1, 1) := by decide +kernel
theorem d_L_202 : decode code 202 = .ok (.iadd, 1) := by decide +kernel
theorem d_L_203 : decode code 203 = .ok (.iaload, 1) := by decide +kernel
theorem d_L_204 : decode code 204 = .ok (.aload_n 0, 1) := by decide +kernel
theorem d_L_205 : decode code 205 = .ok (.iload_n 3, 1) := by decide +kernel
theorem d_L_206 : decode code 206 = .ok (.iconst 2, 1) := by decide +kernel
theorem d_L_207 : decode code 207 = .ok (.iadd, 1) := by decide +kernel
theorem d_L_208 : decode code 208 = .ok (.iaload, 1) := by decide +kernel
theorem d_L_209 : decode code 209 = .ok (.invokevirtual 36, 3) := by decide +kernel
theorem d_L_212 : decode code 212 = .ok (.if_icmp .eq 28, 3) := by decide +kernel
theorem d_L_217 : decode code 217 = .ok (.aload_n 1, 1) := by decide +kernel
theorem d_L_218 : decode code 218 = .ok (.aload_n 0, 1) := by decide +kernel
theorem d_L_219 : decode code 219 = .ok (.iload_n 3, 1) := by decide +kernel
theorem d_L_220 : decode code 220 = .ok (.iconst 1, 1) := by decide +kernel
theorem d_L_221 : decode code 221 = .ok (.iadd, 1) := by decide +kernel
theorem d_L_222 : decode code 222 = .ok (.iaload, 1) := by decide +kernel
theorem d_L_223 : decode code 223 = .ok (.invokevirtual 37, 3) := by decide +kernel
theorem d_L_226 : decode code 226 = .ok (.aload_n 2, 1) := by decide +kernel
theorem d_L_227 : decode code 227 = .ok (.aload_n 0, 1) := by decide +kernel
theorem d_L_228 : decode code 228 = .ok (.iload_n 3, 1) := by decide +kernel
theorem d_L_229 : decode code 229 = .ok (.iconst 1, 1) := by decide +kernel
theorem d_L_230 : decode code 230 = .ok (.iadd, 1) := by decide +kernel
theorem d_L_231 : decode code 231 = .ok (.iaload, 1) := by decide +kernel
theorem d_L_232 : decode code 232 = .ok (.invokevirtual 40, 3) := by decide +kernel
theorem d_L_235 : decode code 235 = .ok (.if_icmp .eq 5, 3) := by decide +kernel
theorem d_L_240 : decode code 240 = .ok (.iinc 3 6, 3) := by decide +kernel
theorem d_L_243 : decode code 243 = .ok (.goto (-225), 3) := by decide +kernel
theorem d_L_246 : decode code 246 = .ok (.iconst 1, 1) := by decide +kernel
theorem d_L_247 : decode code 247 = .ok (.ireturn, 1) := by decide +kernel
theorem d_10_10_0 : decode prog_10_method_10_code 0 = .ok (.aload_n 0, 1) := by decide +kernel
theorem d_10_10_1 : decode prog_10_method_10_code 1 = .ok (.getfield 96, 3) := by decide +kernel
theorem d_10_10_4 : decode prog_10_method_10_code 4 = .ok (.ifCond .ge 16, 3) := by decide +kernel
theorem d_10_10_7 : decode prog_10_method_10_code 7 = .ok (.aload_n 0, 1) := by decide +kernel
theorem d_10_10_8 : decode prog_10_method_10_code 8 = .ok (.aload_n 0, 1) := by decide +kernel
theorem d_10_10_9 : decode prog_10_method_10_code 9 = .ok (.getfield 19, 3) := by decide +kernel
theorem d_10_10_12 : decode prog_10_method_10_code 12 = .ok (.aload_n 0, 1) := by decide +kernel
theorem d_10_10_13 : decode prog_10_method_10_code 13 = .ok (.getfield 58, 3) := by decide +kernel
theorem d_10_10_16 : decode prog_10_method_10_code 16 = .ok (.iaload, 1) := by decide +kernel
theorem d_10_10_17 : decode prog_10_method_10_code 17 = .ok (.putfield 96, 3) := by decide +kernel
theorem d_10_10_20 : decode prog_10_method_10_code 20 = .ok (.iconst (-1), 1) := by decide +kernel
theorem d_10_10_21 : decode prog_10_method_10_code 21 = .ok (.ireturn, 1) := by decide +kernel
theorem d_10_1_0 : decode prog_10_method_1_code 0 = .ok (.lload_n 0, 1) := by decide +kernel
theorem d_10_1_1 : decode prog_10_method_1_code 1 = .ok (.lload_n 2, 1) := by decide +kernel
theorem d_10_1_2 : decode prog_10_method_1_code 2 = .ok (.lcmp, 1) := by decide +kernel
theorem d_10_1_3 : decode prog_10_method_1_code 3 = .ok (.ifCond .lt 14, 3) := by decide +kernel
theorem d_10_1_6 : decode prog_10_method_1_code 6 = .ok (.lload_n 0, 1) := by decide +kernel
theorem d_10_1_7 : decode prog_10_method_1_code 7 = .ok (.lload 4, 2) := by decide +kernel
theorem d_10_1_9 : decode prog_10_method_1_code 9 = .ok (.lcmp, 1) := by decide +kernel
theorem d_10_1_10 : decode prog_10_method_1_code 10 = .ok (.ifCond .gt 7, 3) := by decide +kernel
theorem d_10_1_13 : decode prog_10_method_1_code 13 = .ok (.iconst 1, 1) := by decide +kernel
theorem d_10_1_14 : decode prog_10_method_1_code 14 = .ok (.goto 4, 3) := by decide +kernel
theorem d_10_1_17 : decode prog_10_method_1_code 17 = .ok (.iconst 0, 1) := by decide +kernel
theorem d_10_1_18 : decode prog_10_method_1_code 18 = .ok (.ireturn, 1) := by decide +kernel
theorem d_10_20_0 : decode prog_10_method_20_code 0 = .ok (.aload_n 0, 1) := by decide +kernel
theorem d_10_20_1 : decode prog_10_method_20_code 1 = .ok (.ldc 181, 2) := by decide +kernel
theorem d_10_20_3 : decode prog_10_method_20_code 3 = .ok (.invokevirtual 102, 3) := by decide +kernel
theorem d_10_20_6 : decode prog_10_method_20_code 6 = .ok (.ifCond .ne 8, 3) := by decide +kernel
theorem d_10_20_9 : decode prog_10_method_20_code 9 = .ok (.aload_n 0, 1) := by decide +kernel
theorem d_10_20_10 : decode prog_10_method_20_code 10 = .ok (.invokevirtual 106, 3) := by decide +kernel
theorem d_10_20_13 : decode prog_10_method_20_code 13 = .ok (.ireturn, 1) := by decide +kernel
theorem d_10_5_0 : decode prog_10_method_5_code 0 = .ok (.iconst 0, 1) := by decide +kernel
theorem d_10_5_1 : decode prog_10_method_5_code 1 = .ok (.istore_n 2, 1) := by decide +kernel
theorem d_10_5_2 : decode prog_10_method_5_code 2 = .ok (.iconst 0, 1) := by decide +kernel
theorem d_10_5_3 : decode prog_10_method_5_code 3 = .ok (.istore_n 3, 1) := by decide +kernel
theorem d_10_5_4 : decode prog_10_method_5_code 4 = .ok (.iconst 1, 1) := by decide +kernel
theorem d_10_5_5 : decode prog_10_method_5_code 5 = .ok (.istore 4, 2) := by decide +kernel
theorem d_10_5_7 : decode prog_10_method_5_code 7 = .ok (.iload 4, 2) := by decide +kernel
theorem d_10_5_9 : decode prog_10_method_5_code 9 = .ok (.ifCond .eq 499, 3) := by decide +kernel
theorem d_10_5_12 : decode prog_10_method_5_code 12 = .ok (.iload_n 2, 1) := by decide +kernel
theorem d_10_5_13 : decode prog_10_method_5_code 13 = .ok (.iload_n 1, 1) := by decide +kernel
theorem d_10_5_14 : decode prog_10_method_5_code 14 = .ok (.if_icmp .ge 31, 3) := by decide +kernel
theorem d_10_5_45 : decode prog_10_method_5_code 45 = .ok (.aload_n 0, 1) := by decide +kernel
theorem d_10_5_46 : decode prog_10_method_5_code 46 = .ok (.getfield 19, 3) := by decide +kernel
theorem d_10_5_49 : decode prog_10_method_5_code 49 = .ok (.iload_n 3, 1) := by decide +kernel
theorem d_10_5_50 : decode prog_10_method_5_code 50 = .ok (.iload_n 2, 1) := by decide +kernel
theorem d_10_5_51 : decode prog_10_method_5_code 51 = .ok (.iastore, 1) := by decide +kernel
theorem d_10_5_52 : decode prog_10_method_5_code 52 = .ok (.iload_n 2, 1) := by decide +kernel
theorem d_10_5_53 : decode prog_10_method_5_code 53 = .ok (.iload_n 1, 1) := by decide +kernel
theorem d_10_5_54 : decode prog_10_method_5_code 54 = .ok (.if_icmp .ne 13, 3) := by decide +kernel
theorem d_10_5_57 : decode prog_10_method_5_code 57 = .ok (.aload_n 0, 1) := by decide +kernel
theorem d_10_5_58 : decode prog_10_method_5_code 58 = .ok (.getfield 23, 3) := by decide +kernel
theorem d_10_5_61 : decode prog_10_method_5_code 61 = .ok (.iload_n 3, 1) := by decide +kernel
theorem d_10_5_62 : decode prog_10_method_5_code 62 = .ok (.iconst 0, 1) := by decide +kernel
theorem d_10_5_63 : decode prog_10_method_5_code 63 = .ok (.iastore, 1) := by decide +kernel
theorem d_10_5_64 : decode prog_10_method_5_code 64 = .ok (.goto 405, 3) := by decide +kernel
theorem d_10_5_469 : decode prog_10_method_5_code 469 = .ok (.aload_n 0, 1) := by decide +kernel
theorem d_10_5_470 : decode prog_10_method_5_code 470 = .ok (.getfield 55, 3) := by decide +kernel
theorem d_10_5_473 : decode prog_10_method_5_code 473 = .ok (.iload_n 3, 1) := by decide +kernel
theorem d_10_5_474 : decode prog_10_method_5_code 474 = .ok (.iload_n 2, 1) := by decide +kernel
theorem d_10_5_475 : decode prog_10_method_5_code 475 = .ok (.iastore, 1) := by decide +kernel
theorem d_10_5_476 : decode prog_10_method_5_code 476 = .ok (.aload_n 0, 1) := by decide +kernel
theorem d_10_5_477 : decode prog_10_method_5_code 477 = .ok (.getfield 23, 3) := by decide +kernel
theorem d_10_5_480 : decode prog_10_method_5_code 480 = .ok (.iload_n 3, 1) := by decide +kernel
theorem d_10_5_481 : decode prog_10_method_5_code 481 = .ok (.iaload, 1) := by decide +kernel
theorem d_10_5_482 : decode prog_10_method_5_code 482 = .ok (.ifCond .eq 17, 3) := by decide +kernel
theorem d_10_5_499 : decode prog_10_method_5_code 499 = .ok (.iconst 0, 1) := by decide +kernel
theorem d_10_5_500 : decode prog_10_method_5_code 500 = .ok (.istore 4, 2) := by decide +kernel
theorem d_10_5_502 : decode prog_10_method_5_code 502 = .ok (.iinc 3 1, 3) := by decide +kernel
theorem d_10_5_505 : decode prog_10_method_5_code 505 = .ok (.goto (-498), 3) := by decide +kernel
theorem d_10_5_508 : decode prog_10_method_5_code 508 = .ok (.return_, 1) := by decide +kernel
theorem d_10_68_0 : decode prog_10_method_68_code 0 = .ok (.aload_n 0, 1) := by decide +kernel
theorem d_10_68_1 : decode prog_10_method_68_code 1 = .ok (.invokespecial 460, 3) := by decide +kernel
theorem d_10_68_4 : decode prog_10_method_68_code 4 = .ok (.aload_n 0, 1) := by decide +kernel
theorem d_10_68_5 : decode prog_10_method_68_code 5 = .ok (.sipush 3000, 3) := by decide +kernel
theorem d_10_68_8 : decode prog_10_method_68_code 8 = .ok (.newarray .byte, 2) := by decide +kernel
theorem d_10_68_10 : decode prog_10_method_68_code 10 = .ok (.putfield 15, 3) := by decide +kernel
theorem d_10_68_13 : decode prog_10_method_68_code 13 = .ok (.aload_n 0, 1) := by decide +kernel
theorem d_10_68_14 : decode prog_10_method_68_code 14 = .ok (.sipush 3001, 3) := by decide +kernel
theorem d_10_68_17 : decode prog_10_method_68_code 17 = .ok (.newarray .int, 2) := by decide +kernel
theorem d_10_68_19 : decode prog_10_method_68_code 19 = .ok (.putfield 23, 3) := by decide +kernel
theorem d_10_68_22 : decode prog_10_method_68_code 22 = .ok (.aload_n 0, 1) := by decide +kernel
theorem d_10_68_23 : decode prog_10_method_68_code 23 = .ok (.sipush 3001, 3) := by decide +kernel
theorem d_10_68_26 : decode prog_10_method_68_code 26 = .ok (.newarray .int, 2) := by decide +kernel
theorem d_10_68_28 : decode prog_10_method_68_code 28 = .ok (.putfield 19, 3) := by decide +kernel
theorem d_10_68_31 : decode prog_10_method_68_code 31 = .ok (.aload_n 0, 1) := by decide +kernel
theorem d_10_68_32 : decode prog_10_method_68_code 32 = .ok (.sipush 3001, 3) := by decide +kernel
theorem d_10_68_35 : decode prog_10_method_68_code 35 = .ok (.newarray .int, 2) := by decide +kernel
theorem d_10_68_37 : decode prog_10_method_68_code 37 = .ok (.putfield 55, 3) := by decide +kernel
theorem d_10_68_40 : decode prog_10_method_68_code 40 = .ok (.aload_n 0, 1) := by decide +kernel
theorem d_10_68_41 : decode prog_10_method_68_code 41 = .ok (.sipush 3001, 3) := by decide +kernel
theorem d_10_68_44 : decode prog_10_method_68_code 44 = .ok (.newarray .long, 2) := by decide +kernel
theorem d_10_68_46 : decode prog_10_method_68_code 46 = .ok (.putfield 49, 3) := by decide +kernel
theorem d_10_68_49 : decode prog_10_method_68_code 49 = .ok (.aload_n 0, 1) := by decide +kernel
theorem d_10_68_50 : decode prog_10_method_68_code 50 = .ok (.sipush 6000, 3) := by decide +kernel
theorem d_10_68_53 : decode prog_10_method_68_code 53 = .ok (.newarray .int, 2) := by decide +kernel
theorem d_10_68_55 : decode prog_10_method_68_code 55 = .ok (.putfield 66, 3) := by decide +kernel
theorem d_10_68_58 : decode prog_10_method_68_code 58 = .ok (.aload_n 0, 1) := by decide +kernel
theorem d_10_68_59 : decode prog_10_method_68_code 59 = .ok (.sipush 6000, 3) := by decide +kernel
theorem d_10_68_62 : decode prog_10_method_68_code 62 = .ok (.newarray .int, 2) := by decide +kernel
theorem d_10_68_64 : decode prog_10_method_68_code 64 = .ok (.putfield 72, 3) := by decide +kernel
theorem d_10_68_67 : decode prog_10_method_68_code 67 = .ok (.aload_n 0, 1) := by decide +kernel
theorem d_10_68_68 : decode prog_10_method_68_code 68 = .ok (.sipush 6000, 3) := by decide +kernel
theorem d_10_68_71 : decode prog_10_method_68_code 71 = .ok (.newarray .int, 2) := by decide +kernel
theorem d_10_68_73 : decode prog_10_method_68_code 73 = .ok (.putfield 75, 3) := by decide +kernel
theorem d_10_68_76 : decode prog_10_method_68_code 76 = .ok (.aload_n 0, 1) := by decide +kernel
theorem d_10_68_77 : decode prog_10_method_68_code 77 = .ok (.sipush 6000, 3) := by decide +kernel
theorem d_10_68_80 : decode prog_10_method_68_code 80 = .ok (.newarray .int, 2) := by decide +kernel
theorem d_10_68_82 : decode prog_10_method_68_code 82 = .ok (.putfield 78, 3) := by decide +kernel
theorem d_10_68_85 : decode prog_10_method_68_code 85 = .ok (.aload_n 0, 1) := by decide +kernel
theorem d_10_68_86 : decode prog_10_method_68_code 86 = .ok (.sipush 6000, 3) := by decide +kernel
theorem d_10_68_89 : decode prog_10_method_68_code 89 = .ok (.newarray .int, 2) := by decide +kernel
theorem d_10_68_91 : decode prog_10_method_68_code 91 = .ok (.putfield 81, 3) := by decide +kernel
theorem d_10_68_94 : decode prog_10_method_68_code 94 = .ok (.aload_n 0, 1) := by decide +kernel
theorem d_10_68_95 : decode prog_10_method_68_code 95 = .ok (.sipush 6000, 3) := by decide +kernel
theorem d_10_68_98 : decode prog_10_method_68_code 98 = .ok (.newarray .int, 2) := by decide +kernel
theorem d_10_68_100 : decode prog_10_method_68_code 100 = .ok (.putfield 84, 3) := by decide +kernel
theorem d_10_68_103 : decode prog_10_method_68_code 103 = .ok (.aload_n 0, 1) := by decide +kernel
theorem d_10_68_104 : decode prog_10_method_68_code 104 = .ok (.sipush 6000, 3) := by decide +kernel
theorem d_10_68_107 : decode prog_10_method_68_code 107 = .ok (.newarray .int, 2) := by decide +kernel
theorem d_10_68_109 : decode prog_10_method_68_code 109 = .ok (.putfield 87, 3) := by decide +kernel
theorem d_10_68_112 : decode prog_10_method_68_code 112 = .ok (.aload_n 0, 1) := by decide +kernel
theorem d_10_68_113 : decode prog_10_method_68_code 113 = .ok (.sipush 6000, 3) := by decide +kernel
theorem d_10_68_116 : decode prog_10_method_68_code 116 = .ok (.newarray .int, 2) := by decide +kernel
theorem d_10_68_118 : decode prog_10_method_68_code 118 = .ok (.putfield 90, 3) := by decide +kernel
theorem d_10_68_121 : decode prog_10_method_68_code 121 = .ok (.aload_n 0, 1) := by decide +kernel
theorem d_10_68_122 : decode prog_10_method_68_code 122 = .ok (.sipush 3000, 3) := by decide +kernel
theorem d_10_68_125 : decode prog_10_method_68_code 125 = .ok (.newarray .int, 2) := by decide +kernel
theorem d_10_68_127 : decode prog_10_method_68_code 127 = .ok (.putfield 118, 3) := by decide +kernel
theorem d_10_68_130 : decode prog_10_method_68_code 130 = .ok (.aload_n 0, 1) := by decide +kernel
theorem d_10_68_131 : decode prog_10_method_68_code 131 = .ok (.sipush 3000, 3) := by decide +kernel
theorem d_10_68_134 : decode prog_10_method_68_code 134 = .ok (.newarray .int, 2) := by decide +kernel
theorem d_10_68_136 : decode prog_10_method_68_code 136 = .ok (.putfield 144, 3) := by decide +kernel
theorem d_10_68_139 : decode prog_10_method_68_code 139 = .ok (.aload_n 0, 1) := by decide +kernel
theorem d_10_68_140 : decode prog_10_method_68_code 140 = .ok (.sipush 3000, 3) := by decide +kernel
theorem d_10_68_143 : decode prog_10_method_68_code 143 = .ok (.newarray .int, 2) := by decide +kernel
theorem d_10_68_145 : decode prog_10_method_68_code 145 = .ok (.putfield 147, 3) := by decide +kernel
theorem d_10_68_148 : decode prog_10_method_68_code 148 = .ok (.aload_n 0, 1) := by decide +kernel
theorem d_10_68_149 : decode prog_10_method_68_code 149 = .ok (.sipush 3000, 3) := by decide +kernel
theorem d_10_68_152 : decode prog_10_method_68_code 152 = .ok (.newarray .int, 2) := by decide +kernel
theorem d_10_68_154 : decode prog_10_method_68_code 154 = .ok (.putfield 115, 3) := by decide +kernel
theorem d_10_68_157 : decode prog_10_method_68_code 157 = .ok (.aload_n 0, 1) := by decide +kernel
theorem d_10_68_158 : decode prog_10_method_68_code 158 = .ok (.sipush 3000, 3) := by decide +kernel
theorem d_10_68_161 : decode prog_10_method_68_code 161 = .ok (.newarray .int, 2) := by decide +kernel
theorem d_10_68_163 : decode prog_10_method_68_code 163 = .ok (.putfield 150, 3) := by decide +kernel
theorem d_10_68_166 : decode prog_10_method_68_code 166 = .ok (.aload_n 0, 1) := by decide +kernel
theorem d_10_68_167 : decode prog_10_method_68_code 167 = .ok (.sipush 3000, 3) := by decide +kernel
theorem d_10_68_170 : decode prog_10_method_68_code 170 = .ok (.newarray .int, 2) := by decide +kernel
theorem d_10_68_172 : decode prog_10_method_68_code 172 = .ok (.putfield 273, 3) := by decide +kernel
theorem d_10_68_175 : decode prog_10_method_68_code 175 = .ok (.aload_n 0, 1) := by decide +kernel
theorem d_10_68_176 : decode prog_10_method_68_code 176 = .ok (.sipush 3000, 3) := by decide +kernel
theorem d_10_68_179 : decode prog_10_method_68_code 179 = .ok (.newarray .int, 2) := by decide +kernel
theorem d_10_68_181 : decode prog_10_method_68_code 181 = .ok (.putfield 156, 3) := by decide +kernel
theorem d_10_68_184 : decode prog_10_method_68_code 184 = .ok (.aload_n 0, 1) := by decide +kernel
theorem d_10_68_185 : decode prog_10_method_68_code 185 = .ok (.sipush 3000, 3) := by decide +kernel
theorem d_10_68_188 : decode prog_10_method_68_code 188 = .ok (.newarray .int, 2) := by decide +kernel
theorem d_10_68_190 : decode prog_10_method_68_code 190 = .ok (.putfield 159, 3) := by decide +kernel
theorem d_10_68_193 : decode prog_10_method_68_code 193 = .ok (.aload_n 0, 1) := by decide +kernel
theorem d_10_68_194 : decode prog_10_method_68_code 194 = .ok (.sipush 3000, 3) := by decide +kernel
theorem d_10_68_197 : decode prog_10_method_68_code 197 = .ok (.newarray .boolean, 2) := by decide +kernel
theorem d_10_68_199 : decode prog_10_method_68_code 199 = .ok (.putfield 162, 3) := by decide +kernel
theorem d_10_68_202 : decode prog_10_method_68_code 202 = .ok (.aload_n 0, 1) := by decide +kernel
theorem d_10_68_203 : decode prog_10_method_68_code 203 = .ok (.sipush 3000, 3) := by decide +kernel
theorem d_10_68_206 : decode prog_10_method_68_code 206 = .ok (.newarray .boolean, 2) := by decide +kernel
theorem d_10_68_208 : decode prog_10_method_68_code 208 = .ok (.putfield 165, 3) := by decide +kernel
theorem d_10_68_211 : decode prog_10_method_68_code 211 = .ok (.aload_n 0, 1) := by decide +kernel
theorem d_10_68_212 : decode prog_10_method_68_code 212 = .ok (.sipush 3000, 3) := by decide +kernel
theorem d_10_68_215 : decode prog_10_method_68_code 215 = .ok (.newarray .boolean, 2) := by decide +kernel
theorem d_10_68_217 : decode prog_10_method_68_code 217 = .ok (.putfield 168, 3) := by decide +kernel
theorem d_10_68_220 : decode prog_10_method_68_code 220 = .ok (.aload_n 0, 1) := by decide +kernel
theorem d_10_68_221 : decode prog_10_method_68_code 221 = .ok (.sipush 3000, 3) := by decide +kernel
theorem d_10_68_224 : decode prog_10_method_68_code 224 = .ok (.newarray .int, 2) := by decide +kernel
theorem d_10_68_226 : decode prog_10_method_68_code 226 = .ok (.putfield 129, 3) := by decide +kernel
theorem d_10_68_229 : decode prog_10_method_68_code 229 = .ok (.aload_n 0, 1) := by decide +kernel
theorem d_10_68_230 : decode prog_10_method_68_code 230 = .ok (.sipush 3000, 3) := by decide +kernel
theorem d_10_68_233 : decode prog_10_method_68_code 233 = .ok (.newarray .int, 2) := by decide +kernel
theorem d_10_68_235 : decode prog_10_method_68_code 235 = .ok (.putfield 153, 3) := by decide +kernel
theorem d_10_68_238 : decode prog_10_method_68_code 238 = .ok (.aload_n 0, 1) := by decide +kernel
theorem d_10_68_239 : decode prog_10_method_68_code 239 = .ok (.sipush 3000, 3) := by decide +kernel
theorem d_10_68_242 : decode prog_10_method_68_code 242 = .ok (.newarray .int, 2) := by decide +kernel
theorem d_10_68_244 : decode prog_10_method_68_code 244 = .ok (.putfield 174, 3) := by decide +kernel
theorem d_10_68_247 : decode prog_10_method_68_code 247 = .ok (.aload_n 0, 1) := by decide +kernel
theorem d_10_68_248 : decode prog_10_method_68_code 248 = .ok (.sipush 3000, 3) := by decide +kernel
theorem d_10_68_251 : decode prog_10_method_68_code 251 = .ok (.newarray .int, 2) := by decide +kernel
theorem d_10_68_253 : decode prog_10_method_68_code 253 = .ok (.putfield 247, 3) := by decide +kernel
theorem d_10_68_256 : decode prog_10_method_68_code 256 = .ok (.aload_n 0, 1) := by decide +kernel
theorem d_10_68_257 : decode prog_10_method_68_code 257 = .ok (.sipush 3001, 3) := by decide +kernel
theorem d_10_68_260 : decode prog_10_method_68_code 260 = .ok (.newarray .boolean, 2) := by decide +kernel
theorem d_10_68_262 : decode prog_10_method_68_code 262 = .ok (.putfield 140, 3) := by decide +kernel
theorem d_10_68_265 : decode prog_10_method_68_code 265 = .ok (.aload_n 0, 1) := by decide +kernel
theorem d_10_68_266 : decode prog_10_method_68_code 266 = .ok (.sipush 6000, 3) := by decide +kernel
theorem d_10_68_269 : decode prog_10_method_68_code 269 = .ok (.newarray .int, 2) := by decide +kernel
theorem d_10_68_271 : decode prog_10_method_68_code 271 = .ok (.putfield 258, 3) := by decide +kernel
theorem d_10_68_274 : decode prog_10_method_68_code 274 = .ok (.aload_n 0, 1) := by decide +kernel
theorem d_10_68_275 : decode prog_10_method_68_code 275 = .ok (.sipush 6000, 3) := by decide +kernel
theorem d_10_68_278 : decode prog_10_method_68_code 278 = .ok (.newarray .int, 2) := by decide +kernel
theorem d_10_68_280 : decode prog_10_method_68_code 280 = .ok (.putfield 261, 3) := by decide +kernel
theorem d_10_68_283 : decode prog_10_method_68_code 283 = .ok (.aload_n 0, 1) := by decide +kernel
theorem d_10_68_284 : decode prog_10_method_68_code 284 = .ok (.sipush 3000, 3) := by decide +kernel
theorem d_10_68_287 : decode prog_10_method_68_code 287 = .ok (.newarray .int, 2) := by decide +kernel
theorem d_10_68_289 : decode prog_10_method_68_code 289 = .ok (.putfield 276, 3) := by decide +kernel
theorem d_10_68_292 : decode prog_10_method_68_code 292 = .ok (.aload_n 0, 1) := by decide +kernel
theorem d_10_68_293 : decode prog_10_method_68_code 293 = .ok (.sipush 3000, 3) := by decide +kernel
theorem d_10_68_296 : decode prog_10_method_68_code 296 = .ok (.newarray .int, 2) := by decide +kernel
theorem d_10_68_298 : decode prog_10_method_68_code 298 = .ok (.putfield 279, 3) := by decide +kernel
theorem d_10_68_301 : decode prog_10_method_68_code 301 = .ok (.aload_n 0, 1) := by decide +kernel
theorem d_10_68_302 : decode prog_10_method_68_code 302 = .ok (.sipush 3000, 3) := by decide +kernel
theorem d_10_68_305 : decode prog_10_method_68_code 305 = .ok (.newarray .int, 2) := by decide +kernel
theorem d_10_68_307 : decode prog_10_method_68_code 307 = .ok (.putfield 290, 3) := by decide +kernel
theorem d_10_68_310 : decode prog_10_method_68_code 310 = .ok (.aload_n 0, 1) := by decide +kernel
theorem d_10_68_311 : decode prog_10_method_68_code 311 = .ok (.sipush 3000, 3) := by decide +kernel
theorem d_10_68_314 : decode prog_10_method_68_code 314 = .ok (.newarray .int, 2) := by decide +kernel
theorem d_10_68_316 : decode prog_10_method_68_code 316 = .ok (.putfield 466, 3) := by decide +kernel
theorem d_10_68_319 : decode prog_10_method_68_code 319 = .ok (.aload_n 0, 1) := by decide +kernel
theorem d_10_68_320 : decode prog_10_method_68_code 320 = .ok (.sipush 3000, 3) := by decide +kernel
theorem d_10_68_323 : decode prog_10_method_68_code 323 = .ok (.newarray .int, 2) := by decide +kernel
theorem d_10_68_325 : decode prog_10_method_68_code 325 = .ok (.putfield 469, 3) := by decide +kernel
theorem d_10_68_328 : decode prog_10_method_68_code 328 = .ok (.aload_n 0, 1) := by decide +kernel
theorem d_10_68_329 : decode prog_10_method_68_code 329 = .ok (.sipush 15000, 3) := by decide +kernel
theorem d_10_68_332 : decode prog_10_method_68_code 332 = .ok (.newarray .int, 2) := by decide +kernel
theorem d_10_68_334 : decode prog_10_method_68_code 334 = .ok (.putfield 472, 3) := by decide +kernel
theorem d_10_68_337 : decode prog_10_method_68_code 337 = .ok (.aload_n 0, 1) := by decide +kernel
theorem d_10_68_338 : decode prog_10_method_68_code 338 = .ok (.iconst (-1), 1) := by decide +kernel
theorem d_10_68_339 : decode prog_10_method_68_code 339 = .ok (.putfield 475, 3) := by decide +kernel
theorem d_10_68_342 : decode prog_10_method_68_code 342 = .ok (.return_, 1) := by decide +kernel
theorem d_10_69_0 : decode prog_10_method_69_code 0 = .ok (.aload_n 0, 1) := by decide +kernel
theorem d_10_69_1 : decode prog_10_method_69_code 1 = .ok (.getfield 478, 3) := by decide +kernel
theorem d_10_69_4 : decode prog_10_method_69_code 4 = .ok (.bipush 20, 2) := by decide +kernel
theorem d_10_69_6 : decode prog_10_method_69_code 6 = .ok (.iadd, 1) := by decide +kernel
theorem d_10_69_7 : decode prog_10_method_69_code 7 = .ok (.sipush 3000, 3) := by decide +kernel
theorem d_10_69_10 : decode prog_10_method_69_code 10 = .ok (.if_icmp .le 6, 3) := by decide +kernel
theorem d_10_69_16 : decode prog_10_method_69_code 16 = .ok (.iconst 5, 1) := by decide +kernel
theorem d_10_69_17 : decode prog_10_method_69_code 17 = .ok (.newarray .int, 2) := by decide +kernel
theorem d_10_69_19 : decode prog_10_method_69_code 19 = .ok (.dup, 1) := by decide +kernel
theorem d_10_69_20 : decode prog_10_method_69_code 20 = .ok (.iconst 0, 1) := by decide +kernel
theorem d_10_69_21 : decode prog_10_method_69_code 21 = .ok (.iload_n 1, 1) := by decide +kernel
theorem d_10_69_22 : decode prog_10_method_69_code 22 = .ok (.iastore, 1) := by decide +kernel
theorem d_10_69_23 : decode prog_10_method_69_code 23 = .ok (.dup, 1) := by decide +kernel
theorem d_10_69_24 : decode prog_10_method_69_code 24 = .ok (.iconst 1, 1) := by decide +kernel
theorem d_10_69_25 : decode prog_10_method_69_code 25 = .ok (.iload_n 2, 1) := by decide +kernel
theorem d_10_69_26 : decode prog_10_method_69_code 26 = .ok (.iastore, 1) := by decide +kernel
theorem d_10_69_27 : decode prog_10_method_69_code 27 = .ok (.dup, 1) := by decide +kernel
theorem d_10_69_28 : decode prog_10_method_69_code 28 = .ok (.iconst 2, 1) := by decide +kernel
theorem d_10_69_29 : decode prog_10_method_69_code 29 = .ok (.iload_n 3, 1) := by decide +kernel
theorem d_10_69_30 : decode prog_10_method_69_code 30 = .ok (.iastore, 1) := by decide +kernel
theorem d_10_69_31 : decode prog_10_method_69_code 31 = .ok (.dup, 1) := by decide +kernel
theorem d_10_69_32 : decode prog_10_method_69_code 32 = .ok (.iconst 3, 1) := by decide +kernel
theorem d_10_69_33 : decode prog_10_method_69_code 33 = .ok (.iload 4, 2) := by decide +kernel
theorem d_10_69_35 : decode prog_10_method_69_code 35 = .ok (.iastore, 1) := by decide +kernel
theorem d_10_69_36 : decode prog_10_method_69_code 36 = .ok (.dup, 1) := by decide +kernel
theorem d_10_69_37 : decode prog_10_method_69_code 37 = .ok (.iconst 4, 1) := by decide +kernel
theorem d_10_69_38 : decode prog_10_method_69_code 38 = .ok (.iload 5, 2) := by decide +kernel
theorem d_10_69_40 : decode prog_10_method_69_code 40 = .ok (.iastore, 1) := by decide +kernel
theorem d_10_69_41 : decode prog_10_method_69_code 41 = .ok (.astore 6, 2) := by decide +kernel
