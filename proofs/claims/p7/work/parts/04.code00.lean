theorem d_L_0 : decode code 0 = .ok (.new 7, 3) := by decide +kernel
theorem d_L_3 : decode code 3 = .ok (.dup, 1) := by decide +kernel
theorem d_L_4 : decode code 4 = .ok (.invokespecial 9, 3) := by decide +kernel
theorem d_L_7 : decode code 7 = .ok (.astore_n 1, 1) := by decide +kernel
theorem d_L_8 : decode code 8 = .ok (.new 10, 3) := by decide +kernel
theorem d_L_11 : decode code 11 = .ok (.dup, 1) := by decide +kernel
theorem d_L_12 : decode code 12 = .ok (.invokespecial 12, 3) := by decide +kernel
theorem d_L_15 : decode code 15 = .ok (.astore_n 2, 1) := by decide +kernel
theorem d_L_16 : decode code 16 = .ok (.iconst 0, 1) := by decide +kernel
theorem d_L_17 : decode code 17 = .ok (.istore_n 3, 1) := by decide +kernel
theorem d_L_18 : decode code 18 = .ok (.iload_n 3, 1) := by decide +kernel
theorem d_L_19 : decode code 19 = .ok (.aload_n 0, 1) := by decide +kernel
theorem d_L_20 : decode code 20 = .ok (.arraylength, 1) := by decide +kernel
theorem d_L_21 : decode code 21 = .ok (.bipush 6, 2) := by decide +kernel
theorem d_L_23 : decode code 23 = .ok (.isub, 1) := by decide +kernel
theorem d_L_24 : decode code 24 = .ok (.if_icmp .gt 222, 3) := by decide +kernel
theorem d_L_27 : decode code 27 = .ok (.aload_n 0, 1) := by decide +kernel
theorem d_L_28 : decode code 28 = .ok (.iload_n 3, 1) := by decide +kernel
theorem d_L_29 : decode code 29 = .ok (.iaload, 1) := by decide +kernel
theorem d_L_30 : decode code 30 = .ok (.bipush 7, 2) := by decide +kernel
theorem d_L_32 : decode code 32 = .ok (.iand, 1) := by decide +kernel
theorem d_L_33 : decode code 33 = .ok (.tableswitch 207 0 5 #[39, 102, 125, 138, 151, 184], 39) := by decide +kernel
theorem d_L_72 : decode code 72 = .ok (.aload_n 1, 1) := by decide +kernel
theorem d_L_73 : decode code 73 = .ok (.aload_n 0, 1) := by decide +kernel
theorem d_L_74 : decode code 74 = .ok (.iload_n 3, 1) := by decide +kernel
theorem d_L_75 : decode code 75 = .ok (.iconst 1, 1) := by decide +kernel
theorem d_L_76 : decode code 76 = .ok (.iadd, 1) := by decide +kernel
theorem d_L_77 : decode code 77 = .ok (.iaload, 1) := by decide +kernel
theorem d_L_78 : decode code 78 = .ok (.aload_n 0, 1) := by decide +kernel
theorem d_L_79 : decode code 79 = .ok (.iload_n 3, 1) := by decide +kernel
theorem d_L_80 : decode code 80 = .ok (.iconst 2, 1) := by decide +kernel
theorem d_L_81 : decode code 81 = .ok (.iadd, 1) := by decide +kernel
theorem d_L_82 : decode code 82 = .ok (.iaload, 1) := by decide +kernel
theorem d_L_83 : decode code 83 = .ok (.aload_n 0, 1) := by decide +kernel
theorem d_L_84 : decode code 84 = .ok (.iload_n 3, 1) := by decide +kernel
theorem d_L_85 : decode code 85 = .ok (.iconst 3, 1) := by decide +kernel
theorem d_L_86 : decode code 86 = .ok (.iadd, 1) := by decide +kernel
theorem d_L_87 : decode code 87 = .ok (.iaload, 1) := by decide +kernel
theorem d_L_88 : decode code 88 = .ok (.aload_n 0, 1) := by decide +kernel
theorem d_L_89 : decode code 89 = .ok (.iload_n 3, 1) := by decide +kernel
theorem d_L_90 : decode code 90 = .ok (.iconst 4, 1) := by decide +kernel
theorem d_L_91 : decode code 91 = .ok (.iadd, 1) := by decide +kernel
theorem d_L_92 : decode code 92 = .ok (.iaload, 1) := by decide +kernel
theorem d_L_93 : decode code 93 = .ok (.aload_n 0, 1) := by decide +kernel
theorem d_L_94 : decode code 94 = .ok (.iload_n 3, 1) := by decide +kernel
theorem d_L_95 : decode code 95 = .ok (.iconst 5, 1) := by decide +kernel
theorem d_L_96 : decode code 96 = .ok (.iadd, 1) := by decide +kernel
theorem d_L_97 : decode code 97 = .ok (.iaload, 1) := by decide +kernel
theorem d_L_98 : decode code 98 = .ok (.invokevirtual 13, 3) := by decide +kernel
theorem d_L_101 : decode code 101 = .ok (.pop, 1) := by decide +kernel
theorem d_L_102 : decode code 102 = .ok (.aload_n 2, 1) := by decide +kernel
theorem d_L_103 : decode code 103 = .ok (.aload_n 0, 1) := by decide +kernel
theorem d_L_104 : decode code 104 = .ok (.iload_n 3, 1) := by decide +kernel
theorem d_L_105 : decode code 105 = .ok (.iconst 1, 1) := by decide +kernel
theorem d_L_106 : decode code 106 = .ok (.iadd, 1) := by decide +kernel
theorem d_L_107 : decode code 107 = .ok (.iaload, 1) := by decide +kernel
theorem d_L_108 : decode code 108 = .ok (.aload_n 0, 1) := by decide +kernel
theorem d_L_109 : decode code 109 = .ok (.iload_n 3, 1) := by decide +kernel
theorem d_L_110 : decode code 110 = .ok (.iconst 2, 1) := by decide +kernel
theorem d_L_111 : decode code 111 = .ok (.iadd, 1) := by decide +kernel
theorem d_L_112 : decode code 112 = .ok (.iaload, 1) := by decide +kernel
theorem d_L_113 : decode code 113 = .ok (.aload_n 0, 1) := by decide +kernel
theorem d_L_114 : decode code 114 = .ok (.iload_n 3, 1) := by decide +kernel
theorem d_L_115 : decode code 115 = .ok (.iconst 3, 1) := by decide +kernel
theorem d_L_116 : decode code 116 = .ok (.iadd, 1) := by decide +kernel
theorem d_L_117 : decode code 117 = .ok (.iaload, 1) := by decide +kernel
theorem d_L_118 : decode code 118 = .ok (.aload_n 0, 1) := by decide +kernel
theorem d_L_119 : decode code 119 = .ok (.iload_n 3, 1) := by decide +kernel
theorem d_L_120 : decode code 120 = .ok (.iconst 4, 1) := by decide +kernel
theorem d_L_121 : decode code 121 = .ok (.iadd, 1) := by decide +kernel
theorem d_L_122 : decode code 122 = .ok (.iaload, 1) := by decide +kernel
theorem d_L_123 : decode code 123 = .ok (.aload_n 0, 1) := by decide +kernel
theorem d_L_124 : decode code 124 = .ok (.iload_n 3, 1) := by decide +kernel
theorem d_L_125 : decode code 125 = .ok (.iconst 5, 1) := by decide +kernel
theorem d_L_126 : decode code 126 = .ok (.iadd, 1) := by decide +kernel
theorem d_L_127 : decode code 127 = .ok (.iaload, 1) := by decide +kernel
theorem d_L_128 : decode code 128 = .ok (.invokevirtual 17, 3) := by decide +kernel
theorem d_L_131 : decode code 131 = .ok (.pop, 1) := by decide +kernel
theorem d_L_132 : decode code 132 = .ok (.goto 108, 3) := by decide +kernel
theorem d_L_135 : decode code 135 = .ok (.aload_n 1, 1) := by decide +kernel
theorem d_L_136 : decode code 136 = .ok (.aload_n 0, 1) := by decide +kernel
theorem d_L_137 : decode code 137 = .ok (.iload_n 3, 1) := by decide +kernel
theorem d_L_138 : decode code 138 = .ok (.iconst 1, 1) := by decide +kernel
theorem d_L_139 : decode code 139 = .ok (.iadd, 1) := by decide +kernel
theorem d_L_140 : decode code 140 = .ok (.iaload, 1) := by decide +kernel
theorem d_L_141 : decode code 141 = .ok (.invokevirtual 18, 3) := by decide +kernel
theorem d_L_144 : decode code 144 = .ok (.pop, 1) := by decide +kernel
theorem d_L_145 : decode code 145 = .ok (.aload_n 2, 1) := by decide +kernel
theorem d_L_146 : decode code 146 = .ok (.aload_n 0, 1) := by decide +kernel
theorem d_L_147 : decode code 147 = .ok (.iload_n 3, 1) := by decide +kernel
theorem d_L_148 : decode code 148 = .ok (.iconst 1, 1) := by decide +kernel
theorem d_L_149 : decode code 149 = .ok (.iadd, 1) := by decide +kernel
theorem d_L_150 : decode code 150 = .ok (.iaload, 1) := by decide +kernel
theorem d_L_151 : decode code 151 = .ok (.invokevirtual 22, 3) := by decide +kernel
theorem d_L_154 : decode code 154 = .ok (.pop, 1) := by decide +kernel
theorem d_L_155 : decode code 155 = .ok (.goto 85, 3) := by decide +kernel
theorem d_L_158 : decode code 158 = .ok (.aload_n 1, 1) := by decide +kernel
theorem d_L_159 : decode code 159 = .ok (.invokevirtual 23, 3) := by decide +kernel
theorem d_L_162 : decode code 162 = .ok (.pop, 1) := by decide +kernel
theorem d_L_163 : decode code 163 = .ok (.aload_n 2, 1) := by decide +kernel
theorem d_L_164 : decode code 164 = .ok (.invokevirtual 27, 3) := by decide +kernel
theorem d_L_167 : decode code 167 = .ok (.pop, 1) := by decide +kernel
theorem d_L_168 : decode code 168 = .ok (.goto 72, 3) := by decide +kernel
theorem d_L_171 : decode code 171 = .ok (.aload_n 1, 1) := by decide +kernel
theorem d_L_172 : decode code 172 = .ok (.invokevirtual 28, 3) := by decide +kernel
theorem d_L_175 : decode code 175 = .ok (.pop, 1) := by decide +kernel
theorem d_L_176 : decode code 176 = .ok (.aload_n 2, 1) := by decide +kernel
theorem d_L_177 : decode code 177 = .ok (.invokevirtual 31, 3) := by decide +kernel
theorem d_L_180 : decode code 180 = .ok (.pop, 1) := by decide +kernel
theorem d_L_181 : decode code 181 = .ok (.goto 59, 3) := by decide +kernel
theorem d_L_184 : decode code 184 = .ok (.aload_n 1, 1) := by decide +kernel
theorem d_L_185 : decode code 185 = .ok (.aload_n 0, 1) := by decide +kernel
theorem d_L_186 : decode code 186 = .ok (.iload_n 3, 1) := by decide +kernel
theorem d_L_187 : decode code 187 = .ok (.iconst 1, 1) := by decide +kernel
theorem d_L_188 : decode code 188 = .ok (.iadd, 1) := by decide +kernel
theorem d_L_189 : decode code 189 = .ok (.iaload, 1) := by decide +kernel
theorem d_L_190 : decode code 190 = .ok (.aload_n 0, 1) := by decide +kernel
theorem d_L_191 : decode code 191 = .ok (.iload_n 3, 1) := by decide +kernel
theorem d_L_192 : decode code 192 = .ok (.iconst 2, 1) := by decide +kernel
theorem d_L_193 : decode code 193 = .ok (.iadd, 1) := by decide +kernel
theorem d_L_194 : decode code 194 = .ok (.iaload, 1) := by decide +kernel
theorem d_L_195 : decode code 195 = .ok (.invokevirtual 32, 3) := by decide +kernel
theorem d_L_198 : decode code 198 = .ok (.pop, 1) := by decide +kernel
theorem d_L_199 : decode code 199 = .ok (.aload_n 2, 1) := by decide +kernel
theorem d_L_200 : decode code 200 = .ok (.aload_n 0, 1) := by decide +kernel
theorem d_L_201 : decode code 201 = .ok (.iload_n 3, 1) := by decide +kernel
theorem d_L_202 : decode code 202 = .ok (.iconst 1, 1) := by decide +kernel
theorem d_L_203 : decode code 203 = .ok (.iadd, 1) := by decide +kernel
theorem d_L_204 : decode code 204 = .ok (.iaload, 1) := by decide +kernel
theorem d_L_205 : decode code 205 = .ok (.aload_n 0, 1) := by decide +kernel
theorem d_L_206 : decode code 206 = .ok (.iload_n 3, 1) := by decide +kernel
theorem d_L_207 : decode code 207 = .ok (.iconst 2, 1) := by decide +kernel
theorem d_L_208 : decode code 208 = .ok (.iadd, 1) := by decide +kernel
theorem d_L_209 : decode code 209 = .ok (.iaload, 1) := by decide +kernel
theorem d_L_210 : decode code 210 = .ok (.invokevirtual 36, 3) := by decide +kernel
theorem d_L_213 : decode code 213 = .ok (.pop, 1) := by decide +kernel
theorem d_L_214 : decode code 214 = .ok (.goto 26, 3) := by decide +kernel
theorem d_L_217 : decode code 217 = .ok (.aload_n 1, 1) := by decide +kernel
theorem d_L_218 : decode code 218 = .ok (.aload_n 0, 1) := by decide +kernel
theorem d_L_219 : decode code 219 = .ok (.iload_n 3, 1) := by decide +kernel
theorem d_L_220 : decode code 220 = .ok (.iconst 1, 1) := by decide +kernel
theorem d_L_221 : decode code 221 = .ok (.iadd, 1) := by decide +kernel
theorem d_L_222 : decode code 222 = .ok (.iaload, 1) := by decide +kernel
theorem d_L_223 : decode code 223 = .ok (.invokevirtual 37, 3) := by decide +kernel
theorem d_L_226 : decode code 226 = .ok (.aload_n 2, 1) := by decide +kernel
theorem d_L_227 : decode code 227 = .ok (.aload_n 0, 1) := by decide +kernel
theorem d_L_228 : decode code 228 = .ok (.iload_n 3, 1) := by decide +kernel
theorem d_L_229 : decode code 229 = .ok (.iconst 1, 1) := by decide +kernel
theorem d_L_230 : decode code 230 = .ok (.iadd, 1) := by decide +kernel
theorem d_L_231 : decode code 231 = .ok (.iaload, 1) := by decide +kernel
theorem d_L_232 : decode code 232 = .ok (.invokevirtual 40, 3) := by decide +kernel
theorem d_L_235 : decode code 235 = .ok (.if_icmp .eq 5, 3) := by decide +kernel
theorem d_L_238 : decode code 238 = .ok (.iconst 0, 1) := by decide +kernel
theorem d_L_239 : decode code 239 = .ok (.ireturn, 1) := by decide +kernel
theorem d_L_240 : decode code 240 = .ok (.iinc 3 6, 3) := by decide +kernel
theorem d_L_243 : decode code 243 = .ok (.goto (-225), 3) := by decide +kernel
theorem d_L_246 : decode code 246 = .ok (.iconst 1, 1) := by decide +kernel
theorem d_L_247 : decode code 247 = .ok (.ireturn, 1) := by decide +kernel
theorem d_10_10_0 : decode prog_10_method_10_code 0 = .ok (.aload_n 0, 1) := by decide +kernel
theorem d_10_10_1 : decode prog_10_method_10_code 1 = .ok (.getfield 96, 3) := by decide +kernel
theorem d_10_10_4 : decode prog_10_method_10_code 4 = .ok (.ifCond .ge 16, 3) := by decide +kernel
theorem d_10_10_7 : decode prog_10_method_10_code 7 = .ok (.aload_n 0, 1) := by decide +kernel
theorem d_10_10_8 : decode prog_10_method_10_code 8 = .ok (.aload_n 0, 1) := by decide +kernel
theorem d_10_10_9 : decode prog_10_method_10_code 9 = .ok (.getfield 19, 3) := by decide +kernel
theorem d_10_10_12 : decode prog_10_method_10_code 12 = .ok (.aload_n 0, 1) := by decide +kernel
theorem d_10_10_13 : decode prog_10_method_10_code 13 = .ok (.getfield 58, 3) := by decide +kernel
theorem d_10_10_16 : decode prog_10_method_10_code 16 = .ok (.iaload, 1) := by decide +kernel
theorem d_10_10_17 : decode prog_10_method_10_code 17 = .ok (.putfield 96, 3) := by decide +kernel
theorem d_10_10_20 : decode prog_10_method_10_code 20 = .ok (.iconst (-1), 1) := by decide +kernel
theorem d_10_10_21 : decode prog_10_method_10_code 21 = .ok (.ireturn, 1) := by decide +kernel
theorem d_10_11_0 : decode prog_10_method_11_code 0 = .ok (.aload_n 0, 1) := by decide +kernel
theorem d_10_11_1 : decode prog_10_method_11_code 1 = .ok (.getfield 99, 3) := by decide +kernel
theorem d_10_11_4 : decode prog_10_method_11_code 4 = .ok (.ifCond .lt 16, 3) := by decide +kernel
theorem d_10_11_7 : decode prog_10_method_11_code 7 = .ok (.aload_n 0, 1) := by decide +kernel
theorem d_10_11_8 : decode prog_10_method_11_code 8 = .ok (.getfield 19, 3) := by decide +kernel
theorem d_10_11_11 : decode prog_10_method_11_code 11 = .ok (.iload_n 1, 1) := by decide +kernel
theorem d_10_11_12 : decode prog_10_method_11_code 12 = .ok (.iaload, 1) := by decide +kernel
theorem d_10_11_13 : decode prog_10_method_11_code 13 = .ok (.aload_n 0, 1) := by decide +kernel
theorem d_10_11_14 : decode prog_10_method_11_code 14 = .ok (.getfield 99, 3) := by decide +kernel
theorem d_10_11_17 : decode prog_10_method_11_code 17 = .ok (.if_icmp .ge 13, 3) := by decide +kernel
theorem d_10_11_20 : decode prog_10_method_11_code 20 = .ok (.aload_n 0, 1) := by decide +kernel
theorem d_10_11_21 : decode prog_10_method_11_code 21 = .ok (.aload_n 0, 1) := by decide +kernel
theorem d_10_11_22 : decode prog_10_method_11_code 22 = .ok (.getfield 19, 3) := by decide +kernel
theorem d_10_11_25 : decode prog_10_method_11_code 25 = .ok (.iload_n 1, 1) := by decide +kernel
theorem d_10_11_26 : decode prog_10_method_11_code 26 = .ok (.iaload, 1) := by decide +kernel
theorem d_10_11_27 : decode prog_10_method_11_code 27 = .ok (.putfield 99, 3) := by decide +kernel
theorem d_10_11_30 : decode prog_10_method_11_code 30 = .ok (.return_, 1) := by decide +kernel
theorem d_10_12_0 : decode prog_10_method_12_code 0 = .ok (.aload_n 0, 1) := by decide +kernel
theorem d_10_12_1 : decode prog_10_method_12_code 1 = .ok (.aload_n 1, 1) := by decide +kernel
theorem d_10_12_2 : decode prog_10_method_12_code 2 = .ok (.invokevirtual 102, 3) := by decide +kernel
theorem d_10_12_5 : decode prog_10_method_12_code 5 = .ok (.ifCond .ne 16, 3) := by decide +kernel
theorem d_10_12_8 : decode prog_10_method_12_code 8 = .ok (.aload_n 0, 1) := by decide +kernel
theorem d_10_12_9 : decode prog_10_method_12_code 9 = .ok (.invokevirtual 106, 3) := by decide +kernel
theorem d_10_12_12 : decode prog_10_method_12_code 12 = .ok (.ifCond .le 7, 3) := by decide +kernel
theorem d_10_12_15 : decode prog_10_method_12_code 15 = .ok (.iconst 1, 1) := by decide +kernel
theorem d_10_12_16 : decode prog_10_method_12_code 16 = .ok (.goto 4, 3) := by decide +kernel
theorem d_10_12_19 : decode prog_10_method_12_code 19 = .ok (.iconst 0, 1) := by decide +kernel
theorem d_10_12_20 : decode prog_10_method_12_code 20 = .ok (.ireturn, 1) := by decide +kernel
theorem d_10_12_21 : decode prog_10_method_12_code 21 = .ok (.aload_n 0, 1) := by decide +kernel
theorem d_10_12_22 : decode prog_10_method_12_code 22 = .ok (.dup, 1) := by decide +kernel
theorem d_10_12_23 : decode prog_10_method_12_code 23 = .ok (.getfield 58, 3) := by decide +kernel
theorem d_10_12_26 : decode prog_10_method_12_code 26 = .ok (.iconst 1, 1) := by decide +kernel
theorem d_10_12_27 : decode prog_10_method_12_code 27 = .ok (.iadd, 1) := by decide +kernel
theorem d_10_12_28 : decode prog_10_method_12_code 28 = .ok (.putfield 58, 3) := by decide +kernel
theorem d_10_12_31 : decode prog_10_method_12_code 31 = .ok (.iconst 1, 1) := by decide +kernel
theorem d_10_12_32 : decode prog_10_method_12_code 32 = .ok (.ireturn, 1) := by decide +kernel
theorem d_10_13_0 : decode prog_10_method_13_code 0 = .ok (.aload_n 0, 1) := by decide +kernel
theorem d_10_13_1 : decode prog_10_method_13_code 1 = .ok (.getfield 109, 3) := by decide +kernel
theorem d_10_13_4 : decode prog_10_method_13_code 4 = .ok (.bipush 20, 2) := by decide +kernel
theorem d_10_13_6 : decode prog_10_method_13_code 6 = .ok (.if_icmp .ne 16, 3) := by decide +kernel
theorem d_10_13_9 : decode prog_10_method_13_code 9 = .ok (.aload_n 0, 1) := by decide +kernel
theorem d_10_13_10 : decode prog_10_method_13_code 10 = .ok (.invokevirtual 106, 3) := by decide +kernel
theorem d_10_13_13 : decode prog_10_method_13_code 13 = .ok (.ifCond .le 7, 3) := by decide +kernel
theorem d_10_13_16 : decode prog_10_method_13_code 16 = .ok (.iconst 1, 1) := by decide +kernel
theorem d_10_13_17 : decode prog_10_method_13_code 17 = .ok (.goto 4, 3) := by decide +kernel
theorem d_10_13_20 : decode prog_10_method_13_code 20 = .ok (.iconst 0, 1) := by decide +kernel
theorem d_10_13_21 : decode prog_10_method_13_code 21 = .ok (.ireturn, 1) := by decide +kernel
theorem d_10_13_22 : decode prog_10_method_13_code 22 = .ok (.aload_n 0, 1) := by decide +kernel
theorem d_10_13_23 : decode prog_10_method_13_code 23 = .ok (.dup, 1) := by decide +kernel
theorem d_10_13_24 : decode prog_10_method_13_code 24 = .ok (.getfield 109, 3) := by decide +kernel
theorem d_10_13_27 : decode prog_10_method_13_code 27 = .ok (.iconst 1, 1) := by decide +kernel
theorem d_10_13_28 : decode prog_10_method_13_code 28 = .ok (.iadd, 1) := by decide +kernel
theorem d_10_13_29 : decode prog_10_method_13_code 29 = .ok (.putfield 109, 3) := by decide +kernel
theorem d_10_13_32 : decode prog_10_method_13_code 32 = .ok (.iconst 1, 1) := by decide +kernel
theorem d_10_13_33 : decode prog_10_method_13_code 33 = .ok (.ireturn, 1) := by decide +kernel
theorem d_10_14_0 : decode prog_10_method_14_code 0 = .ok (.iconst 0, 1) := by decide +kernel
theorem d_10_14_1 : decode prog_10_method_14_code 1 = .ok (.istore_n 3, 1) := by decide +kernel
theorem d_10_14_2 : decode prog_10_method_14_code 2 = .ok (.iload_n 3, 1) := by decide +kernel
theorem d_10_14_3 : decode prog_10_method_14_code 3 = .ok (.aload_n 0, 1) := by decide +kernel
theorem d_10_14_4 : decode prog_10_method_14_code 4 = .ok (.getfield 112, 3) := by decide +kernel
theorem d_10_14_7 : decode prog_10_method_14_code 7 = .ok (.if_icmp .ge 35, 3) := by decide +kernel
theorem d_10_14_10 : decode prog_10_method_14_code 10 = .ok (.aload_n 0, 1) := by decide +kernel
theorem d_10_14_11 : decode prog_10_method_14_code 11 = .ok (.getfield 115, 3) := by decide +kernel
theorem d_10_14_14 : decode prog_10_method_14_code 14 = .ok (.iload_n 3, 1) := by decide +kernel
theorem d_10_14_15 : decode prog_10_method_14_code 15 = .ok (.iaload, 1) := by decide +kernel
theorem d_10_14_16 : decode prog_10_method_14_code 16 = .ok (.iload_n 1, 1) := by decide +kernel
theorem d_10_14_17 : decode prog_10_method_14_code 17 = .ok (.if_icmp .ne 19, 3) := by decide +kernel
theorem d_10_14_20 : decode prog_10_method_14_code 20 = .ok (.aload_n 0, 1) := by decide +kernel
theorem d_10_14_21 : decode prog_10_method_14_code 21 = .ok (.aload_n 0, 1) := by decide +kernel
theorem d_10_14_22 : decode prog_10_method_14_code 22 = .ok (.getfield 118, 3) := by decide +kernel
theorem d_10_14_25 : decode prog_10_method_14_code 25 = .ok (.iload_n 3, 1) := by decide +kernel
theorem d_10_14_26 : decode prog_10_method_14_code 26 = .ok (.iaload, 1) := by decide +kernel
theorem d_10_14_27 : decode prog_10_method_14_code 27 = .ok (.iload_n 2, 1) := by decide +kernel
theorem d_10_14_28 : decode prog_10_method_14_code 28 = .ok (.invokevirtual 121, 3) := by decide +kernel
theorem d_10_14_31 : decode prog_10_method_14_code 31 = .ok (.ifCond .eq 5, 3) := by decide +kernel
theorem d_10_14_34 : decode prog_10_method_14_code 34 = .ok (.iload_n 3, 1) := by decide +kernel
theorem d_10_14_35 : decode prog_10_method_14_code 35 = .ok (.ireturn, 1) := by decide +kernel
theorem d_10_14_36 : decode prog_10_method_14_code 36 = .ok (.iinc 3 1, 3) := by decide +kernel
theorem d_10_14_39 : decode prog_10_method_14_code 39 = .ok (.goto (-37), 3) := by decide +kernel
theorem d_10_14_42 : decode prog_10_method_14_code 42 = .ok (.iconst (-1), 1) := by decide +kernel
theorem d_10_14_43 : decode prog_10_method_14_code 43 = .ok (.ireturn, 1) := by decide +kernel
theorem d_10_15_0 : decode prog_10_method_15_code 0 = .ok (.iload_n 1, 1) := by decide +kernel
theorem d_10_15_1 : decode prog_10_method_15_code 1 = .ok (.istore_n 3, 1) := by decide +kernel
theorem d_10_15_2 : decode prog_10_method_15_code 2 = .ok (.iload_n 3, 1) := by decide +kernel
theorem d_10_15_3 : decode prog_10_method_15_code 3 = .ok (.ifCond .lt 29, 3) := by decide +kernel
theorem d_10_15_6 : decode prog_10_method_15_code 6 = .ok (.aload_n 0, 1) := by decide +kernel
theorem d_10_15_7 : decode prog_10_method_15_code 7 = .ok (.iload_n 3, 1) := by decide +kernel
theorem d_10_15_8 : decode prog_10_method_15_code 8 = .ok (.iload_n 2, 1) := by decide +kernel
theorem d_10_15_9 : decode prog_10_method_15_code 9 = .ok (.invokevirtual 125, 3) := by decide +kernel
theorem d_10_15_12 : decode prog_10_method_15_code 12 = .ok (.istore 4, 2) := by decide +kernel
theorem d_10_15_14 : decode prog_10_method_15_code 14 = .ok (.iload 4, 2) := by decide +kernel
theorem d_10_15_16 : decode prog_10_method_15_code 16 = .ok (.ifCond .lt 6, 3) := by decide +kernel
theorem d_10_15_19 : decode prog_10_method_15_code 19 = .ok (.iload 4, 2) := by decide +kernel
theorem d_10_15_21 : decode prog_10_method_15_code 21 = .ok (.ireturn, 1) := by decide +kernel
theorem d_10_15_22 : decode prog_10_method_15_code 22 = .ok (.aload_n 0, 1) := by decide +kernel
theorem d_10_15_23 : decode prog_10_method_15_code 23 = .ok (.getfield 129, 3) := by decide +kernel
theorem d_10_15_26 : decode prog_10_method_15_code 26 = .ok (.iload_n 3, 1) := by decide +kernel
theorem d_10_15_27 : decode prog_10_method_15_code 27 = .ok (.iaload, 1) := by decide +kernel
theorem d_10_15_28 : decode prog_10_method_15_code 28 = .ok (.istore_n 3, 1) := by decide +kernel
theorem d_10_15_29 : decode prog_10_method_15_code 29 = .ok (.goto (-27), 3) := by decide +kernel
theorem d_10_15_32 : decode prog_10_method_15_code 32 = .ok (.iconst (-1), 1) := by decide +kernel
theorem d_10_15_33 : decode prog_10_method_15_code 33 = .ok (.ireturn, 1) := by decide +kernel
theorem d_10_16_0 : decode prog_10_method_16_code 0 = .ok (.aload_n 0, 1) := by decide +kernel
theorem d_10_16_1 : decode prog_10_method_16_code 1 = .ok (.aload_n 0, 1) := by decide +kernel
theorem d_10_16_2 : decode prog_10_method_16_code 2 = .ok (.getfield 93, 3) := by decide +kernel
theorem d_10_16_5 : decode prog_10_method_16_code 5 = .ok (.iload_n 1, 1) := by decide +kernel
theorem d_10_16_6 : decode prog_10_method_16_code 6 = .ok (.invokevirtual 125, 3) := by decide +kernel
theorem d_10_16_9 : decode prog_10_method_16_code 9 = .ok (.ifCond .lt 22, 3) := by decide +kernel
theorem d_10_16_12 : decode prog_10_method_16_code 12 = .ok (.aload_n 0, 1) := by decide +kernel
theorem d_10_16_13 : decode prog_10_method_16_code 13 = .ok (.iload_n 1, 1) := by decide +kernel
theorem d_10_16_14 : decode prog_10_method_16_code 14 = .ok (.invokevirtual 132, 3) := by decide +kernel
theorem d_10_16_17 : decode prog_10_method_16_code 17 = .ok (.aload_n 0, 1) := by decide +kernel
theorem d_10_16_18 : decode prog_10_method_16_code 18 = .ok (.bipush (-2), 2) := by decide +kernel
theorem d_10_16_20 : decode prog_10_method_16_code 20 = .ok (.iload_n 1, 1) := by decide +kernel
theorem d_10_16_21 : decode prog_10_method_16_code 21 = .ok (.iload_n 2, 1) := by decide +kernel
theorem d_10_16_22 : decode prog_10_method_16_code 22 = .ok (.iload_n 3, 1) := by decide +kernel
theorem d_10_16_23 : decode prog_10_method_16_code 23 = .ok (.invokevirtual 136, 3) := by decide +kernel
theorem d_10_16_26 : decode prog_10_method_16_code 26 = .ok (.istore 4, 2) := by decide +kernel
theorem d_10_16_28 : decode prog_10_method_16_code 28 = .ok (.iload 4, 2) := by decide +kernel
theorem d_10_16_30 : decode prog_10_method_16_code 30 = .ok (.ireturn, 1) := by decide +kernel
theorem d_10_16_31 : decode prog_10_method_16_code 31 = .ok (.aload_n 0, 1) := by decide +kernel
theorem d_10_16_32 : decode prog_10_method_16_code 32 = .ok (.aload_n 0, 1) := by decide +kernel
theorem d_10_16_33 : decode prog_10_method_16_code 33 = .ok (.getfield 93, 3) := by decide +kernel
theorem d_10_16_36 : decode prog_10_method_16_code 36 = .ok (.iload_n 1, 1) := by decide +kernel
theorem d_10_16_37 : decode prog_10_method_16_code 37 = .ok (.iload_n 2, 1) := by decide +kernel
theorem d_10_16_38 : decode prog_10_method_16_code 38 = .ok (.iload_n 3, 1) := by decide +kernel
theorem d_10_16_39 : decode prog_10_method_16_code 39 = .ok (.invokevirtual 136, 3) := by decide +kernel
theorem d_10_16_42 : decode prog_10_method_16_code 42 = .ok (.ireturn, 1) := by decide +kernel
theorem d_10_17_0 : decode prog_10_method_17_code 0 = .ok (.aload_n 0, 1) := by decide +kernel
theorem d_10_17_1 : decode prog_10_method_17_code 1 = .ok (.getfield 140, 3) := by decide +kernel
theorem d_10_17_4 : decode prog_10_method_17_code 4 = .ok (.iload_n 2, 1) := by decide +kernel
theorem d_10_17_5 : decode prog_10_method_17_code 5 = .ok (.iconst 1, 1) := by decide +kernel
theorem d_10_17_6 : decode prog_10_method_17_code 6 = .ok (.bastore, 1) := by decide +kernel
theorem d_10_17_7 : decode prog_10_method_17_code 7 = .ok (.aload_n 0, 1) := by decide +kernel
theorem d_10_17_8 : decode prog_10_method_17_code 8 = .ok (.getfield 118, 3) := by decide +kernel
theorem d_10_17_11 : decode prog_10_method_17_code 11 = .ok (.aload_n 0, 1) := by decide +kernel
theorem d_10_17_12 : decode prog_10_method_17_code 12 = .ok (.getfield 112, 3) := by decide +kernel
theorem d_10_17_15 : decode prog_10_method_17_code 15 = .ok (.iload_n 2, 1) := by decide +kernel
theorem d_10_17_16 : decode prog_10_method_17_code 16 = .ok (.iastore, 1) := by decide +kernel
theorem d_10_17_17 : decode prog_10_method_17_code 17 = .ok (.aload_n 0, 1) := by decide +kernel
theorem d_10_17_18 : decode prog_10_method_17_code 18 = .ok (.getfield 144, 3) := by decide +kernel
theorem d_10_17_21 : decode prog_10_method_17_code 21 = .ok (.aload_n 0, 1) := by decide +kernel
theorem d_10_17_22 : decode prog_10_method_17_code 22 = .ok (.getfield 112, 3) := by decide +kernel
theorem d_10_17_25 : decode prog_10_method_17_code 25 = .ok (.iload_n 3, 1) := by decide +kernel
theorem d_10_17_26 : decode prog_10_method_17_code 26 = .ok (.iastore, 1) := by decide +kernel
theorem d_10_17_27 : decode prog_10_method_17_code 27 = .ok (.aload_n 0, 1) := by decide +kernel
theorem d_10_17_28 : decode prog_10_method_17_code 28 = .ok (.getfield 147, 3) := by decide +kernel
theorem d_10_17_31 : decode prog_10_method_17_code 31 = .ok (.aload_n 0, 1) := by decide +kernel
theorem d_10_17_32 : decode prog_10_method_17_code 32 = .ok (.getfield 112, 3) := by decide +kernel
theorem d_10_17_35 : decode prog_10_method_17_code 35 = .ok (.iload 4, 2) := by decide +kernel
theorem d_10_17_37 : decode prog_10_method_17_code 37 = .ok (.iastore, 1) := by decide +kernel
theorem d_10_17_38 : decode prog_10_method_17_code 38 = .ok (.aload_n 0, 1) := by decide +kernel
theorem d_10_17_39 : decode prog_10_method_17_code 39 = .ok (.getfield 115, 3) := by decide +kernel
theorem d_10_17_42 : decode prog_10_method_17_code 42 = .ok (.aload_n 0, 1) := by decide +kernel
theorem d_10_17_43 : decode prog_10_method_17_code 43 = .ok (.getfield 112, 3) := by decide +kernel
theorem d_10_17_46 : decode prog_10_method_17_code 46 = .ok (.iload_n 1, 1) := by decide +kernel
theorem d_10_17_47 : decode prog_10_method_17_code 47 = .ok (.iastore, 1) := by decide +kernel
theorem d_10_17_48 : decode prog_10_method_17_code 48 = .ok (.aload_n 0, 1) := by decide +kernel
theorem d_10_17_49 : decode prog_10_method_17_code 49 = .ok (.getfield 150, 3) := by decide +kernel
theorem d_10_17_52 : decode prog_10_method_17_code 52 = .ok (.aload_n 0, 1) := by decide +kernel
theorem d_10_17_53 : decode prog_10_method_17_code 53 = .ok (.getfield 112, 3) := by decide +kernel
theorem d_10_17_56 : decode prog_10_method_17_code 56 = .ok (.aload_n 0, 1) := by decide +kernel
theorem d_10_17_57 : decode prog_10_method_17_code 57 = .ok (.getfield 153, 3) := by decide +kernel
theorem d_10_17_60 : decode prog_10_method_17_code 60 = .ok (.aload_n 0, 1) := by decide +kernel
theorem d_10_17_61 : decode prog_10_method_17_code 61 = .ok (.getfield 93, 3) := by decide +kernel
theorem d_10_17_64 : decode prog_10_method_17_code 64 = .ok (.iaload, 1) := by decide +kernel
theorem d_10_17_65 : decode prog_10_method_17_code 65 = .ok (.iastore, 1) := by decide +kernel
theorem d_10_17_66 : decode prog_10_method_17_code 66 = .ok (.aload_n 0, 1) := by decide +kernel
theorem d_10_17_67 : decode prog_10_method_17_code 67 = .ok (.getfield 156, 3) := by decide +kernel
theorem d_10_17_70 : decode prog_10_method_17_code 70 = .ok (.aload_n 0, 1) := by decide +kernel
theorem d_10_17_71 : decode prog_10_method_17_code 71 = .ok (.getfield 112, 3) := by decide +kernel
theorem d_10_17_74 : decode prog_10_method_17_code 74 = .ok (.iconst (-1), 1) := by decide +kernel
theorem d_10_17_75 : decode prog_10_method_17_code 75 = .ok (.iastore, 1) := by decide +kernel
theorem d_10_17_76 : decode prog_10_method_17_code 76 = .ok (.aload_n 0, 1) := by decide +kernel
theorem d_10_17_77 : decode prog_10_method_17_code 77 = .ok (.getfield 159, 3) := by decide +kernel
theorem d_10_17_80 : decode prog_10_method_17_code 80 = .ok (.aload_n 0, 1) := by decide +kernel
theorem d_10_17_81 : decode prog_10_method_17_code 81 = .ok (.getfield 112, 3) := by decide +kernel
theorem d_10_17_84 : decode prog_10_method_17_code 84 = .ok (.iconst (-1), 1) := by decide +kernel
theorem d_10_17_85 : decode prog_10_method_17_code 85 = .ok (.iastore, 1) := by decide +kernel
theorem d_10_17_86 : decode prog_10_method_17_code 86 = .ok (.aload_n 0, 1) := by decide +kernel
theorem d_10_17_87 : decode prog_10_method_17_code 87 = .ok (.getfield 162, 3) := by decide +kernel
theorem d_10_17_90 : decode prog_10_method_17_code 90 = .ok (.aload_n 0, 1) := by decide +kernel
theorem d_10_17_91 : decode prog_10_method_17_code 91 = .ok (.getfield 112, 3) := by decide +kernel
theorem d_10_17_94 : decode prog_10_method_17_code 94 = .ok (.iconst 0, 1) := by decide +kernel
theorem d_10_17_95 : decode prog_10_method_17_code 95 = .ok (.bastore, 1) := by decide +kernel
theorem d_10_17_96 : decode prog_10_method_17_code 96 = .ok (.aload_n 0, 1) := by decide +kernel
theorem d_10_17_97 : decode prog_10_method_17_code 97 = .ok (.getfield 165, 3) := by decide +kernel
theorem d_10_17_100 : decode prog_10_method_17_code 100 = .ok (.aload_n 0, 1) := by decide +kernel
theorem d_10_17_101 : decode prog_10_method_17_code 101 = .ok (.getfield 112, 3) := by decide +kernel
theorem d_10_17_104 : decode prog_10_method_17_code 104 = .ok (.iconst 0, 1) := by decide +kernel
theorem d_10_17_105 : decode prog_10_method_17_code 105 = .ok (.bastore, 1) := by decide +kernel
theorem d_10_17_106 : decode prog_10_method_17_code 106 = .ok (.aload_n 0, 1) := by decide +kernel
theorem d_10_17_107 : decode prog_10_method_17_code 107 = .ok (.getfield 168, 3) := by decide +kernel
theorem d_10_17_110 : decode prog_10_method_17_code 110 = .ok (.aload_n 0, 1) := by decide +kernel
theorem d_10_17_111 : decode prog_10_method_17_code 111 = .ok (.getfield 112, 3) := by decide +kernel
theorem d_10_17_114 : decode prog_10_method_17_code 114 = .ok (.iconst 0, 1) := by decide +kernel
theorem d_10_17_115 : decode prog_10_method_17_code 115 = .ok (.bastore, 1) := by decide +kernel
theorem d_10_17_116 : decode prog_10_method_17_code 116 = .ok (.aload_n 0, 1) := by decide +kernel
theorem d_10_17_117 : decode prog_10_method_17_code 117 = .ok (.dup, 1) := by decide +kernel
theorem d_10_17_118 : decode prog_10_method_17_code 118 = .ok (.getfield 112, 3) := by decide +kernel
theorem d_10_17_121 : decode prog_10_method_17_code 121 = .ok (.iconst 1, 1) := by decide +kernel
theorem d_10_17_122 : decode prog_10_method_17_code 122 = .ok (.iadd, 1) := by decide +kernel
theorem d_10_17_123 : decode prog_10_method_17_code 123 = .ok (.putfield 112, 3) := by decide +kernel
theorem d_10_17_126 : decode prog_10_method_17_code 126 = .ok (.aload_n 0, 1) := by decide +kernel
theorem d_10_17_127 : decode prog_10_method_17_code 127 = .ok (.getfield 112, 3) := by decide +kernel
theorem d_10_17_130 : decode prog_10_method_17_code 130 = .ok (.iconst 1, 1) := by decide +kernel
theorem d_10_17_131 : decode prog_10_method_17_code 131 = .ok (.isub, 1) := by decide +kernel
theorem d_10_17_132 : decode prog_10_method_17_code 132 = .ok (.ireturn, 1) := by decide +kernel
theorem d_10_18_0 : decode prog_10_method_18_code 0 = .ok (.aload_n 0, 1) := by decide +kernel
theorem d_10_18_1 : decode prog_10_method_18_code 1 = .ok (.getfield 129, 3) := by decide +kernel
theorem d_10_18_4 : decode prog_10_method_18_code 4 = .ok (.aload_n 0, 1) := by decide +kernel
theorem d_10_18_5 : decode prog_10_method_18_code 5 = .ok (.getfield 171, 3) := by decide +kernel
theorem d_10_18_8 : decode prog_10_method_18_code 8 = .ok (.aload_n 0, 1) := by decide +kernel
theorem d_10_18_9 : decode prog_10_method_18_code 9 = .ok (.getfield 93, 3) := by decide +kernel
theorem d_10_18_12 : decode prog_10_method_18_code 12 = .ok (.iastore, 1) := by decide +kernel
theorem d_10_18_13 : decode prog_10_method_18_code 13 = .ok (.aload_n 0, 1) := by decide +kernel
theorem d_10_18_14 : decode prog_10_method_18_code 14 = .ok (.getfield 153, 3) := by decide +kernel
theorem d_10_18_17 : decode prog_10_method_18_code 17 = .ok (.aload_n 0, 1) := by decide +kernel
theorem d_10_18_18 : decode prog_10_method_18_code 18 = .ok (.getfield 171, 3) := by decide +kernel
theorem d_10_18_21 : decode prog_10_method_18_code 21 = .ok (.iload_n 1, 1) := by decide +kernel
theorem d_10_18_22 : decode prog_10_method_18_code 22 = .ok (.iastore, 1) := by decide +kernel
theorem d_10_18_23 : decode prog_10_method_18_code 23 = .ok (.aload_n 0, 1) := by decide +kernel
theorem d_10_18_24 : decode prog_10_method_18_code 24 = .ok (.getfield 174, 3) := by decide +kernel
theorem d_10_18_27 : decode prog_10_method_18_code 27 = .ok (.aload_n 0, 1) := by decide +kernel
theorem d_10_18_28 : decode prog_10_method_18_code 28 = .ok (.getfield 171, 3) := by decide +kernel
theorem d_10_18_31 : decode prog_10_method_18_code 31 = .ok (.iload_n 2, 1) := by decide +kernel
theorem d_10_18_32 : decode prog_10_method_18_code 32 = .ok (.iastore, 1) := by decide +kernel
theorem d_10_18_33 : decode prog_10_method_18_code 33 = .ok (.aload_n 0, 1) := by decide +kernel
theorem d_10_18_34 : decode prog_10_method_18_code 34 = .ok (.aload_n 0, 1) := by decide +kernel
theorem d_10_18_35 : decode prog_10_method_18_code 35 = .ok (.getfield 171, 3) := by decide +kernel
