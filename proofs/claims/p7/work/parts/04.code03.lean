theorem d_10_28_114 : decode prog_10_method_28_code 114 = .ok (.getfield 276, 3) := by decide +kernel
theorem d_10_28_117 : decode prog_10_method_28_code 117 = .ok (.iload_n 2, 1) := by decide +kernel
theorem d_10_28_118 : decode prog_10_method_28_code 118 = .ok (.iconst 0, 1) := by decide +kernel
theorem d_10_28_119 : decode prog_10_method_28_code 119 = .ok (.iastore, 1) := by decide +kernel
theorem d_10_28_120 : decode prog_10_method_28_code 120 = .ok (.aload_n 0, 1) := by decide +kernel
theorem d_10_28_121 : decode prog_10_method_28_code 121 = .ok (.getfield 279, 3) := by decide +kernel
theorem d_10_28_124 : decode prog_10_method_28_code 124 = .ok (.iload_n 2, 1) := by decide +kernel
theorem d_10_28_125 : decode prog_10_method_28_code 125 = .ok (.iconst 0, 1) := by decide +kernel
theorem d_10_28_126 : decode prog_10_method_28_code 126 = .ok (.iastore, 1) := by decide +kernel
theorem d_10_28_127 : decode prog_10_method_28_code 127 = .ok (.aload_n 0, 1) := by decide +kernel
theorem d_10_28_128 : decode prog_10_method_28_code 128 = .ok (.ldc_w 282, 3) := by decide +kernel
theorem d_10_28_131 : decode prog_10_method_28_code 131 = .ok (.invokevirtual 102, 3) := by decide +kernel
theorem d_10_28_134 : decode prog_10_method_28_code 134 = .ok (.ifCond .eq 13, 3) := by decide +kernel
theorem d_10_28_137 : decode prog_10_method_28_code 137 = .ok (.aload_n 0, 1) := by decide +kernel
theorem d_10_28_138 : decode prog_10_method_28_code 138 = .ok (.iload_n 2, 1) := by decide +kernel
theorem d_10_28_139 : decode prog_10_method_28_code 139 = .ok (.invokevirtual 284, 3) := by decide +kernel
theorem d_10_28_142 : decode prog_10_method_28_code 142 = .ok (.ifCond .ne 16, 3) := by decide +kernel
theorem d_10_28_145 : decode prog_10_method_28_code 145 = .ok (.iconst 0, 1) := by decide +kernel
theorem d_10_28_146 : decode prog_10_method_28_code 146 = .ok (.ireturn, 1) := by decide +kernel
theorem d_10_28_147 : decode prog_10_method_28_code 147 = .ok (.aload_n 0, 1) := by decide +kernel
theorem d_10_28_148 : decode prog_10_method_28_code 148 = .ok (.ldc 213, 2) := by decide +kernel
theorem d_10_28_150 : decode prog_10_method_28_code 150 = .ok (.invokevirtual 215, 3) := by decide +kernel
theorem d_10_28_153 : decode prog_10_method_28_code 153 = .ok (.ifCond .ne 5, 3) := by decide +kernel
theorem d_10_28_156 : decode prog_10_method_28_code 156 = .ok (.iconst 0, 1) := by decide +kernel
theorem d_10_28_157 : decode prog_10_method_28_code 157 = .ok (.ireturn, 1) := by decide +kernel
theorem d_10_28_158 : decode prog_10_method_28_code 158 = .ok (.aload_n 0, 1) := by decide +kernel
theorem d_10_28_159 : decode prog_10_method_28_code 159 = .ok (.invokevirtual 227, 3) := by decide +kernel
theorem d_10_28_162 : decode prog_10_method_28_code 162 = .ok (.istore 5, 2) := by decide +kernel
theorem d_10_28_164 : decode prog_10_method_28_code 164 = .ok (.iload 5, 2) := by decide +kernel
theorem d_10_28_166 : decode prog_10_method_28_code 166 = .ok (.ifCond .ge 5, 3) := by decide +kernel
theorem d_10_28_169 : decode prog_10_method_28_code 169 = .ok (.iconst 0, 1) := by decide +kernel
theorem d_10_28_170 : decode prog_10_method_28_code 170 = .ok (.ireturn, 1) := by decide +kernel
theorem d_10_28_171 : decode prog_10_method_28_code 171 = .ok (.aload_n 0, 1) := by decide +kernel
theorem d_10_28_172 : decode prog_10_method_28_code 172 = .ok (.getfield 156, 3) := by decide +kernel
theorem d_10_28_175 : decode prog_10_method_28_code 175 = .ok (.iload_n 2, 1) := by decide +kernel
theorem d_10_28_176 : decode prog_10_method_28_code 176 = .ok (.iload 5, 2) := by decide +kernel
theorem d_10_28_178 : decode prog_10_method_28_code 178 = .ok (.iastore, 1) := by decide +kernel
theorem d_10_28_179 : decode prog_10_method_28_code 179 = .ok (.aload_n 0, 1) := by decide +kernel
theorem d_10_28_180 : decode prog_10_method_28_code 180 = .ok (.iload_n 3, 1) := by decide +kernel
theorem d_10_28_181 : decode prog_10_method_28_code 181 = .ok (.putfield 93, 3) := by decide +kernel
theorem d_10_28_184 : decode prog_10_method_28_code 184 = .ok (.aload_n 0, 1) := by decide +kernel
theorem d_10_28_185 : decode prog_10_method_28_code 185 = .ok (.iload 4, 2) := by decide +kernel
theorem d_10_28_187 : decode prog_10_method_28_code 187 = .ok (.putfield 190, 3) := by decide +kernel
theorem d_10_28_190 : decode prog_10_method_28_code 190 = .ok (.aload_n 0, 1) := by decide +kernel
theorem d_10_28_191 : decode prog_10_method_28_code 191 = .ok (.iconst (-1), 1) := by decide +kernel
theorem d_10_28_192 : decode prog_10_method_28_code 192 = .ok (.putfield 204, 3) := by decide +kernel
theorem d_10_28_195 : decode prog_10_method_28_code 195 = .ok (.aload_n 0, 1) := by decide +kernel
theorem d_10_28_196 : decode prog_10_method_28_code 196 = .ok (.dup, 1) := by decide +kernel
theorem d_10_28_197 : decode prog_10_method_28_code 197 = .ok (.getfield 109, 3) := by decide +kernel
theorem d_10_28_200 : decode prog_10_method_28_code 200 = .ok (.iconst 1, 1) := by decide +kernel
theorem d_10_28_201 : decode prog_10_method_28_code 201 = .ok (.isub, 1) := by decide +kernel
theorem d_10_28_202 : decode prog_10_method_28_code 202 = .ok (.putfield 109, 3) := by decide +kernel
theorem d_10_28_205 : decode prog_10_method_28_code 205 = .ok (.iconst 1, 1) := by decide +kernel
theorem d_10_28_206 : decode prog_10_method_28_code 206 = .ok (.ireturn, 1) := by decide +kernel
theorem d_10_29_0 : decode prog_10_method_29_code 0 = .ok (.aload_n 0, 1) := by decide +kernel
theorem d_10_29_1 : decode prog_10_method_29_code 1 = .ok (.getfield 279, 3) := by decide +kernel
theorem d_10_29_4 : decode prog_10_method_29_code 4 = .ok (.iload_n 1, 1) := by decide +kernel
theorem d_10_29_5 : decode prog_10_method_29_code 5 = .ok (.aload_n 0, 1) := by decide +kernel
theorem d_10_29_6 : decode prog_10_method_29_code 6 = .ok (.getfield 112, 3) := by decide +kernel
theorem d_10_29_9 : decode prog_10_method_29_code 9 = .ok (.iastore, 1) := by decide +kernel
theorem d_10_29_10 : decode prog_10_method_29_code 10 = .ok (.aload_n 0, 1) := by decide +kernel
theorem d_10_29_11 : decode prog_10_method_29_code 11 = .ok (.getfield 276, 3) := by decide +kernel
theorem d_10_29_14 : decode prog_10_method_29_code 14 = .ok (.iload_n 1, 1) := by decide +kernel
theorem d_10_29_15 : decode prog_10_method_29_code 15 = .ok (.iconst 0, 1) := by decide +kernel
theorem d_10_29_16 : decode prog_10_method_29_code 16 = .ok (.iastore, 1) := by decide +kernel
theorem d_10_29_17 : decode prog_10_method_29_code 17 = .ok (.aload_n 0, 1) := by decide +kernel
theorem d_10_29_18 : decode prog_10_method_29_code 18 = .ok (.dup, 1) := by decide +kernel
theorem d_10_29_19 : decode prog_10_method_29_code 19 = .ok (.getfield 58, 3) := by decide +kernel
theorem d_10_29_22 : decode prog_10_method_29_code 22 = .ok (.iconst 1, 1) := by decide +kernel
theorem d_10_29_23 : decode prog_10_method_29_code 23 = .ok (.iadd, 1) := by decide +kernel
theorem d_10_29_24 : decode prog_10_method_29_code 24 = .ok (.putfield 58, 3) := by decide +kernel
theorem d_10_29_27 : decode prog_10_method_29_code 27 = .ok (.aload_n 0, 1) := by decide +kernel
theorem d_10_29_28 : decode prog_10_method_29_code 28 = .ok (.getfield 23, 3) := by decide +kernel
theorem d_10_29_31 : decode prog_10_method_29_code 31 = .ok (.aload_n 0, 1) := by decide +kernel
theorem d_10_29_32 : decode prog_10_method_29_code 32 = .ok (.getfield 58, 3) := by decide +kernel
theorem d_10_29_35 : decode prog_10_method_29_code 35 = .ok (.iaload, 1) := by decide +kernel
theorem d_10_29_36 : decode prog_10_method_29_code 36 = .ok (.iconst 1, 1) := by decide +kernel
theorem d_10_29_37 : decode prog_10_method_29_code 37 = .ok (.if_icmp .ne 14, 3) := by decide +kernel
theorem d_10_29_40 : decode prog_10_method_29_code 40 = .ok (.aload_n 0, 1) := by decide +kernel
theorem d_10_29_41 : decode prog_10_method_29_code 41 = .ok (.getfield 276, 3) := by decide +kernel
theorem d_10_29_44 : decode prog_10_method_29_code 44 = .ok (.iload_n 1, 1) := by decide +kernel
theorem d_10_29_45 : decode prog_10_method_29_code 45 = .ok (.iaload, 1) := by decide +kernel
theorem d_10_29_46 : decode prog_10_method_29_code 46 = .ok (.bipush 6, 2) := by decide +kernel
theorem d_10_29_48 : decode prog_10_method_29_code 48 = .ok (.if_icmp .ne 16, 3) := by decide +kernel
theorem d_10_29_51 : decode prog_10_method_29_code 51 = .ok (.aload_n 0, 1) := by decide +kernel
theorem d_10_29_52 : decode prog_10_method_29_code 52 = .ok (.invokevirtual 106, 3) := by decide +kernel
theorem d_10_29_55 : decode prog_10_method_29_code 55 = .ok (.ifCond .le 7, 3) := by decide +kernel
theorem d_10_29_58 : decode prog_10_method_29_code 58 = .ok (.iconst 1, 1) := by decide +kernel
theorem d_10_29_59 : decode prog_10_method_29_code 59 = .ok (.goto 4, 3) := by decide +kernel
theorem d_10_29_62 : decode prog_10_method_29_code 62 = .ok (.iconst 0, 1) := by decide +kernel
theorem d_10_29_63 : decode prog_10_method_29_code 63 = .ok (.ireturn, 1) := by decide +kernel
theorem d_10_29_64 : decode prog_10_method_29_code 64 = .ok (.aload_n 0, 1) := by decide +kernel
theorem d_10_29_65 : decode prog_10_method_29_code 65 = .ok (.aload_n 0, 1) := by decide +kernel
theorem d_10_29_66 : decode prog_10_method_29_code 66 = .ok (.getfield 58, 3) := by decide +kernel
theorem d_10_29_69 : decode prog_10_method_29_code 69 = .ok (.iconst 5, 1) := by decide +kernel
theorem d_10_29_70 : decode prog_10_method_29_code 70 = .ok (.iconst 0, 1) := by decide +kernel
theorem d_10_29_71 : decode prog_10_method_29_code 71 = .ok (.invokevirtual 220, 3) := by decide +kernel
theorem d_10_29_74 : decode prog_10_method_29_code 74 = .ok (.pop, 1) := by decide +kernel
theorem d_10_29_75 : decode prog_10_method_29_code 75 = .ok (.aload_n 0, 1) := by decide +kernel
theorem d_10_29_76 : decode prog_10_method_29_code 76 = .ok (.getfield 276, 3) := by decide +kernel
theorem d_10_29_79 : decode prog_10_method_29_code 79 = .ok (.iload_n 1, 1) := by decide +kernel
theorem d_10_29_80 : decode prog_10_method_29_code 80 = .ok (.dup2, 1) := by decide +kernel
theorem d_10_29_81 : decode prog_10_method_29_code 81 = .ok (.iaload, 1) := by decide +kernel
theorem d_10_29_82 : decode prog_10_method_29_code 82 = .ok (.iconst 1, 1) := by decide +kernel
theorem d_10_29_83 : decode prog_10_method_29_code 83 = .ok (.iadd, 1) := by decide +kernel
theorem d_10_29_84 : decode prog_10_method_29_code 84 = .ok (.iastore, 1) := by decide +kernel
theorem d_10_29_85 : decode prog_10_method_29_code 85 = .ok (.aload_n 0, 1) := by decide +kernel
theorem d_10_29_86 : decode prog_10_method_29_code 86 = .ok (.dup, 1) := by decide +kernel
theorem d_10_29_87 : decode prog_10_method_29_code 87 = .ok (.getfield 58, 3) := by decide +kernel
theorem d_10_29_90 : decode prog_10_method_29_code 90 = .ok (.iconst 1, 1) := by decide +kernel
theorem d_10_29_91 : decode prog_10_method_29_code 91 = .ok (.iadd, 1) := by decide +kernel
theorem d_10_29_92 : decode prog_10_method_29_code 92 = .ok (.putfield 58, 3) := by decide +kernel
theorem d_10_29_95 : decode prog_10_method_29_code 95 = .ok (.aload_n 0, 1) := by decide +kernel
theorem d_10_29_96 : decode prog_10_method_29_code 96 = .ok (.ldc 253, 2) := by decide +kernel
theorem d_10_29_98 : decode prog_10_method_29_code 98 = .ok (.invokevirtual 102, 3) := by decide +kernel
theorem d_10_29_101 : decode prog_10_method_29_code 101 = .ok (.ifCond .ne (-84), 3) := by decide +kernel
theorem d_10_29_104 : decode prog_10_method_29_code 104 = .ok (.aload_n 0, 1) := by decide +kernel
theorem d_10_29_105 : decode prog_10_method_29_code 105 = .ok (.ldc_w 287, 3) := by decide +kernel
theorem d_10_29_108 : decode prog_10_method_29_code 108 = .ok (.invokevirtual 215, 3) := by decide +kernel
theorem d_10_29_111 : decode prog_10_method_29_code 111 = .ok (.ifCond .eq 12, 3) := by decide +kernel
theorem d_10_29_114 : decode prog_10_method_29_code 114 = .ok (.aload_n 0, 1) := by decide +kernel
theorem d_10_29_115 : decode prog_10_method_29_code 115 = .ok (.ldc 213, 2) := by decide +kernel
theorem d_10_29_117 : decode prog_10_method_29_code 117 = .ok (.invokevirtual 215, 3) := by decide +kernel
theorem d_10_29_120 : decode prog_10_method_29_code 120 = .ok (.ifCond .ne 5, 3) := by decide +kernel
theorem d_10_29_123 : decode prog_10_method_29_code 123 = .ok (.iconst 0, 1) := by decide +kernel
theorem d_10_29_124 : decode prog_10_method_29_code 124 = .ok (.ireturn, 1) := by decide +kernel
theorem d_10_29_125 : decode prog_10_method_29_code 125 = .ok (.aload_n 0, 1) := by decide +kernel
theorem d_10_29_126 : decode prog_10_method_29_code 126 = .ok (.ldc_w 289, 3) := by decide +kernel
theorem d_10_29_129 : decode prog_10_method_29_code 129 = .ok (.invokevirtual 102, 3) := by decide +kernel
theorem d_10_29_132 : decode prog_10_method_29_code 132 = .ok (.ifCond .eq 133, 3) := by decide +kernel
theorem d_10_29_135 : decode prog_10_method_29_code 135 = .ok (.aload_n 0, 1) := by decide +kernel
theorem d_10_29_136 : decode prog_10_method_29_code 136 = .ok (.dup, 1) := by decide +kernel
theorem d_10_29_137 : decode prog_10_method_29_code 137 = .ok (.getfield 58, 3) := by decide +kernel
theorem d_10_29_140 : decode prog_10_method_29_code 140 = .ok (.iconst 1, 1) := by decide +kernel
theorem d_10_29_141 : decode prog_10_method_29_code 141 = .ok (.iadd, 1) := by decide +kernel
theorem d_10_29_142 : decode prog_10_method_29_code 142 = .ok (.putfield 58, 3) := by decide +kernel
theorem d_10_29_145 : decode prog_10_method_29_code 145 = .ok (.aload_n 0, 1) := by decide +kernel
theorem d_10_29_146 : decode prog_10_method_29_code 146 = .ok (.getfield 23, 3) := by decide +kernel
theorem d_10_29_149 : decode prog_10_method_29_code 149 = .ok (.aload_n 0, 1) := by decide +kernel
theorem d_10_29_150 : decode prog_10_method_29_code 150 = .ok (.getfield 58, 3) := by decide +kernel
theorem d_10_29_153 : decode prog_10_method_29_code 153 = .ok (.iaload, 1) := by decide +kernel
theorem d_10_29_154 : decode prog_10_method_29_code 154 = .ok (.iconst 1, 1) := by decide +kernel
theorem d_10_29_155 : decode prog_10_method_29_code 155 = .ok (.if_icmp .eq 16, 3) := by decide +kernel
theorem d_10_29_158 : decode prog_10_method_29_code 158 = .ok (.aload_n 0, 1) := by decide +kernel
theorem d_10_29_159 : decode prog_10_method_29_code 159 = .ok (.invokevirtual 106, 3) := by decide +kernel
theorem d_10_29_162 : decode prog_10_method_29_code 162 = .ok (.ifCond .le 7, 3) := by decide +kernel
theorem d_10_29_165 : decode prog_10_method_29_code 165 = .ok (.iconst 1, 1) := by decide +kernel
theorem d_10_29_166 : decode prog_10_method_29_code 166 = .ok (.goto 4, 3) := by decide +kernel
theorem d_10_29_169 : decode prog_10_method_29_code 169 = .ok (.iconst 0, 1) := by decide +kernel
theorem d_10_29_170 : decode prog_10_method_29_code 170 = .ok (.ireturn, 1) := by decide +kernel
theorem d_10_29_171 : decode prog_10_method_29_code 171 = .ok (.aload_n 0, 1) := by decide +kernel
theorem d_10_29_172 : decode prog_10_method_29_code 172 = .ok (.aload_n 0, 1) := by decide +kernel
theorem d_10_29_173 : decode prog_10_method_29_code 173 = .ok (.getfield 93, 3) := by decide +kernel
theorem d_10_29_176 : decode prog_10_method_29_code 176 = .ok (.aload_n 0, 1) := by decide +kernel
theorem d_10_29_177 : decode prog_10_method_29_code 177 = .ok (.getfield 58, 3) := by decide +kernel
theorem d_10_29_180 : decode prog_10_method_29_code 180 = .ok (.invokevirtual 125, 3) := by decide +kernel
theorem d_10_29_183 : decode prog_10_method_29_code 183 = .ok (.istore_n 2, 1) := by decide +kernel
theorem d_10_29_184 : decode prog_10_method_29_code 184 = .ok (.aload_n 0, 1) := by decide +kernel
theorem d_10_29_185 : decode prog_10_method_29_code 185 = .ok (.getfield 140, 3) := by decide +kernel
theorem d_10_29_188 : decode prog_10_method_29_code 188 = .ok (.aload_n 0, 1) := by decide +kernel
theorem d_10_29_189 : decode prog_10_method_29_code 189 = .ok (.getfield 58, 3) := by decide +kernel
theorem d_10_29_192 : decode prog_10_method_29_code 192 = .ok (.iconst 1, 1) := by decide +kernel
theorem d_10_29_193 : decode prog_10_method_29_code 193 = .ok (.bastore, 1) := by decide +kernel
theorem d_10_29_194 : decode prog_10_method_29_code 194 = .ok (.iload_n 2, 1) := by decide +kernel
theorem d_10_29_195 : decode prog_10_method_29_code 195 = .ok (.ifCond .lt 12, 3) := by decide +kernel
theorem d_10_29_198 : decode prog_10_method_29_code 198 = .ok (.aload_n 0, 1) := by decide +kernel
theorem d_10_29_199 : decode prog_10_method_29_code 199 = .ok (.getfield 162, 3) := by decide +kernel
theorem d_10_29_202 : decode prog_10_method_29_code 202 = .ok (.iload_n 2, 1) := by decide +kernel
theorem d_10_29_203 : decode prog_10_method_29_code 203 = .ok (.baload, 1) := by decide +kernel
theorem d_10_29_204 : decode prog_10_method_29_code 204 = .ok (.ifCond .eq 14, 3) := by decide +kernel
theorem d_10_29_207 : decode prog_10_method_29_code 207 = .ok (.aload_n 0, 1) := by decide +kernel
theorem d_10_29_208 : decode prog_10_method_29_code 208 = .ok (.aload_n 0, 1) := by decide +kernel
theorem d_10_29_209 : decode prog_10_method_29_code 209 = .ok (.getfield 58, 3) := by decide +kernel
theorem d_10_29_212 : decode prog_10_method_29_code 212 = .ok (.invokevirtual 132, 3) := by decide +kernel
theorem d_10_29_215 : decode prog_10_method_29_code 215 = .ok (.goto 20, 3) := by decide +kernel
theorem d_10_29_218 : decode prog_10_method_29_code 218 = .ok (.aload_n 0, 1) := by decide +kernel
theorem d_10_29_219 : decode prog_10_method_29_code 219 = .ok (.getfield 162, 3) := by decide +kernel
theorem d_10_29_222 : decode prog_10_method_29_code 222 = .ok (.iload_n 2, 1) := by decide +kernel
theorem d_10_29_223 : decode prog_10_method_29_code 223 = .ok (.iconst 1, 1) := by decide +kernel
theorem d_10_29_224 : decode prog_10_method_29_code 224 = .ok (.bastore, 1) := by decide +kernel
theorem d_10_29_225 : decode prog_10_method_29_code 225 = .ok (.aload_n 0, 1) := by decide +kernel
theorem d_10_29_226 : decode prog_10_method_29_code 226 = .ok (.getfield 290, 3) := by decide +kernel
theorem d_10_29_229 : decode prog_10_method_29_code 229 = .ok (.iload_n 2, 1) := by decide +kernel
theorem d_10_29_230 : decode prog_10_method_29_code 230 = .ok (.aload_n 0, 1) := by decide +kernel
theorem d_10_29_231 : decode prog_10_method_29_code 231 = .ok (.getfield 58, 3) := by decide +kernel
theorem d_10_29_234 : decode prog_10_method_29_code 234 = .ok (.iastore, 1) := by decide +kernel
theorem d_10_29_235 : decode prog_10_method_29_code 235 = .ok (.aload_n 0, 1) := by decide +kernel
theorem d_10_29_236 : decode prog_10_method_29_code 236 = .ok (.dup, 1) := by decide +kernel
theorem d_10_29_237 : decode prog_10_method_29_code 237 = .ok (.getfield 58, 3) := by decide +kernel
theorem d_10_29_240 : decode prog_10_method_29_code 240 = .ok (.iconst 1, 1) := by decide +kernel
theorem d_10_29_241 : decode prog_10_method_29_code 241 = .ok (.iadd, 1) := by decide +kernel
theorem d_10_29_242 : decode prog_10_method_29_code 242 = .ok (.putfield 58, 3) := by decide +kernel
theorem d_10_29_245 : decode prog_10_method_29_code 245 = .ok (.aload_n 0, 1) := by decide +kernel
theorem d_10_29_246 : decode prog_10_method_29_code 246 = .ok (.ldc 253, 2) := by decide +kernel
theorem d_10_29_248 : decode prog_10_method_29_code 248 = .ok (.invokevirtual 102, 3) := by decide +kernel
theorem d_10_29_251 : decode prog_10_method_29_code 251 = .ok (.ifCond .ne (-116), 3) := by decide +kernel
theorem d_10_29_254 : decode prog_10_method_29_code 254 = .ok (.aload_n 0, 1) := by decide +kernel
theorem d_10_29_255 : decode prog_10_method_29_code 255 = .ok (.ldc 213, 2) := by decide +kernel
theorem d_10_29_257 : decode prog_10_method_29_code 257 = .ok (.invokevirtual 215, 3) := by decide +kernel
theorem d_10_29_260 : decode prog_10_method_29_code 260 = .ok (.ifCond .ne 5, 3) := by decide +kernel
theorem d_10_29_263 : decode prog_10_method_29_code 263 = .ok (.iconst 0, 1) := by decide +kernel
theorem d_10_29_264 : decode prog_10_method_29_code 264 = .ok (.ireturn, 1) := by decide +kernel
theorem d_10_29_265 : decode prog_10_method_29_code 265 = .ok (.aload_n 0, 1) := by decide +kernel
theorem d_10_29_266 : decode prog_10_method_29_code 266 = .ok (.invokevirtual 198, 3) := by decide +kernel
theorem d_10_29_269 : decode prog_10_method_29_code 269 = .ok (.ifCond .ne 13, 3) := by decide +kernel
theorem d_10_29_272 : decode prog_10_method_29_code 272 = .ok (.aload_n 0, 1) := by decide +kernel
theorem d_10_29_273 : decode prog_10_method_29_code 273 = .ok (.ldc_w 293, 3) := by decide +kernel
theorem d_10_29_276 : decode prog_10_method_29_code 276 = .ok (.invokevirtual 102, 3) := by decide +kernel
theorem d_10_29_279 : decode prog_10_method_29_code 279 = .ok (.ifCond .eq 84, 3) := by decide +kernel
theorem d_10_29_282 : decode prog_10_method_29_code 282 = .ok (.aload_n 0, 1) := by decide +kernel
theorem d_10_29_283 : decode prog_10_method_29_code 283 = .ok (.ldc 177, 2) := by decide +kernel
theorem d_10_29_285 : decode prog_10_method_29_code 285 = .ok (.invokevirtual 102, 3) := by decide +kernel
theorem d_10_29_288 : decode prog_10_method_29_code 288 = .ok (.ifCond .eq 7, 3) := by decide +kernel
theorem d_10_29_291 : decode prog_10_method_29_code 291 = .ok (.iconst 1, 1) := by decide +kernel
theorem d_10_29_292 : decode prog_10_method_29_code 292 = .ok (.goto 18, 3) := by decide +kernel
theorem d_10_29_295 : decode prog_10_method_29_code 295 = .ok (.aload_n 0, 1) := by decide +kernel
theorem d_10_29_296 : decode prog_10_method_29_code 296 = .ok (.ldc 179, 2) := by decide +kernel
theorem d_10_29_298 : decode prog_10_method_29_code 298 = .ok (.invokevirtual 102, 3) := by decide +kernel
theorem d_10_29_301 : decode prog_10_method_29_code 301 = .ok (.ifCond .eq 7, 3) := by decide +kernel
theorem d_10_29_304 : decode prog_10_method_29_code 304 = .ok (.iconst 2, 1) := by decide +kernel
theorem d_10_29_305 : decode prog_10_method_29_code 305 = .ok (.goto 5, 3) := by decide +kernel
theorem d_10_29_308 : decode prog_10_method_29_code 308 = .ok (.bipush 8, 2) := by decide +kernel
theorem d_10_29_310 : decode prog_10_method_29_code 310 = .ok (.istore_n 2, 1) := by decide +kernel
theorem d_10_29_311 : decode prog_10_method_29_code 311 = .ok (.aload_n 0, 1) := by decide +kernel
theorem d_10_29_312 : decode prog_10_method_29_code 312 = .ok (.dup, 1) := by decide +kernel
theorem d_10_29_313 : decode prog_10_method_29_code 313 = .ok (.getfield 58, 3) := by decide +kernel
theorem d_10_29_316 : decode prog_10_method_29_code 316 = .ok (.iconst 1, 1) := by decide +kernel
theorem d_10_29_317 : decode prog_10_method_29_code 317 = .ok (.iadd, 1) := by decide +kernel
theorem d_10_29_318 : decode prog_10_method_29_code 318 = .ok (.putfield 58, 3) := by decide +kernel
theorem d_10_29_321 : decode prog_10_method_29_code 321 = .ok (.iload_n 2, 1) := by decide +kernel
theorem d_10_29_322 : decode prog_10_method_29_code 322 = .ok (.bipush 8, 2) := by decide +kernel
theorem d_10_29_324 : decode prog_10_method_29_code 324 = .ok (.if_icmp .eq 26, 3) := by decide +kernel
theorem d_10_29_327 : decode prog_10_method_29_code 327 = .ok (.aload_n 0, 1) := by decide +kernel
theorem d_10_29_328 : decode prog_10_method_29_code 328 = .ok (.ldc 242, 2) := by decide +kernel
theorem d_10_29_330 : decode prog_10_method_29_code 330 = .ok (.invokevirtual 102, 3) := by decide +kernel
theorem d_10_29_333 : decode prog_10_method_29_code 333 = .ok (.ifCond .eq 17, 3) := by decide +kernel
theorem d_10_29_336 : decode prog_10_method_29_code 336 = .ok (.iload_n 2, 1) := by decide +kernel
theorem d_10_29_337 : decode prog_10_method_29_code 337 = .ok (.iconst 4, 1) := by decide +kernel
theorem d_10_29_338 : decode prog_10_method_29_code 338 = .ok (.ior, 1) := by decide +kernel
theorem d_10_29_339 : decode prog_10_method_29_code 339 = .ok (.istore_n 2, 1) := by decide +kernel
theorem d_10_29_340 : decode prog_10_method_29_code 340 = .ok (.aload_n 0, 1) := by decide +kernel
theorem d_10_29_341 : decode prog_10_method_29_code 341 = .ok (.dup, 1) := by decide +kernel
theorem d_10_29_342 : decode prog_10_method_29_code 342 = .ok (.getfield 58, 3) := by decide +kernel
theorem d_10_29_345 : decode prog_10_method_29_code 345 = .ok (.iconst 1, 1) := by decide +kernel
theorem d_10_29_346 : decode prog_10_method_29_code 346 = .ok (.iadd, 1) := by decide +kernel
theorem d_10_29_347 : decode prog_10_method_29_code 347 = .ok (.putfield 58, 3) := by decide +kernel
theorem d_10_29_350 : decode prog_10_method_29_code 350 = .ok (.aload_n 0, 1) := by decide +kernel
theorem d_10_29_351 : decode prog_10_method_29_code 351 = .ok (.iload_n 2, 1) := by decide +kernel
theorem d_10_29_352 : decode prog_10_method_29_code 352 = .ok (.invokevirtual 295, 3) := by decide +kernel
theorem d_10_29_355 : decode prog_10_method_29_code 355 = .ok (.ifCond .ne 5, 3) := by decide +kernel
theorem d_10_29_358 : decode prog_10_method_29_code 358 = .ok (.iconst 0, 1) := by decide +kernel
theorem d_10_29_359 : decode prog_10_method_29_code 359 = .ok (.ireturn, 1) := by decide +kernel
theorem d_10_29_360 : decode prog_10_method_29_code 360 = .ok (.goto (-95), 3) := by decide +kernel
theorem d_10_29_363 : decode prog_10_method_29_code 363 = .ok (.aload_n 0, 1) := by decide +kernel
theorem d_10_29_364 : decode prog_10_method_29_code 364 = .ok (.getfield 279, 3) := by decide +kernel
theorem d_10_29_367 : decode prog_10_method_29_code 367 = .ok (.iload_n 1, 1) := by decide +kernel
theorem d_10_29_368 : decode prog_10_method_29_code 368 = .ok (.iaload, 1) := by decide +kernel
theorem d_10_29_369 : decode prog_10_method_29_code 369 = .ok (.istore_n 2, 1) := by decide +kernel
theorem d_10_29_370 : decode prog_10_method_29_code 370 = .ok (.iload_n 2, 1) := by decide +kernel
theorem d_10_29_371 : decode prog_10_method_29_code 371 = .ok (.aload_n 0, 1) := by decide +kernel
theorem d_10_29_372 : decode prog_10_method_29_code 372 = .ok (.getfield 279, 3) := by decide +kernel
theorem d_10_29_375 : decode prog_10_method_29_code 375 = .ok (.iload_n 1, 1) := by decide +kernel
theorem d_10_29_376 : decode prog_10_method_29_code 376 = .ok (.iaload, 1) := by decide +kernel
theorem d_10_29_377 : decode prog_10_method_29_code 377 = .ok (.aload_n 0, 1) := by decide +kernel
theorem d_10_29_378 : decode prog_10_method_29_code 378 = .ok (.getfield 276, 3) := by decide +kernel
theorem d_10_29_381 : decode prog_10_method_29_code 381 = .ok (.iload_n 1, 1) := by decide +kernel
theorem d_10_29_382 : decode prog_10_method_29_code 382 = .ok (.iaload, 1) := by decide +kernel
theorem d_10_29_383 : decode prog_10_method_29_code 383 = .ok (.iadd, 1) := by decide +kernel
theorem d_10_29_384 : decode prog_10_method_29_code 384 = .ok (.if_icmp .ge 79, 3) := by decide +kernel
theorem d_10_29_387 : decode prog_10_method_29_code 387 = .ok (.aload_n 0, 1) := by decide +kernel
theorem d_10_29_388 : decode prog_10_method_29_code 388 = .ok (.getfield 115, 3) := by decide +kernel
theorem d_10_29_391 : decode prog_10_method_29_code 391 = .ok (.iload_n 2, 1) := by decide +kernel
theorem d_10_29_392 : decode prog_10_method_29_code 392 = .ok (.iaload, 1) := by decide +kernel
theorem d_10_29_393 : decode prog_10_method_29_code 393 = .ok (.aload_n 0, 1) := by decide +kernel
theorem d_10_29_394 : decode prog_10_method_29_code 394 = .ok (.getfield 93, 3) := by decide +kernel
theorem d_10_29_397 : decode prog_10_method_29_code 397 = .ok (.if_icmp .ne 22, 3) := by decide +kernel
theorem d_10_29_400 : decode prog_10_method_29_code 400 = .ok (.aload_n 0, 1) := by decide +kernel
theorem d_10_29_401 : decode prog_10_method_29_code 401 = .ok (.getfield 165, 3) := by decide +kernel
theorem d_10_29_404 : decode prog_10_method_29_code 404 = .ok (.iload_n 2, 1) := by decide +kernel
theorem d_10_29_405 : decode prog_10_method_29_code 405 = .ok (.baload, 1) := by decide +kernel
theorem d_10_29_406 : decode prog_10_method_29_code 406 = .ok (.ifCond .ne 13, 3) := by decide +kernel
theorem d_10_29_409 : decode prog_10_method_29_code 409 = .ok (.aload_n 0, 1) := by decide +kernel
theorem d_10_29_410 : decode prog_10_method_29_code 410 = .ok (.aload_n 0, 1) := by decide +kernel
theorem d_10_29_411 : decode prog_10_method_29_code 411 = .ok (.getfield 118, 3) := by decide +kernel
theorem d_10_29_414 : decode prog_10_method_29_code 414 = .ok (.iload_n 2, 1) := by decide +kernel
theorem d_10_29_415 : decode prog_10_method_29_code 415 = .ok (.iaload, 1) := by decide +kernel
theorem d_10_29_416 : decode prog_10_method_29_code 416 = .ok (.invokevirtual 132, 3) := by decide +kernel
theorem d_10_29_419 : decode prog_10_method_29_code 419 = .ok (.aload_n 0, 1) := by decide +kernel
theorem d_10_29_420 : decode prog_10_method_29_code 420 = .ok (.getfield 162, 3) := by decide +kernel
theorem d_10_29_423 : decode prog_10_method_29_code 423 = .ok (.iload_n 2, 1) := by decide +kernel
theorem d_10_29_424 : decode prog_10_method_29_code 424 = .ok (.baload, 1) := by decide +kernel
theorem d_10_29_425 : decode prog_10_method_29_code 425 = .ok (.ifCond .eq 32, 3) := by decide +kernel
theorem d_10_29_428 : decode prog_10_method_29_code 428 = .ok (.aload_n 0, 1) := by decide +kernel
theorem d_10_29_429 : decode prog_10_method_29_code 429 = .ok (.getfield 165, 3) := by decide +kernel
theorem d_10_29_432 : decode prog_10_method_29_code 432 = .ok (.iload_n 2, 1) := by decide +kernel
theorem d_10_29_433 : decode prog_10_method_29_code 433 = .ok (.baload, 1) := by decide +kernel
theorem d_10_29_434 : decode prog_10_method_29_code 434 = .ok (.ifCond .eq 23, 3) := by decide +kernel
theorem d_10_29_437 : decode prog_10_method_29_code 437 = .ok (.aload_n 0, 1) := by decide +kernel
theorem d_10_29_438 : decode prog_10_method_29_code 438 = .ok (.getfield 147, 3) := by decide +kernel
theorem d_10_29_441 : decode prog_10_method_29_code 441 = .ok (.iload_n 2, 1) := by decide +kernel
theorem d_10_29_442 : decode prog_10_method_29_code 442 = .ok (.iaload, 1) := by decide +kernel
theorem d_10_29_443 : decode prog_10_method_29_code 443 = .ok (.iconst 2, 1) := by decide +kernel
theorem d_10_29_444 : decode prog_10_method_29_code 444 = .ok (.if_icmp .le 13, 3) := by decide +kernel
theorem d_10_29_447 : decode prog_10_method_29_code 447 = .ok (.aload_n 0, 1) := by decide +kernel
theorem d_10_29_448 : decode prog_10_method_29_code 448 = .ok (.aload_n 0, 1) := by decide +kernel
theorem d_10_29_449 : decode prog_10_method_29_code 449 = .ok (.getfield 290, 3) := by decide +kernel
theorem d_10_29_452 : decode prog_10_method_29_code 452 = .ok (.iload_n 2, 1) := by decide +kernel
theorem d_10_29_453 : decode prog_10_method_29_code 453 = .ok (.iaload, 1) := by decide +kernel
theorem d_10_29_454 : decode prog_10_method_29_code 454 = .ok (.invokevirtual 132, 3) := by decide +kernel
theorem d_10_29_457 : decode prog_10_method_29_code 457 = .ok (.iinc 2 1, 3) := by decide +kernel
theorem d_10_29_460 : decode prog_10_method_29_code 460 = .ok (.goto (-90), 3) := by decide +kernel
theorem d_10_29_463 : decode prog_10_method_29_code 463 = .ok (.iconst 1, 1) := by decide +kernel
theorem d_10_29_464 : decode prog_10_method_29_code 464 = .ok (.ireturn, 1) := by decide +kernel
theorem d_10_2_0 : decode prog_10_method_2_code 0 = .ok (.iload_n 0, 1) := by decide +kernel
theorem d_10_2_1 : decode prog_10_method_2_code 1 = .ok (.bipush 97, 2) := by decide +kernel
theorem d_10_2_3 : decode prog_10_method_2_code 3 = .ok (.if_icmp .lt 13, 3) := by decide +kernel
theorem d_10_2_6 : decode prog_10_method_2_code 6 = .ok (.iload_n 0, 1) := by decide +kernel
theorem d_10_2_7 : decode prog_10_method_2_code 7 = .ok (.bipush 122, 2) := by decide +kernel
theorem d_10_2_9 : decode prog_10_method_2_code 9 = .ok (.if_icmp .gt 7, 3) := by decide +kernel
theorem d_10_2_12 : decode prog_10_method_2_code 12 = .ok (.iconst 1, 1) := by decide +kernel
theorem d_10_2_13 : decode prog_10_method_2_code 13 = .ok (.goto 4, 3) := by decide +kernel
theorem d_10_2_16 : decode prog_10_method_2_code 16 = .ok (.iconst 0, 1) := by decide +kernel
theorem d_10_2_17 : decode prog_10_method_2_code 17 = .ok (.ireturn, 1) := by decide +kernel
theorem d_10_30_0 : decode prog_10_method_30_code 0 = .ok (.iconst 1, 1) := by decide +kernel
theorem d_10_30_1 : decode prog_10_method_30_code 1 = .ok (.istore_n 2, 1) := by decide +kernel
theorem d_10_30_2 : decode prog_10_method_30_code 2 = .ok (.iload_n 2, 1) := by decide +kernel
theorem d_10_30_3 : decode prog_10_method_30_code 3 = .ok (.ifCond .eq 124, 3) := by decide +kernel
theorem d_10_30_6 : decode prog_10_method_30_code 6 = .ok (.aload_n 0, 1) := by decide +kernel
theorem d_10_30_7 : decode prog_10_method_30_code 7 = .ok (.getfield 23, 3) := by decide +kernel
theorem d_10_30_10 : decode prog_10_method_30_code 10 = .ok (.aload_n 0, 1) := by decide +kernel
theorem d_10_30_11 : decode prog_10_method_30_code 11 = .ok (.getfield 58, 3) := by decide +kernel
theorem d_10_30_14 : decode prog_10_method_30_code 14 = .ok (.iaload, 1) := by decide +kernel
theorem d_10_30_15 : decode prog_10_method_30_code 15 = .ok (.iconst 1, 1) := by decide +kernel
theorem d_10_30_16 : decode prog_10_method_30_code 16 = .ok (.if_icmp .eq 16, 3) := by decide +kernel
theorem d_10_30_19 : decode prog_10_method_30_code 19 = .ok (.aload_n 0, 1) := by decide +kernel
theorem d_10_30_20 : decode prog_10_method_30_code 20 = .ok (.invokevirtual 106, 3) := by decide +kernel
theorem d_10_30_23 : decode prog_10_method_30_code 23 = .ok (.ifCond .le 7, 3) := by decide +kernel
theorem d_10_30_26 : decode prog_10_method_30_code 26 = .ok (.iconst 1, 1) := by decide +kernel
theorem d_10_30_27 : decode prog_10_method_30_code 27 = .ok (.goto 4, 3) := by decide +kernel
theorem d_10_30_30 : decode prog_10_method_30_code 30 = .ok (.iconst 0, 1) := by decide +kernel
theorem d_10_30_31 : decode prog_10_method_30_code 31 = .ok (.ireturn, 1) := by decide +kernel
theorem d_10_30_32 : decode prog_10_method_30_code 32 = .ok (.aload_n 0, 1) := by decide +kernel
theorem d_10_30_33 : decode prog_10_method_30_code 33 = .ok (.aload_n 0, 1) := by decide +kernel
theorem d_10_30_34 : decode prog_10_method_30_code 34 = .ok (.getfield 93, 3) := by decide +kernel
theorem d_10_30_37 : decode prog_10_method_30_code 37 = .ok (.aload_n 0, 1) := by decide +kernel
theorem d_10_30_38 : decode prog_10_method_30_code 38 = .ok (.getfield 58, 3) := by decide +kernel
theorem d_10_30_41 : decode prog_10_method_30_code 41 = .ok (.invokevirtual 125, 3) := by decide +kernel
theorem d_10_30_44 : decode prog_10_method_30_code 44 = .ok (.istore_n 3, 1) := by decide +kernel
theorem d_10_30_45 : decode prog_10_method_30_code 45 = .ok (.aload_n 0, 1) := by decide +kernel
theorem d_10_30_46 : decode prog_10_method_30_code 46 = .ok (.getfield 140, 3) := by decide +kernel
theorem d_10_30_49 : decode prog_10_method_30_code 49 = .ok (.aload_n 0, 1) := by decide +kernel
theorem d_10_30_50 : decode prog_10_method_30_code 50 = .ok (.getfield 58, 3) := by decide +kernel
theorem d_10_30_53 : decode prog_10_method_30_code 53 = .ok (.iconst 1, 1) := by decide +kernel
theorem d_10_30_54 : decode prog_10_method_30_code 54 = .ok (.bastore, 1) := by decide +kernel
theorem d_10_30_55 : decode prog_10_method_30_code 55 = .ok (.iload_n 3, 1) := by decide +kernel
theorem d_10_30_56 : decode prog_10_method_30_code 56 = .ok (.ifCond .lt 12, 3) := by decide +kernel
theorem d_10_30_59 : decode prog_10_method_30_code 59 = .ok (.aload_n 0, 1) := by decide +kernel
theorem d_10_30_60 : decode prog_10_method_30_code 60 = .ok (.getfield 165, 3) := by decide +kernel
theorem d_10_30_63 : decode prog_10_method_30_code 63 = .ok (.iload_n 3, 1) := by decide +kernel
theorem d_10_30_64 : decode prog_10_method_30_code 64 = .ok (.baload, 1) := by decide +kernel
theorem d_10_30_65 : decode prog_10_method_30_code 65 = .ok (.ifCond .eq 14, 3) := by decide +kernel
theorem d_10_30_68 : decode prog_10_method_30_code 68 = .ok (.aload_n 0, 1) := by decide +kernel
theorem d_10_30_69 : decode prog_10_method_30_code 69 = .ok (.aload_n 0, 1) := by decide +kernel
theorem d_10_30_70 : decode prog_10_method_30_code 70 = .ok (.getfield 58, 3) := by decide +kernel
theorem d_10_30_73 : decode prog_10_method_30_code 73 = .ok (.invokevirtual 132, 3) := by decide +kernel
theorem d_10_30_76 : decode prog_10_method_30_code 76 = .ok (.goto 17, 3) := by decide +kernel
theorem d_10_30_79 : decode prog_10_method_30_code 79 = .ok (.aload_n 0, 1) := by decide +kernel
theorem d_10_30_80 : decode prog_10_method_30_code 80 = .ok (.getfield 165, 3) := by decide +kernel
theorem d_10_30_83 : decode prog_10_method_30_code 83 = .ok (.iload_n 3, 1) := by decide +kernel
theorem d_10_30_84 : decode prog_10_method_30_code 84 = .ok (.iconst 1, 1) := by decide +kernel
theorem d_10_30_85 : decode prog_10_method_30_code 85 = .ok (.bastore, 1) := by decide +kernel
theorem d_10_30_86 : decode prog_10_method_30_code 86 = .ok (.aload_n 0, 1) := by decide +kernel
theorem d_10_30_87 : decode prog_10_method_30_code 87 = .ok (.getfield 147, 3) := by decide +kernel
theorem d_10_30_90 : decode prog_10_method_30_code 90 = .ok (.iload_n 3, 1) := by decide +kernel
theorem d_10_30_91 : decode prog_10_method_30_code 91 = .ok (.iload_n 1, 1) := by decide +kernel
theorem d_10_30_92 : decode prog_10_method_30_code 92 = .ok (.iastore, 1) := by decide +kernel
theorem d_10_30_93 : decode prog_10_method_30_code 93 = .ok (.aload_n 0, 1) := by decide +kernel
theorem d_10_30_94 : decode prog_10_method_30_code 94 = .ok (.dup, 1) := by decide +kernel
theorem d_10_30_95 : decode prog_10_method_30_code 95 = .ok (.getfield 58, 3) := by decide +kernel
theorem d_10_30_98 : decode prog_10_method_30_code 98 = .ok (.iconst 1, 1) := by decide +kernel
theorem d_10_30_99 : decode prog_10_method_30_code 99 = .ok (.iadd, 1) := by decide +kernel
theorem d_10_30_100 : decode prog_10_method_30_code 100 = .ok (.putfield 58, 3) := by decide +kernel
theorem d_10_30_103 : decode prog_10_method_30_code 103 = .ok (.aload_n 0, 1) := by decide +kernel
theorem d_10_30_104 : decode prog_10_method_30_code 104 = .ok (.ldc 253, 2) := by decide +kernel
theorem d_10_30_106 : decode prog_10_method_30_code 106 = .ok (.invokevirtual 102, 3) := by decide +kernel
theorem d_10_30_109 : decode prog_10_method_30_code 109 = .ok (.istore_n 2, 1) := by decide +kernel
theorem d_10_30_110 : decode prog_10_method_30_code 110 = .ok (.iload_n 2, 1) := by decide +kernel
theorem d_10_30_111 : decode prog_10_method_30_code 111 = .ok (.ifCond .eq 13, 3) := by decide +kernel
theorem d_10_30_114 : decode prog_10_method_30_code 114 = .ok (.aload_n 0, 1) := by decide +kernel
theorem d_10_30_115 : decode prog_10_method_30_code 115 = .ok (.dup, 1) := by decide +kernel
theorem d_10_30_116 : decode prog_10_method_30_code 116 = .ok (.getfield 58, 3) := by decide +kernel
theorem d_10_30_119 : decode prog_10_method_30_code 119 = .ok (.iconst 1, 1) := by decide +kernel
theorem d_10_30_120 : decode prog_10_method_30_code 120 = .ok (.iadd, 1) := by decide +kernel
theorem d_10_30_121 : decode prog_10_method_30_code 121 = .ok (.putfield 58, 3) := by decide +kernel
theorem d_10_30_124 : decode prog_10_method_30_code 124 = .ok (.goto (-122), 3) := by decide +kernel
theorem d_10_30_127 : decode prog_10_method_30_code 127 = .ok (.aload_n 0, 1) := by decide +kernel
theorem d_10_30_128 : decode prog_10_method_30_code 128 = .ok (.ldc 213, 2) := by decide +kernel
theorem d_10_30_130 : decode prog_10_method_30_code 130 = .ok (.invokevirtual 215, 3) := by decide +kernel
theorem d_10_30_133 : decode prog_10_method_30_code 133 = .ok (.ireturn, 1) := by decide +kernel
theorem d_10_31_0 : decode prog_10_method_31_code 0 = .ok (.aload_n 0, 1) := by decide +kernel
