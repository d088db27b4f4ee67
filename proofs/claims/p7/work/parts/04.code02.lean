theorem d_10_24_52 : decode prog_10_method_24_code 52 = .ok (.iadd, 1) := by decide +kernel
theorem d_10_24_53 : decode prog_10_method_24_code 53 = .ok (.putfield 58, 3) := by decide +kernel
theorem d_10_24_56 : decode prog_10_method_24_code 56 = .ok (.aload_n 0, 1) := by decide +kernel
theorem d_10_24_57 : decode prog_10_method_24_code 57 = .ok (.ldc 253, 2) := by decide +kernel
theorem d_10_24_59 : decode prog_10_method_24_code 59 = .ok (.invokevirtual 102, 3) := by decide +kernel
theorem d_10_24_62 : decode prog_10_method_24_code 62 = .ok (.istore_n 3, 1) := by decide +kernel
theorem d_10_24_63 : decode prog_10_method_24_code 63 = .ok (.iload_n 3, 1) := by decide +kernel
theorem d_10_24_64 : decode prog_10_method_24_code 64 = .ok (.ifCond .eq (-62), 3) := by decide +kernel
theorem d_10_24_67 : decode prog_10_method_24_code 67 = .ok (.aload_n 0, 1) := by decide +kernel
theorem d_10_24_68 : decode prog_10_method_24_code 68 = .ok (.dup, 1) := by decide +kernel
theorem d_10_24_69 : decode prog_10_method_24_code 69 = .ok (.getfield 58, 3) := by decide +kernel
theorem d_10_24_72 : decode prog_10_method_24_code 72 = .ok (.iconst 1, 1) := by decide +kernel
theorem d_10_24_73 : decode prog_10_method_24_code 73 = .ok (.iadd, 1) := by decide +kernel
theorem d_10_24_74 : decode prog_10_method_24_code 74 = .ok (.putfield 58, 3) := by decide +kernel
theorem d_10_24_77 : decode prog_10_method_24_code 77 = .ok (.goto (-75), 3) := by decide +kernel
theorem d_10_24_80 : decode prog_10_method_24_code 80 = .ok (.iconst 1, 1) := by decide +kernel
theorem d_10_24_81 : decode prog_10_method_24_code 81 = .ok (.ireturn, 1) := by decide +kernel
theorem d_10_25_0 : decode prog_10_method_25_code 0 = .ok (.aload_n 0, 1) := by decide +kernel
theorem d_10_25_1 : decode prog_10_method_25_code 1 = .ok (.dup, 1) := by decide +kernel
theorem d_10_25_2 : decode prog_10_method_25_code 2 = .ok (.getfield 58, 3) := by decide +kernel
theorem d_10_25_5 : decode prog_10_method_25_code 5 = .ok (.iconst 1, 1) := by decide +kernel
theorem d_10_25_6 : decode prog_10_method_25_code 6 = .ok (.iadd, 1) := by decide +kernel
theorem d_10_25_7 : decode prog_10_method_25_code 7 = .ok (.putfield 58, 3) := by decide +kernel
theorem d_10_25_10 : decode prog_10_method_25_code 10 = .ok (.aload_n 0, 1) := by decide +kernel
theorem d_10_25_11 : decode prog_10_method_25_code 11 = .ok (.getfield 112, 3) := by decide +kernel
theorem d_10_25_14 : decode prog_10_method_25_code 14 = .ok (.istore_n 3, 1) := by decide +kernel
theorem d_10_25_15 : decode prog_10_method_25_code 15 = .ok (.iconst 1, 1) := by decide +kernel
theorem d_10_25_16 : decode prog_10_method_25_code 16 = .ok (.istore 4, 2) := by decide +kernel
theorem d_10_25_18 : decode prog_10_method_25_code 18 = .ok (.iload 4, 2) := by decide +kernel
theorem d_10_25_20 : decode prog_10_method_25_code 20 = .ok (.ifCond .eq 74, 3) := by decide +kernel
theorem d_10_25_23 : decode prog_10_method_25_code 23 = .ok (.aload_n 0, 1) := by decide +kernel
theorem d_10_25_24 : decode prog_10_method_25_code 24 = .ok (.invokevirtual 250, 3) := by decide +kernel
theorem d_10_25_27 : decode prog_10_method_25_code 27 = .ok (.ifCond .ne 5, 3) := by decide +kernel
theorem d_10_25_30 : decode prog_10_method_25_code 30 = .ok (.iconst 0, 1) := by decide +kernel
theorem d_10_25_31 : decode prog_10_method_25_code 31 = .ok (.ireturn, 1) := by decide +kernel
theorem d_10_25_32 : decode prog_10_method_25_code 32 = .ok (.aload_n 0, 1) := by decide +kernel
theorem d_10_25_33 : decode prog_10_method_25_code 33 = .ok (.getfield 247, 3) := by decide +kernel
theorem d_10_25_36 : decode prog_10_method_25_code 36 = .ok (.aload_n 0, 1) := by decide +kernel
theorem d_10_25_37 : decode prog_10_method_25_code 37 = .ok (.getfield 190, 3) := by decide +kernel
theorem d_10_25_40 : decode prog_10_method_25_code 40 = .ok (.iconst 1, 1) := by decide +kernel
theorem d_10_25_41 : decode prog_10_method_25_code 41 = .ok (.iadd, 1) := by decide +kernel
theorem d_10_25_42 : decode prog_10_method_25_code 42 = .ok (.dup2, 1) := by decide +kernel
theorem d_10_25_43 : decode prog_10_method_25_code 43 = .ok (.iaload, 1) := by decide +kernel
theorem d_10_25_44 : decode prog_10_method_25_code 44 = .ok (.iconst 1, 1) := by decide +kernel
theorem d_10_25_45 : decode prog_10_method_25_code 45 = .ok (.iadd, 1) := by decide +kernel
theorem d_10_25_46 : decode prog_10_method_25_code 46 = .ok (.iastore, 1) := by decide +kernel
theorem d_10_25_47 : decode prog_10_method_25_code 47 = .ok (.aload_n 0, 1) := by decide +kernel
theorem d_10_25_48 : decode prog_10_method_25_code 48 = .ok (.aload_n 0, 1) := by decide +kernel
theorem d_10_25_49 : decode prog_10_method_25_code 49 = .ok (.getfield 58, 3) := by decide +kernel
theorem d_10_25_52 : decode prog_10_method_25_code 52 = .ok (.iconst 1, 1) := by decide +kernel
theorem d_10_25_53 : decode prog_10_method_25_code 53 = .ok (.iload_n 1, 1) := by decide +kernel
theorem d_10_25_54 : decode prog_10_method_25_code 54 = .ok (.invokevirtual 220, 3) := by decide +kernel
theorem d_10_25_57 : decode prog_10_method_25_code 57 = .ok (.pop, 1) := by decide +kernel
theorem d_10_25_58 : decode prog_10_method_25_code 58 = .ok (.aload_n 0, 1) := by decide +kernel
theorem d_10_25_59 : decode prog_10_method_25_code 59 = .ok (.dup, 1) := by decide +kernel
theorem d_10_25_60 : decode prog_10_method_25_code 60 = .ok (.getfield 58, 3) := by decide +kernel
theorem d_10_25_63 : decode prog_10_method_25_code 63 = .ok (.iconst 1, 1) := by decide +kernel
theorem d_10_25_64 : decode prog_10_method_25_code 64 = .ok (.iadd, 1) := by decide +kernel
theorem d_10_25_65 : decode prog_10_method_25_code 65 = .ok (.putfield 58, 3) := by decide +kernel
theorem d_10_25_68 : decode prog_10_method_25_code 68 = .ok (.aload_n 0, 1) := by decide +kernel
theorem d_10_25_69 : decode prog_10_method_25_code 69 = .ok (.ldc 253, 2) := by decide +kernel
theorem d_10_25_71 : decode prog_10_method_25_code 71 = .ok (.invokevirtual 102, 3) := by decide +kernel
theorem d_10_25_74 : decode prog_10_method_25_code 74 = .ok (.istore 4, 2) := by decide +kernel
theorem d_10_25_76 : decode prog_10_method_25_code 76 = .ok (.iload 4, 2) := by decide +kernel
theorem d_10_25_78 : decode prog_10_method_25_code 78 = .ok (.ifCond .eq (-60), 3) := by decide +kernel
theorem d_10_25_81 : decode prog_10_method_25_code 81 = .ok (.aload_n 0, 1) := by decide +kernel
theorem d_10_25_82 : decode prog_10_method_25_code 82 = .ok (.dup, 1) := by decide +kernel
theorem d_10_25_83 : decode prog_10_method_25_code 83 = .ok (.getfield 58, 3) := by decide +kernel
theorem d_10_25_86 : decode prog_10_method_25_code 86 = .ok (.iconst 1, 1) := by decide +kernel
theorem d_10_25_87 : decode prog_10_method_25_code 87 = .ok (.iadd, 1) := by decide +kernel
theorem d_10_25_88 : decode prog_10_method_25_code 88 = .ok (.putfield 58, 3) := by decide +kernel
theorem d_10_25_91 : decode prog_10_method_25_code 91 = .ok (.goto (-73), 3) := by decide +kernel
theorem d_10_25_94 : decode prog_10_method_25_code 94 = .ok (.aload_n 0, 1) := by decide +kernel
theorem d_10_25_95 : decode prog_10_method_25_code 95 = .ok (.getfield 93, 3) := by decide +kernel
theorem d_10_25_98 : decode prog_10_method_25_code 98 = .ok (.istore 5, 2) := by decide +kernel
theorem d_10_25_100 : decode prog_10_method_25_code 100 = .ok (.aload_n 0, 1) := by decide +kernel
theorem d_10_25_101 : decode prog_10_method_25_code 101 = .ok (.iload_n 2, 1) := by decide +kernel
theorem d_10_25_102 : decode prog_10_method_25_code 102 = .ok (.putfield 93, 3) := by decide +kernel
theorem d_10_25_105 : decode prog_10_method_25_code 105 = .ok (.aload_n 0, 1) := by decide +kernel
theorem d_10_25_106 : decode prog_10_method_25_code 106 = .ok (.bipush 30, 2) := by decide +kernel
theorem d_10_25_108 : decode prog_10_method_25_code 108 = .ok (.aload_n 0, 1) := by decide +kernel
theorem d_10_25_109 : decode prog_10_method_25_code 109 = .ok (.getfield 58, 3) := by decide +kernel
theorem d_10_25_112 : decode prog_10_method_25_code 112 = .ok (.invokevirtual 187, 3) := by decide +kernel
theorem d_10_25_115 : decode prog_10_method_25_code 115 = .ok (.istore 6, 2) := by decide +kernel
theorem d_10_25_117 : decode prog_10_method_25_code 117 = .ok (.aload_n 0, 1) := by decide +kernel
theorem d_10_25_118 : decode prog_10_method_25_code 118 = .ok (.iload 6, 2) := by decide +kernel
theorem d_10_25_120 : decode prog_10_method_25_code 120 = .ok (.invokevirtual 255, 3) := by decide +kernel
theorem d_10_25_123 : decode prog_10_method_25_code 123 = .ok (.ifCond .ne 5, 3) := by decide +kernel
theorem d_10_25_126 : decode prog_10_method_25_code 126 = .ok (.iconst 0, 1) := by decide +kernel
theorem d_10_25_127 : decode prog_10_method_25_code 127 = .ok (.ireturn, 1) := by decide +kernel
theorem d_10_25_128 : decode prog_10_method_25_code 128 = .ok (.aload_n 0, 1) := by decide +kernel
theorem d_10_25_129 : decode prog_10_method_25_code 129 = .ok (.iload 5, 2) := by decide +kernel
theorem d_10_25_131 : decode prog_10_method_25_code 131 = .ok (.putfield 93, 3) := by decide +kernel
theorem d_10_25_134 : decode prog_10_method_25_code 134 = .ok (.aload_n 0, 1) := by decide +kernel
theorem d_10_25_135 : decode prog_10_method_25_code 135 = .ok (.getfield 258, 3) := by decide +kernel
theorem d_10_25_138 : decode prog_10_method_25_code 138 = .ok (.iload 6, 2) := by decide +kernel
theorem d_10_25_140 : decode prog_10_method_25_code 140 = .ok (.iload_n 3, 1) := by decide +kernel
theorem d_10_25_141 : decode prog_10_method_25_code 141 = .ok (.iastore, 1) := by decide +kernel
theorem d_10_25_142 : decode prog_10_method_25_code 142 = .ok (.aload_n 0, 1) := by decide +kernel
theorem d_10_25_143 : decode prog_10_method_25_code 143 = .ok (.getfield 261, 3) := by decide +kernel
theorem d_10_25_146 : decode prog_10_method_25_code 146 = .ok (.iload 6, 2) := by decide +kernel
theorem d_10_25_148 : decode prog_10_method_25_code 148 = .ok (.aload_n 0, 1) := by decide +kernel
theorem d_10_25_149 : decode prog_10_method_25_code 149 = .ok (.getfield 112, 3) := by decide +kernel
theorem d_10_25_152 : decode prog_10_method_25_code 152 = .ok (.iastore, 1) := by decide +kernel
theorem d_10_25_153 : decode prog_10_method_25_code 153 = .ok (.iload_n 3, 1) := by decide +kernel
theorem d_10_25_154 : decode prog_10_method_25_code 154 = .ok (.istore 7, 2) := by decide +kernel
theorem d_10_25_156 : decode prog_10_method_25_code 156 = .ok (.iload 7, 2) := by decide +kernel
theorem d_10_25_158 : decode prog_10_method_25_code 158 = .ok (.aload_n 0, 1) := by decide +kernel
theorem d_10_25_159 : decode prog_10_method_25_code 159 = .ok (.getfield 112, 3) := by decide +kernel
theorem d_10_25_162 : decode prog_10_method_25_code 162 = .ok (.if_icmp .ge 31, 3) := by decide +kernel
theorem d_10_25_165 : decode prog_10_method_25_code 165 = .ok (.aload_n 0, 1) := by decide +kernel
theorem d_10_25_166 : decode prog_10_method_25_code 166 = .ok (.getfield 159, 3) := by decide +kernel
theorem d_10_25_169 : decode prog_10_method_25_code 169 = .ok (.iload 7, 2) := by decide +kernel
theorem d_10_25_171 : decode prog_10_method_25_code 171 = .ok (.aload_n 0, 1) := by decide +kernel
theorem d_10_25_172 : decode prog_10_method_25_code 172 = .ok (.getfield 81, 3) := by decide +kernel
theorem d_10_25_175 : decode prog_10_method_25_code 175 = .ok (.iload 6, 2) := by decide +kernel
theorem d_10_25_177 : decode prog_10_method_25_code 177 = .ok (.iaload, 1) := by decide +kernel
theorem d_10_25_178 : decode prog_10_method_25_code 178 = .ok (.ifCond .ge 7, 3) := by decide +kernel
theorem d_10_25_181 : decode prog_10_method_25_code 181 = .ok (.iconst 1, 1) := by decide +kernel
theorem d_10_25_182 : decode prog_10_method_25_code 182 = .ok (.goto 4, 3) := by decide +kernel
theorem d_10_25_185 : decode prog_10_method_25_code 185 = .ok (.iconst 2, 1) := by decide +kernel
theorem d_10_25_186 : decode prog_10_method_25_code 186 = .ok (.iastore, 1) := by decide +kernel
theorem d_10_25_187 : decode prog_10_method_25_code 187 = .ok (.iinc 7 1, 3) := by decide +kernel
theorem d_10_25_190 : decode prog_10_method_25_code 190 = .ok (.goto (-34), 3) := by decide +kernel
theorem d_10_25_193 : decode prog_10_method_25_code 193 = .ok (.aload_n 0, 1) := by decide +kernel
theorem d_10_25_194 : decode prog_10_method_25_code 194 = .ok (.getfield 204, 3) := by decide +kernel
theorem d_10_25_197 : decode prog_10_method_25_code 197 = .ok (.ifCond .ge 12, 3) := by decide +kernel
theorem d_10_25_200 : decode prog_10_method_25_code 200 = .ok (.aload_n 0, 1) := by decide +kernel
theorem d_10_25_201 : decode prog_10_method_25_code 201 = .ok (.iload 6, 2) := by decide +kernel
theorem d_10_25_203 : decode prog_10_method_25_code 203 = .ok (.putfield 210, 3) := by decide +kernel
theorem d_10_25_206 : decode prog_10_method_25_code 206 = .ok (.goto 14, 3) := by decide +kernel
theorem d_10_25_209 : decode prog_10_method_25_code 209 = .ok (.aload_n 0, 1) := by decide +kernel
theorem d_10_25_210 : decode prog_10_method_25_code 210 = .ok (.getfield 87, 3) := by decide +kernel
theorem d_10_25_213 : decode prog_10_method_25_code 213 = .ok (.aload_n 0, 1) := by decide +kernel
theorem d_10_25_214 : decode prog_10_method_25_code 214 = .ok (.getfield 204, 3) := by decide +kernel
theorem d_10_25_217 : decode prog_10_method_25_code 217 = .ok (.iload 6, 2) := by decide +kernel
theorem d_10_25_219 : decode prog_10_method_25_code 219 = .ok (.iastore, 1) := by decide +kernel
theorem d_10_25_220 : decode prog_10_method_25_code 220 = .ok (.aload_n 0, 1) := by decide +kernel
theorem d_10_25_221 : decode prog_10_method_25_code 221 = .ok (.iload 6, 2) := by decide +kernel
theorem d_10_25_223 : decode prog_10_method_25_code 223 = .ok (.putfield 204, 3) := by decide +kernel
theorem d_10_25_226 : decode prog_10_method_25_code 226 = .ok (.aload_n 0, 1) := by decide +kernel
theorem d_10_25_227 : decode prog_10_method_25_code 227 = .ok (.ldc 253, 2) := by decide +kernel
theorem d_10_25_229 : decode prog_10_method_25_code 229 = .ok (.invokevirtual 102, 3) := by decide +kernel
theorem d_10_25_232 : decode prog_10_method_25_code 232 = .ok (.ifCond .ne (-232), 3) := by decide +kernel
theorem d_10_25_235 : decode prog_10_method_25_code 235 = .ok (.iconst 1, 1) := by decide +kernel
theorem d_10_25_236 : decode prog_10_method_25_code 236 = .ok (.ireturn, 1) := by decide +kernel
theorem d_10_26_0 : decode prog_10_method_26_code 0 = .ok (.aload_n 0, 1) := by decide +kernel
theorem d_10_26_1 : decode prog_10_method_26_code 1 = .ok (.ldc_w 264, 3) := by decide +kernel
theorem d_10_26_4 : decode prog_10_method_26_code 4 = .ok (.invokevirtual 215, 3) := by decide +kernel
theorem d_10_26_7 : decode prog_10_method_26_code 7 = .ok (.ifCond .ne 5, 3) := by decide +kernel
theorem d_10_26_10 : decode prog_10_method_26_code 10 = .ok (.iconst 0, 1) := by decide +kernel
theorem d_10_26_11 : decode prog_10_method_26_code 11 = .ok (.ireturn, 1) := by decide +kernel
theorem d_10_26_12 : decode prog_10_method_26_code 12 = .ok (.aload_n 0, 1) := by decide +kernel
theorem d_10_26_13 : decode prog_10_method_26_code 13 = .ok (.getfield 75, 3) := by decide +kernel
theorem d_10_26_16 : decode prog_10_method_26_code 16 = .ok (.iload_n 1, 1) := by decide +kernel
theorem d_10_26_17 : decode prog_10_method_26_code 17 = .ok (.aload_n 0, 1) := by decide +kernel
theorem d_10_26_18 : decode prog_10_method_26_code 18 = .ok (.invokevirtual 266, 3) := by decide +kernel
theorem d_10_26_21 : decode prog_10_method_26_code 21 = .ok (.iastore, 1) := by decide +kernel
theorem d_10_26_22 : decode prog_10_method_26_code 22 = .ok (.aload_n 0, 1) := by decide +kernel
theorem d_10_26_23 : decode prog_10_method_26_code 23 = .ok (.getfield 75, 3) := by decide +kernel
theorem d_10_26_26 : decode prog_10_method_26_code 26 = .ok (.iload_n 1, 1) := by decide +kernel
theorem d_10_26_27 : decode prog_10_method_26_code 27 = .ok (.iaload, 1) := by decide +kernel
theorem d_10_26_28 : decode prog_10_method_26_code 28 = .ok (.ifCond .lt 12, 3) := by decide +kernel
theorem d_10_26_31 : decode prog_10_method_26_code 31 = .ok (.aload_n 0, 1) := by decide +kernel
theorem d_10_26_32 : decode prog_10_method_26_code 32 = .ok (.ldc 218, 2) := by decide +kernel
theorem d_10_26_34 : decode prog_10_method_26_code 34 = .ok (.invokevirtual 215, 3) := by decide +kernel
theorem d_10_26_37 : decode prog_10_method_26_code 37 = .ok (.ifCond .ne 5, 3) := by decide +kernel
theorem d_10_26_40 : decode prog_10_method_26_code 40 = .ok (.iconst 0, 1) := by decide +kernel
theorem d_10_26_41 : decode prog_10_method_26_code 41 = .ok (.ireturn, 1) := by decide +kernel
theorem d_10_26_42 : decode prog_10_method_26_code 42 = .ok (.aload_n 0, 1) := by decide +kernel
theorem d_10_26_43 : decode prog_10_method_26_code 43 = .ok (.getfield 78, 3) := by decide +kernel
theorem d_10_26_46 : decode prog_10_method_26_code 46 = .ok (.iload_n 1, 1) := by decide +kernel
theorem d_10_26_47 : decode prog_10_method_26_code 47 = .ok (.aload_n 0, 1) := by decide +kernel
theorem d_10_26_48 : decode prog_10_method_26_code 48 = .ok (.invokevirtual 266, 3) := by decide +kernel
theorem d_10_26_51 : decode prog_10_method_26_code 51 = .ok (.iastore, 1) := by decide +kernel
theorem d_10_26_52 : decode prog_10_method_26_code 52 = .ok (.aload_n 0, 1) := by decide +kernel
theorem d_10_26_53 : decode prog_10_method_26_code 53 = .ok (.getfield 78, 3) := by decide +kernel
theorem d_10_26_56 : decode prog_10_method_26_code 56 = .ok (.iload_n 1, 1) := by decide +kernel
theorem d_10_26_57 : decode prog_10_method_26_code 57 = .ok (.iaload, 1) := by decide +kernel
theorem d_10_26_58 : decode prog_10_method_26_code 58 = .ok (.ifCond .ge 5, 3) := by decide +kernel
theorem d_10_26_61 : decode prog_10_method_26_code 61 = .ok (.iconst 0, 1) := by decide +kernel
theorem d_10_26_62 : decode prog_10_method_26_code 62 = .ok (.ireturn, 1) := by decide +kernel
theorem d_10_26_63 : decode prog_10_method_26_code 63 = .ok (.aload_n 0, 1) := by decide +kernel
theorem d_10_26_64 : decode prog_10_method_26_code 64 = .ok (.ldc 253, 2) := by decide +kernel
theorem d_10_26_66 : decode prog_10_method_26_code 66 = .ok (.invokevirtual 102, 3) := by decide +kernel
theorem d_10_26_69 : decode prog_10_method_26_code 69 = .ok (.ifCond .eq 64, 3) := by decide +kernel
theorem d_10_26_72 : decode prog_10_method_26_code 72 = .ok (.aload_n 0, 1) := by decide +kernel
theorem d_10_26_73 : decode prog_10_method_26_code 73 = .ok (.dup, 1) := by decide +kernel
theorem d_10_26_74 : decode prog_10_method_26_code 74 = .ok (.getfield 58, 3) := by decide +kernel
theorem d_10_26_77 : decode prog_10_method_26_code 77 = .ok (.iconst 1, 1) := by decide +kernel
theorem d_10_26_78 : decode prog_10_method_26_code 78 = .ok (.iadd, 1) := by decide +kernel
theorem d_10_26_79 : decode prog_10_method_26_code 79 = .ok (.putfield 58, 3) := by decide +kernel
theorem d_10_26_82 : decode prog_10_method_26_code 82 = .ok (.aload_n 0, 1) := by decide +kernel
theorem d_10_26_83 : decode prog_10_method_26_code 83 = .ok (.getfield 81, 3) := by decide +kernel
theorem d_10_26_86 : decode prog_10_method_26_code 86 = .ok (.iload_n 1, 1) := by decide +kernel
theorem d_10_26_87 : decode prog_10_method_26_code 87 = .ok (.aload_n 0, 1) := by decide +kernel
theorem d_10_26_88 : decode prog_10_method_26_code 88 = .ok (.invokevirtual 266, 3) := by decide +kernel
theorem d_10_26_91 : decode prog_10_method_26_code 91 = .ok (.iastore, 1) := by decide +kernel
theorem d_10_26_92 : decode prog_10_method_26_code 92 = .ok (.aload_n 0, 1) := by decide +kernel
theorem d_10_26_93 : decode prog_10_method_26_code 93 = .ok (.getfield 81, 3) := by decide +kernel
theorem d_10_26_96 : decode prog_10_method_26_code 96 = .ok (.iload_n 1, 1) := by decide +kernel
theorem d_10_26_97 : decode prog_10_method_26_code 97 = .ok (.iaload, 1) := by decide +kernel
theorem d_10_26_98 : decode prog_10_method_26_code 98 = .ok (.ifCond .lt 12, 3) := by decide +kernel
theorem d_10_26_101 : decode prog_10_method_26_code 101 = .ok (.aload_n 0, 1) := by decide +kernel
theorem d_10_26_102 : decode prog_10_method_26_code 102 = .ok (.ldc 218, 2) := by decide +kernel
theorem d_10_26_104 : decode prog_10_method_26_code 104 = .ok (.invokevirtual 215, 3) := by decide +kernel
theorem d_10_26_107 : decode prog_10_method_26_code 107 = .ok (.ifCond .ne 5, 3) := by decide +kernel
theorem d_10_26_110 : decode prog_10_method_26_code 110 = .ok (.iconst 0, 1) := by decide +kernel
theorem d_10_26_111 : decode prog_10_method_26_code 111 = .ok (.ireturn, 1) := by decide +kernel
theorem d_10_26_112 : decode prog_10_method_26_code 112 = .ok (.aload_n 0, 1) := by decide +kernel
theorem d_10_26_113 : decode prog_10_method_26_code 113 = .ok (.getfield 84, 3) := by decide +kernel
theorem d_10_26_116 : decode prog_10_method_26_code 116 = .ok (.iload_n 1, 1) := by decide +kernel
theorem d_10_26_117 : decode prog_10_method_26_code 117 = .ok (.aload_n 0, 1) := by decide +kernel
theorem d_10_26_118 : decode prog_10_method_26_code 118 = .ok (.invokevirtual 266, 3) := by decide +kernel
theorem d_10_26_121 : decode prog_10_method_26_code 121 = .ok (.iastore, 1) := by decide +kernel
theorem d_10_26_122 : decode prog_10_method_26_code 122 = .ok (.aload_n 0, 1) := by decide +kernel
theorem d_10_26_123 : decode prog_10_method_26_code 123 = .ok (.getfield 84, 3) := by decide +kernel
theorem d_10_26_126 : decode prog_10_method_26_code 126 = .ok (.iload_n 1, 1) := by decide +kernel
theorem d_10_26_127 : decode prog_10_method_26_code 127 = .ok (.iaload, 1) := by decide +kernel
theorem d_10_26_128 : decode prog_10_method_26_code 128 = .ok (.ifCond .ge 5, 3) := by decide +kernel
theorem d_10_26_131 : decode prog_10_method_26_code 131 = .ok (.iconst 0, 1) := by decide +kernel
theorem d_10_26_132 : decode prog_10_method_26_code 132 = .ok (.ireturn, 1) := by decide +kernel
theorem d_10_26_133 : decode prog_10_method_26_code 133 = .ok (.aload_n 0, 1) := by decide +kernel
theorem d_10_26_134 : decode prog_10_method_26_code 134 = .ok (.ldc_w 269, 3) := by decide +kernel
theorem d_10_26_137 : decode prog_10_method_26_code 137 = .ok (.invokevirtual 215, 3) := by decide +kernel
theorem d_10_26_140 : decode prog_10_method_26_code 140 = .ok (.ireturn, 1) := by decide +kernel
theorem d_10_27_0 : decode prog_10_method_27_code 0 = .ok (.aload_n 0, 1) := by decide +kernel
theorem d_10_27_1 : decode prog_10_method_27_code 1 = .ok (.dup, 1) := by decide +kernel
theorem d_10_27_2 : decode prog_10_method_27_code 2 = .ok (.getfield 58, 3) := by decide +kernel
theorem d_10_27_5 : decode prog_10_method_27_code 5 = .ok (.iconst 1, 1) := by decide +kernel
theorem d_10_27_6 : decode prog_10_method_27_code 6 = .ok (.iadd, 1) := by decide +kernel
theorem d_10_27_7 : decode prog_10_method_27_code 7 = .ok (.putfield 58, 3) := by decide +kernel
theorem d_10_27_10 : decode prog_10_method_27_code 10 = .ok (.aload_n 0, 1) := by decide +kernel
theorem d_10_27_11 : decode prog_10_method_27_code 11 = .ok (.getfield 23, 3) := by decide +kernel
theorem d_10_27_14 : decode prog_10_method_27_code 14 = .ok (.aload_n 0, 1) := by decide +kernel
theorem d_10_27_15 : decode prog_10_method_27_code 15 = .ok (.getfield 58, 3) := by decide +kernel
theorem d_10_27_18 : decode prog_10_method_27_code 18 = .ok (.iaload, 1) := by decide +kernel
theorem d_10_27_19 : decode prog_10_method_27_code 19 = .ok (.iconst 1, 1) := by decide +kernel
theorem d_10_27_20 : decode prog_10_method_27_code 20 = .ok (.if_icmp .eq 16, 3) := by decide +kernel
theorem d_10_27_23 : decode prog_10_method_27_code 23 = .ok (.aload_n 0, 1) := by decide +kernel
theorem d_10_27_24 : decode prog_10_method_27_code 24 = .ok (.invokevirtual 106, 3) := by decide +kernel
theorem d_10_27_27 : decode prog_10_method_27_code 27 = .ok (.ifCond .le 7, 3) := by decide +kernel
theorem d_10_27_30 : decode prog_10_method_27_code 30 = .ok (.iconst 1, 1) := by decide +kernel
theorem d_10_27_31 : decode prog_10_method_27_code 31 = .ok (.goto 4, 3) := by decide +kernel
theorem d_10_27_34 : decode prog_10_method_27_code 34 = .ok (.iconst 0, 1) := by decide +kernel
theorem d_10_27_35 : decode prog_10_method_27_code 35 = .ok (.ireturn, 1) := by decide +kernel
theorem d_10_27_36 : decode prog_10_method_27_code 36 = .ok (.aload_n 0, 1) := by decide +kernel
theorem d_10_27_37 : decode prog_10_method_27_code 37 = .ok (.aload_n 0, 1) := by decide +kernel
theorem d_10_27_38 : decode prog_10_method_27_code 38 = .ok (.getfield 58, 3) := by decide +kernel
theorem d_10_27_41 : decode prog_10_method_27_code 41 = .ok (.iconst 3, 1) := by decide +kernel
theorem d_10_27_42 : decode prog_10_method_27_code 42 = .ok (.iconst 0, 1) := by decide +kernel
theorem d_10_27_43 : decode prog_10_method_27_code 43 = .ok (.invokevirtual 220, 3) := by decide +kernel
theorem d_10_27_46 : decode prog_10_method_27_code 46 = .ok (.istore_n 1, 1) := by decide +kernel
theorem d_10_27_47 : decode prog_10_method_27_code 47 = .ok (.iconst 0, 1) := by decide +kernel
theorem d_10_27_48 : decode prog_10_method_27_code 48 = .ok (.istore_n 2, 1) := by decide +kernel
theorem d_10_27_49 : decode prog_10_method_27_code 49 = .ok (.iconst (-1), 1) := by decide +kernel
theorem d_10_27_50 : decode prog_10_method_27_code 50 = .ok (.istore_n 3, 1) := by decide +kernel
theorem d_10_27_51 : decode prog_10_method_27_code 51 = .ok (.aload_n 0, 1) := by decide +kernel
theorem d_10_27_52 : decode prog_10_method_27_code 52 = .ok (.dup, 1) := by decide +kernel
theorem d_10_27_53 : decode prog_10_method_27_code 53 = .ok (.getfield 58, 3) := by decide +kernel
theorem d_10_27_56 : decode prog_10_method_27_code 56 = .ok (.iconst 1, 1) := by decide +kernel
theorem d_10_27_57 : decode prog_10_method_27_code 57 = .ok (.iadd, 1) := by decide +kernel
theorem d_10_27_58 : decode prog_10_method_27_code 58 = .ok (.putfield 58, 3) := by decide +kernel
theorem d_10_27_61 : decode prog_10_method_27_code 61 = .ok (.aload_n 0, 1) := by decide +kernel
theorem d_10_27_62 : decode prog_10_method_27_code 62 = .ok (.ldc_w 271, 3) := by decide +kernel
theorem d_10_27_65 : decode prog_10_method_27_code 65 = .ok (.invokevirtual 102, 3) := by decide +kernel
theorem d_10_27_68 : decode prog_10_method_27_code 68 = .ok (.ifCond .ne 16, 3) := by decide +kernel
theorem d_10_27_71 : decode prog_10_method_27_code 71 = .ok (.aload_n 0, 1) := by decide +kernel
theorem d_10_27_72 : decode prog_10_method_27_code 72 = .ok (.invokevirtual 106, 3) := by decide +kernel
theorem d_10_27_75 : decode prog_10_method_27_code 75 = .ok (.ifCond .le 7, 3) := by decide +kernel
theorem d_10_27_78 : decode prog_10_method_27_code 78 = .ok (.iconst 1, 1) := by decide +kernel
theorem d_10_27_79 : decode prog_10_method_27_code 79 = .ok (.goto 4, 3) := by decide +kernel
theorem d_10_27_82 : decode prog_10_method_27_code 82 = .ok (.iconst 0, 1) := by decide +kernel
theorem d_10_27_83 : decode prog_10_method_27_code 83 = .ok (.ireturn, 1) := by decide +kernel
theorem d_10_27_84 : decode prog_10_method_27_code 84 = .ok (.aload_n 0, 1) := by decide +kernel
theorem d_10_27_85 : decode prog_10_method_27_code 85 = .ok (.dup, 1) := by decide +kernel
theorem d_10_27_86 : decode prog_10_method_27_code 86 = .ok (.getfield 58, 3) := by decide +kernel
theorem d_10_27_89 : decode prog_10_method_27_code 89 = .ok (.iconst 1, 1) := by decide +kernel
theorem d_10_27_90 : decode prog_10_method_27_code 90 = .ok (.iadd, 1) := by decide +kernel
theorem d_10_27_91 : decode prog_10_method_27_code 91 = .ok (.putfield 58, 3) := by decide +kernel
theorem d_10_27_94 : decode prog_10_method_27_code 94 = .ok (.aload_n 0, 1) := by decide +kernel
theorem d_10_27_95 : decode prog_10_method_27_code 95 = .ok (.getfield 23, 3) := by decide +kernel
theorem d_10_27_98 : decode prog_10_method_27_code 98 = .ok (.aload_n 0, 1) := by decide +kernel
theorem d_10_27_99 : decode prog_10_method_27_code 99 = .ok (.getfield 58, 3) := by decide +kernel
theorem d_10_27_102 : decode prog_10_method_27_code 102 = .ok (.iaload, 1) := by decide +kernel
theorem d_10_27_103 : decode prog_10_method_27_code 103 = .ok (.iconst 1, 1) := by decide +kernel
theorem d_10_27_104 : decode prog_10_method_27_code 104 = .ok (.if_icmp .ne 9, 3) := by decide +kernel
theorem d_10_27_107 : decode prog_10_method_27_code 107 = .ok (.iload_n 2, 1) := by decide +kernel
theorem d_10_27_108 : decode prog_10_method_27_code 108 = .ok (.bipush 20, 2) := by decide +kernel
theorem d_10_27_110 : decode prog_10_method_27_code 110 = .ok (.if_icmp .ne 16, 3) := by decide +kernel
theorem d_10_27_113 : decode prog_10_method_27_code 113 = .ok (.aload_n 0, 1) := by decide +kernel
theorem d_10_27_114 : decode prog_10_method_27_code 114 = .ok (.invokevirtual 106, 3) := by decide +kernel
theorem d_10_27_117 : decode prog_10_method_27_code 117 = .ok (.ifCond .le 7, 3) := by decide +kernel
theorem d_10_27_120 : decode prog_10_method_27_code 120 = .ok (.iconst 1, 1) := by decide +kernel
theorem d_10_27_121 : decode prog_10_method_27_code 121 = .ok (.goto 4, 3) := by decide +kernel
theorem d_10_27_124 : decode prog_10_method_27_code 124 = .ok (.iconst 0, 1) := by decide +kernel
theorem d_10_27_125 : decode prog_10_method_27_code 125 = .ok (.ireturn, 1) := by decide +kernel
theorem d_10_27_126 : decode prog_10_method_27_code 126 = .ok (.aload_n 0, 1) := by decide +kernel
theorem d_10_27_127 : decode prog_10_method_27_code 127 = .ok (.iconst 3, 1) := by decide +kernel
theorem d_10_27_128 : decode prog_10_method_27_code 128 = .ok (.aload_n 0, 1) := by decide +kernel
theorem d_10_27_129 : decode prog_10_method_27_code 129 = .ok (.getfield 58, 3) := by decide +kernel
theorem d_10_27_132 : decode prog_10_method_27_code 132 = .ok (.invokevirtual 187, 3) := by decide +kernel
theorem d_10_27_135 : decode prog_10_method_27_code 135 = .ok (.istore 4, 2) := by decide +kernel
theorem d_10_27_137 : decode prog_10_method_27_code 137 = .ok (.iload_n 3, 1) := by decide +kernel
theorem d_10_27_138 : decode prog_10_method_27_code 138 = .ok (.ifCond .ge 14, 3) := by decide +kernel
theorem d_10_27_141 : decode prog_10_method_27_code 141 = .ok (.aload_n 0, 1) := by decide +kernel
theorem d_10_27_142 : decode prog_10_method_27_code 142 = .ok (.getfield 159, 3) := by decide +kernel
theorem d_10_27_145 : decode prog_10_method_27_code 145 = .ok (.iload_n 1, 1) := by decide +kernel
theorem d_10_27_146 : decode prog_10_method_27_code 146 = .ok (.iload 4, 2) := by decide +kernel
theorem d_10_27_148 : decode prog_10_method_27_code 148 = .ok (.iastore, 1) := by decide +kernel
theorem d_10_27_149 : decode prog_10_method_27_code 149 = .ok (.goto 11, 3) := by decide +kernel
theorem d_10_27_152 : decode prog_10_method_27_code 152 = .ok (.aload_n 0, 1) := by decide +kernel
theorem d_10_27_153 : decode prog_10_method_27_code 153 = .ok (.getfield 87, 3) := by decide +kernel
theorem d_10_27_156 : decode prog_10_method_27_code 156 = .ok (.iload_n 3, 1) := by decide +kernel
theorem d_10_27_157 : decode prog_10_method_27_code 157 = .ok (.iload 4, 2) := by decide +kernel
theorem d_10_27_159 : decode prog_10_method_27_code 159 = .ok (.iastore, 1) := by decide +kernel
theorem d_10_27_160 : decode prog_10_method_27_code 160 = .ok (.iload 4, 2) := by decide +kernel
theorem d_10_27_162 : decode prog_10_method_27_code 162 = .ok (.istore_n 3, 1) := by decide +kernel
theorem d_10_27_163 : decode prog_10_method_27_code 163 = .ok (.iinc 2 1, 3) := by decide +kernel
theorem d_10_27_166 : decode prog_10_method_27_code 166 = .ok (.aload_n 0, 1) := by decide +kernel
theorem d_10_27_167 : decode prog_10_method_27_code 167 = .ok (.dup, 1) := by decide +kernel
theorem d_10_27_168 : decode prog_10_method_27_code 168 = .ok (.getfield 58, 3) := by decide +kernel
theorem d_10_27_171 : decode prog_10_method_27_code 171 = .ok (.iconst 1, 1) := by decide +kernel
theorem d_10_27_172 : decode prog_10_method_27_code 172 = .ok (.iadd, 1) := by decide +kernel
theorem d_10_27_173 : decode prog_10_method_27_code 173 = .ok (.putfield 58, 3) := by decide +kernel
theorem d_10_27_176 : decode prog_10_method_27_code 176 = .ok (.aload_n 0, 1) := by decide +kernel
theorem d_10_27_177 : decode prog_10_method_27_code 177 = .ok (.ldc 253, 2) := by decide +kernel
theorem d_10_27_179 : decode prog_10_method_27_code 179 = .ok (.invokevirtual 102, 3) := by decide +kernel
theorem d_10_27_182 : decode prog_10_method_27_code 182 = .ok (.ifCond .ne (-98), 3) := by decide +kernel
theorem d_10_27_185 : decode prog_10_method_27_code 185 = .ok (.iconst 1, 1) := by decide +kernel
theorem d_10_27_186 : decode prog_10_method_27_code 186 = .ok (.ireturn, 1) := by decide +kernel
theorem d_10_28_0 : decode prog_10_method_28_code 0 = .ok (.aload_n 0, 1) := by decide +kernel
theorem d_10_28_1 : decode prog_10_method_28_code 1 = .ok (.invokevirtual 183, 3) := by decide +kernel
theorem d_10_28_4 : decode prog_10_method_28_code 4 = .ok (.ifCond .ne 5, 3) := by decide +kernel
theorem d_10_28_7 : decode prog_10_method_28_code 7 = .ok (.iconst 0, 1) := by decide +kernel
theorem d_10_28_8 : decode prog_10_method_28_code 8 = .ok (.ireturn, 1) := by decide +kernel
theorem d_10_28_9 : decode prog_10_method_28_code 9 = .ok (.aload_n 0, 1) := by decide +kernel
theorem d_10_28_10 : decode prog_10_method_28_code 10 = .ok (.dup, 1) := by decide +kernel
theorem d_10_28_11 : decode prog_10_method_28_code 11 = .ok (.getfield 58, 3) := by decide +kernel
theorem d_10_28_14 : decode prog_10_method_28_code 14 = .ok (.iconst 1, 1) := by decide +kernel
theorem d_10_28_15 : decode prog_10_method_28_code 15 = .ok (.iadd, 1) := by decide +kernel
theorem d_10_28_16 : decode prog_10_method_28_code 16 = .ok (.putfield 58, 3) := by decide +kernel
theorem d_10_28_19 : decode prog_10_method_28_code 19 = .ok (.aload_n 0, 1) := by decide +kernel
theorem d_10_28_20 : decode prog_10_method_28_code 20 = .ok (.getfield 23, 3) := by decide +kernel
theorem d_10_28_23 : decode prog_10_method_28_code 23 = .ok (.aload_n 0, 1) := by decide +kernel
theorem d_10_28_24 : decode prog_10_method_28_code 24 = .ok (.getfield 58, 3) := by decide +kernel
theorem d_10_28_27 : decode prog_10_method_28_code 27 = .ok (.iaload, 1) := by decide +kernel
theorem d_10_28_28 : decode prog_10_method_28_code 28 = .ok (.iconst 1, 1) := by decide +kernel
theorem d_10_28_29 : decode prog_10_method_28_code 29 = .ok (.if_icmp .eq 16, 3) := by decide +kernel
theorem d_10_28_32 : decode prog_10_method_28_code 32 = .ok (.aload_n 0, 1) := by decide +kernel
theorem d_10_28_33 : decode prog_10_method_28_code 33 = .ok (.invokevirtual 106, 3) := by decide +kernel
theorem d_10_28_36 : decode prog_10_method_28_code 36 = .ok (.ifCond .le 7, 3) := by decide +kernel
theorem d_10_28_39 : decode prog_10_method_28_code 39 = .ok (.iconst 1, 1) := by decide +kernel
theorem d_10_28_40 : decode prog_10_method_28_code 40 = .ok (.goto 4, 3) := by decide +kernel
theorem d_10_28_43 : decode prog_10_method_28_code 43 = .ok (.iconst 0, 1) := by decide +kernel
theorem d_10_28_44 : decode prog_10_method_28_code 44 = .ok (.ireturn, 1) := by decide +kernel
theorem d_10_28_45 : decode prog_10_method_28_code 45 = .ok (.aload_n 0, 1) := by decide +kernel
theorem d_10_28_46 : decode prog_10_method_28_code 46 = .ok (.aload_n 0, 1) := by decide +kernel
theorem d_10_28_47 : decode prog_10_method_28_code 47 = .ok (.getfield 58, 3) := by decide +kernel
theorem d_10_28_50 : decode prog_10_method_28_code 50 = .ok (.iconst 2, 1) := by decide +kernel
theorem d_10_28_51 : decode prog_10_method_28_code 51 = .ok (.iload_n 1, 1) := by decide +kernel
theorem d_10_28_52 : decode prog_10_method_28_code 52 = .ok (.invokevirtual 220, 3) := by decide +kernel
theorem d_10_28_55 : decode prog_10_method_28_code 55 = .ok (.istore_n 2, 1) := by decide +kernel
theorem d_10_28_56 : decode prog_10_method_28_code 56 = .ok (.aload_n 0, 1) := by decide +kernel
theorem d_10_28_57 : decode prog_10_method_28_code 57 = .ok (.getfield 93, 3) := by decide +kernel
theorem d_10_28_60 : decode prog_10_method_28_code 60 = .ok (.istore_n 3, 1) := by decide +kernel
theorem d_10_28_61 : decode prog_10_method_28_code 61 = .ok (.aload_n 0, 1) := by decide +kernel
theorem d_10_28_62 : decode prog_10_method_28_code 62 = .ok (.getfield 190, 3) := by decide +kernel
theorem d_10_28_65 : decode prog_10_method_28_code 65 = .ok (.istore 4, 2) := by decide +kernel
theorem d_10_28_67 : decode prog_10_method_28_code 67 = .ok (.aload_n 0, 1) := by decide +kernel
theorem d_10_28_68 : decode prog_10_method_28_code 68 = .ok (.dup, 1) := by decide +kernel
theorem d_10_28_69 : decode prog_10_method_28_code 69 = .ok (.getfield 58, 3) := by decide +kernel
theorem d_10_28_72 : decode prog_10_method_28_code 72 = .ok (.iconst 1, 1) := by decide +kernel
theorem d_10_28_73 : decode prog_10_method_28_code 73 = .ok (.iadd, 1) := by decide +kernel
theorem d_10_28_74 : decode prog_10_method_28_code 74 = .ok (.putfield 58, 3) := by decide +kernel
theorem d_10_28_77 : decode prog_10_method_28_code 77 = .ok (.aload_n 0, 1) := by decide +kernel
theorem d_10_28_78 : decode prog_10_method_28_code 78 = .ok (.getfield 273, 3) := by decide +kernel
theorem d_10_28_81 : decode prog_10_method_28_code 81 = .ok (.iload_n 2, 1) := by decide +kernel
theorem d_10_28_82 : decode prog_10_method_28_code 82 = .ok (.aload_n 0, 1) := by decide +kernel
theorem d_10_28_83 : decode prog_10_method_28_code 83 = .ok (.aload_n 0, 1) := by decide +kernel
theorem d_10_28_84 : decode prog_10_method_28_code 84 = .ok (.getfield 153, 3) := by decide +kernel
theorem d_10_28_87 : decode prog_10_method_28_code 87 = .ok (.aload_n 0, 1) := by decide +kernel
theorem d_10_28_88 : decode prog_10_method_28_code 88 = .ok (.getfield 93, 3) := by decide +kernel
theorem d_10_28_91 : decode prog_10_method_28_code 91 = .ok (.iaload, 1) := by decide +kernel
theorem d_10_28_92 : decode prog_10_method_28_code 92 = .ok (.iconst 1, 1) := by decide +kernel
theorem d_10_28_93 : decode prog_10_method_28_code 93 = .ok (.iadd, 1) := by decide +kernel
theorem d_10_28_94 : decode prog_10_method_28_code 94 = .ok (.iload_n 2, 1) := by decide +kernel
theorem d_10_28_95 : decode prog_10_method_28_code 95 = .ok (.invokevirtual 193, 3) := by decide +kernel
theorem d_10_28_98 : decode prog_10_method_28_code 98 = .ok (.iastore, 1) := by decide +kernel
theorem d_10_28_99 : decode prog_10_method_28_code 99 = .ok (.aload_n 0, 1) := by decide +kernel
theorem d_10_28_100 : decode prog_10_method_28_code 100 = .ok (.iload_n 2, 1) := by decide +kernel
theorem d_10_28_101 : decode prog_10_method_28_code 101 = .ok (.putfield 190, 3) := by decide +kernel
theorem d_10_28_104 : decode prog_10_method_28_code 104 = .ok (.aload_n 0, 1) := by decide +kernel
theorem d_10_28_105 : decode prog_10_method_28_code 105 = .ok (.getfield 247, 3) := by decide +kernel
theorem d_10_28_108 : decode prog_10_method_28_code 108 = .ok (.iload_n 2, 1) := by decide +kernel
theorem d_10_28_109 : decode prog_10_method_28_code 109 = .ok (.iconst 1, 1) := by decide +kernel
theorem d_10_28_110 : decode prog_10_method_28_code 110 = .ok (.iadd, 1) := by decide +kernel
theorem d_10_28_111 : decode prog_10_method_28_code 111 = .ok (.iconst 0, 1) := by decide +kernel
theorem d_10_28_112 : decode prog_10_method_28_code 112 = .ok (.iastore, 1) := by decide +kernel
theorem d_10_28_113 : decode prog_10_method_28_code 113 = .ok (.aload_n 0, 1) := by decide +kernel
