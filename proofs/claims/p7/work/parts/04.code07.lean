theorem d_10_50_148 : decode prog_10_method_50_code 148 = .ok (.iconst (-1), 1) := by decide +kernel
theorem d_10_50_149 : decode prog_10_method_50_code 149 = .ok (.ireturn, 1) := by decide +kernel
theorem d_10_50_150 : decode prog_10_method_50_code 150 = .ok (.iload_n 3, 1) := by decide +kernel
theorem d_10_50_151 : decode prog_10_method_50_code 151 = .ok (.ireturn, 1) := by decide +kernel
theorem d_10_51_0 : decode prog_10_method_51_code 0 = .ok (.aload_n 0, 1) := by decide +kernel
theorem d_10_51_1 : decode prog_10_method_51_code 1 = .ok (.invokevirtual 401, 3) := by decide +kernel
theorem d_10_51_4 : decode prog_10_method_51_code 4 = .ok (.istore_n 1, 1) := by decide +kernel
theorem d_10_51_5 : decode prog_10_method_51_code 5 = .ok (.iload_n 1, 1) := by decide +kernel
theorem d_10_51_6 : decode prog_10_method_51_code 6 = .ok (.ifCond .lt 67, 3) := by decide +kernel
theorem d_10_51_9 : decode prog_10_method_51_code 9 = .ok (.aload_n 0, 1) := by decide +kernel
theorem d_10_51_10 : decode prog_10_method_51_code 10 = .ok (.ldc_w 404, 3) := by decide +kernel
theorem d_10_51_13 : decode prog_10_method_51_code 13 = .ok (.invokevirtual 102, 3) := by decide +kernel
theorem d_10_51_16 : decode prog_10_method_51_code 16 = .ok (.ifCond .ne 13, 3) := by decide +kernel
theorem d_10_51_19 : decode prog_10_method_51_code 19 = .ok (.aload_n 0, 1) := by decide +kernel
theorem d_10_51_20 : decode prog_10_method_51_code 20 = .ok (.ldc_w 406, 3) := by decide +kernel
theorem d_10_51_23 : decode prog_10_method_51_code 23 = .ok (.invokevirtual 102, 3) := by decide +kernel
theorem d_10_51_26 : decode prog_10_method_51_code 26 = .ok (.ifCond .eq 47, 3) := by decide +kernel
theorem d_10_51_29 : decode prog_10_method_51_code 29 = .ok (.aload_n 0, 1) := by decide +kernel
theorem d_10_51_30 : decode prog_10_method_51_code 30 = .ok (.aload_n 0, 1) := by decide +kernel
theorem d_10_51_31 : decode prog_10_method_51_code 31 = .ok (.ldc_w 404, 3) := by decide +kernel
theorem d_10_51_34 : decode prog_10_method_51_code 34 = .ok (.invokevirtual 102, 3) := by decide +kernel
theorem d_10_51_37 : decode prog_10_method_51_code 37 = .ok (.ifCond .eq 8, 3) := by decide +kernel
theorem d_10_51_40 : decode prog_10_method_51_code 40 = .ok (.bipush 15, 2) := by decide +kernel
theorem d_10_51_42 : decode prog_10_method_51_code 42 = .ok (.goto 5, 3) := by decide +kernel
theorem d_10_51_45 : decode prog_10_method_51_code 45 = .ok (.bipush 16, 2) := by decide +kernel
theorem d_10_51_47 : decode prog_10_method_51_code 47 = .ok (.iload_n 1, 1) := by decide +kernel
theorem d_10_51_48 : decode prog_10_method_51_code 48 = .ok (.invokevirtual 366, 3) := by decide +kernel
theorem d_10_51_51 : decode prog_10_method_51_code 51 = .ok (.istore_n 1, 1) := by decide +kernel
theorem d_10_51_52 : decode prog_10_method_51_code 52 = .ok (.aload_n 0, 1) := by decide +kernel
theorem d_10_51_53 : decode prog_10_method_51_code 53 = .ok (.getfield 78, 3) := by decide +kernel
theorem d_10_51_56 : decode prog_10_method_51_code 56 = .ok (.iload_n 1, 1) := by decide +kernel
theorem d_10_51_57 : decode prog_10_method_51_code 57 = .ok (.aload_n 0, 1) := by decide +kernel
theorem d_10_51_58 : decode prog_10_method_51_code 58 = .ok (.invokevirtual 401, 3) := by decide +kernel
theorem d_10_51_61 : decode prog_10_method_51_code 61 = .ok (.iastore, 1) := by decide +kernel
theorem d_10_51_62 : decode prog_10_method_51_code 62 = .ok (.aload_n 0, 1) := by decide +kernel
theorem d_10_51_63 : decode prog_10_method_51_code 63 = .ok (.getfield 78, 3) := by decide +kernel
theorem d_10_51_66 : decode prog_10_method_51_code 66 = .ok (.iload_n 1, 1) := by decide +kernel
theorem d_10_51_67 : decode prog_10_method_51_code 67 = .ok (.iaload, 1) := by decide +kernel
theorem d_10_51_68 : decode prog_10_method_51_code 68 = .ok (.ifCond .ge (-63), 3) := by decide +kernel
theorem d_10_51_71 : decode prog_10_method_51_code 71 = .ok (.iconst (-1), 1) := by decide +kernel
theorem d_10_51_72 : decode prog_10_method_51_code 72 = .ok (.ireturn, 1) := by decide +kernel
theorem d_10_51_73 : decode prog_10_method_51_code 73 = .ok (.iload_n 1, 1) := by decide +kernel
theorem d_10_51_74 : decode prog_10_method_51_code 74 = .ok (.ireturn, 1) := by decide +kernel
theorem d_10_52_0 : decode prog_10_method_52_code 0 = .ok (.aload_n 0, 1) := by decide +kernel
theorem d_10_52_1 : decode prog_10_method_52_code 1 = .ok (.invokevirtual 408, 3) := by decide +kernel
theorem d_10_52_4 : decode prog_10_method_52_code 4 = .ok (.istore_n 1, 1) := by decide +kernel
theorem d_10_52_5 : decode prog_10_method_52_code 5 = .ok (.iload_n 1, 1) := by decide +kernel
theorem d_10_52_6 : decode prog_10_method_52_code 6 = .ok (.ifCond .lt 42, 3) := by decide +kernel
theorem d_10_52_9 : decode prog_10_method_52_code 9 = .ok (.aload_n 0, 1) := by decide +kernel
theorem d_10_52_10 : decode prog_10_method_52_code 10 = .ok (.ldc_w 411, 3) := by decide +kernel
theorem d_10_52_13 : decode prog_10_method_52_code 13 = .ok (.invokevirtual 102, 3) := by decide +kernel
theorem d_10_52_16 : decode prog_10_method_52_code 16 = .ok (.ifCond .eq 32, 3) := by decide +kernel
theorem d_10_52_19 : decode prog_10_method_52_code 19 = .ok (.aload_n 0, 1) := by decide +kernel
theorem d_10_52_20 : decode prog_10_method_52_code 20 = .ok (.bipush 17, 2) := by decide +kernel
theorem d_10_52_22 : decode prog_10_method_52_code 22 = .ok (.iload_n 1, 1) := by decide +kernel
theorem d_10_52_23 : decode prog_10_method_52_code 23 = .ok (.invokevirtual 366, 3) := by decide +kernel
theorem d_10_52_26 : decode prog_10_method_52_code 26 = .ok (.istore_n 1, 1) := by decide +kernel
theorem d_10_52_27 : decode prog_10_method_52_code 27 = .ok (.aload_n 0, 1) := by decide +kernel
theorem d_10_52_28 : decode prog_10_method_52_code 28 = .ok (.getfield 78, 3) := by decide +kernel
theorem d_10_52_31 : decode prog_10_method_52_code 31 = .ok (.iload_n 1, 1) := by decide +kernel
theorem d_10_52_32 : decode prog_10_method_52_code 32 = .ok (.aload_n 0, 1) := by decide +kernel
theorem d_10_52_33 : decode prog_10_method_52_code 33 = .ok (.invokevirtual 408, 3) := by decide +kernel
theorem d_10_52_36 : decode prog_10_method_52_code 36 = .ok (.iastore, 1) := by decide +kernel
theorem d_10_52_37 : decode prog_10_method_52_code 37 = .ok (.aload_n 0, 1) := by decide +kernel
theorem d_10_52_38 : decode prog_10_method_52_code 38 = .ok (.getfield 78, 3) := by decide +kernel
theorem d_10_52_41 : decode prog_10_method_52_code 41 = .ok (.iload_n 1, 1) := by decide +kernel
theorem d_10_52_42 : decode prog_10_method_52_code 42 = .ok (.iaload, 1) := by decide +kernel
theorem d_10_52_43 : decode prog_10_method_52_code 43 = .ok (.ifCond .ge (-38), 3) := by decide +kernel
theorem d_10_52_46 : decode prog_10_method_52_code 46 = .ok (.iconst (-1), 1) := by decide +kernel
theorem d_10_52_47 : decode prog_10_method_52_code 47 = .ok (.ireturn, 1) := by decide +kernel
theorem d_10_52_48 : decode prog_10_method_52_code 48 = .ok (.iload_n 1, 1) := by decide +kernel
theorem d_10_52_49 : decode prog_10_method_52_code 49 = .ok (.ireturn, 1) := by decide +kernel
theorem d_10_53_0 : decode prog_10_method_53_code 0 = .ok (.aload_n 0, 1) := by decide +kernel
theorem d_10_53_1 : decode prog_10_method_53_code 1 = .ok (.getfield 23, 3) := by decide +kernel
theorem d_10_53_4 : decode prog_10_method_53_code 4 = .ok (.aload_n 0, 1) := by decide +kernel
theorem d_10_53_5 : decode prog_10_method_53_code 5 = .ok (.getfield 58, 3) := by decide +kernel
theorem d_10_53_8 : decode prog_10_method_53_code 8 = .ok (.iaload, 1) := by decide +kernel
theorem d_10_53_9 : decode prog_10_method_53_code 9 = .ok (.iconst 3, 1) := by decide +kernel
theorem d_10_53_10 : decode prog_10_method_53_code 10 = .ok (.if_icmp .eq 23, 3) := by decide +kernel
theorem d_10_53_13 : decode prog_10_method_53_code 13 = .ok (.aload_n 0, 1) := by decide +kernel
theorem d_10_53_14 : decode prog_10_method_53_code 14 = .ok (.ldc_w 413, 3) := by decide +kernel
theorem d_10_53_17 : decode prog_10_method_53_code 17 = .ok (.invokevirtual 102, 3) := by decide +kernel
theorem d_10_53_20 : decode prog_10_method_53_code 20 = .ok (.ifCond .ne 13, 3) := by decide +kernel
theorem d_10_53_23 : decode prog_10_method_53_code 23 = .ok (.aload_n 0, 1) := by decide +kernel
theorem d_10_53_24 : decode prog_10_method_53_code 24 = .ok (.ldc_w 415, 3) := by decide +kernel
theorem d_10_53_27 : decode prog_10_method_53_code 27 = .ok (.invokevirtual 102, 3) := by decide +kernel
theorem d_10_53_30 : decode prog_10_method_53_code 30 = .ok (.ifCond .eq 83, 3) := by decide +kernel
theorem d_10_53_33 : decode prog_10_method_53_code 33 = .ok (.aload_n 0, 1) := by decide +kernel
theorem d_10_53_34 : decode prog_10_method_53_code 34 = .ok (.aload_n 0, 1) := by decide +kernel
theorem d_10_53_35 : decode prog_10_method_53_code 35 = .ok (.getfield 23, 3) := by decide +kernel
theorem d_10_53_38 : decode prog_10_method_53_code 38 = .ok (.aload_n 0, 1) := by decide +kernel
theorem d_10_53_39 : decode prog_10_method_53_code 39 = .ok (.getfield 58, 3) := by decide +kernel
theorem d_10_53_42 : decode prog_10_method_53_code 42 = .ok (.iaload, 1) := by decide +kernel
theorem d_10_53_43 : decode prog_10_method_53_code 43 = .ok (.iconst 3, 1) := by decide +kernel
theorem d_10_53_44 : decode prog_10_method_53_code 44 = .ok (.if_icmp .ne 7, 3) := by decide +kernel
theorem d_10_53_47 : decode prog_10_method_53_code 47 = .ok (.iconst 1, 1) := by decide +kernel
theorem d_10_53_48 : decode prog_10_method_53_code 48 = .ok (.goto 4, 3) := by decide +kernel
theorem d_10_53_51 : decode prog_10_method_53_code 51 = .ok (.iconst 2, 1) := by decide +kernel
theorem d_10_53_52 : decode prog_10_method_53_code 52 = .ok (.aload_n 0, 1) := by decide +kernel
theorem d_10_53_53 : decode prog_10_method_53_code 53 = .ok (.getfield 58, 3) := by decide +kernel
theorem d_10_53_56 : decode prog_10_method_53_code 56 = .ok (.invokevirtual 187, 3) := by decide +kernel
theorem d_10_53_59 : decode prog_10_method_53_code 59 = .ok (.istore_n 1, 1) := by decide +kernel
theorem d_10_53_60 : decode prog_10_method_53_code 60 = .ok (.aload_n 0, 1) := by decide +kernel
theorem d_10_53_61 : decode prog_10_method_53_code 61 = .ok (.getfield 75, 3) := by decide +kernel
theorem d_10_53_64 : decode prog_10_method_53_code 64 = .ok (.iload_n 1, 1) := by decide +kernel
theorem d_10_53_65 : decode prog_10_method_53_code 65 = .ok (.aload_n 0, 1) := by decide +kernel
theorem d_10_53_66 : decode prog_10_method_53_code 66 = .ok (.getfield 23, 3) := by decide +kernel
theorem d_10_53_69 : decode prog_10_method_53_code 69 = .ok (.aload_n 0, 1) := by decide +kernel
theorem d_10_53_70 : decode prog_10_method_53_code 70 = .ok (.getfield 58, 3) := by decide +kernel
theorem d_10_53_73 : decode prog_10_method_53_code 73 = .ok (.iaload, 1) := by decide +kernel
theorem d_10_53_74 : decode prog_10_method_53_code 74 = .ok (.iconst 3, 1) := by decide +kernel
theorem d_10_53_75 : decode prog_10_method_53_code 75 = .ok (.if_icmp .ne 10, 3) := by decide +kernel
theorem d_10_53_78 : decode prog_10_method_53_code 78 = .ok (.aload_n 0, 1) := by decide +kernel
theorem d_10_53_79 : decode prog_10_method_53_code 79 = .ok (.getfield 58, 3) := by decide +kernel
theorem d_10_53_82 : decode prog_10_method_53_code 82 = .ok (.goto 18, 3) := by decide +kernel
theorem d_10_53_85 : decode prog_10_method_53_code 85 = .ok (.aload_n 0, 1) := by decide +kernel
theorem d_10_53_86 : decode prog_10_method_53_code 86 = .ok (.ldc_w 413, 3) := by decide +kernel
theorem d_10_53_89 : decode prog_10_method_53_code 89 = .ok (.invokevirtual 102, 3) := by decide +kernel
theorem d_10_53_92 : decode prog_10_method_53_code 92 = .ok (.ifCond .eq 7, 3) := by decide +kernel
theorem d_10_53_95 : decode prog_10_method_53_code 95 = .ok (.iconst 1, 1) := by decide +kernel
theorem d_10_53_96 : decode prog_10_method_53_code 96 = .ok (.goto 4, 3) := by decide +kernel
theorem d_10_53_99 : decode prog_10_method_53_code 99 = .ok (.iconst 0, 1) := by decide +kernel
theorem d_10_53_100 : decode prog_10_method_53_code 100 = .ok (.iastore, 1) := by decide +kernel
theorem d_10_53_101 : decode prog_10_method_53_code 101 = .ok (.aload_n 0, 1) := by decide +kernel
theorem d_10_53_102 : decode prog_10_method_53_code 102 = .ok (.dup, 1) := by decide +kernel
theorem d_10_53_103 : decode prog_10_method_53_code 103 = .ok (.getfield 58, 3) := by decide +kernel
theorem d_10_53_106 : decode prog_10_method_53_code 106 = .ok (.iconst 1, 1) := by decide +kernel
theorem d_10_53_107 : decode prog_10_method_53_code 107 = .ok (.iadd, 1) := by decide +kernel
theorem d_10_53_108 : decode prog_10_method_53_code 108 = .ok (.putfield 58, 3) := by decide +kernel
theorem d_10_53_111 : decode prog_10_method_53_code 111 = .ok (.iload_n 1, 1) := by decide +kernel
theorem d_10_53_112 : decode prog_10_method_53_code 112 = .ok (.ireturn, 1) := by decide +kernel
theorem d_10_53_113 : decode prog_10_method_53_code 113 = .ok (.aload_n 0, 1) := by decide +kernel
theorem d_10_53_114 : decode prog_10_method_53_code 114 = .ok (.ldc_w 282, 3) := by decide +kernel
theorem d_10_53_117 : decode prog_10_method_53_code 117 = .ok (.invokevirtual 102, 3) := by decide +kernel
theorem d_10_53_120 : decode prog_10_method_53_code 120 = .ok (.ifCond .eq 42, 3) := by decide +kernel
theorem d_10_53_123 : decode prog_10_method_53_code 123 = .ok (.aload_n 0, 1) := by decide +kernel
theorem d_10_53_124 : decode prog_10_method_53_code 124 = .ok (.getfield 58, 3) := by decide +kernel
theorem d_10_53_127 : decode prog_10_method_53_code 127 = .ok (.istore_n 1, 1) := by decide +kernel
theorem d_10_53_128 : decode prog_10_method_53_code 128 = .ok (.aload_n 0, 1) := by decide +kernel
theorem d_10_53_129 : decode prog_10_method_53_code 129 = .ok (.ldc_w 282, 3) := by decide +kernel
theorem d_10_53_132 : decode prog_10_method_53_code 132 = .ok (.ldc_w 287, 3) := by decide +kernel
theorem d_10_53_135 : decode prog_10_method_53_code 135 = .ok (.invokevirtual 324, 3) := by decide +kernel
theorem d_10_53_138 : decode prog_10_method_53_code 138 = .ok (.istore_n 2, 1) := by decide +kernel
theorem d_10_53_139 : decode prog_10_method_53_code 139 = .ok (.iload_n 2, 1) := by decide +kernel
theorem d_10_53_140 : decode prog_10_method_53_code 140 = .ok (.ifCond .ge 5, 3) := by decide +kernel
theorem d_10_53_143 : decode prog_10_method_53_code 143 = .ok (.iconst (-1), 1) := by decide +kernel
theorem d_10_53_144 : decode prog_10_method_53_code 144 = .ok (.ireturn, 1) := by decide +kernel
theorem d_10_53_145 : decode prog_10_method_53_code 145 = .ok (.aload_n 0, 1) := by decide +kernel
theorem d_10_53_146 : decode prog_10_method_53_code 146 = .ok (.bipush 18, 2) := by decide +kernel
theorem d_10_53_148 : decode prog_10_method_53_code 148 = .ok (.iload_n 1, 1) := by decide +kernel
theorem d_10_53_149 : decode prog_10_method_53_code 149 = .ok (.invokevirtual 187, 3) := by decide +kernel
theorem d_10_53_152 : decode prog_10_method_53_code 152 = .ok (.istore_n 3, 1) := by decide +kernel
theorem d_10_53_153 : decode prog_10_method_53_code 153 = .ok (.aload_n 0, 1) := by decide +kernel
theorem d_10_53_154 : decode prog_10_method_53_code 154 = .ok (.getfield 75, 3) := by decide +kernel
theorem d_10_53_157 : decode prog_10_method_53_code 157 = .ok (.iload_n 3, 1) := by decide +kernel
theorem d_10_53_158 : decode prog_10_method_53_code 158 = .ok (.iload_n 2, 1) := by decide +kernel
theorem d_10_53_159 : decode prog_10_method_53_code 159 = .ok (.iastore, 1) := by decide +kernel
theorem d_10_53_160 : decode prog_10_method_53_code 160 = .ok (.iload_n 3, 1) := by decide +kernel
theorem d_10_53_161 : decode prog_10_method_53_code 161 = .ok (.ireturn, 1) := by decide +kernel
theorem d_10_53_162 : decode prog_10_method_53_code 162 = .ok (.aload_n 0, 1) := by decide +kernel
theorem d_10_53_163 : decode prog_10_method_53_code 163 = .ok (.getfield 23, 3) := by decide +kernel
theorem d_10_53_166 : decode prog_10_method_53_code 166 = .ok (.aload_n 0, 1) := by decide +kernel
theorem d_10_53_167 : decode prog_10_method_53_code 167 = .ok (.getfield 58, 3) := by decide +kernel
theorem d_10_53_170 : decode prog_10_method_53_code 170 = .ok (.iaload, 1) := by decide +kernel
theorem d_10_53_171 : decode prog_10_method_53_code 171 = .ok (.iconst 1, 1) := by decide +kernel
theorem d_10_53_172 : decode prog_10_method_53_code 172 = .ok (.if_icmp .eq 8, 3) := by decide +kernel
theorem d_10_53_175 : decode prog_10_method_53_code 175 = .ok (.aload_n 0, 1) := by decide +kernel
theorem d_10_53_176 : decode prog_10_method_53_code 176 = .ok (.invokevirtual 106, 3) := by decide +kernel
theorem d_10_53_179 : decode prog_10_method_53_code 179 = .ok (.ireturn, 1) := by decide +kernel
theorem d_10_53_180 : decode prog_10_method_53_code 180 = .ok (.aload_n 0, 1) := by decide +kernel
theorem d_10_53_181 : decode prog_10_method_53_code 181 = .ok (.iconst 3, 1) := by decide +kernel
theorem d_10_53_182 : decode prog_10_method_53_code 182 = .ok (.aload_n 0, 1) := by decide +kernel
theorem d_10_53_183 : decode prog_10_method_53_code 183 = .ok (.getfield 58, 3) := by decide +kernel
theorem d_10_53_186 : decode prog_10_method_53_code 186 = .ok (.invokevirtual 187, 3) := by decide +kernel
theorem d_10_53_189 : decode prog_10_method_53_code 189 = .ok (.istore_n 1, 1) := by decide +kernel
theorem d_10_53_190 : decode prog_10_method_53_code 190 = .ok (.aload_n 0, 1) := by decide +kernel
theorem d_10_53_191 : decode prog_10_method_53_code 191 = .ok (.dup, 1) := by decide +kernel
theorem d_10_53_192 : decode prog_10_method_53_code 192 = .ok (.getfield 58, 3) := by decide +kernel
theorem d_10_53_195 : decode prog_10_method_53_code 195 = .ok (.iconst 1, 1) := by decide +kernel
theorem d_10_53_196 : decode prog_10_method_53_code 196 = .ok (.iadd, 1) := by decide +kernel
theorem d_10_53_197 : decode prog_10_method_53_code 197 = .ok (.putfield 58, 3) := by decide +kernel
theorem d_10_53_200 : decode prog_10_method_53_code 200 = .ok (.aload_n 0, 1) := by decide +kernel
theorem d_10_53_201 : decode prog_10_method_53_code 201 = .ok (.ldc_w 264, 3) := by decide +kernel
theorem d_10_53_204 : decode prog_10_method_53_code 204 = .ok (.invokevirtual 102, 3) := by decide +kernel
theorem d_10_53_207 : decode prog_10_method_53_code 207 = .ok (.ifCond .eq 17, 3) := by decide +kernel
theorem d_10_53_210 : decode prog_10_method_53_code 210 = .ok (.aload_n 0, 1) := by decide +kernel
theorem d_10_53_211 : decode prog_10_method_53_code 211 = .ok (.iload_n 1, 1) := by decide +kernel
theorem d_10_53_212 : decode prog_10_method_53_code 212 = .ok (.invokevirtual 352, 3) := by decide +kernel
theorem d_10_53_215 : decode prog_10_method_53_code 215 = .ok (.ifCond .eq 7, 3) := by decide +kernel
theorem d_10_53_218 : decode prog_10_method_53_code 218 = .ok (.iload_n 1, 1) := by decide +kernel
theorem d_10_53_219 : decode prog_10_method_53_code 219 = .ok (.goto 4, 3) := by decide +kernel
theorem d_10_53_222 : decode prog_10_method_53_code 222 = .ok (.iconst (-1), 1) := by decide +kernel
theorem d_10_53_223 : decode prog_10_method_53_code 223 = .ok (.ireturn, 1) := by decide +kernel
theorem d_10_53_224 : decode prog_10_method_53_code 224 = .ok (.aload_n 0, 1) := by decide +kernel
theorem d_10_53_225 : decode prog_10_method_53_code 225 = .ok (.ldc_w 282, 3) := by decide +kernel
theorem d_10_53_228 : decode prog_10_method_53_code 228 = .ok (.invokevirtual 102, 3) := by decide +kernel
theorem d_10_53_231 : decode prog_10_method_53_code 231 = .ok (.ifCond .ne 5, 3) := by decide +kernel
theorem d_10_53_234 : decode prog_10_method_53_code 234 = .ok (.iload_n 1, 1) := by decide +kernel
theorem d_10_53_235 : decode prog_10_method_53_code 235 = .ok (.ireturn, 1) := by decide +kernel
theorem d_10_53_236 : decode prog_10_method_53_code 236 = .ok (.aload_n 0, 1) := by decide +kernel
theorem d_10_53_237 : decode prog_10_method_53_code 237 = .ok (.getfield 66, 3) := by decide +kernel
theorem d_10_53_240 : decode prog_10_method_53_code 240 = .ok (.iload_n 1, 1) := by decide +kernel
theorem d_10_53_241 : decode prog_10_method_53_code 241 = .ok (.iconst 5, 1) := by decide +kernel
theorem d_10_53_242 : decode prog_10_method_53_code 242 = .ok (.iastore, 1) := by decide +kernel
theorem d_10_53_243 : decode prog_10_method_53_code 243 = .ok (.aload_n 0, 1) := by decide +kernel
theorem d_10_53_244 : decode prog_10_method_53_code 244 = .ok (.getfield 75, 3) := by decide +kernel
theorem d_10_53_247 : decode prog_10_method_53_code 247 = .ok (.iload_n 1, 1) := by decide +kernel
theorem d_10_53_248 : decode prog_10_method_53_code 248 = .ok (.aload_n 0, 1) := by decide +kernel
theorem d_10_53_249 : decode prog_10_method_53_code 249 = .ok (.invokevirtual 349, 3) := by decide +kernel
theorem d_10_53_252 : decode prog_10_method_53_code 252 = .ok (.iastore, 1) := by decide +kernel
theorem d_10_53_253 : decode prog_10_method_53_code 253 = .ok (.aload_n 0, 1) := by decide +kernel
theorem d_10_53_254 : decode prog_10_method_53_code 254 = .ok (.getfield 75, 3) := by decide +kernel
theorem d_10_53_257 : decode prog_10_method_53_code 257 = .ok (.iload_n 1, 1) := by decide +kernel
theorem d_10_53_258 : decode prog_10_method_53_code 258 = .ok (.iaload, 1) := by decide +kernel
theorem d_10_53_259 : decode prog_10_method_53_code 259 = .ok (.ifCond .ge 7, 3) := by decide +kernel
theorem d_10_53_262 : decode prog_10_method_53_code 262 = .ok (.iconst (-1), 1) := by decide +kernel
theorem d_10_53_263 : decode prog_10_method_53_code 263 = .ok (.goto 4, 3) := by decide +kernel
theorem d_10_53_266 : decode prog_10_method_53_code 266 = .ok (.iload_n 1, 1) := by decide +kernel
theorem d_10_53_267 : decode prog_10_method_53_code 267 = .ok (.ireturn, 1) := by decide +kernel
theorem d_10_54_0 : decode prog_10_method_54_code 0 = .ok (.aload_n 0, 1) := by decide +kernel
theorem d_10_54_1 : decode prog_10_method_54_code 1 = .ok (.iload_n 1, 1) := by decide +kernel
theorem d_10_54_2 : decode prog_10_method_54_code 2 = .ok (.invokevirtual 417, 3) := by decide +kernel
theorem d_10_54_5 : decode prog_10_method_54_code 5 = .ok (.istore_n 3, 1) := by decide +kernel
theorem d_10_54_6 : decode prog_10_method_54_code 6 = .ok (.iload_n 3, 1) := by decide +kernel
theorem d_10_54_7 : decode prog_10_method_54_code 7 = .ok (.ifCond .le 18, 3) := by decide +kernel
theorem d_10_54_10 : decode prog_10_method_54_code 10 = .ok (.iload_n 3, 1) := by decide +kernel
theorem d_10_54_11 : decode prog_10_method_54_code 11 = .ok (.iload_n 2, 1) := by decide +kernel
theorem d_10_54_12 : decode prog_10_method_54_code 12 = .ok (.if_icmp .eq 13, 3) := by decide +kernel
theorem d_10_54_15 : decode prog_10_method_54_code 15 = .ok (.aload_n 0, 1) := by decide +kernel
theorem d_10_54_16 : decode prog_10_method_54_code 16 = .ok (.aload_n 0, 1) := by decide +kernel
theorem d_10_54_17 : decode prog_10_method_54_code 17 = .ok (.getfield 72, 3) := by decide +kernel
theorem d_10_54_20 : decode prog_10_method_54_code 20 = .ok (.iload_n 1, 1) := by decide +kernel
theorem d_10_54_21 : decode prog_10_method_54_code 21 = .ok (.iaload, 1) := by decide +kernel
theorem d_10_54_22 : decode prog_10_method_54_code 22 = .ok (.invokevirtual 132, 3) := by decide +kernel
theorem d_10_54_25 : decode prog_10_method_54_code 25 = .ok (.return_, 1) := by decide +kernel
theorem d_10_55_0 : decode prog_10_method_55_code 0 = .ok (.aload_n 0, 1) := by decide +kernel
theorem d_10_55_1 : decode prog_10_method_55_code 1 = .ok (.aload_n 0, 1) := by decide +kernel
theorem d_10_55_2 : decode prog_10_method_55_code 2 = .ok (.getfield 72, 3) := by decide +kernel
theorem d_10_55_5 : decode prog_10_method_55_code 5 = .ok (.iload_n 1, 1) := by decide +kernel
theorem d_10_55_6 : decode prog_10_method_55_code 6 = .ok (.iaload, 1) := by decide +kernel
theorem d_10_55_7 : decode prog_10_method_55_code 7 = .ok (.invokevirtual 132, 3) := by decide +kernel
theorem d_10_55_10 : decode prog_10_method_55_code 10 = .ok (.iconst 0, 1) := by decide +kernel
theorem d_10_55_11 : decode prog_10_method_55_code 11 = .ok (.ireturn, 1) := by decide +kernel
theorem d_10_56_0 : decode prog_10_method_56_code 0 = .ok (.aload_n 0, 1) := by decide +kernel
theorem d_10_56_1 : decode prog_10_method_56_code 1 = .ok (.getfield 66, 3) := by decide +kernel
theorem d_10_56_4 : decode prog_10_method_56_code 4 = .ok (.iload_n 1, 1) := by decide +kernel
theorem d_10_56_5 : decode prog_10_method_56_code 5 = .ok (.iaload, 1) := by decide +kernel
theorem d_10_56_6 : decode prog_10_method_56_code 6 = .ok (.tableswitch 283 1 18 #[86, 88, 188, 194, 200, 101, 154, 154, 162, 259, 283, 283, 175, 175, 283, 283, 283, 90], 86) := by decide +kernel
theorem d_10_56_92 : decode prog_10_method_56_code 92 = .ok (.iconst 1, 1) := by decide +kernel
theorem d_10_56_93 : decode prog_10_method_56_code 93 = .ok (.ireturn, 1) := by decide +kernel
theorem d_10_56_94 : decode prog_10_method_56_code 94 = .ok (.iconst 2, 1) := by decide +kernel
theorem d_10_56_95 : decode prog_10_method_56_code 95 = .ok (.ireturn, 1) := by decide +kernel
theorem d_10_56_96 : decode prog_10_method_56_code 96 = .ok (.aload_n 0, 1) := by decide +kernel
theorem d_10_56_97 : decode prog_10_method_56_code 97 = .ok (.aload_n 0, 1) := by decide +kernel
theorem d_10_56_98 : decode prog_10_method_56_code 98 = .ok (.getfield 75, 3) := by decide +kernel
theorem d_10_56_101 : decode prog_10_method_56_code 101 = .ok (.iload_n 1, 1) := by decide +kernel
theorem d_10_56_102 : decode prog_10_method_56_code 102 = .ok (.iaload, 1) := by decide +kernel
theorem d_10_56_103 : decode prog_10_method_56_code 103 = .ok (.invokevirtual 417, 3) := by decide +kernel
theorem d_10_56_106 : decode prog_10_method_56_code 106 = .ok (.ireturn, 1) := by decide +kernel
theorem d_10_56_107 : decode prog_10_method_56_code 107 = .ok (.aload_n 0, 1) := by decide +kernel
theorem d_10_56_108 : decode prog_10_method_56_code 108 = .ok (.aload_n 0, 1) := by decide +kernel
theorem d_10_56_109 : decode prog_10_method_56_code 109 = .ok (.getfield 75, 3) := by decide +kernel
theorem d_10_56_112 : decode prog_10_method_56_code 112 = .ok (.iload_n 1, 1) := by decide +kernel
theorem d_10_56_113 : decode prog_10_method_56_code 113 = .ok (.iaload, 1) := by decide +kernel
theorem d_10_56_114 : decode prog_10_method_56_code 114 = .ok (.iconst 2, 1) := by decide +kernel
theorem d_10_56_115 : decode prog_10_method_56_code 115 = .ok (.invokevirtual 421, 3) := by decide +kernel
theorem d_10_56_118 : decode prog_10_method_56_code 118 = .ok (.aload_n 0, 1) := by decide +kernel
theorem d_10_56_119 : decode prog_10_method_56_code 119 = .ok (.aload_n 0, 1) := by decide +kernel
theorem d_10_56_120 : decode prog_10_method_56_code 120 = .ok (.getfield 78, 3) := by decide +kernel
theorem d_10_56_123 : decode prog_10_method_56_code 123 = .ok (.iload_n 1, 1) := by decide +kernel
theorem d_10_56_124 : decode prog_10_method_56_code 124 = .ok (.iaload, 1) := by decide +kernel
theorem d_10_56_125 : decode prog_10_method_56_code 125 = .ok (.invokevirtual 417, 3) := by decide +kernel
theorem d_10_56_128 : decode prog_10_method_56_code 128 = .ok (.istore_n 2, 1) := by decide +kernel
theorem d_10_56_129 : decode prog_10_method_56_code 129 = .ok (.iload_n 2, 1) := by decide +kernel
theorem d_10_56_130 : decode prog_10_method_56_code 130 = .ok (.ifCond .le 17, 3) := by decide +kernel
theorem d_10_56_133 : decode prog_10_method_56_code 133 = .ok (.aload_n 0, 1) := by decide +kernel
theorem d_10_56_134 : decode prog_10_method_56_code 134 = .ok (.aload_n 0, 1) := by decide +kernel
theorem d_10_56_135 : decode prog_10_method_56_code 135 = .ok (.getfield 81, 3) := by decide +kernel
theorem d_10_56_138 : decode prog_10_method_56_code 138 = .ok (.iload_n 1, 1) := by decide +kernel
theorem d_10_56_139 : decode prog_10_method_56_code 139 = .ok (.iaload, 1) := by decide +kernel
theorem d_10_56_140 : decode prog_10_method_56_code 140 = .ok (.iload_n 2, 1) := by decide +kernel
theorem d_10_56_141 : decode prog_10_method_56_code 141 = .ok (.invokevirtual 421, 3) := by decide +kernel
theorem d_10_56_144 : decode prog_10_method_56_code 144 = .ok (.goto 14, 3) := by decide +kernel
theorem d_10_56_147 : decode prog_10_method_56_code 147 = .ok (.aload_n 0, 1) := by decide +kernel
theorem d_10_56_148 : decode prog_10_method_56_code 148 = .ok (.aload_n 0, 1) := by decide +kernel
theorem d_10_56_149 : decode prog_10_method_56_code 149 = .ok (.getfield 81, 3) := by decide +kernel
theorem d_10_56_152 : decode prog_10_method_56_code 152 = .ok (.iload_n 1, 1) := by decide +kernel
theorem d_10_56_153 : decode prog_10_method_56_code 153 = .ok (.iaload, 1) := by decide +kernel
theorem d_10_56_154 : decode prog_10_method_56_code 154 = .ok (.invokevirtual 417, 3) := by decide +kernel
theorem d_10_56_157 : decode prog_10_method_56_code 157 = .ok (.pop, 1) := by decide +kernel
theorem d_10_56_158 : decode prog_10_method_56_code 158 = .ok (.iload_n 2, 1) := by decide +kernel
theorem d_10_56_159 : decode prog_10_method_56_code 159 = .ok (.ireturn, 1) := by decide +kernel
theorem d_10_56_160 : decode prog_10_method_56_code 160 = .ok (.aload_n 0, 1) := by decide +kernel
theorem d_10_56_161 : decode prog_10_method_56_code 161 = .ok (.iload_n 1, 1) := by decide +kernel
theorem d_10_56_162 : decode prog_10_method_56_code 162 = .ok (.iconst 2, 1) := by decide +kernel
theorem d_10_56_163 : decode prog_10_method_56_code 163 = .ok (.invokevirtual 425, 3) := by decide +kernel
theorem d_10_56_166 : decode prog_10_method_56_code 166 = .ok (.iconst 2, 1) := by decide +kernel
theorem d_10_56_167 : decode prog_10_method_56_code 167 = .ok (.ireturn, 1) := by decide +kernel
theorem d_10_56_168 : decode prog_10_method_56_code 168 = .ok (.aload_n 0, 1) := by decide +kernel
theorem d_10_56_169 : decode prog_10_method_56_code 169 = .ok (.aload_n 0, 1) := by decide +kernel
theorem d_10_56_170 : decode prog_10_method_56_code 170 = .ok (.getfield 75, 3) := by decide +kernel
theorem d_10_56_173 : decode prog_10_method_56_code 173 = .ok (.iload_n 1, 1) := by decide +kernel
theorem d_10_56_174 : decode prog_10_method_56_code 174 = .ok (.iaload, 1) := by decide +kernel
theorem d_10_56_175 : decode prog_10_method_56_code 175 = .ok (.iconst 2, 1) := by decide +kernel
theorem d_10_56_176 : decode prog_10_method_56_code 176 = .ok (.invokevirtual 421, 3) := by decide +kernel
theorem d_10_56_179 : decode prog_10_method_56_code 179 = .ok (.iconst 2, 1) := by decide +kernel
theorem d_10_56_180 : decode prog_10_method_56_code 180 = .ok (.ireturn, 1) := by decide +kernel
theorem d_10_56_181 : decode prog_10_method_56_code 181 = .ok (.aload_n 0, 1) := by decide +kernel
theorem d_10_56_182 : decode prog_10_method_56_code 182 = .ok (.aload_n 0, 1) := by decide +kernel
theorem d_10_56_183 : decode prog_10_method_56_code 183 = .ok (.getfield 75, 3) := by decide +kernel
theorem d_10_56_186 : decode prog_10_method_56_code 186 = .ok (.iload_n 1, 1) := by decide +kernel
theorem d_10_56_187 : decode prog_10_method_56_code 187 = .ok (.iaload, 1) := by decide +kernel
theorem d_10_56_188 : decode prog_10_method_56_code 188 = .ok (.iconst 1, 1) := by decide +kernel
theorem d_10_56_189 : decode prog_10_method_56_code 189 = .ok (.invokevirtual 421, 3) := by decide +kernel
theorem d_10_56_192 : decode prog_10_method_56_code 192 = .ok (.iconst 1, 1) := by decide +kernel
theorem d_10_56_193 : decode prog_10_method_56_code 193 = .ok (.ireturn, 1) := by decide +kernel
theorem d_10_56_194 : decode prog_10_method_56_code 194 = .ok (.aload_n 0, 1) := by decide +kernel
theorem d_10_56_195 : decode prog_10_method_56_code 195 = .ok (.iload_n 1, 1) := by decide +kernel
theorem d_10_56_196 : decode prog_10_method_56_code 196 = .ok (.invokevirtual 428, 3) := by decide +kernel
theorem d_10_56_199 : decode prog_10_method_56_code 199 = .ok (.ireturn, 1) := by decide +kernel
theorem d_10_56_200 : decode prog_10_method_56_code 200 = .ok (.aload_n 0, 1) := by decide +kernel
theorem d_10_56_201 : decode prog_10_method_56_code 201 = .ok (.iload_n 1, 1) := by decide +kernel
theorem d_10_56_202 : decode prog_10_method_56_code 202 = .ok (.invokevirtual 431, 3) := by decide +kernel
theorem d_10_56_205 : decode prog_10_method_56_code 205 = .ok (.ireturn, 1) := by decide +kernel
theorem d_10_56_206 : decode prog_10_method_56_code 206 = .ok (.aload_n 0, 1) := by decide +kernel
theorem d_10_56_207 : decode prog_10_method_56_code 207 = .ok (.aload_n 0, 1) := by decide +kernel
theorem d_10_56_208 : decode prog_10_method_56_code 208 = .ok (.getfield 90, 3) := by decide +kernel
theorem d_10_56_211 : decode prog_10_method_56_code 211 = .ok (.iload_n 1, 1) := by decide +kernel
theorem d_10_56_212 : decode prog_10_method_56_code 212 = .ok (.iaload, 1) := by decide +kernel
theorem d_10_56_213 : decode prog_10_method_56_code 213 = .ok (.aload_n 0, 1) := by decide +kernel
theorem d_10_56_214 : decode prog_10_method_56_code 214 = .ok (.getfield 72, 3) := by decide +kernel
theorem d_10_56_217 : decode prog_10_method_56_code 217 = .ok (.iload_n 1, 1) := by decide +kernel
theorem d_10_56_218 : decode prog_10_method_56_code 218 = .ok (.iaload, 1) := by decide +kernel
theorem d_10_56_219 : decode prog_10_method_56_code 219 = .ok (.invokevirtual 434, 3) := by decide +kernel
theorem d_10_56_222 : decode prog_10_method_56_code 222 = .ok (.istore_n 3, 1) := by decide +kernel
theorem d_10_56_223 : decode prog_10_method_56_code 223 = .ok (.iload_n 3, 1) := by decide +kernel
theorem d_10_56_224 : decode prog_10_method_56_code 224 = .ok (.ifCond .lt 22, 3) := by decide +kernel
theorem d_10_56_227 : decode prog_10_method_56_code 227 = .ok (.aload_n 0, 1) := by decide +kernel
theorem d_10_56_228 : decode prog_10_method_56_code 228 = .ok (.getfield 144, 3) := by decide +kernel
theorem d_10_56_231 : decode prog_10_method_56_code 231 = .ok (.iload_n 3, 1) := by decide +kernel
theorem d_10_56_232 : decode prog_10_method_56_code 232 = .ok (.iaload, 1) := by decide +kernel
theorem d_10_56_233 : decode prog_10_method_56_code 233 = .ok (.iconst 2, 1) := by decide +kernel
theorem d_10_56_234 : decode prog_10_method_56_code 234 = .ok (.if_icmp .ne 12, 3) := by decide +kernel
theorem d_10_56_237 : decode prog_10_method_56_code 237 = .ok (.aload_n 0, 1) := by decide +kernel
theorem d_10_56_238 : decode prog_10_method_56_code 238 = .ok (.getfield 147, 3) := by decide +kernel
theorem d_10_56_241 : decode prog_10_method_56_code 241 = .ok (.iload_n 3, 1) := by decide +kernel
theorem d_10_56_242 : decode prog_10_method_56_code 242 = .ok (.iaload, 1) := by decide +kernel
theorem d_10_56_243 : decode prog_10_method_56_code 243 = .ok (.ifCond .ne 9, 3) := by decide +kernel
theorem d_10_56_246 : decode prog_10_method_56_code 246 = .ok (.aload_n 0, 1) := by decide +kernel
theorem d_10_56_247 : decode prog_10_method_56_code 247 = .ok (.iload_n 1, 1) := by decide +kernel
theorem d_10_56_248 : decode prog_10_method_56_code 248 = .ok (.invokevirtual 437, 3) := by decide +kernel
theorem d_10_56_251 : decode prog_10_method_56_code 251 = .ok (.ireturn, 1) := by decide +kernel
theorem d_10_56_252 : decode prog_10_method_56_code 252 = .ok (.aload_n 0, 1) := by decide +kernel
theorem d_10_56_253 : decode prog_10_method_56_code 253 = .ok (.iload_n 1, 1) := by decide +kernel
theorem d_10_56_254 : decode prog_10_method_56_code 254 = .ok (.iload_n 3, 1) := by decide +kernel
theorem d_10_56_255 : decode prog_10_method_56_code 255 = .ok (.invokevirtual 439, 3) := by decide +kernel
theorem d_10_56_258 : decode prog_10_method_56_code 258 = .ok (.aload_n 0, 1) := by decide +kernel
theorem d_10_56_259 : decode prog_10_method_56_code 259 = .ok (.getfield 147, 3) := by decide +kernel
theorem d_10_56_262 : decode prog_10_method_56_code 262 = .ok (.iload_n 3, 1) := by decide +kernel
theorem d_10_56_263 : decode prog_10_method_56_code 263 = .ok (.iaload, 1) := by decide +kernel
theorem d_10_56_264 : decode prog_10_method_56_code 264 = .ok (.ireturn, 1) := by decide +kernel
theorem d_10_56_265 : decode prog_10_method_56_code 265 = .ok (.aload_n 0, 1) := by decide +kernel
theorem d_10_56_266 : decode prog_10_method_56_code 266 = .ok (.aload_n 0, 1) := by decide +kernel
theorem d_10_56_267 : decode prog_10_method_56_code 267 = .ok (.getfield 75, 3) := by decide +kernel
theorem d_10_56_270 : decode prog_10_method_56_code 270 = .ok (.iload_n 1, 1) := by decide +kernel
theorem d_10_56_271 : decode prog_10_method_56_code 271 = .ok (.iaload, 1) := by decide +kernel
theorem d_10_56_272 : decode prog_10_method_56_code 272 = .ok (.iconst 1, 1) := by decide +kernel
theorem d_10_56_273 : decode prog_10_method_56_code 273 = .ok (.invokevirtual 421, 3) := by decide +kernel
theorem d_10_56_276 : decode prog_10_method_56_code 276 = .ok (.aload_n 0, 1) := by decide +kernel
theorem d_10_56_277 : decode prog_10_method_56_code 277 = .ok (.aload_n 0, 1) := by decide +kernel
theorem d_10_56_278 : decode prog_10_method_56_code 278 = .ok (.getfield 78, 3) := by decide +kernel
theorem d_10_56_281 : decode prog_10_method_56_code 281 = .ok (.iload_n 1, 1) := by decide +kernel
theorem d_10_56_282 : decode prog_10_method_56_code 282 = .ok (.iaload, 1) := by decide +kernel
theorem d_10_56_283 : decode prog_10_method_56_code 283 = .ok (.iconst 1, 1) := by decide +kernel
theorem d_10_56_284 : decode prog_10_method_56_code 284 = .ok (.invokevirtual 421, 3) := by decide +kernel
theorem d_10_56_287 : decode prog_10_method_56_code 287 = .ok (.iconst 2, 1) := by decide +kernel
theorem d_10_56_288 : decode prog_10_method_56_code 288 = .ok (.ireturn, 1) := by decide +kernel
theorem d_10_56_289 : decode prog_10_method_56_code 289 = .ok (.aload_n 0, 1) := by decide +kernel
theorem d_10_56_290 : decode prog_10_method_56_code 290 = .ok (.iload_n 1, 1) := by decide +kernel
theorem d_10_56_291 : decode prog_10_method_56_code 291 = .ok (.iconst 1, 1) := by decide +kernel
theorem d_10_56_292 : decode prog_10_method_56_code 292 = .ok (.invokevirtual 425, 3) := by decide +kernel
theorem d_10_56_295 : decode prog_10_method_56_code 295 = .ok (.iconst 1, 1) := by decide +kernel
theorem d_10_56_296 : decode prog_10_method_56_code 296 = .ok (.ireturn, 1) := by decide +kernel
theorem d_10_57_0 : decode prog_10_method_57_code 0 = .ok (.iload_n 0, 1) := by decide +kernel
theorem d_10_57_1 : decode prog_10_method_57_code 1 = .ok (.bipush 7, 2) := by decide +kernel
theorem d_10_57_3 : decode prog_10_method_57_code 3 = .ok (.if_icmp .eq 9, 3) := by decide +kernel
theorem d_10_57_6 : decode prog_10_method_57_code 6 = .ok (.iload_n 0, 1) := by decide +kernel
theorem d_10_57_7 : decode prog_10_method_57_code 7 = .ok (.bipush 8, 2) := by decide +kernel
theorem d_10_57_9 : decode prog_10_method_57_code 9 = .ok (.if_icmp .ne 7, 3) := by decide +kernel
theorem d_10_57_12 : decode prog_10_method_57_code 12 = .ok (.iconst 1, 1) := by decide +kernel
theorem d_10_57_13 : decode prog_10_method_57_code 13 = .ok (.goto 4, 3) := by decide +kernel
theorem d_10_57_16 : decode prog_10_method_57_code 16 = .ok (.iconst 0, 1) := by decide +kernel
theorem d_10_57_17 : decode prog_10_method_57_code 17 = .ok (.ireturn, 1) := by decide +kernel
theorem d_10_58_0 : decode prog_10_method_58_code 0 = .ok (.iload_n 0, 1) := by decide +kernel
theorem d_10_58_1 : decode prog_10_method_58_code 1 = .ok (.bipush 11, 2) := by decide +kernel
theorem d_10_58_3 : decode prog_10_method_58_code 3 = .ok (.if_icmp .eq 27, 3) := by decide +kernel
theorem d_10_58_6 : decode prog_10_method_58_code 6 = .ok (.iload_n 0, 1) := by decide +kernel
theorem d_10_58_7 : decode prog_10_method_58_code 7 = .ok (.bipush 12, 2) := by decide +kernel
theorem d_10_58_9 : decode prog_10_method_58_code 9 = .ok (.if_icmp .eq 21, 3) := by decide +kernel
theorem d_10_58_12 : decode prog_10_method_58_code 12 = .ok (.iload_n 0, 1) := by decide +kernel
