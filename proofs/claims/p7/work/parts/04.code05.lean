theorem d_10_37_87 : decode prog_10_method_37_code 87 = .ok (.aload_n 0, 1) := by decide +kernel
theorem d_10_37_88 : decode prog_10_method_37_code 88 = .ok (.getfield 78, 3) := by decide +kernel
theorem d_10_37_91 : decode prog_10_method_37_code 91 = .ok (.iload_n 1, 1) := by decide +kernel
theorem d_10_37_92 : decode prog_10_method_37_code 92 = .ok (.iaload, 1) := by decide +kernel
theorem d_10_37_93 : decode prog_10_method_37_code 93 = .ok (.ifCond .ge 5, 3) := by decide +kernel
theorem d_10_37_96 : decode prog_10_method_37_code 96 = .ok (.iconst 0, 1) := by decide +kernel
theorem d_10_37_97 : decode prog_10_method_37_code 97 = .ok (.ireturn, 1) := by decide +kernel
theorem d_10_37_98 : decode prog_10_method_37_code 98 = .ok (.aload_n 0, 1) := by decide +kernel
theorem d_10_37_99 : decode prog_10_method_37_code 99 = .ok (.getfield 84, 3) := by decide +kernel
theorem d_10_37_102 : decode prog_10_method_37_code 102 = .ok (.iload_n 1, 1) := by decide +kernel
theorem d_10_37_103 : decode prog_10_method_37_code 103 = .ok (.iaload, 1) := by decide +kernel
theorem d_10_37_104 : decode prog_10_method_37_code 104 = .ok (.iconst 2, 1) := by decide +kernel
theorem d_10_37_105 : decode prog_10_method_37_code 105 = .ok (.if_icmp .ne 5, 3) := by decide +kernel
theorem d_10_37_108 : decode prog_10_method_37_code 108 = .ok (.iconst 1, 1) := by decide +kernel
theorem d_10_37_109 : decode prog_10_method_37_code 109 = .ok (.ireturn, 1) := by decide +kernel
theorem d_10_37_110 : decode prog_10_method_37_code 110 = .ok (.aload_n 0, 1) := by decide +kernel
theorem d_10_37_111 : decode prog_10_method_37_code 111 = .ok (.ldc_w 344, 3) := by decide +kernel
theorem d_10_37_114 : decode prog_10_method_37_code 114 = .ok (.invokevirtual 215, 3) := by decide +kernel
theorem d_10_37_117 : decode prog_10_method_37_code 117 = .ok (.ifCond .ne 5, 3) := by decide +kernel
theorem d_10_37_120 : decode prog_10_method_37_code 120 = .ok (.iconst 0, 1) := by decide +kernel
theorem d_10_37_121 : decode prog_10_method_37_code 121 = .ok (.ireturn, 1) := by decide +kernel
theorem d_10_37_122 : decode prog_10_method_37_code 122 = .ok (.aload_n 0, 1) := by decide +kernel
theorem d_10_37_123 : decode prog_10_method_37_code 123 = .ok (.getfield 81, 3) := by decide +kernel
theorem d_10_37_126 : decode prog_10_method_37_code 126 = .ok (.iload_n 1, 1) := by decide +kernel
theorem d_10_37_127 : decode prog_10_method_37_code 127 = .ok (.aload_n 0, 1) := by decide +kernel
theorem d_10_37_128 : decode prog_10_method_37_code 128 = .ok (.invokevirtual 266, 3) := by decide +kernel
theorem d_10_37_131 : decode prog_10_method_37_code 131 = .ok (.iastore, 1) := by decide +kernel
theorem d_10_37_132 : decode prog_10_method_37_code 132 = .ok (.aload_n 0, 1) := by decide +kernel
theorem d_10_37_133 : decode prog_10_method_37_code 133 = .ok (.getfield 81, 3) := by decide +kernel
theorem d_10_37_136 : decode prog_10_method_37_code 136 = .ok (.iload_n 1, 1) := by decide +kernel
theorem d_10_37_137 : decode prog_10_method_37_code 137 = .ok (.iaload, 1) := by decide +kernel
theorem d_10_37_138 : decode prog_10_method_37_code 138 = .ok (.ifCond .lt 7, 3) := by decide +kernel
theorem d_10_37_141 : decode prog_10_method_37_code 141 = .ok (.iconst 1, 1) := by decide +kernel
theorem d_10_37_142 : decode prog_10_method_37_code 142 = .ok (.goto 4, 3) := by decide +kernel
theorem d_10_37_145 : decode prog_10_method_37_code 145 = .ok (.iconst 0, 1) := by decide +kernel
theorem d_10_37_146 : decode prog_10_method_37_code 146 = .ok (.ireturn, 1) := by decide +kernel
theorem d_10_38_0 : decode prog_10_method_38_code 0 = .ok (.aload_n 0, 1) := by decide +kernel
theorem d_10_38_1 : decode prog_10_method_38_code 1 = .ok (.bipush 27, 2) := by decide +kernel
theorem d_10_38_3 : decode prog_10_method_38_code 3 = .ok (.aload_n 0, 1) := by decide +kernel
theorem d_10_38_4 : decode prog_10_method_38_code 4 = .ok (.getfield 58, 3) := by decide +kernel
theorem d_10_38_7 : decode prog_10_method_38_code 7 = .ok (.invokevirtual 187, 3) := by decide +kernel
theorem d_10_38_10 : decode prog_10_method_38_code 10 = .ok (.istore_n 1, 1) := by decide +kernel
theorem d_10_38_11 : decode prog_10_method_38_code 11 = .ok (.aload_n 0, 1) := by decide +kernel
theorem d_10_38_12 : decode prog_10_method_38_code 12 = .ok (.dup, 1) := by decide +kernel
theorem d_10_38_13 : decode prog_10_method_38_code 13 = .ok (.getfield 58, 3) := by decide +kernel
theorem d_10_38_16 : decode prog_10_method_38_code 16 = .ok (.iconst 1, 1) := by decide +kernel
theorem d_10_38_17 : decode prog_10_method_38_code 17 = .ok (.iadd, 1) := by decide +kernel
theorem d_10_38_18 : decode prog_10_method_38_code 18 = .ok (.putfield 58, 3) := by decide +kernel
theorem d_10_38_21 : decode prog_10_method_38_code 21 = .ok (.aload_n 0, 1) := by decide +kernel
theorem d_10_38_22 : decode prog_10_method_38_code 22 = .ok (.getfield 75, 3) := by decide +kernel
theorem d_10_38_25 : decode prog_10_method_38_code 25 = .ok (.iload_n 1, 1) := by decide +kernel
theorem d_10_38_26 : decode prog_10_method_38_code 26 = .ok (.aload_n 0, 1) := by decide +kernel
theorem d_10_38_27 : decode prog_10_method_38_code 27 = .ok (.ldc_w 282, 3) := by decide +kernel
theorem d_10_38_30 : decode prog_10_method_38_code 30 = .ok (.ldc_w 287, 3) := by decide +kernel
theorem d_10_38_33 : decode prog_10_method_38_code 33 = .ok (.invokevirtual 324, 3) := by decide +kernel
theorem d_10_38_36 : decode prog_10_method_38_code 36 = .ok (.iastore, 1) := by decide +kernel
theorem d_10_38_37 : decode prog_10_method_38_code 37 = .ok (.aload_n 0, 1) := by decide +kernel
theorem d_10_38_38 : decode prog_10_method_38_code 38 = .ok (.getfield 75, 3) := by decide +kernel
theorem d_10_38_41 : decode prog_10_method_38_code 41 = .ok (.iload_n 1, 1) := by decide +kernel
theorem d_10_38_42 : decode prog_10_method_38_code 42 = .ok (.iaload, 1) := by decide +kernel
theorem d_10_38_43 : decode prog_10_method_38_code 43 = .ok (.ifCond .ge 7, 3) := by decide +kernel
theorem d_10_38_46 : decode prog_10_method_38_code 46 = .ok (.iconst (-1), 1) := by decide +kernel
theorem d_10_38_47 : decode prog_10_method_38_code 47 = .ok (.goto 4, 3) := by decide +kernel
theorem d_10_38_50 : decode prog_10_method_38_code 50 = .ok (.iload_n 1, 1) := by decide +kernel
theorem d_10_38_51 : decode prog_10_method_38_code 51 = .ok (.ireturn, 1) := by decide +kernel
theorem d_10_39_0 : decode prog_10_method_39_code 0 = .ok (.aload_n 0, 1) := by decide +kernel
theorem d_10_39_1 : decode prog_10_method_39_code 1 = .ok (.getfield 23, 3) := by decide +kernel
theorem d_10_39_4 : decode prog_10_method_39_code 4 = .ok (.aload_n 0, 1) := by decide +kernel
theorem d_10_39_5 : decode prog_10_method_39_code 5 = .ok (.getfield 58, 3) := by decide +kernel
theorem d_10_39_8 : decode prog_10_method_39_code 8 = .ok (.iaload, 1) := by decide +kernel
theorem d_10_39_9 : decode prog_10_method_39_code 9 = .ok (.iconst 1, 1) := by decide +kernel
theorem d_10_39_10 : decode prog_10_method_39_code 10 = .ok (.if_icmp .eq 5, 3) := by decide +kernel
theorem d_10_39_13 : decode prog_10_method_39_code 13 = .ok (.iconst 0, 1) := by decide +kernel
theorem d_10_39_14 : decode prog_10_method_39_code 14 = .ok (.ireturn, 1) := by decide +kernel
theorem d_10_39_15 : decode prog_10_method_39_code 15 = .ok (.aload_n 0, 1) := by decide +kernel
theorem d_10_39_16 : decode prog_10_method_39_code 16 = .ok (.getfield 58, 3) := by decide +kernel
theorem d_10_39_19 : decode prog_10_method_39_code 19 = .ok (.iconst 1, 1) := by decide +kernel
theorem d_10_39_20 : decode prog_10_method_39_code 20 = .ok (.iadd, 1) := by decide +kernel
theorem d_10_39_21 : decode prog_10_method_39_code 21 = .ok (.istore_n 1, 1) := by decide +kernel
theorem d_10_39_22 : decode prog_10_method_39_code 22 = .ok (.iconst 0, 1) := by decide +kernel
theorem d_10_39_23 : decode prog_10_method_39_code 23 = .ok (.istore_n 2, 1) := by decide +kernel
theorem d_10_39_24 : decode prog_10_method_39_code 24 = .ok (.aload_n 0, 1) := by decide +kernel
theorem d_10_39_25 : decode prog_10_method_39_code 25 = .ok (.iload_n 1, 1) := by decide +kernel
theorem d_10_39_26 : decode prog_10_method_39_code 26 = .ok (.ldc_w 264, 3) := by decide +kernel
theorem d_10_39_29 : decode prog_10_method_39_code 29 = .ok (.invokevirtual 62, 3) := by decide +kernel
theorem d_10_39_32 : decode prog_10_method_39_code 32 = .ok (.ifCond .eq 57, 3) := by decide +kernel
theorem d_10_39_35 : decode prog_10_method_39_code 35 = .ok (.aload_n 0, 1) := by decide +kernel
theorem d_10_39_36 : decode prog_10_method_39_code 36 = .ok (.iload_n 1, 1) := by decide +kernel
theorem d_10_39_37 : decode prog_10_method_39_code 37 = .ok (.ldc_w 264, 3) := by decide +kernel
theorem d_10_39_40 : decode prog_10_method_39_code 40 = .ok (.invokevirtual 62, 3) := by decide +kernel
theorem d_10_39_43 : decode prog_10_method_39_code 43 = .ok (.ifCond .eq 6, 3) := by decide +kernel
theorem d_10_39_46 : decode prog_10_method_39_code 46 = .ok (.iinc 2 1, 3) := by decide +kernel
theorem d_10_39_49 : decode prog_10_method_39_code 49 = .ok (.aload_n 0, 1) := by decide +kernel
theorem d_10_39_50 : decode prog_10_method_39_code 50 = .ok (.iload_n 1, 1) := by decide +kernel
theorem d_10_39_51 : decode prog_10_method_39_code 51 = .ok (.ldc_w 269, 3) := by decide +kernel
theorem d_10_39_54 : decode prog_10_method_39_code 54 = .ok (.invokevirtual 62, 3) := by decide +kernel
theorem d_10_39_57 : decode prog_10_method_39_code 57 = .ok (.ifCond .eq 6, 3) := by decide +kernel
theorem d_10_39_60 : decode prog_10_method_39_code 60 = .ok (.iinc 2 (-1), 3) := by decide +kernel
theorem d_10_39_63 : decode prog_10_method_39_code 63 = .ok (.iinc 1 1, 3) := by decide +kernel
theorem d_10_39_66 : decode prog_10_method_39_code 66 = .ok (.iload_n 2, 1) := by decide +kernel
theorem d_10_39_67 : decode prog_10_method_39_code 67 = .ok (.ifCond .le 22, 3) := by decide +kernel
theorem d_10_39_70 : decode prog_10_method_39_code 70 = .ok (.aload_n 0, 1) := by decide +kernel
theorem d_10_39_71 : decode prog_10_method_39_code 71 = .ok (.getfield 23, 3) := by decide +kernel
theorem d_10_39_74 : decode prog_10_method_39_code 74 = .ok (.iload_n 1, 1) := by decide +kernel
theorem d_10_39_75 : decode prog_10_method_39_code 75 = .ok (.iaload, 1) := by decide +kernel
theorem d_10_39_76 : decode prog_10_method_39_code 76 = .ok (.ifCond .eq 13, 3) := by decide +kernel
theorem d_10_39_79 : decode prog_10_method_39_code 79 = .ok (.aload_n 0, 1) := by decide +kernel
theorem d_10_39_80 : decode prog_10_method_39_code 80 = .ok (.getfield 23, 3) := by decide +kernel
theorem d_10_39_83 : decode prog_10_method_39_code 83 = .ok (.iload_n 1, 1) := by decide +kernel
theorem d_10_39_84 : decode prog_10_method_39_code 84 = .ok (.iaload, 1) := by decide +kernel
theorem d_10_39_85 : decode prog_10_method_39_code 85 = .ok (.iconst 5, 1) := by decide +kernel
theorem d_10_39_86 : decode prog_10_method_39_code 86 = .ok (.if_icmp .ne (-51), 3) := by decide +kernel
theorem d_10_39_89 : decode prog_10_method_39_code 89 = .ok (.iload_n 2, 1) := by decide +kernel
theorem d_10_39_90 : decode prog_10_method_39_code 90 = .ok (.ifCond .ne 18, 3) := by decide +kernel
theorem d_10_39_93 : decode prog_10_method_39_code 93 = .ok (.aload_n 0, 1) := by decide +kernel
theorem d_10_39_94 : decode prog_10_method_39_code 94 = .ok (.iload_n 1, 1) := by decide +kernel
theorem d_10_39_95 : decode prog_10_method_39_code 95 = .ok (.ldc_w 271, 3) := by decide +kernel
theorem d_10_39_98 : decode prog_10_method_39_code 98 = .ok (.invokevirtual 62, 3) := by decide +kernel
theorem d_10_39_101 : decode prog_10_method_39_code 101 = .ok (.ifCond .eq 7, 3) := by decide +kernel
theorem d_10_39_104 : decode prog_10_method_39_code 104 = .ok (.iconst 1, 1) := by decide +kernel
theorem d_10_39_105 : decode prog_10_method_39_code 105 = .ok (.goto 4, 3) := by decide +kernel
theorem d_10_39_108 : decode prog_10_method_39_code 108 = .ok (.iconst 0, 1) := by decide +kernel
theorem d_10_39_109 : decode prog_10_method_39_code 109 = .ok (.ireturn, 1) := by decide +kernel
theorem d_10_3_0 : decode prog_10_method_3_code 0 = .ok (.iload_n 0, 1) := by decide +kernel
theorem d_10_3_1 : decode prog_10_method_3_code 1 = .ok (.bipush 48, 2) := by decide +kernel
theorem d_10_3_3 : decode prog_10_method_3_code 3 = .ok (.if_icmp .lt 13, 3) := by decide +kernel
theorem d_10_3_6 : decode prog_10_method_3_code 6 = .ok (.iload_n 0, 1) := by decide +kernel
theorem d_10_3_7 : decode prog_10_method_3_code 7 = .ok (.bipush 57, 2) := by decide +kernel
theorem d_10_3_9 : decode prog_10_method_3_code 9 = .ok (.if_icmp .gt 7, 3) := by decide +kernel
theorem d_10_3_12 : decode prog_10_method_3_code 12 = .ok (.iconst 1, 1) := by decide +kernel
theorem d_10_3_13 : decode prog_10_method_3_code 13 = .ok (.goto 4, 3) := by decide +kernel
theorem d_10_3_16 : decode prog_10_method_3_code 16 = .ok (.iconst 0, 1) := by decide +kernel
theorem d_10_3_17 : decode prog_10_method_3_code 17 = .ok (.ireturn, 1) := by decide +kernel
theorem d_10_40_0 : decode prog_10_method_40_code 0 = .ok (.aload_n 0, 1) := by decide +kernel
theorem d_10_40_1 : decode prog_10_method_40_code 1 = .ok (.aload_n 0, 1) := by decide +kernel
theorem d_10_40_2 : decode prog_10_method_40_code 2 = .ok (.getfield 58, 3) := by decide +kernel
theorem d_10_40_5 : decode prog_10_method_40_code 5 = .ok (.iconst 1, 1) := by decide +kernel
theorem d_10_40_6 : decode prog_10_method_40_code 6 = .ok (.iadd, 1) := by decide +kernel
theorem d_10_40_7 : decode prog_10_method_40_code 7 = .ok (.ldc_w 264, 3) := by decide +kernel
theorem d_10_40_10 : decode prog_10_method_40_code 10 = .ok (.invokevirtual 62, 3) := by decide +kernel
theorem d_10_40_13 : decode prog_10_method_40_code 13 = .ok (.ifCond .ne 19, 3) := by decide +kernel
theorem d_10_40_16 : decode prog_10_method_40_code 16 = .ok (.aload_n 0, 1) := by decide +kernel
theorem d_10_40_17 : decode prog_10_method_40_code 17 = .ok (.aload_n 0, 1) := by decide +kernel
theorem d_10_40_18 : decode prog_10_method_40_code 18 = .ok (.getfield 58, 3) := by decide +kernel
theorem d_10_40_21 : decode prog_10_method_40_code 21 = .ok (.iconst 1, 1) := by decide +kernel
theorem d_10_40_22 : decode prog_10_method_40_code 22 = .ok (.iadd, 1) := by decide +kernel
theorem d_10_40_23 : decode prog_10_method_40_code 23 = .ok (.ldc_w 271, 3) := by decide +kernel
theorem d_10_40_26 : decode prog_10_method_40_code 26 = .ok (.invokevirtual 62, 3) := by decide +kernel
theorem d_10_40_29 : decode prog_10_method_40_code 29 = .ok (.ifCond .eq 8, 3) := by decide +kernel
theorem d_10_40_32 : decode prog_10_method_40_code 32 = .ok (.aload_n 0, 1) := by decide +kernel
theorem d_10_40_33 : decode prog_10_method_40_code 33 = .ok (.invokevirtual 346, 3) := by decide +kernel
theorem d_10_40_36 : decode prog_10_method_40_code 36 = .ok (.ireturn, 1) := by decide +kernel
theorem d_10_40_37 : decode prog_10_method_40_code 37 = .ok (.aload_n 0, 1) := by decide +kernel
theorem d_10_40_38 : decode prog_10_method_40_code 38 = .ok (.bipush 23, 2) := by decide +kernel
theorem d_10_40_40 : decode prog_10_method_40_code 40 = .ok (.aload_n 0, 1) := by decide +kernel
theorem d_10_40_41 : decode prog_10_method_40_code 41 = .ok (.getfield 58, 3) := by decide +kernel
theorem d_10_40_44 : decode prog_10_method_40_code 44 = .ok (.invokevirtual 187, 3) := by decide +kernel
theorem d_10_40_47 : decode prog_10_method_40_code 47 = .ok (.istore_n 1, 1) := by decide +kernel
theorem d_10_40_48 : decode prog_10_method_40_code 48 = .ok (.aload_n 0, 1) := by decide +kernel
theorem d_10_40_49 : decode prog_10_method_40_code 49 = .ok (.dup, 1) := by decide +kernel
theorem d_10_40_50 : decode prog_10_method_40_code 50 = .ok (.getfield 58, 3) := by decide +kernel
theorem d_10_40_53 : decode prog_10_method_40_code 53 = .ok (.iconst 1, 1) := by decide +kernel
theorem d_10_40_54 : decode prog_10_method_40_code 54 = .ok (.iadd, 1) := by decide +kernel
theorem d_10_40_55 : decode prog_10_method_40_code 55 = .ok (.putfield 58, 3) := by decide +kernel
theorem d_10_40_58 : decode prog_10_method_40_code 58 = .ok (.aload_n 0, 1) := by decide +kernel
theorem d_10_40_59 : decode prog_10_method_40_code 59 = .ok (.ldc_w 282, 3) := by decide +kernel
theorem d_10_40_62 : decode prog_10_method_40_code 62 = .ok (.invokevirtual 102, 3) := by decide +kernel
theorem d_10_40_65 : decode prog_10_method_40_code 65 = .ok (.ifCond .ne 5, 3) := by decide +kernel
theorem d_10_40_68 : decode prog_10_method_40_code 68 = .ok (.iload_n 1, 1) := by decide +kernel
theorem d_10_40_69 : decode prog_10_method_40_code 69 = .ok (.ireturn, 1) := by decide +kernel
theorem d_10_40_70 : decode prog_10_method_40_code 70 = .ok (.aload_n 0, 1) := by decide +kernel
theorem d_10_40_71 : decode prog_10_method_40_code 71 = .ok (.getfield 75, 3) := by decide +kernel
theorem d_10_40_74 : decode prog_10_method_40_code 74 = .ok (.iload_n 1, 1) := by decide +kernel
theorem d_10_40_75 : decode prog_10_method_40_code 75 = .ok (.aload_n 0, 1) := by decide +kernel
theorem d_10_40_76 : decode prog_10_method_40_code 76 = .ok (.invokevirtual 349, 3) := by decide +kernel
theorem d_10_40_79 : decode prog_10_method_40_code 79 = .ok (.iastore, 1) := by decide +kernel
theorem d_10_40_80 : decode prog_10_method_40_code 80 = .ok (.aload_n 0, 1) := by decide +kernel
theorem d_10_40_81 : decode prog_10_method_40_code 81 = .ok (.getfield 75, 3) := by decide +kernel
theorem d_10_40_84 : decode prog_10_method_40_code 84 = .ok (.iload_n 1, 1) := by decide +kernel
theorem d_10_40_85 : decode prog_10_method_40_code 85 = .ok (.iaload, 1) := by decide +kernel
theorem d_10_40_86 : decode prog_10_method_40_code 86 = .ok (.ifCond .ge 7, 3) := by decide +kernel
theorem d_10_40_89 : decode prog_10_method_40_code 89 = .ok (.iconst (-1), 1) := by decide +kernel
theorem d_10_40_90 : decode prog_10_method_40_code 90 = .ok (.goto 4, 3) := by decide +kernel
theorem d_10_40_93 : decode prog_10_method_40_code 93 = .ok (.iload_n 1, 1) := by decide +kernel
theorem d_10_40_94 : decode prog_10_method_40_code 94 = .ok (.ireturn, 1) := by decide +kernel
theorem d_10_41_0 : decode prog_10_method_41_code 0 = .ok (.aload_n 0, 1) := by decide +kernel
theorem d_10_41_1 : decode prog_10_method_41_code 1 = .ok (.bipush 22, 2) := by decide +kernel
theorem d_10_41_3 : decode prog_10_method_41_code 3 = .ok (.aload_n 0, 1) := by decide +kernel
theorem d_10_41_4 : decode prog_10_method_41_code 4 = .ok (.getfield 58, 3) := by decide +kernel
theorem d_10_41_7 : decode prog_10_method_41_code 7 = .ok (.invokevirtual 187, 3) := by decide +kernel
theorem d_10_41_10 : decode prog_10_method_41_code 10 = .ok (.istore_n 1, 1) := by decide +kernel
theorem d_10_41_11 : decode prog_10_method_41_code 11 = .ok (.iconst (-1), 1) := by decide +kernel
theorem d_10_41_12 : decode prog_10_method_41_code 12 = .ok (.istore_n 2, 1) := by decide +kernel
theorem d_10_41_13 : decode prog_10_method_41_code 13 = .ok (.aload_n 0, 1) := by decide +kernel
theorem d_10_41_14 : decode prog_10_method_41_code 14 = .ok (.iconst 3, 1) := by decide +kernel
theorem d_10_41_15 : decode prog_10_method_41_code 15 = .ok (.aload_n 0, 1) := by decide +kernel
theorem d_10_41_16 : decode prog_10_method_41_code 16 = .ok (.getfield 58, 3) := by decide +kernel
theorem d_10_41_19 : decode prog_10_method_41_code 19 = .ok (.invokevirtual 187, 3) := by decide +kernel
theorem d_10_41_22 : decode prog_10_method_41_code 22 = .ok (.istore_n 3, 1) := by decide +kernel
theorem d_10_41_23 : decode prog_10_method_41_code 23 = .ok (.aload_n 0, 1) := by decide +kernel
theorem d_10_41_24 : decode prog_10_method_41_code 24 = .ok (.dup, 1) := by decide +kernel
theorem d_10_41_25 : decode prog_10_method_41_code 25 = .ok (.getfield 58, 3) := by decide +kernel
theorem d_10_41_28 : decode prog_10_method_41_code 28 = .ok (.iconst 1, 1) := by decide +kernel
theorem d_10_41_29 : decode prog_10_method_41_code 29 = .ok (.iadd, 1) := by decide +kernel
theorem d_10_41_30 : decode prog_10_method_41_code 30 = .ok (.putfield 58, 3) := by decide +kernel
theorem d_10_41_33 : decode prog_10_method_41_code 33 = .ok (.aload_n 0, 1) := by decide +kernel
theorem d_10_41_34 : decode prog_10_method_41_code 34 = .ok (.ldc_w 264, 3) := by decide +kernel
theorem d_10_41_37 : decode prog_10_method_41_code 37 = .ok (.invokevirtual 102, 3) := by decide +kernel
theorem d_10_41_40 : decode prog_10_method_41_code 40 = .ok (.ifCond .eq 13, 3) := by decide +kernel
theorem d_10_41_43 : decode prog_10_method_41_code 43 = .ok (.aload_n 0, 1) := by decide +kernel
theorem d_10_41_44 : decode prog_10_method_41_code 44 = .ok (.iload_n 3, 1) := by decide +kernel
theorem d_10_41_45 : decode prog_10_method_41_code 45 = .ok (.invokevirtual 352, 3) := by decide +kernel
theorem d_10_41_48 : decode prog_10_method_41_code 48 = .ok (.ifCond .ne 5, 3) := by decide +kernel
theorem d_10_41_51 : decode prog_10_method_41_code 51 = .ok (.iconst (-1), 1) := by decide +kernel
theorem d_10_41_52 : decode prog_10_method_41_code 52 = .ok (.ireturn, 1) := by decide +kernel
theorem d_10_41_53 : decode prog_10_method_41_code 53 = .ok (.aload_n 0, 1) := by decide +kernel
theorem d_10_41_54 : decode prog_10_method_41_code 54 = .ok (.ldc_w 271, 3) := by decide +kernel
theorem d_10_41_57 : decode prog_10_method_41_code 57 = .ok (.invokevirtual 215, 3) := by decide +kernel
theorem d_10_41_60 : decode prog_10_method_41_code 60 = .ok (.ifCond .ne 5, 3) := by decide +kernel
theorem d_10_41_63 : decode prog_10_method_41_code 63 = .ok (.iconst (-1), 1) := by decide +kernel
theorem d_10_41_64 : decode prog_10_method_41_code 64 = .ok (.ireturn, 1) := by decide +kernel
theorem d_10_41_65 : decode prog_10_method_41_code 65 = .ok (.iload_n 2, 1) := by decide +kernel
theorem d_10_41_66 : decode prog_10_method_41_code 66 = .ok (.ifCond .ge 13, 3) := by decide +kernel
theorem d_10_41_69 : decode prog_10_method_41_code 69 = .ok (.aload_n 0, 1) := by decide +kernel
theorem d_10_41_70 : decode prog_10_method_41_code 70 = .ok (.getfield 75, 3) := by decide +kernel
theorem d_10_41_73 : decode prog_10_method_41_code 73 = .ok (.iload_n 1, 1) := by decide +kernel
theorem d_10_41_74 : decode prog_10_method_41_code 74 = .ok (.iload_n 3, 1) := by decide +kernel
theorem d_10_41_75 : decode prog_10_method_41_code 75 = .ok (.iastore, 1) := by decide +kernel
theorem d_10_41_76 : decode prog_10_method_41_code 76 = .ok (.goto 10, 3) := by decide +kernel
theorem d_10_41_79 : decode prog_10_method_41_code 79 = .ok (.aload_n 0, 1) := by decide +kernel
theorem d_10_41_80 : decode prog_10_method_41_code 80 = .ok (.getfield 87, 3) := by decide +kernel
theorem d_10_41_83 : decode prog_10_method_41_code 83 = .ok (.iload_n 2, 1) := by decide +kernel
theorem d_10_41_84 : decode prog_10_method_41_code 84 = .ok (.iload_n 3, 1) := by decide +kernel
theorem d_10_41_85 : decode prog_10_method_41_code 85 = .ok (.iastore, 1) := by decide +kernel
theorem d_10_41_86 : decode prog_10_method_41_code 86 = .ok (.iload_n 3, 1) := by decide +kernel
theorem d_10_41_87 : decode prog_10_method_41_code 87 = .ok (.istore_n 2, 1) := by decide +kernel
theorem d_10_41_88 : decode prog_10_method_41_code 88 = .ok (.aload_n 0, 1) := by decide +kernel
theorem d_10_41_89 : decode prog_10_method_41_code 89 = .ok (.invokevirtual 355, 3) := by decide +kernel
theorem d_10_41_92 : decode prog_10_method_41_code 92 = .ok (.ifCond .ne (-79), 3) := by decide +kernel
theorem d_10_41_95 : decode prog_10_method_41_code 95 = .ok (.aload_n 0, 1) := by decide +kernel
theorem d_10_41_96 : decode prog_10_method_41_code 96 = .ok (.getfield 78, 3) := by decide +kernel
theorem d_10_41_99 : decode prog_10_method_41_code 99 = .ok (.iload_n 1, 1) := by decide +kernel
theorem d_10_41_100 : decode prog_10_method_41_code 100 = .ok (.aload_n 0, 1) := by decide +kernel
theorem d_10_41_101 : decode prog_10_method_41_code 101 = .ok (.invokevirtual 266, 3) := by decide +kernel
theorem d_10_41_104 : decode prog_10_method_41_code 104 = .ok (.iastore, 1) := by decide +kernel
theorem d_10_41_105 : decode prog_10_method_41_code 105 = .ok (.aload_n 0, 1) := by decide +kernel
theorem d_10_41_106 : decode prog_10_method_41_code 106 = .ok (.getfield 78, 3) := by decide +kernel
theorem d_10_41_109 : decode prog_10_method_41_code 109 = .ok (.iload_n 1, 1) := by decide +kernel
theorem d_10_41_110 : decode prog_10_method_41_code 110 = .ok (.iaload, 1) := by decide +kernel
theorem d_10_41_111 : decode prog_10_method_41_code 111 = .ok (.ifCond .ge 7, 3) := by decide +kernel
theorem d_10_41_114 : decode prog_10_method_41_code 114 = .ok (.iconst (-1), 1) := by decide +kernel
theorem d_10_41_115 : decode prog_10_method_41_code 115 = .ok (.goto 4, 3) := by decide +kernel
theorem d_10_41_118 : decode prog_10_method_41_code 118 = .ok (.iload_n 1, 1) := by decide +kernel
theorem d_10_41_119 : decode prog_10_method_41_code 119 = .ok (.ireturn, 1) := by decide +kernel
theorem d_10_42_0 : decode prog_10_method_42_code 0 = .ok (.aload_n 0, 1) := by decide +kernel
theorem d_10_42_1 : decode prog_10_method_42_code 1 = .ok (.invokevirtual 183, 3) := by decide +kernel
theorem d_10_42_4 : decode prog_10_method_42_code 4 = .ok (.ifCond .ne 5, 3) := by decide +kernel
theorem d_10_42_7 : decode prog_10_method_42_code 7 = .ok (.iconst 0, 1) := by decide +kernel
theorem d_10_42_8 : decode prog_10_method_42_code 8 = .ok (.ireturn, 1) := by decide +kernel
theorem d_10_42_9 : decode prog_10_method_42_code 9 = .ok (.aload_n 0, 1) := by decide +kernel
theorem d_10_42_10 : decode prog_10_method_42_code 10 = .ok (.dup, 1) := by decide +kernel
theorem d_10_42_11 : decode prog_10_method_42_code 11 = .ok (.getfield 58, 3) := by decide +kernel
theorem d_10_42_14 : decode prog_10_method_42_code 14 = .ok (.iconst 1, 1) := by decide +kernel
theorem d_10_42_15 : decode prog_10_method_42_code 15 = .ok (.iadd, 1) := by decide +kernel
theorem d_10_42_16 : decode prog_10_method_42_code 16 = .ok (.putfield 58, 3) := by decide +kernel
theorem d_10_42_19 : decode prog_10_method_42_code 19 = .ok (.aload_n 0, 1) := by decide +kernel
theorem d_10_42_20 : decode prog_10_method_42_code 20 = .ok (.getfield 66, 3) := by decide +kernel
theorem d_10_42_23 : decode prog_10_method_42_code 23 = .ok (.iload_n 1, 1) := by decide +kernel
theorem d_10_42_24 : decode prog_10_method_42_code 24 = .ok (.iconst 4, 1) := by decide +kernel
theorem d_10_42_25 : decode prog_10_method_42_code 25 = .ok (.iastore, 1) := by decide +kernel
theorem d_10_42_26 : decode prog_10_method_42_code 26 = .ok (.aload_n 0, 1) := by decide +kernel
theorem d_10_42_27 : decode prog_10_method_42_code 27 = .ok (.getfield 75, 3) := by decide +kernel
theorem d_10_42_30 : decode prog_10_method_42_code 30 = .ok (.iload_n 1, 1) := by decide +kernel
theorem d_10_42_31 : decode prog_10_method_42_code 31 = .ok (.aload_n 0, 1) := by decide +kernel
theorem d_10_42_32 : decode prog_10_method_42_code 32 = .ok (.invokevirtual 266, 3) := by decide +kernel
theorem d_10_42_35 : decode prog_10_method_42_code 35 = .ok (.iastore, 1) := by decide +kernel
theorem d_10_42_36 : decode prog_10_method_42_code 36 = .ok (.aload_n 0, 1) := by decide +kernel
theorem d_10_42_37 : decode prog_10_method_42_code 37 = .ok (.getfield 75, 3) := by decide +kernel
theorem d_10_42_40 : decode prog_10_method_42_code 40 = .ok (.iload_n 1, 1) := by decide +kernel
theorem d_10_42_41 : decode prog_10_method_42_code 41 = .ok (.iaload, 1) := by decide +kernel
theorem d_10_42_42 : decode prog_10_method_42_code 42 = .ok (.ifCond .ge 5, 3) := by decide +kernel
theorem d_10_42_45 : decode prog_10_method_42_code 45 = .ok (.iconst 0, 1) := by decide +kernel
theorem d_10_42_46 : decode prog_10_method_42_code 46 = .ok (.ireturn, 1) := by decide +kernel
theorem d_10_42_47 : decode prog_10_method_42_code 47 = .ok (.aload_n 0, 1) := by decide +kernel
theorem d_10_42_48 : decode prog_10_method_42_code 48 = .ok (.ldc 253, 2) := by decide +kernel
theorem d_10_42_50 : decode prog_10_method_42_code 50 = .ok (.invokevirtual 102, 3) := by decide +kernel
theorem d_10_42_53 : decode prog_10_method_42_code 53 = .ok (.ifCond .eq 34, 3) := by decide +kernel
theorem d_10_42_56 : decode prog_10_method_42_code 56 = .ok (.aload_n 0, 1) := by decide +kernel
theorem d_10_42_57 : decode prog_10_method_42_code 57 = .ok (.dup, 1) := by decide +kernel
theorem d_10_42_58 : decode prog_10_method_42_code 58 = .ok (.getfield 58, 3) := by decide +kernel
theorem d_10_42_61 : decode prog_10_method_42_code 61 = .ok (.iconst 1, 1) := by decide +kernel
theorem d_10_42_62 : decode prog_10_method_42_code 62 = .ok (.iadd, 1) := by decide +kernel
theorem d_10_42_63 : decode prog_10_method_42_code 63 = .ok (.putfield 58, 3) := by decide +kernel
theorem d_10_42_66 : decode prog_10_method_42_code 66 = .ok (.aload_n 0, 1) := by decide +kernel
theorem d_10_42_67 : decode prog_10_method_42_code 67 = .ok (.getfield 78, 3) := by decide +kernel
theorem d_10_42_70 : decode prog_10_method_42_code 70 = .ok (.iload_n 1, 1) := by decide +kernel
theorem d_10_42_71 : decode prog_10_method_42_code 71 = .ok (.aload_n 0, 1) := by decide +kernel
theorem d_10_42_72 : decode prog_10_method_42_code 72 = .ok (.invokevirtual 266, 3) := by decide +kernel
theorem d_10_42_75 : decode prog_10_method_42_code 75 = .ok (.iastore, 1) := by decide +kernel
theorem d_10_42_76 : decode prog_10_method_42_code 76 = .ok (.aload_n 0, 1) := by decide +kernel
theorem d_10_42_77 : decode prog_10_method_42_code 77 = .ok (.getfield 78, 3) := by decide +kernel
theorem d_10_42_80 : decode prog_10_method_42_code 80 = .ok (.iload_n 1, 1) := by decide +kernel
theorem d_10_42_81 : decode prog_10_method_42_code 81 = .ok (.iaload, 1) := by decide +kernel
theorem d_10_42_82 : decode prog_10_method_42_code 82 = .ok (.ifCond .ge 5, 3) := by decide +kernel
theorem d_10_42_85 : decode prog_10_method_42_code 85 = .ok (.iconst 0, 1) := by decide +kernel
theorem d_10_42_86 : decode prog_10_method_42_code 86 = .ok (.ireturn, 1) := by decide +kernel
theorem d_10_42_87 : decode prog_10_method_42_code 87 = .ok (.aload_n 0, 1) := by decide +kernel
theorem d_10_42_88 : decode prog_10_method_42_code 88 = .ok (.ldc_w 269, 3) := by decide +kernel
theorem d_10_42_91 : decode prog_10_method_42_code 91 = .ok (.invokevirtual 215, 3) := by decide +kernel
theorem d_10_42_94 : decode prog_10_method_42_code 94 = .ok (.ifCond .ne 5, 3) := by decide +kernel
theorem d_10_42_97 : decode prog_10_method_42_code 97 = .ok (.iconst 0, 1) := by decide +kernel
theorem d_10_42_98 : decode prog_10_method_42_code 98 = .ok (.ireturn, 1) := by decide +kernel
theorem d_10_42_99 : decode prog_10_method_42_code 99 = .ok (.aload_n 0, 1) := by decide +kernel
theorem d_10_42_100 : decode prog_10_method_42_code 100 = .ok (.dup, 1) := by decide +kernel
theorem d_10_42_101 : decode prog_10_method_42_code 101 = .ok (.getfield 109, 3) := by decide +kernel
theorem d_10_42_104 : decode prog_10_method_42_code 104 = .ok (.iconst 1, 1) := by decide +kernel
theorem d_10_42_105 : decode prog_10_method_42_code 105 = .ok (.isub, 1) := by decide +kernel
theorem d_10_42_106 : decode prog_10_method_42_code 106 = .ok (.putfield 109, 3) := by decide +kernel
theorem d_10_42_109 : decode prog_10_method_42_code 109 = .ok (.iconst 1, 1) := by decide +kernel
theorem d_10_42_110 : decode prog_10_method_42_code 110 = .ok (.ireturn, 1) := by decide +kernel
theorem d_10_43_0 : decode prog_10_method_43_code 0 = .ok (.aload_n 0, 1) := by decide +kernel
theorem d_10_43_1 : decode prog_10_method_43_code 1 = .ok (.invokevirtual 183, 3) := by decide +kernel
theorem d_10_43_4 : decode prog_10_method_43_code 4 = .ok (.ifCond .ne 5, 3) := by decide +kernel
theorem d_10_43_7 : decode prog_10_method_43_code 7 = .ok (.iconst (-1), 1) := by decide +kernel
theorem d_10_43_8 : decode prog_10_method_43_code 8 = .ok (.ireturn, 1) := by decide +kernel
theorem d_10_43_9 : decode prog_10_method_43_code 9 = .ok (.iconst (-1), 1) := by decide +kernel
theorem d_10_43_10 : decode prog_10_method_43_code 10 = .ok (.istore_n 1, 1) := by decide +kernel
theorem d_10_43_11 : decode prog_10_method_43_code 11 = .ok (.iconst (-1), 1) := by decide +kernel
theorem d_10_43_12 : decode prog_10_method_43_code 12 = .ok (.istore_n 2, 1) := by decide +kernel
theorem d_10_43_13 : decode prog_10_method_43_code 13 = .ok (.aload_n 0, 1) := by decide +kernel
theorem d_10_43_14 : decode prog_10_method_43_code 14 = .ok (.dup, 1) := by decide +kernel
theorem d_10_43_15 : decode prog_10_method_43_code 15 = .ok (.getfield 58, 3) := by decide +kernel
theorem d_10_43_18 : decode prog_10_method_43_code 18 = .ok (.iconst 1, 1) := by decide +kernel
theorem d_10_43_19 : decode prog_10_method_43_code 19 = .ok (.iadd, 1) := by decide +kernel
theorem d_10_43_20 : decode prog_10_method_43_code 20 = .ok (.putfield 58, 3) := by decide +kernel
theorem d_10_43_23 : decode prog_10_method_43_code 23 = .ok (.aload_n 0, 1) := by decide +kernel
theorem d_10_43_24 : decode prog_10_method_43_code 24 = .ok (.invokevirtual 266, 3) := by decide +kernel
theorem d_10_43_27 : decode prog_10_method_43_code 27 = .ok (.istore_n 3, 1) := by decide +kernel
theorem d_10_43_28 : decode prog_10_method_43_code 28 = .ok (.iload_n 3, 1) := by decide +kernel
theorem d_10_43_29 : decode prog_10_method_43_code 29 = .ok (.ifCond .ge 5, 3) := by decide +kernel
theorem d_10_43_32 : decode prog_10_method_43_code 32 = .ok (.iconst (-1), 1) := by decide +kernel
theorem d_10_43_33 : decode prog_10_method_43_code 33 = .ok (.ireturn, 1) := by decide +kernel
theorem d_10_43_34 : decode prog_10_method_43_code 34 = .ok (.aload_n 0, 1) := by decide +kernel
theorem d_10_43_35 : decode prog_10_method_43_code 35 = .ok (.bipush 18, 2) := by decide +kernel
theorem d_10_43_37 : decode prog_10_method_43_code 37 = .ok (.aload_n 0, 1) := by decide +kernel
theorem d_10_43_38 : decode prog_10_method_43_code 38 = .ok (.getfield 72, 3) := by decide +kernel
theorem d_10_43_41 : decode prog_10_method_43_code 41 = .ok (.iload_n 3, 1) := by decide +kernel
theorem d_10_43_42 : decode prog_10_method_43_code 42 = .ok (.iaload, 1) := by decide +kernel
theorem d_10_43_43 : decode prog_10_method_43_code 43 = .ok (.invokevirtual 187, 3) := by decide +kernel
theorem d_10_43_46 : decode prog_10_method_43_code 46 = .ok (.istore 4, 2) := by decide +kernel
theorem d_10_43_48 : decode prog_10_method_43_code 48 = .ok (.aload_n 0, 1) := by decide +kernel
theorem d_10_43_49 : decode prog_10_method_43_code 49 = .ok (.getfield 75, 3) := by decide +kernel
theorem d_10_43_52 : decode prog_10_method_43_code 52 = .ok (.iload 4, 2) := by decide +kernel
theorem d_10_43_54 : decode prog_10_method_43_code 54 = .ok (.iload_n 3, 1) := by decide +kernel
theorem d_10_43_55 : decode prog_10_method_43_code 55 = .ok (.iastore, 1) := by decide +kernel
theorem d_10_43_56 : decode prog_10_method_43_code 56 = .ok (.iload_n 2, 1) := by decide +kernel
theorem d_10_43_57 : decode prog_10_method_43_code 57 = .ok (.ifCond .ge 9, 3) := by decide +kernel
theorem d_10_43_60 : decode prog_10_method_43_code 60 = .ok (.iload 4, 2) := by decide +kernel
theorem d_10_43_62 : decode prog_10_method_43_code 62 = .ok (.istore_n 1, 1) := by decide +kernel
theorem d_10_43_63 : decode prog_10_method_43_code 63 = .ok (.goto 11, 3) := by decide +kernel
theorem d_10_43_66 : decode prog_10_method_43_code 66 = .ok (.aload_n 0, 1) := by decide +kernel
theorem d_10_43_67 : decode prog_10_method_43_code 67 = .ok (.getfield 87, 3) := by decide +kernel
theorem d_10_43_70 : decode prog_10_method_43_code 70 = .ok (.iload_n 2, 1) := by decide +kernel
theorem d_10_43_71 : decode prog_10_method_43_code 71 = .ok (.iload 4, 2) := by decide +kernel
theorem d_10_43_73 : decode prog_10_method_43_code 73 = .ok (.iastore, 1) := by decide +kernel
theorem d_10_43_74 : decode prog_10_method_43_code 74 = .ok (.iload 4, 2) := by decide +kernel
theorem d_10_43_76 : decode prog_10_method_43_code 76 = .ok (.istore_n 2, 1) := by decide +kernel
theorem d_10_43_77 : decode prog_10_method_43_code 77 = .ok (.aload_n 0, 1) := by decide +kernel
theorem d_10_43_78 : decode prog_10_method_43_code 78 = .ok (.ldc 253, 2) := by decide +kernel
theorem d_10_43_80 : decode prog_10_method_43_code 80 = .ok (.invokevirtual 102, 3) := by decide +kernel
theorem d_10_43_83 : decode prog_10_method_43_code 83 = .ok (.ifCond .ne (-70), 3) := by decide +kernel
theorem d_10_43_86 : decode prog_10_method_43_code 86 = .ok (.aload_n 0, 1) := by decide +kernel
theorem d_10_43_87 : decode prog_10_method_43_code 87 = .ok (.ldc_w 287, 3) := by decide +kernel
theorem d_10_43_90 : decode prog_10_method_43_code 90 = .ok (.invokevirtual 215, 3) := by decide +kernel
theorem d_10_43_93 : decode prog_10_method_43_code 93 = .ok (.ifCond .ne 5, 3) := by decide +kernel
theorem d_10_43_96 : decode prog_10_method_43_code 96 = .ok (.iconst (-1), 1) := by decide +kernel
theorem d_10_43_97 : decode prog_10_method_43_code 97 = .ok (.ireturn, 1) := by decide +kernel
theorem d_10_43_98 : decode prog_10_method_43_code 98 = .ok (.aload_n 0, 1) := by decide +kernel
theorem d_10_43_99 : decode prog_10_method_43_code 99 = .ok (.dup, 1) := by decide +kernel
theorem d_10_43_100 : decode prog_10_method_43_code 100 = .ok (.getfield 109, 3) := by decide +kernel
theorem d_10_43_103 : decode prog_10_method_43_code 103 = .ok (.iconst 1, 1) := by decide +kernel
theorem d_10_43_104 : decode prog_10_method_43_code 104 = .ok (.isub, 1) := by decide +kernel
theorem d_10_43_105 : decode prog_10_method_43_code 105 = .ok (.putfield 109, 3) := by decide +kernel
theorem d_10_43_108 : decode prog_10_method_43_code 108 = .ok (.iload_n 1, 1) := by decide +kernel
theorem d_10_43_109 : decode prog_10_method_43_code 109 = .ok (.ireturn, 1) := by decide +kernel
theorem d_10_44_0 : decode prog_10_method_44_code 0 = .ok (.aload_n 0, 1) := by decide +kernel
theorem d_10_44_1 : decode prog_10_method_44_code 1 = .ok (.ldc_w 306, 3) := by decide +kernel
theorem d_10_44_4 : decode prog_10_method_44_code 4 = .ok (.invokevirtual 102, 3) := by decide +kernel
theorem d_10_44_7 : decode prog_10_method_44_code 7 = .ok (.ifCond .ne 8, 3) := by decide +kernel
theorem d_10_44_10 : decode prog_10_method_44_code 10 = .ok (.aload_n 0, 1) := by decide +kernel
theorem d_10_44_11 : decode prog_10_method_44_code 11 = .ok (.invokevirtual 358, 3) := by decide +kernel
theorem d_10_44_14 : decode prog_10_method_44_code 14 = .ok (.ireturn, 1) := by decide +kernel
theorem d_10_44_15 : decode prog_10_method_44_code 15 = .ok (.aload_n 0, 1) := by decide +kernel
theorem d_10_44_16 : decode prog_10_method_44_code 16 = .ok (.invokevirtual 183, 3) := by decide +kernel
theorem d_10_44_19 : decode prog_10_method_44_code 19 = .ok (.ifCond .ne 5, 3) := by decide +kernel
theorem d_10_44_22 : decode prog_10_method_44_code 22 = .ok (.iconst (-1), 1) := by decide +kernel
theorem d_10_44_23 : decode prog_10_method_44_code 23 = .ok (.ireturn, 1) := by decide +kernel
theorem d_10_44_24 : decode prog_10_method_44_code 24 = .ok (.aload_n 0, 1) := by decide +kernel
theorem d_10_44_25 : decode prog_10_method_44_code 25 = .ok (.bipush 6, 2) := by decide +kernel
theorem d_10_44_27 : decode prog_10_method_44_code 27 = .ok (.aload_n 0, 1) := by decide +kernel
