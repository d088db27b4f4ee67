theorem d_10_44_28 : decode prog_10_method_44_code 28 = .ok (.getfield 58, 3) := by decide +kernel
theorem d_10_44_31 : decode prog_10_method_44_code 31 = .ok (.invokevirtual 187, 3) := by decide +kernel
theorem d_10_44_34 : decode prog_10_method_44_code 34 = .ok (.istore_n 1, 1) := by decide +kernel
theorem d_10_44_35 : decode prog_10_method_44_code 35 = .ok (.aload_n 0, 1) := by decide +kernel
theorem d_10_44_36 : decode prog_10_method_44_code 36 = .ok (.dup, 1) := by decide +kernel
theorem d_10_44_37 : decode prog_10_method_44_code 37 = .ok (.getfield 58, 3) := by decide +kernel
theorem d_10_44_40 : decode prog_10_method_44_code 40 = .ok (.iconst 1, 1) := by decide +kernel
theorem d_10_44_41 : decode prog_10_method_44_code 41 = .ok (.iadd, 1) := by decide +kernel
theorem d_10_44_42 : decode prog_10_method_44_code 42 = .ok (.putfield 58, 3) := by decide +kernel
theorem d_10_44_45 : decode prog_10_method_44_code 45 = .ok (.aload_n 0, 1) := by decide +kernel
theorem d_10_44_46 : decode prog_10_method_44_code 46 = .ok (.getfield 75, 3) := by decide +kernel
theorem d_10_44_49 : decode prog_10_method_44_code 49 = .ok (.iload_n 1, 1) := by decide +kernel
theorem d_10_44_50 : decode prog_10_method_44_code 50 = .ok (.aload_n 0, 1) := by decide +kernel
theorem d_10_44_51 : decode prog_10_method_44_code 51 = .ok (.invokevirtual 266, 3) := by decide +kernel
theorem d_10_44_54 : decode prog_10_method_44_code 54 = .ok (.iastore, 1) := by decide +kernel
theorem d_10_44_55 : decode prog_10_method_44_code 55 = .ok (.aload_n 0, 1) := by decide +kernel
theorem d_10_44_56 : decode prog_10_method_44_code 56 = .ok (.getfield 75, 3) := by decide +kernel
theorem d_10_44_59 : decode prog_10_method_44_code 59 = .ok (.iload_n 1, 1) := by decide +kernel
theorem d_10_44_60 : decode prog_10_method_44_code 60 = .ok (.iaload, 1) := by decide +kernel
theorem d_10_44_61 : decode prog_10_method_44_code 61 = .ok (.ifCond .lt 13, 3) := by decide +kernel
theorem d_10_44_64 : decode prog_10_method_44_code 64 = .ok (.aload_n 0, 1) := by decide +kernel
theorem d_10_44_65 : decode prog_10_method_44_code 65 = .ok (.ldc_w 328, 3) := by decide +kernel
theorem d_10_44_68 : decode prog_10_method_44_code 68 = .ok (.invokevirtual 215, 3) := by decide +kernel
theorem d_10_44_71 : decode prog_10_method_44_code 71 = .ok (.ifCond .ne 5, 3) := by decide +kernel
theorem d_10_44_74 : decode prog_10_method_44_code 74 = .ok (.iconst (-1), 1) := by decide +kernel
theorem d_10_44_75 : decode prog_10_method_44_code 75 = .ok (.ireturn, 1) := by decide +kernel
theorem d_10_44_76 : decode prog_10_method_44_code 76 = .ok (.aload_n 0, 1) := by decide +kernel
theorem d_10_44_77 : decode prog_10_method_44_code 77 = .ok (.getfield 78, 3) := by decide +kernel
theorem d_10_44_80 : decode prog_10_method_44_code 80 = .ok (.iload_n 1, 1) := by decide +kernel
theorem d_10_44_81 : decode prog_10_method_44_code 81 = .ok (.aload_n 0, 1) := by decide +kernel
theorem d_10_44_82 : decode prog_10_method_44_code 82 = .ok (.invokevirtual 358, 3) := by decide +kernel
theorem d_10_44_85 : decode prog_10_method_44_code 85 = .ok (.iastore, 1) := by decide +kernel
theorem d_10_44_86 : decode prog_10_method_44_code 86 = .ok (.aload_n 0, 1) := by decide +kernel
theorem d_10_44_87 : decode prog_10_method_44_code 87 = .ok (.getfield 78, 3) := by decide +kernel
theorem d_10_44_90 : decode prog_10_method_44_code 90 = .ok (.iload_n 1, 1) := by decide +kernel
theorem d_10_44_91 : decode prog_10_method_44_code 91 = .ok (.iaload, 1) := by decide +kernel
theorem d_10_44_92 : decode prog_10_method_44_code 92 = .ok (.ifCond .lt 13, 3) := by decide +kernel
theorem d_10_44_95 : decode prog_10_method_44_code 95 = .ok (.aload_n 0, 1) := by decide +kernel
theorem d_10_44_96 : decode prog_10_method_44_code 96 = .ok (.ldc_w 333, 3) := by decide +kernel
theorem d_10_44_99 : decode prog_10_method_44_code 99 = .ok (.invokevirtual 215, 3) := by decide +kernel
theorem d_10_44_102 : decode prog_10_method_44_code 102 = .ok (.ifCond .ne 5, 3) := by decide +kernel
theorem d_10_44_105 : decode prog_10_method_44_code 105 = .ok (.iconst (-1), 1) := by decide +kernel
theorem d_10_44_106 : decode prog_10_method_44_code 106 = .ok (.ireturn, 1) := by decide +kernel
theorem d_10_44_107 : decode prog_10_method_44_code 107 = .ok (.aload_n 0, 1) := by decide +kernel
theorem d_10_44_108 : decode prog_10_method_44_code 108 = .ok (.getfield 81, 3) := by decide +kernel
theorem d_10_44_111 : decode prog_10_method_44_code 111 = .ok (.iload_n 1, 1) := by decide +kernel
theorem d_10_44_112 : decode prog_10_method_44_code 112 = .ok (.aload_n 0, 1) := by decide +kernel
theorem d_10_44_113 : decode prog_10_method_44_code 113 = .ok (.invokevirtual 266, 3) := by decide +kernel
theorem d_10_44_116 : decode prog_10_method_44_code 116 = .ok (.iastore, 1) := by decide +kernel
theorem d_10_44_117 : decode prog_10_method_44_code 117 = .ok (.aload_n 0, 1) := by decide +kernel
theorem d_10_44_118 : decode prog_10_method_44_code 118 = .ok (.getfield 81, 3) := by decide +kernel
theorem d_10_44_121 : decode prog_10_method_44_code 121 = .ok (.iload_n 1, 1) := by decide +kernel
theorem d_10_44_122 : decode prog_10_method_44_code 122 = .ok (.iaload, 1) := by decide +kernel
theorem d_10_44_123 : decode prog_10_method_44_code 123 = .ok (.ifCond .ge 5, 3) := by decide +kernel
theorem d_10_44_126 : decode prog_10_method_44_code 126 = .ok (.iconst (-1), 1) := by decide +kernel
theorem d_10_44_127 : decode prog_10_method_44_code 127 = .ok (.ireturn, 1) := by decide +kernel
theorem d_10_44_128 : decode prog_10_method_44_code 128 = .ok (.aload_n 0, 1) := by decide +kernel
theorem d_10_44_129 : decode prog_10_method_44_code 129 = .ok (.dup, 1) := by decide +kernel
theorem d_10_44_130 : decode prog_10_method_44_code 130 = .ok (.getfield 109, 3) := by decide +kernel
theorem d_10_44_133 : decode prog_10_method_44_code 133 = .ok (.iconst 1, 1) := by decide +kernel
theorem d_10_44_134 : decode prog_10_method_44_code 134 = .ok (.isub, 1) := by decide +kernel
theorem d_10_44_135 : decode prog_10_method_44_code 135 = .ok (.putfield 109, 3) := by decide +kernel
theorem d_10_44_138 : decode prog_10_method_44_code 138 = .ok (.iload_n 1, 1) := by decide +kernel
theorem d_10_44_139 : decode prog_10_method_44_code 139 = .ok (.ireturn, 1) := by decide +kernel
theorem d_10_45_0 : decode prog_10_method_45_code 0 = .ok (.aload_n 0, 1) := by decide +kernel
theorem d_10_45_1 : decode prog_10_method_45_code 1 = .ok (.iload_n 1, 1) := by decide +kernel
theorem d_10_45_2 : decode prog_10_method_45_code 2 = .ok (.aload_n 0, 1) := by decide +kernel
theorem d_10_45_3 : decode prog_10_method_45_code 3 = .ok (.getfield 72, 3) := by decide +kernel
theorem d_10_45_6 : decode prog_10_method_45_code 6 = .ok (.iload_n 2, 1) := by decide +kernel
theorem d_10_45_7 : decode prog_10_method_45_code 7 = .ok (.iaload, 1) := by decide +kernel
theorem d_10_45_8 : decode prog_10_method_45_code 8 = .ok (.invokevirtual 187, 3) := by decide +kernel
theorem d_10_45_11 : decode prog_10_method_45_code 11 = .ok (.istore_n 3, 1) := by decide +kernel
theorem d_10_45_12 : decode prog_10_method_45_code 12 = .ok (.aload_n 0, 1) := by decide +kernel
theorem d_10_45_13 : decode prog_10_method_45_code 13 = .ok (.getfield 75, 3) := by decide +kernel
theorem d_10_45_16 : decode prog_10_method_45_code 16 = .ok (.iload_n 3, 1) := by decide +kernel
theorem d_10_45_17 : decode prog_10_method_45_code 17 = .ok (.iload_n 2, 1) := by decide +kernel
theorem d_10_45_18 : decode prog_10_method_45_code 18 = .ok (.iastore, 1) := by decide +kernel
theorem d_10_45_19 : decode prog_10_method_45_code 19 = .ok (.aload_n 0, 1) := by decide +kernel
theorem d_10_45_20 : decode prog_10_method_45_code 20 = .ok (.dup, 1) := by decide +kernel
theorem d_10_45_21 : decode prog_10_method_45_code 21 = .ok (.getfield 58, 3) := by decide +kernel
theorem d_10_45_24 : decode prog_10_method_45_code 24 = .ok (.iconst 1, 1) := by decide +kernel
theorem d_10_45_25 : decode prog_10_method_45_code 25 = .ok (.iadd, 1) := by decide +kernel
theorem d_10_45_26 : decode prog_10_method_45_code 26 = .ok (.putfield 58, 3) := by decide +kernel
theorem d_10_45_29 : decode prog_10_method_45_code 29 = .ok (.iload_n 3, 1) := by decide +kernel
theorem d_10_45_30 : decode prog_10_method_45_code 30 = .ok (.ireturn, 1) := by decide +kernel
theorem d_10_46_0 : decode prog_10_method_46_code 0 = .ok (.aload_n 0, 1) := by decide +kernel
theorem d_10_46_1 : decode prog_10_method_46_code 1 = .ok (.invokevirtual 361, 3) := by decide +kernel
theorem d_10_46_4 : decode prog_10_method_46_code 4 = .ok (.istore_n 1, 1) := by decide +kernel
theorem d_10_46_5 : decode prog_10_method_46_code 5 = .ok (.iload_n 1, 1) := by decide +kernel
theorem d_10_46_6 : decode prog_10_method_46_code 6 = .ok (.ifCond .lt 42, 3) := by decide +kernel
theorem d_10_46_9 : decode prog_10_method_46_code 9 = .ok (.aload_n 0, 1) := by decide +kernel
theorem d_10_46_10 : decode prog_10_method_46_code 10 = .ok (.ldc_w 364, 3) := by decide +kernel
theorem d_10_46_13 : decode prog_10_method_46_code 13 = .ok (.invokevirtual 102, 3) := by decide +kernel
theorem d_10_46_16 : decode prog_10_method_46_code 16 = .ok (.ifCond .eq 32, 3) := by decide +kernel
theorem d_10_46_19 : decode prog_10_method_46_code 19 = .ok (.aload_n 0, 1) := by decide +kernel
theorem d_10_46_20 : decode prog_10_method_46_code 20 = .ok (.bipush 7, 2) := by decide +kernel
theorem d_10_46_22 : decode prog_10_method_46_code 22 = .ok (.iload_n 1, 1) := by decide +kernel
theorem d_10_46_23 : decode prog_10_method_46_code 23 = .ok (.invokevirtual 366, 3) := by decide +kernel
theorem d_10_46_26 : decode prog_10_method_46_code 26 = .ok (.istore_n 1, 1) := by decide +kernel
theorem d_10_46_27 : decode prog_10_method_46_code 27 = .ok (.aload_n 0, 1) := by decide +kernel
theorem d_10_46_28 : decode prog_10_method_46_code 28 = .ok (.getfield 78, 3) := by decide +kernel
theorem d_10_46_31 : decode prog_10_method_46_code 31 = .ok (.iload_n 1, 1) := by decide +kernel
theorem d_10_46_32 : decode prog_10_method_46_code 32 = .ok (.aload_n 0, 1) := by decide +kernel
theorem d_10_46_33 : decode prog_10_method_46_code 33 = .ok (.invokevirtual 361, 3) := by decide +kernel
theorem d_10_46_36 : decode prog_10_method_46_code 36 = .ok (.iastore, 1) := by decide +kernel
theorem d_10_46_37 : decode prog_10_method_46_code 37 = .ok (.aload_n 0, 1) := by decide +kernel
theorem d_10_46_38 : decode prog_10_method_46_code 38 = .ok (.getfield 78, 3) := by decide +kernel
theorem d_10_46_41 : decode prog_10_method_46_code 41 = .ok (.iload_n 1, 1) := by decide +kernel
theorem d_10_46_42 : decode prog_10_method_46_code 42 = .ok (.iaload, 1) := by decide +kernel
theorem d_10_46_43 : decode prog_10_method_46_code 43 = .ok (.ifCond .ge (-38), 3) := by decide +kernel
theorem d_10_46_46 : decode prog_10_method_46_code 46 = .ok (.iconst (-1), 1) := by decide +kernel
theorem d_10_46_47 : decode prog_10_method_46_code 47 = .ok (.ireturn, 1) := by decide +kernel
theorem d_10_46_48 : decode prog_10_method_46_code 48 = .ok (.iload_n 1, 1) := by decide +kernel
theorem d_10_46_49 : decode prog_10_method_46_code 49 = .ok (.ireturn, 1) := by decide +kernel
theorem d_10_47_0 : decode prog_10_method_47_code 0 = .ok (.aload_n 0, 1) := by decide +kernel
theorem d_10_47_1 : decode prog_10_method_47_code 1 = .ok (.invokevirtual 369, 3) := by decide +kernel
theorem d_10_47_4 : decode prog_10_method_47_code 4 = .ok (.istore_n 1, 1) := by decide +kernel
theorem d_10_47_5 : decode prog_10_method_47_code 5 = .ok (.iload_n 1, 1) := by decide +kernel
theorem d_10_47_6 : decode prog_10_method_47_code 6 = .ok (.ifCond .lt 42, 3) := by decide +kernel
theorem d_10_47_9 : decode prog_10_method_47_code 9 = .ok (.aload_n 0, 1) := by decide +kernel
theorem d_10_47_10 : decode prog_10_method_47_code 10 = .ok (.ldc_w 372, 3) := by decide +kernel
theorem d_10_47_13 : decode prog_10_method_47_code 13 = .ok (.invokevirtual 102, 3) := by decide +kernel
theorem d_10_47_16 : decode prog_10_method_47_code 16 = .ok (.ifCond .eq 32, 3) := by decide +kernel
theorem d_10_47_19 : decode prog_10_method_47_code 19 = .ok (.aload_n 0, 1) := by decide +kernel
theorem d_10_47_20 : decode prog_10_method_47_code 20 = .ok (.bipush 8, 2) := by decide +kernel
theorem d_10_47_22 : decode prog_10_method_47_code 22 = .ok (.iload_n 1, 1) := by decide +kernel
theorem d_10_47_23 : decode prog_10_method_47_code 23 = .ok (.invokevirtual 366, 3) := by decide +kernel
theorem d_10_47_26 : decode prog_10_method_47_code 26 = .ok (.istore_n 1, 1) := by decide +kernel
theorem d_10_47_27 : decode prog_10_method_47_code 27 = .ok (.aload_n 0, 1) := by decide +kernel
theorem d_10_47_28 : decode prog_10_method_47_code 28 = .ok (.getfield 78, 3) := by decide +kernel
theorem d_10_47_31 : decode prog_10_method_47_code 31 = .ok (.iload_n 1, 1) := by decide +kernel
theorem d_10_47_32 : decode prog_10_method_47_code 32 = .ok (.aload_n 0, 1) := by decide +kernel
theorem d_10_47_33 : decode prog_10_method_47_code 33 = .ok (.invokevirtual 369, 3) := by decide +kernel
theorem d_10_47_36 : decode prog_10_method_47_code 36 = .ok (.iastore, 1) := by decide +kernel
theorem d_10_47_37 : decode prog_10_method_47_code 37 = .ok (.aload_n 0, 1) := by decide +kernel
theorem d_10_47_38 : decode prog_10_method_47_code 38 = .ok (.getfield 78, 3) := by decide +kernel
theorem d_10_47_41 : decode prog_10_method_47_code 41 = .ok (.iload_n 1, 1) := by decide +kernel
theorem d_10_47_42 : decode prog_10_method_47_code 42 = .ok (.iaload, 1) := by decide +kernel
theorem d_10_47_43 : decode prog_10_method_47_code 43 = .ok (.ifCond .ge (-38), 3) := by decide +kernel
theorem d_10_47_46 : decode prog_10_method_47_code 46 = .ok (.iconst (-1), 1) := by decide +kernel
theorem d_10_47_47 : decode prog_10_method_47_code 47 = .ok (.ireturn, 1) := by decide +kernel
theorem d_10_47_48 : decode prog_10_method_47_code 48 = .ok (.iload_n 1, 1) := by decide +kernel
theorem d_10_47_49 : decode prog_10_method_47_code 49 = .ok (.ireturn, 1) := by decide +kernel
theorem d_10_48_0 : decode prog_10_method_48_code 0 = .ok (.aload_n 0, 1) := by decide +kernel
theorem d_10_48_1 : decode prog_10_method_48_code 1 = .ok (.ldc_w 374, 3) := by decide +kernel
theorem d_10_48_4 : decode prog_10_method_48_code 4 = .ok (.invokevirtual 102, 3) := by decide +kernel
theorem d_10_48_7 : decode prog_10_method_48_code 7 = .ok (.ifCond .ne 8, 3) := by decide +kernel
theorem d_10_48_10 : decode prog_10_method_48_code 10 = .ok (.aload_n 0, 1) := by decide +kernel
theorem d_10_48_11 : decode prog_10_method_48_code 11 = .ok (.invokevirtual 376, 3) := by decide +kernel
theorem d_10_48_14 : decode prog_10_method_48_code 14 = .ok (.ireturn, 1) := by decide +kernel
theorem d_10_48_15 : decode prog_10_method_48_code 15 = .ok (.aload_n 0, 1) := by decide +kernel
theorem d_10_48_16 : decode prog_10_method_48_code 16 = .ok (.invokevirtual 183, 3) := by decide +kernel
theorem d_10_48_19 : decode prog_10_method_48_code 19 = .ok (.ifCond .ne 5, 3) := by decide +kernel
theorem d_10_48_22 : decode prog_10_method_48_code 22 = .ok (.iconst (-1), 1) := by decide +kernel
theorem d_10_48_23 : decode prog_10_method_48_code 23 = .ok (.ireturn, 1) := by decide +kernel
theorem d_10_48_24 : decode prog_10_method_48_code 24 = .ok (.aload_n 0, 1) := by decide +kernel
theorem d_10_48_25 : decode prog_10_method_48_code 25 = .ok (.bipush 9, 2) := by decide +kernel
theorem d_10_48_27 : decode prog_10_method_48_code 27 = .ok (.aload_n 0, 1) := by decide +kernel
theorem d_10_48_28 : decode prog_10_method_48_code 28 = .ok (.getfield 58, 3) := by decide +kernel
theorem d_10_48_31 : decode prog_10_method_48_code 31 = .ok (.invokevirtual 187, 3) := by decide +kernel
theorem d_10_48_34 : decode prog_10_method_48_code 34 = .ok (.istore_n 1, 1) := by decide +kernel
theorem d_10_48_35 : decode prog_10_method_48_code 35 = .ok (.aload_n 0, 1) := by decide +kernel
theorem d_10_48_36 : decode prog_10_method_48_code 36 = .ok (.dup, 1) := by decide +kernel
theorem d_10_48_37 : decode prog_10_method_48_code 37 = .ok (.getfield 58, 3) := by decide +kernel
theorem d_10_48_40 : decode prog_10_method_48_code 40 = .ok (.iconst 1, 1) := by decide +kernel
theorem d_10_48_41 : decode prog_10_method_48_code 41 = .ok (.iadd, 1) := by decide +kernel
theorem d_10_48_42 : decode prog_10_method_48_code 42 = .ok (.putfield 58, 3) := by decide +kernel
theorem d_10_48_45 : decode prog_10_method_48_code 45 = .ok (.aload_n 0, 1) := by decide +kernel
theorem d_10_48_46 : decode prog_10_method_48_code 46 = .ok (.getfield 75, 3) := by decide +kernel
theorem d_10_48_49 : decode prog_10_method_48_code 49 = .ok (.iload_n 1, 1) := by decide +kernel
theorem d_10_48_50 : decode prog_10_method_48_code 50 = .ok (.aload_n 0, 1) := by decide +kernel
theorem d_10_48_51 : decode prog_10_method_48_code 51 = .ok (.invokevirtual 369, 3) := by decide +kernel
theorem d_10_48_54 : decode prog_10_method_48_code 54 = .ok (.iastore, 1) := by decide +kernel
theorem d_10_48_55 : decode prog_10_method_48_code 55 = .ok (.aload_n 0, 1) := by decide +kernel
theorem d_10_48_56 : decode prog_10_method_48_code 56 = .ok (.getfield 75, 3) := by decide +kernel
theorem d_10_48_59 : decode prog_10_method_48_code 59 = .ok (.iload_n 1, 1) := by decide +kernel
theorem d_10_48_60 : decode prog_10_method_48_code 60 = .ok (.iaload, 1) := by decide +kernel
theorem d_10_48_61 : decode prog_10_method_48_code 61 = .ok (.ifCond .ge 5, 3) := by decide +kernel
theorem d_10_48_64 : decode prog_10_method_48_code 64 = .ok (.iconst (-1), 1) := by decide +kernel
theorem d_10_48_65 : decode prog_10_method_48_code 65 = .ok (.ireturn, 1) := by decide +kernel
theorem d_10_48_66 : decode prog_10_method_48_code 66 = .ok (.aload_n 0, 1) := by decide +kernel
theorem d_10_48_67 : decode prog_10_method_48_code 67 = .ok (.dup, 1) := by decide +kernel
theorem d_10_48_68 : decode prog_10_method_48_code 68 = .ok (.getfield 109, 3) := by decide +kernel
theorem d_10_48_71 : decode prog_10_method_48_code 71 = .ok (.iconst 1, 1) := by decide +kernel
theorem d_10_48_72 : decode prog_10_method_48_code 72 = .ok (.isub, 1) := by decide +kernel
theorem d_10_48_73 : decode prog_10_method_48_code 73 = .ok (.putfield 109, 3) := by decide +kernel
theorem d_10_48_76 : decode prog_10_method_48_code 76 = .ok (.iload_n 1, 1) := by decide +kernel
theorem d_10_48_77 : decode prog_10_method_48_code 77 = .ok (.ireturn, 1) := by decide +kernel
theorem d_10_49_0 : decode prog_10_method_49_code 0 = .ok (.aload_n 0, 1) := by decide +kernel
theorem d_10_49_1 : decode prog_10_method_49_code 1 = .ok (.invokevirtual 379, 3) := by decide +kernel
theorem d_10_49_4 : decode prog_10_method_49_code 4 = .ok (.istore_n 1, 1) := by decide +kernel
theorem d_10_49_5 : decode prog_10_method_49_code 5 = .ok (.aload_n 0, 1) := by decide +kernel
theorem d_10_49_6 : decode prog_10_method_49_code 6 = .ok (.ldc_w 382, 3) := by decide +kernel
theorem d_10_49_9 : decode prog_10_method_49_code 9 = .ok (.invokevirtual 102, 3) := by decide +kernel
theorem d_10_49_12 : decode prog_10_method_49_code 12 = .ok (.ifCond .eq 7, 3) := by decide +kernel
theorem d_10_49_15 : decode prog_10_method_49_code 15 = .ok (.iconst 0, 1) := by decide +kernel
theorem d_10_49_16 : decode prog_10_method_49_code 16 = .ok (.goto 74, 3) := by decide +kernel
theorem d_10_49_19 : decode prog_10_method_49_code 19 = .ok (.aload_n 0, 1) := by decide +kernel
theorem d_10_49_20 : decode prog_10_method_49_code 20 = .ok (.ldc_w 384, 3) := by decide +kernel
theorem d_10_49_23 : decode prog_10_method_49_code 23 = .ok (.invokevirtual 102, 3) := by decide +kernel
theorem d_10_49_26 : decode prog_10_method_49_code 26 = .ok (.ifCond .eq 7, 3) := by decide +kernel
theorem d_10_49_29 : decode prog_10_method_49_code 29 = .ok (.iconst 1, 1) := by decide +kernel
theorem d_10_49_30 : decode prog_10_method_49_code 30 = .ok (.goto 60, 3) := by decide +kernel
theorem d_10_49_33 : decode prog_10_method_49_code 33 = .ok (.aload_n 0, 1) := by decide +kernel
theorem d_10_49_34 : decode prog_10_method_49_code 34 = .ok (.ldc_w 386, 3) := by decide +kernel
theorem d_10_49_37 : decode prog_10_method_49_code 37 = .ok (.invokevirtual 102, 3) := by decide +kernel
theorem d_10_49_40 : decode prog_10_method_49_code 40 = .ok (.ifCond .eq 7, 3) := by decide +kernel
theorem d_10_49_43 : decode prog_10_method_49_code 43 = .ok (.iconst 2, 1) := by decide +kernel
theorem d_10_49_44 : decode prog_10_method_49_code 44 = .ok (.goto 46, 3) := by decide +kernel
theorem d_10_49_47 : decode prog_10_method_49_code 47 = .ok (.aload_n 0, 1) := by decide +kernel
theorem d_10_49_48 : decode prog_10_method_49_code 48 = .ok (.ldc_w 388, 3) := by decide +kernel
theorem d_10_49_51 : decode prog_10_method_49_code 51 = .ok (.invokevirtual 102, 3) := by decide +kernel
theorem d_10_49_54 : decode prog_10_method_49_code 54 = .ok (.ifCond .eq 7, 3) := by decide +kernel
theorem d_10_49_57 : decode prog_10_method_49_code 57 = .ok (.iconst 3, 1) := by decide +kernel
theorem d_10_49_58 : decode prog_10_method_49_code 58 = .ok (.goto 32, 3) := by decide +kernel
theorem d_10_49_61 : decode prog_10_method_49_code 61 = .ok (.aload_n 0, 1) := by decide +kernel
theorem d_10_49_62 : decode prog_10_method_49_code 62 = .ok (.ldc_w 390, 3) := by decide +kernel
theorem d_10_49_65 : decode prog_10_method_49_code 65 = .ok (.invokevirtual 102, 3) := by decide +kernel
theorem d_10_49_68 : decode prog_10_method_49_code 68 = .ok (.ifCond .eq 7, 3) := by decide +kernel
theorem d_10_49_71 : decode prog_10_method_49_code 71 = .ok (.iconst 4, 1) := by decide +kernel
theorem d_10_49_72 : decode prog_10_method_49_code 72 = .ok (.goto 18, 3) := by decide +kernel
theorem d_10_49_75 : decode prog_10_method_49_code 75 = .ok (.aload_n 0, 1) := by decide +kernel
theorem d_10_49_76 : decode prog_10_method_49_code 76 = .ok (.ldc_w 392, 3) := by decide +kernel
theorem d_10_49_79 : decode prog_10_method_49_code 79 = .ok (.invokevirtual 102, 3) := by decide +kernel
theorem d_10_49_82 : decode prog_10_method_49_code 82 = .ok (.ifCond .eq 7, 3) := by decide +kernel
theorem d_10_49_85 : decode prog_10_method_49_code 85 = .ok (.iconst 5, 1) := by decide +kernel
theorem d_10_49_86 : decode prog_10_method_49_code 86 = .ok (.goto 4, 3) := by decide +kernel
theorem d_10_49_89 : decode prog_10_method_49_code 89 = .ok (.iconst (-1), 1) := by decide +kernel
theorem d_10_49_90 : decode prog_10_method_49_code 90 = .ok (.istore_n 2, 1) := by decide +kernel
theorem d_10_49_91 : decode prog_10_method_49_code 91 = .ok (.iload_n 1, 1) := by decide +kernel
theorem d_10_49_92 : decode prog_10_method_49_code 92 = .ok (.ifCond .lt 7, 3) := by decide +kernel
theorem d_10_49_95 : decode prog_10_method_49_code 95 = .ok (.iload_n 2, 1) := by decide +kernel
theorem d_10_49_96 : decode prog_10_method_49_code 96 = .ok (.ifCond .ge 5, 3) := by decide +kernel
theorem d_10_49_99 : decode prog_10_method_49_code 99 = .ok (.iload_n 1, 1) := by decide +kernel
theorem d_10_49_100 : decode prog_10_method_49_code 100 = .ok (.ireturn, 1) := by decide +kernel
theorem d_10_49_101 : decode prog_10_method_49_code 101 = .ok (.aload_n 0, 1) := by decide +kernel
theorem d_10_49_102 : decode prog_10_method_49_code 102 = .ok (.bipush 10, 2) := by decide +kernel
theorem d_10_49_104 : decode prog_10_method_49_code 104 = .ok (.iload_n 1, 1) := by decide +kernel
theorem d_10_49_105 : decode prog_10_method_49_code 105 = .ok (.invokevirtual 366, 3) := by decide +kernel
theorem d_10_49_108 : decode prog_10_method_49_code 108 = .ok (.istore_n 1, 1) := by decide +kernel
theorem d_10_49_109 : decode prog_10_method_49_code 109 = .ok (.aload_n 0, 1) := by decide +kernel
theorem d_10_49_110 : decode prog_10_method_49_code 110 = .ok (.getfield 81, 3) := by decide +kernel
theorem d_10_49_113 : decode prog_10_method_49_code 113 = .ok (.iload_n 1, 1) := by decide +kernel
theorem d_10_49_114 : decode prog_10_method_49_code 114 = .ok (.iload_n 2, 1) := by decide +kernel
theorem d_10_49_115 : decode prog_10_method_49_code 115 = .ok (.iastore, 1) := by decide +kernel
theorem d_10_49_116 : decode prog_10_method_49_code 116 = .ok (.aload_n 0, 1) := by decide +kernel
theorem d_10_49_117 : decode prog_10_method_49_code 117 = .ok (.getfield 78, 3) := by decide +kernel
theorem d_10_49_120 : decode prog_10_method_49_code 120 = .ok (.iload_n 1, 1) := by decide +kernel
theorem d_10_49_121 : decode prog_10_method_49_code 121 = .ok (.aload_n 0, 1) := by decide +kernel
theorem d_10_49_122 : decode prog_10_method_49_code 122 = .ok (.invokevirtual 379, 3) := by decide +kernel
theorem d_10_49_125 : decode prog_10_method_49_code 125 = .ok (.iastore, 1) := by decide +kernel
theorem d_10_49_126 : decode prog_10_method_49_code 126 = .ok (.aload_n 0, 1) := by decide +kernel
theorem d_10_49_127 : decode prog_10_method_49_code 127 = .ok (.getfield 78, 3) := by decide +kernel
theorem d_10_49_130 : decode prog_10_method_49_code 130 = .ok (.iload_n 1, 1) := by decide +kernel
theorem d_10_49_131 : decode prog_10_method_49_code 131 = .ok (.iaload, 1) := by decide +kernel
theorem d_10_49_132 : decode prog_10_method_49_code 132 = .ok (.ifCond .ge 7, 3) := by decide +kernel
theorem d_10_49_135 : decode prog_10_method_49_code 135 = .ok (.iconst (-1), 1) := by decide +kernel
theorem d_10_49_136 : decode prog_10_method_49_code 136 = .ok (.goto 4, 3) := by decide +kernel
theorem d_10_49_139 : decode prog_10_method_49_code 139 = .ok (.iload_n 1, 1) := by decide +kernel
theorem d_10_49_140 : decode prog_10_method_49_code 140 = .ok (.ireturn, 1) := by decide +kernel
theorem d_10_4_0 : decode prog_10_method_4_code 0 = .ok (.ldc 3, 2) := by decide +kernel
theorem d_10_4_2 : decode prog_10_method_4_code 2 = .ok (.astore_n 3, 1) := by decide +kernel
theorem d_10_4_3 : decode prog_10_method_4_code 3 = .ok (.iconst 0, 1) := by decide +kernel
theorem d_10_4_4 : decode prog_10_method_4_code 4 = .ok (.istore 4, 2) := by decide +kernel
theorem d_10_4_6 : decode prog_10_method_4_code 6 = .ok (.iload 4, 2) := by decide +kernel
theorem d_10_4_8 : decode prog_10_method_4_code 8 = .ok (.iload_n 2, 1) := by decide +kernel
theorem d_10_4_9 : decode prog_10_method_4_code 9 = .ok (.iadd, 1) := by decide +kernel
theorem d_10_4_10 : decode prog_10_method_4_code 10 = .ok (.iconst 1, 1) := by decide +kernel
theorem d_10_4_11 : decode prog_10_method_4_code 11 = .ok (.iadd, 1) := by decide +kernel
theorem d_10_4_12 : decode prog_10_method_4_code 12 = .ok (.aload_n 3, 1) := by decide +kernel
theorem d_10_4_13 : decode prog_10_method_4_code 13 = .ok (.invokevirtual 5, 3) := by decide +kernel
theorem d_10_4_16 : decode prog_10_method_4_code 16 = .ok (.if_icmp .ge 96, 3) := by decide +kernel
theorem d_10_4_19 : decode prog_10_method_4_code 19 = .ok (.aload_n 3, 1) := by decide +kernel
theorem d_10_4_20 : decode prog_10_method_4_code 20 = .ok (.iload 4, 2) := by decide +kernel
theorem d_10_4_22 : decode prog_10_method_4_code 22 = .ok (.invokevirtual 11, 3) := by decide +kernel
theorem d_10_4_25 : decode prog_10_method_4_code 25 = .ok (.bipush 32, 2) := by decide +kernel
theorem d_10_4_27 : decode prog_10_method_4_code 27 = .ok (.if_icmp .ne 22, 3) := by decide +kernel
theorem d_10_4_30 : decode prog_10_method_4_code 30 = .ok (.aload_n 3, 1) := by decide +kernel
theorem d_10_4_31 : decode prog_10_method_4_code 31 = .ok (.iload 4, 2) := by decide +kernel
theorem d_10_4_33 : decode prog_10_method_4_code 33 = .ok (.iload_n 2, 1) := by decide +kernel
theorem d_10_4_34 : decode prog_10_method_4_code 34 = .ok (.iadd, 1) := by decide +kernel
theorem d_10_4_35 : decode prog_10_method_4_code 35 = .ok (.iconst 1, 1) := by decide +kernel
theorem d_10_4_36 : decode prog_10_method_4_code 36 = .ok (.iadd, 1) := by decide +kernel
theorem d_10_4_37 : decode prog_10_method_4_code 37 = .ok (.invokevirtual 11, 3) := by decide +kernel
theorem d_10_4_40 : decode prog_10_method_4_code 40 = .ok (.bipush 32, 2) := by decide +kernel
theorem d_10_4_42 : decode prog_10_method_4_code 42 = .ok (.if_icmp .ne 7, 3) := by decide +kernel
theorem d_10_4_45 : decode prog_10_method_4_code 45 = .ok (.iconst 1, 1) := by decide +kernel
theorem d_10_4_46 : decode prog_10_method_4_code 46 = .ok (.goto 4, 3) := by decide +kernel
theorem d_10_4_49 : decode prog_10_method_4_code 49 = .ok (.iconst 0, 1) := by decide +kernel
theorem d_10_4_50 : decode prog_10_method_4_code 50 = .ok (.istore 5, 2) := by decide +kernel
theorem d_10_4_52 : decode prog_10_method_4_code 52 = .ok (.iconst 0, 1) := by decide +kernel
theorem d_10_4_53 : decode prog_10_method_4_code 53 = .ok (.istore 6, 2) := by decide +kernel
theorem d_10_4_55 : decode prog_10_method_4_code 55 = .ok (.iload 6, 2) := by decide +kernel
theorem d_10_4_57 : decode prog_10_method_4_code 57 = .ok (.iload_n 2, 1) := by decide +kernel
theorem d_10_4_58 : decode prog_10_method_4_code 58 = .ok (.if_icmp .ge 41, 3) := by decide +kernel
theorem d_10_4_61 : decode prog_10_method_4_code 61 = .ok (.iload 5, 2) := by decide +kernel
theorem d_10_4_63 : decode prog_10_method_4_code 63 = .ok (.ifCond .eq 36, 3) := by decide +kernel
theorem d_10_4_66 : decode prog_10_method_4_code 66 = .ok (.aload_n 3, 1) := by decide +kernel
theorem d_10_4_67 : decode prog_10_method_4_code 67 = .ok (.iload 4, 2) := by decide +kernel
theorem d_10_4_69 : decode prog_10_method_4_code 69 = .ok (.iconst 1, 1) := by decide +kernel
theorem d_10_4_70 : decode prog_10_method_4_code 70 = .ok (.iadd, 1) := by decide +kernel
theorem d_10_4_71 : decode prog_10_method_4_code 71 = .ok (.iload 6, 2) := by decide +kernel
theorem d_10_4_73 : decode prog_10_method_4_code 73 = .ok (.iadd, 1) := by decide +kernel
theorem d_10_4_74 : decode prog_10_method_4_code 74 = .ok (.invokevirtual 11, 3) := by decide +kernel
theorem d_10_4_77 : decode prog_10_method_4_code 77 = .ok (.aload_n 0, 1) := by decide +kernel
theorem d_10_4_78 : decode prog_10_method_4_code 78 = .ok (.iload_n 1, 1) := by decide +kernel
theorem d_10_4_79 : decode prog_10_method_4_code 79 = .ok (.iload 6, 2) := by decide +kernel
theorem d_10_4_81 : decode prog_10_method_4_code 81 = .ok (.iadd, 1) := by decide +kernel
theorem d_10_4_82 : decode prog_10_method_4_code 82 = .ok (.baload, 1) := by decide +kernel
theorem d_10_4_83 : decode prog_10_method_4_code 83 = .ok (.if_icmp .ne 7, 3) := by decide +kernel
theorem d_10_4_86 : decode prog_10_method_4_code 86 = .ok (.iconst 1, 1) := by decide +kernel
theorem d_10_4_87 : decode prog_10_method_4_code 87 = .ok (.goto 4, 3) := by decide +kernel
theorem d_10_4_90 : decode prog_10_method_4_code 90 = .ok (.iconst 0, 1) := by decide +kernel
theorem d_10_4_91 : decode prog_10_method_4_code 91 = .ok (.istore 5, 2) := by decide +kernel
theorem d_10_4_93 : decode prog_10_method_4_code 93 = .ok (.iinc 6 1, 3) := by decide +kernel
theorem d_10_4_96 : decode prog_10_method_4_code 96 = .ok (.goto (-41), 3) := by decide +kernel
theorem d_10_4_99 : decode prog_10_method_4_code 99 = .ok (.iload 5, 2) := by decide +kernel
theorem d_10_4_101 : decode prog_10_method_4_code 101 = .ok (.ifCond .eq 5, 3) := by decide +kernel
theorem d_10_4_104 : decode prog_10_method_4_code 104 = .ok (.iconst 1, 1) := by decide +kernel
theorem d_10_4_105 : decode prog_10_method_4_code 105 = .ok (.ireturn, 1) := by decide +kernel
theorem d_10_4_106 : decode prog_10_method_4_code 106 = .ok (.iinc 4 1, 3) := by decide +kernel
theorem d_10_4_109 : decode prog_10_method_4_code 109 = .ok (.goto (-103), 3) := by decide +kernel
theorem d_10_4_112 : decode prog_10_method_4_code 112 = .ok (.iconst 0, 1) := by decide +kernel
theorem d_10_4_113 : decode prog_10_method_4_code 113 = .ok (.ireturn, 1) := by decide +kernel
theorem d_10_50_0 : decode prog_10_method_50_code 0 = .ok (.aload_n 0, 1) := by decide +kernel
theorem d_10_50_1 : decode prog_10_method_50_code 1 = .ok (.getfield 58, 3) := by decide +kernel
theorem d_10_50_4 : decode prog_10_method_50_code 4 = .ok (.istore_n 1, 1) := by decide +kernel
theorem d_10_50_5 : decode prog_10_method_50_code 5 = .ok (.aload_n 0, 1) := by decide +kernel
theorem d_10_50_6 : decode prog_10_method_50_code 6 = .ok (.ldc_w 394, 3) := by decide +kernel
theorem d_10_50_9 : decode prog_10_method_50_code 9 = .ok (.invokevirtual 102, 3) := by decide +kernel
theorem d_10_50_12 : decode prog_10_method_50_code 12 = .ok (.ifCond .eq 8, 3) := by decide +kernel
theorem d_10_50_15 : decode prog_10_method_50_code 15 = .ok (.bipush 14, 2) := by decide +kernel
theorem d_10_50_17 : decode prog_10_method_50_code 17 = .ok (.goto 19, 3) := by decide +kernel
theorem d_10_50_20 : decode prog_10_method_50_code 20 = .ok (.aload_n 0, 1) := by decide +kernel
theorem d_10_50_21 : decode prog_10_method_50_code 21 = .ok (.ldc_w 396, 3) := by decide +kernel
theorem d_10_50_24 : decode prog_10_method_50_code 24 = .ok (.invokevirtual 102, 3) := by decide +kernel
theorem d_10_50_27 : decode prog_10_method_50_code 27 = .ok (.ifCond .eq 8, 3) := by decide +kernel
theorem d_10_50_30 : decode prog_10_method_50_code 30 = .ok (.bipush 13, 2) := by decide +kernel
theorem d_10_50_32 : decode prog_10_method_50_code 32 = .ok (.goto 4, 3) := by decide +kernel
theorem d_10_50_35 : decode prog_10_method_50_code 35 = .ok (.iconst 0, 1) := by decide +kernel
theorem d_10_50_36 : decode prog_10_method_50_code 36 = .ok (.istore_n 2, 1) := by decide +kernel
theorem d_10_50_37 : decode prog_10_method_50_code 37 = .ok (.iload_n 2, 1) := by decide +kernel
theorem d_10_50_38 : decode prog_10_method_50_code 38 = .ok (.ifCond .le 13, 3) := by decide +kernel
theorem d_10_50_41 : decode prog_10_method_50_code 41 = .ok (.aload_n 0, 1) := by decide +kernel
theorem d_10_50_42 : decode prog_10_method_50_code 42 = .ok (.dup, 1) := by decide +kernel
theorem d_10_50_43 : decode prog_10_method_50_code 43 = .ok (.getfield 58, 3) := by decide +kernel
theorem d_10_50_46 : decode prog_10_method_50_code 46 = .ok (.iconst 1, 1) := by decide +kernel
theorem d_10_50_47 : decode prog_10_method_50_code 47 = .ok (.iadd, 1) := by decide +kernel
theorem d_10_50_48 : decode prog_10_method_50_code 48 = .ok (.putfield 58, 3) := by decide +kernel
theorem d_10_50_51 : decode prog_10_method_50_code 51 = .ok (.aload_n 0, 1) := by decide +kernel
theorem d_10_50_52 : decode prog_10_method_50_code 52 = .ok (.invokevirtual 398, 3) := by decide +kernel
theorem d_10_50_55 : decode prog_10_method_50_code 55 = .ok (.istore_n 3, 1) := by decide +kernel
theorem d_10_50_56 : decode prog_10_method_50_code 56 = .ok (.iload_n 3, 1) := by decide +kernel
theorem d_10_50_57 : decode prog_10_method_50_code 57 = .ok (.ifCond .lt 25, 3) := by decide +kernel
theorem d_10_50_60 : decode prog_10_method_50_code 60 = .ok (.iload_n 2, 1) := by decide +kernel
theorem d_10_50_61 : decode prog_10_method_50_code 61 = .ok (.ifCond .le 21, 3) := by decide +kernel
theorem d_10_50_64 : decode prog_10_method_50_code 64 = .ok (.iload_n 3, 1) := by decide +kernel
theorem d_10_50_65 : decode prog_10_method_50_code 65 = .ok (.istore 4, 2) := by decide +kernel
theorem d_10_50_67 : decode prog_10_method_50_code 67 = .ok (.aload_n 0, 1) := by decide +kernel
theorem d_10_50_68 : decode prog_10_method_50_code 68 = .ok (.iload_n 2, 1) := by decide +kernel
theorem d_10_50_69 : decode prog_10_method_50_code 69 = .ok (.iload_n 1, 1) := by decide +kernel
theorem d_10_50_70 : decode prog_10_method_50_code 70 = .ok (.invokevirtual 187, 3) := by decide +kernel
theorem d_10_50_73 : decode prog_10_method_50_code 73 = .ok (.istore_n 3, 1) := by decide +kernel
theorem d_10_50_74 : decode prog_10_method_50_code 74 = .ok (.aload_n 0, 1) := by decide +kernel
theorem d_10_50_75 : decode prog_10_method_50_code 75 = .ok (.getfield 75, 3) := by decide +kernel
theorem d_10_50_78 : decode prog_10_method_50_code 78 = .ok (.iload_n 3, 1) := by decide +kernel
theorem d_10_50_79 : decode prog_10_method_50_code 79 = .ok (.iload 4, 2) := by decide +kernel
theorem d_10_50_81 : decode prog_10_method_50_code 81 = .ok (.iastore, 1) := by decide +kernel
theorem d_10_50_82 : decode prog_10_method_50_code 82 = .ok (.iload_n 3, 1) := by decide +kernel
theorem d_10_50_83 : decode prog_10_method_50_code 83 = .ok (.ifCond .lt 67, 3) := by decide +kernel
theorem d_10_50_86 : decode prog_10_method_50_code 86 = .ok (.aload_n 0, 1) := by decide +kernel
theorem d_10_50_87 : decode prog_10_method_50_code 87 = .ok (.ldc_w 394, 3) := by decide +kernel
theorem d_10_50_90 : decode prog_10_method_50_code 90 = .ok (.invokevirtual 102, 3) := by decide +kernel
theorem d_10_50_93 : decode prog_10_method_50_code 93 = .ok (.ifCond .ne 13, 3) := by decide +kernel
theorem d_10_50_96 : decode prog_10_method_50_code 96 = .ok (.aload_n 0, 1) := by decide +kernel
theorem d_10_50_97 : decode prog_10_method_50_code 97 = .ok (.ldc_w 396, 3) := by decide +kernel
theorem d_10_50_100 : decode prog_10_method_50_code 100 = .ok (.invokevirtual 102, 3) := by decide +kernel
theorem d_10_50_103 : decode prog_10_method_50_code 103 = .ok (.ifCond .eq 47, 3) := by decide +kernel
theorem d_10_50_106 : decode prog_10_method_50_code 106 = .ok (.aload_n 0, 1) := by decide +kernel
theorem d_10_50_107 : decode prog_10_method_50_code 107 = .ok (.aload_n 0, 1) := by decide +kernel
theorem d_10_50_108 : decode prog_10_method_50_code 108 = .ok (.ldc_w 394, 3) := by decide +kernel
theorem d_10_50_111 : decode prog_10_method_50_code 111 = .ok (.invokevirtual 102, 3) := by decide +kernel
theorem d_10_50_114 : decode prog_10_method_50_code 114 = .ok (.ifCond .eq 8, 3) := by decide +kernel
theorem d_10_50_117 : decode prog_10_method_50_code 117 = .ok (.bipush 11, 2) := by decide +kernel
theorem d_10_50_119 : decode prog_10_method_50_code 119 = .ok (.goto 5, 3) := by decide +kernel
theorem d_10_50_122 : decode prog_10_method_50_code 122 = .ok (.bipush 12, 2) := by decide +kernel
theorem d_10_50_124 : decode prog_10_method_50_code 124 = .ok (.iload_n 3, 1) := by decide +kernel
theorem d_10_50_125 : decode prog_10_method_50_code 125 = .ok (.invokevirtual 366, 3) := by decide +kernel
theorem d_10_50_128 : decode prog_10_method_50_code 128 = .ok (.istore_n 3, 1) := by decide +kernel
theorem d_10_50_129 : decode prog_10_method_50_code 129 = .ok (.aload_n 0, 1) := by decide +kernel
theorem d_10_50_130 : decode prog_10_method_50_code 130 = .ok (.getfield 78, 3) := by decide +kernel
theorem d_10_50_133 : decode prog_10_method_50_code 133 = .ok (.iload_n 3, 1) := by decide +kernel
theorem d_10_50_134 : decode prog_10_method_50_code 134 = .ok (.aload_n 0, 1) := by decide +kernel
theorem d_10_50_135 : decode prog_10_method_50_code 135 = .ok (.invokevirtual 398, 3) := by decide +kernel
theorem d_10_50_138 : decode prog_10_method_50_code 138 = .ok (.iastore, 1) := by decide +kernel
theorem d_10_50_139 : decode prog_10_method_50_code 139 = .ok (.aload_n 0, 1) := by decide +kernel
theorem d_10_50_140 : decode prog_10_method_50_code 140 = .ok (.getfield 78, 3) := by decide +kernel
theorem d_10_50_143 : decode prog_10_method_50_code 143 = .ok (.iload_n 3, 1) := by decide +kernel
theorem d_10_50_144 : decode prog_10_method_50_code 144 = .ok (.iaload, 1) := by decide +kernel
theorem d_10_50_145 : decode prog_10_method_50_code 145 = .ok (.ifCond .ge (-63), 3) := by decide +kernel
