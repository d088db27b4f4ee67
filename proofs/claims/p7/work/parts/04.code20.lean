theorem d_6_14_47 : decode prog_6_method_14_code 47 = .ok (.iastore, 1) := by decide +kernel
theorem d_6_14_48 : decode prog_6_method_14_code 48 = .ok (.aload_n 0, 1) := by decide +kernel
theorem d_6_14_49 : decode prog_6_method_14_code 49 = .ok (.getfield 26, 3) := by decide +kernel
theorem d_6_14_52 : decode prog_6_method_14_code 52 = .ok (.aload_n 0, 1) := by decide +kernel
theorem d_6_14_53 : decode prog_6_method_14_code 53 = .ok (.getfield 39, 3) := by decide +kernel
theorem d_6_14_56 : decode prog_6_method_14_code 56 = .ok (.iconst (-1), 1) := by decide +kernel
theorem d_6_14_57 : decode prog_6_method_14_code 57 = .ok (.iastore, 1) := by decide +kernel
theorem d_6_14_58 : decode prog_6_method_14_code 58 = .ok (.aload_n 0, 1) := by decide +kernel
theorem d_6_14_59 : decode prog_6_method_14_code 59 = .ok (.getfield 29, 3) := by decide +kernel
theorem d_6_14_62 : decode prog_6_method_14_code 62 = .ok (.aload_n 0, 1) := by decide +kernel
theorem d_6_14_63 : decode prog_6_method_14_code 63 = .ok (.getfield 39, 3) := by decide +kernel
theorem d_6_14_66 : decode prog_6_method_14_code 66 = .ok (.iload_n 1, 1) := by decide +kernel
theorem d_6_14_67 : decode prog_6_method_14_code 67 = .ok (.iastore, 1) := by decide +kernel
theorem d_6_14_68 : decode prog_6_method_14_code 68 = .ok (.aload_n 0, 1) := by decide +kernel
theorem d_6_14_69 : decode prog_6_method_14_code 69 = .ok (.aload_n 0, 1) := by decide +kernel
theorem d_6_14_70 : decode prog_6_method_14_code 70 = .ok (.getfield 39, 3) := by decide +kernel
theorem d_6_14_73 : decode prog_6_method_14_code 73 = .ok (.iconst 1, 1) := by decide +kernel
theorem d_6_14_74 : decode prog_6_method_14_code 74 = .ok (.iadd, 1) := by decide +kernel
theorem d_6_14_75 : decode prog_6_method_14_code 75 = .ok (.putfield 35, 3) := by decide +kernel
theorem d_6_14_78 : decode prog_6_method_14_code 78 = .ok (.aload_n 0, 1) := by decide +kernel
theorem d_6_14_79 : decode prog_6_method_14_code 79 = .ok (.aload_n 0, 1) := by decide +kernel
theorem d_6_14_80 : decode prog_6_method_14_code 80 = .ok (.getfield 39, 3) := by decide +kernel
theorem d_6_14_83 : decode prog_6_method_14_code 83 = .ok (.putfield 42, 3) := by decide +kernel
theorem d_6_14_86 : decode prog_6_method_14_code 86 = .ok (.aload_n 0, 1) := by decide +kernel
theorem d_6_14_87 : decode prog_6_method_14_code 87 = .ok (.aload_n 0, 1) := by decide +kernel
theorem d_6_14_88 : decode prog_6_method_14_code 88 = .ok (.getfield 39, 3) := by decide +kernel
theorem d_6_14_91 : decode prog_6_method_14_code 91 = .ok (.putfield 45, 3) := by decide +kernel
theorem d_6_14_94 : decode prog_6_method_14_code 94 = .ok (.aload_n 0, 1) := by decide +kernel
theorem d_6_14_95 : decode prog_6_method_14_code 95 = .ok (.dup, 1) := by decide +kernel
theorem d_6_14_96 : decode prog_6_method_14_code 96 = .ok (.getfield 39, 3) := by decide +kernel
theorem d_6_14_99 : decode prog_6_method_14_code 99 = .ok (.iconst 1, 1) := by decide +kernel
theorem d_6_14_100 : decode prog_6_method_14_code 100 = .ok (.iadd, 1) := by decide +kernel
theorem d_6_14_101 : decode prog_6_method_14_code 101 = .ok (.putfield 39, 3) := by decide +kernel
theorem d_6_14_104 : decode prog_6_method_14_code 104 = .ok (.return_, 1) := by decide +kernel
theorem d_6_15_0 : decode prog_6_method_15_code 0 = .ok (.aload_n 0, 1) := by decide +kernel
theorem d_6_15_1 : decode prog_6_method_15_code 1 = .ok (.aload_n 0, 1) := by decide +kernel
theorem d_6_15_2 : decode prog_6_method_15_code 2 = .ok (.aload_n 0, 1) := by decide +kernel
theorem d_6_15_3 : decode prog_6_method_15_code 3 = .ok (.getfield 42, 3) := by decide +kernel
theorem d_6_15_6 : decode prog_6_method_15_code 6 = .ok (.invokevirtual 89, 3) := by decide +kernel
theorem d_6_15_9 : decode prog_6_method_15_code 9 = .ok (.putfield 42, 3) := by decide +kernel
theorem d_6_15_12 : decode prog_6_method_15_code 12 = .ok (.aload_n 0, 1) := by decide +kernel
theorem d_6_15_13 : decode prog_6_method_15_code 13 = .ok (.aload_n 0, 1) := by decide +kernel
theorem d_6_15_14 : decode prog_6_method_15_code 14 = .ok (.getfield 42, 3) := by decide +kernel
theorem d_6_15_17 : decode prog_6_method_15_code 17 = .ok (.putfield 45, 3) := by decide +kernel
theorem d_6_15_20 : decode prog_6_method_15_code 20 = .ok (.return_, 1) := by decide +kernel
theorem d_6_16_0 : decode prog_6_method_16_code 0 = .ok (.aload_n 0, 1) := by decide +kernel
theorem d_6_16_1 : decode prog_6_method_16_code 1 = .ok (.aload_n 0, 1) := by decide +kernel
theorem d_6_16_2 : decode prog_6_method_16_code 2 = .ok (.aload_n 0, 1) := by decide +kernel
theorem d_6_16_3 : decode prog_6_method_16_code 3 = .ok (.getfield 42, 3) := by decide +kernel
theorem d_6_16_6 : decode prog_6_method_16_code 6 = .ok (.invokevirtual 89, 3) := by decide +kernel
theorem d_6_16_9 : decode prog_6_method_16_code 9 = .ok (.putfield 45, 3) := by decide +kernel
theorem d_6_16_12 : decode prog_6_method_16_code 12 = .ok (.return_, 1) := by decide +kernel
theorem d_6_17_0 : decode prog_6_method_17_code 0 = .ok (.aload_n 0, 1) := by decide +kernel
theorem d_6_17_1 : decode prog_6_method_17_code 1 = .ok (.aload_n 0, 1) := by decide +kernel
theorem d_6_17_2 : decode prog_6_method_17_code 2 = .ok (.getfield 42, 3) := by decide +kernel
theorem d_6_17_5 : decode prog_6_method_17_code 5 = .ok (.putfield 45, 3) := by decide +kernel
theorem d_6_17_8 : decode prog_6_method_17_code 8 = .ok (.return_, 1) := by decide +kernel
theorem d_6_18_0 : decode prog_6_method_18_code 0 = .ok (.aload_n 0, 1) := by decide +kernel
theorem d_6_18_1 : decode prog_6_method_18_code 1 = .ok (.aload_n 0, 1) := by decide +kernel
theorem d_6_18_2 : decode prog_6_method_18_code 2 = .ok (.getfield 48, 3) := by decide +kernel
theorem d_6_18_5 : decode prog_6_method_18_code 5 = .ok (.iload_n 1, 1) := by decide +kernel
theorem d_6_18_6 : decode prog_6_method_18_code 6 = .ok (.invokestatic 92, 3) := by decide +kernel
theorem d_6_18_9 : decode prog_6_method_18_code 9 = .ok (.putfield 48, 3) := by decide +kernel
theorem d_6_18_12 : decode prog_6_method_18_code 12 = .ok (.return_, 1) := by decide +kernel
theorem d_6_19_0 : decode prog_6_method_19_code 0 = .ok (.aload_n 0, 1) := by decide +kernel
theorem d_6_19_1 : decode prog_6_method_19_code 1 = .ok (.getfield 51, 3) := by decide +kernel
theorem d_6_19_4 : decode prog_6_method_19_code 4 = .ok (.ifCond .eq 15, 3) := by decide +kernel
theorem d_6_19_7 : decode prog_6_method_19_code 7 = .ok (.aload_n 0, 1) := by decide +kernel
theorem d_6_19_8 : decode prog_6_method_19_code 8 = .ok (.aload_n 0, 1) := by decide +kernel
theorem d_6_19_9 : decode prog_6_method_19_code 9 = .ok (.getfield 48, 3) := by decide +kernel
theorem d_6_19_12 : decode prog_6_method_19_code 12 = .ok (.iload_n 1, 1) := by decide +kernel
theorem d_6_19_13 : decode prog_6_method_19_code 13 = .ok (.invokestatic 92, 3) := by decide +kernel
theorem d_6_19_16 : decode prog_6_method_19_code 16 = .ok (.putfield 48, 3) := by decide +kernel
theorem d_6_19_19 : decode prog_6_method_19_code 19 = .ok (.return_, 1) := by decide +kernel
theorem d_6_1_0 : decode prog_6_method_1_code 0 = .ok (.aload_n 0, 1) := by decide +kernel
theorem d_6_1_1 : decode prog_6_method_1_code 1 = .ok (.invokespecial 3, 3) := by decide +kernel
theorem d_6_1_4 : decode prog_6_method_1_code 4 = .ok (.aload_n 0, 1) := by decide +kernel
theorem d_6_1_5 : decode prog_6_method_1_code 5 = .ok (.aload_n 1, 1) := by decide +kernel
theorem d_6_1_6 : decode prog_6_method_1_code 6 = .ok (.putfield 9, 3) := by decide +kernel
theorem d_6_1_9 : decode prog_6_method_1_code 9 = .ok (.aload_n 0, 1) := by decide +kernel
theorem d_6_1_10 : decode prog_6_method_1_code 10 = .ok (.aload_n 2, 1) := by decide +kernel
theorem d_6_1_11 : decode prog_6_method_1_code 11 = .ok (.putfield 15, 3) := by decide +kernel
theorem d_6_1_14 : decode prog_6_method_1_code 14 = .ok (.aload_n 0, 1) := by decide +kernel
theorem d_6_1_15 : decode prog_6_method_1_code 15 = .ok (.sipush 333, 3) := by decide +kernel
theorem d_6_1_18 : decode prog_6_method_1_code 18 = .ok (.newarray .int, 2) := by decide +kernel
theorem d_6_1_20 : decode prog_6_method_1_code 20 = .ok (.putfield 19, 3) := by decide +kernel
theorem d_6_1_23 : decode prog_6_method_1_code 23 = .ok (.aload_n 0, 1) := by decide +kernel
theorem d_6_1_24 : decode prog_6_method_1_code 24 = .ok (.sipush 333, 3) := by decide +kernel
theorem d_6_1_27 : decode prog_6_method_1_code 27 = .ok (.newarray .int, 2) := by decide +kernel
theorem d_6_1_29 : decode prog_6_method_1_code 29 = .ok (.putfield 23, 3) := by decide +kernel
theorem d_6_1_32 : decode prog_6_method_1_code 32 = .ok (.aload_n 0, 1) := by decide +kernel
theorem d_6_1_33 : decode prog_6_method_1_code 33 = .ok (.sipush 333, 3) := by decide +kernel
theorem d_6_1_36 : decode prog_6_method_1_code 36 = .ok (.newarray .int, 2) := by decide +kernel
theorem d_6_1_38 : decode prog_6_method_1_code 38 = .ok (.putfield 26, 3) := by decide +kernel
theorem d_6_1_41 : decode prog_6_method_1_code 41 = .ok (.aload_n 0, 1) := by decide +kernel
theorem d_6_1_42 : decode prog_6_method_1_code 42 = .ok (.sipush 333, 3) := by decide +kernel
theorem d_6_1_45 : decode prog_6_method_1_code 45 = .ok (.newarray .int, 2) := by decide +kernel
theorem d_6_1_47 : decode prog_6_method_1_code 47 = .ok (.putfield 29, 3) := by decide +kernel
theorem d_6_1_50 : decode prog_6_method_1_code 50 = .ok (.aload_n 0, 1) := by decide +kernel
theorem d_6_1_51 : decode prog_6_method_1_code 51 = .ok (.sipush 3000, 3) := by decide +kernel
theorem d_6_1_54 : decode prog_6_method_1_code 54 = .ok (.newarray .int, 2) := by decide +kernel
theorem d_6_1_56 : decode prog_6_method_1_code 56 = .ok (.putfield 32, 3) := by decide +kernel
theorem d_6_1_59 : decode prog_6_method_1_code 59 = .ok (.aload_n 0, 1) := by decide +kernel
theorem d_6_1_60 : decode prog_6_method_1_code 60 = .ok (.iconst 0, 1) := by decide +kernel
theorem d_6_1_61 : decode prog_6_method_1_code 61 = .ok (.putfield 35, 3) := by decide +kernel
theorem d_6_1_64 : decode prog_6_method_1_code 64 = .ok (.aload_n 0, 1) := by decide +kernel
theorem d_6_1_65 : decode prog_6_method_1_code 65 = .ok (.iconst 0, 1) := by decide +kernel
theorem d_6_1_66 : decode prog_6_method_1_code 66 = .ok (.putfield 39, 3) := by decide +kernel
theorem d_6_1_69 : decode prog_6_method_1_code 69 = .ok (.aload_n 0, 1) := by decide +kernel
theorem d_6_1_70 : decode prog_6_method_1_code 70 = .ok (.iconst (-1), 1) := by decide +kernel
theorem d_6_1_71 : decode prog_6_method_1_code 71 = .ok (.putfield 42, 3) := by decide +kernel
theorem d_6_1_74 : decode prog_6_method_1_code 74 = .ok (.aload_n 0, 1) := by decide +kernel
theorem d_6_1_75 : decode prog_6_method_1_code 75 = .ok (.iconst (-1), 1) := by decide +kernel
theorem d_6_1_76 : decode prog_6_method_1_code 76 = .ok (.putfield 45, 3) := by decide +kernel
theorem d_6_1_79 : decode prog_6_method_1_code 79 = .ok (.aload_n 0, 1) := by decide +kernel
theorem d_6_1_80 : decode prog_6_method_1_code 80 = .ok (.sipush 3001, 3) := by decide +kernel
theorem d_6_1_83 : decode prog_6_method_1_code 83 = .ok (.putfield 48, 3) := by decide +kernel
theorem d_6_1_86 : decode prog_6_method_1_code 86 = .ok (.aload_n 0, 1) := by decide +kernel
theorem d_6_1_87 : decode prog_6_method_1_code 87 = .ok (.iconst 0, 1) := by decide +kernel
theorem d_6_1_88 : decode prog_6_method_1_code 88 = .ok (.putfield 51, 3) := by decide +kernel
theorem d_6_1_91 : decode prog_6_method_1_code 91 = .ok (.return_, 1) := by decide +kernel
theorem d_6_20_0 : decode prog_6_method_20_code 0 = .ok (.aload_n 0, 1) := by decide +kernel
theorem d_6_20_1 : decode prog_6_method_20_code 1 = .ok (.getfield 9, 3) := by decide +kernel
theorem d_6_20_4 : decode prog_6_method_20_code 4 = .ok (.invokevirtual 98, 3) := by decide +kernel
theorem d_6_20_7 : decode prog_6_method_20_code 7 = .ok (.lstore_n 3, 1) := by decide +kernel
theorem d_6_20_8 : decode prog_6_method_20_code 8 = .ok (.aload_n 0, 1) := by decide +kernel
theorem d_6_20_9 : decode prog_6_method_20_code 9 = .ok (.getfield 9, 3) := by decide +kernel
theorem d_6_20_12 : decode prog_6_method_20_code 12 = .ok (.invokevirtual 102, 3) := by decide +kernel
theorem d_6_20_15 : decode prog_6_method_20_code 15 = .ok (.istore 5, 2) := by decide +kernel
theorem d_6_20_17 : decode prog_6_method_20_code 17 = .ok (.aload_n 0, 1) := by decide +kernel
theorem d_6_20_18 : decode prog_6_method_20_code 18 = .ok (.getfield 9, 3) := by decide +kernel
theorem d_6_20_21 : decode prog_6_method_20_code 21 = .ok (.bipush 27, 2) := by decide +kernel
theorem d_6_20_23 : decode prog_6_method_20_code 23 = .ok (.invokevirtual 106, 3) := by decide +kernel
theorem d_6_20_26 : decode prog_6_method_20_code 26 = .ok (.aload_n 0, 1) := by decide +kernel
theorem d_6_20_27 : decode prog_6_method_20_code 27 = .ok (.getfield 51, 3) := by decide +kernel
theorem d_6_20_30 : decode prog_6_method_20_code 30 = .ok (.ifCond .ne 33, 3) := by decide +kernel
theorem d_6_20_33 : decode prog_6_method_20_code 33 = .ok (.aload_n 0, 1) := by decide +kernel
theorem d_6_20_34 : decode prog_6_method_20_code 34 = .ok (.getfield 9, 3) := by decide +kernel
theorem d_6_20_37 : decode prog_6_method_20_code 37 = .ok (.invokevirtual 109, 3) := by decide +kernel
theorem d_6_20_40 : decode prog_6_method_20_code 40 = .ok (.bipush (-2), 2) := by decide +kernel
theorem d_6_20_42 : decode prog_6_method_20_code 42 = .ok (.if_icmp .ne 21, 3) := by decide +kernel
theorem d_6_20_45 : decode prog_6_method_20_code 45 = .ok (.aload_n 0, 1) := by decide +kernel
theorem d_6_20_46 : decode prog_6_method_20_code 46 = .ok (.getfield 42, 3) := by decide +kernel
theorem d_6_20_49 : decode prog_6_method_20_code 49 = .ok (.ifCond .lt 14, 3) := by decide +kernel
theorem d_6_20_52 : decode prog_6_method_20_code 52 = .ok (.aload_n 0, 1) := by decide +kernel
theorem d_6_20_53 : decode prog_6_method_20_code 53 = .ok (.getfield 42, 3) := by decide +kernel
theorem d_6_20_56 : decode prog_6_method_20_code 56 = .ok (.aload_n 0, 1) := by decide +kernel
theorem d_6_20_57 : decode prog_6_method_20_code 57 = .ok (.getfield 35, 3) := by decide +kernel
theorem d_6_20_60 : decode prog_6_method_20_code 60 = .ok (.if_icmp .lt 5, 3) := by decide +kernel
theorem d_6_20_63 : decode prog_6_method_20_code 63 = .ok (.iconst (-1), 1) := by decide +kernel
theorem d_6_20_64 : decode prog_6_method_20_code 64 = .ok (.ireturn, 1) := by decide +kernel
theorem d_6_20_65 : decode prog_6_method_20_code 65 = .ok (.aload_n 0, 1) := by decide +kernel
theorem d_6_20_66 : decode prog_6_method_20_code 66 = .ok (.getfield 15, 3) := by decide +kernel
theorem d_6_20_69 : decode prog_6_method_20_code 69 = .ok (.aload_n 0, 1) := by decide +kernel
theorem d_6_20_70 : decode prog_6_method_20_code 70 = .ok (.getfield 23, 3) := by decide +kernel
theorem d_6_20_73 : decode prog_6_method_20_code 73 = .ok (.aload_n 0, 1) := by decide +kernel
theorem d_6_20_74 : decode prog_6_method_20_code 74 = .ok (.getfield 42, 3) := by decide +kernel
theorem d_6_20_77 : decode prog_6_method_20_code 77 = .ok (.iaload, 1) := by decide +kernel
theorem d_6_20_78 : decode prog_6_method_20_code 78 = .ok (.lload_n 3, 1) := by decide +kernel
theorem d_6_20_79 : decode prog_6_method_20_code 79 = .ok (.invokevirtual 112, 3) := by decide +kernel
theorem d_6_20_82 : decode prog_6_method_20_code 82 = .ok (.ifCond .lt 9, 3) := by decide +kernel
theorem d_6_20_85 : decode prog_6_method_20_code 85 = .ok (.aload_n 0, 1) := by decide +kernel
theorem d_6_20_86 : decode prog_6_method_20_code 86 = .ok (.iload 5, 2) := by decide +kernel
theorem d_6_20_88 : decode prog_6_method_20_code 88 = .ok (.invokevirtual 116, 3) := by decide +kernel
theorem d_6_20_91 : decode prog_6_method_20_code 91 = .ok (.aload_n 0, 1) := by decide +kernel
theorem d_6_20_92 : decode prog_6_method_20_code 92 = .ok (.getfield 15, 3) := by decide +kernel
theorem d_6_20_95 : decode prog_6_method_20_code 95 = .ok (.lload_n 3, 1) := by decide +kernel
theorem d_6_20_96 : decode prog_6_method_20_code 96 = .ok (.iload 5, 2) := by decide +kernel
theorem d_6_20_98 : decode prog_6_method_20_code 98 = .ok (.aload_n 0, 1) := by decide +kernel
theorem d_6_20_99 : decode prog_6_method_20_code 99 = .ok (.getfield 42, 3) := by decide +kernel
theorem d_6_20_102 : decode prog_6_method_20_code 102 = .ok (.iload_n 1, 1) := by decide +kernel
theorem d_6_20_103 : decode prog_6_method_20_code 103 = .ok (.iload_n 2, 1) := by decide +kernel
theorem d_6_20_104 : decode prog_6_method_20_code 104 = .ok (.invokevirtual 119, 3) := by decide +kernel
theorem d_6_20_107 : decode prog_6_method_20_code 107 = .ok (.istore 6, 2) := by decide +kernel
theorem d_6_20_109 : decode prog_6_method_20_code 109 = .ok (.aload_n 0, 1) := by decide +kernel
theorem d_6_20_110 : decode prog_6_method_20_code 110 = .ok (.getfield 23, 3) := by decide +kernel
theorem d_6_20_113 : decode prog_6_method_20_code 113 = .ok (.aload_n 0, 1) := by decide +kernel
theorem d_6_20_114 : decode prog_6_method_20_code 114 = .ok (.getfield 42, 3) := by decide +kernel
theorem d_6_20_117 : decode prog_6_method_20_code 117 = .ok (.iaload, 1) := by decide +kernel
theorem d_6_20_118 : decode prog_6_method_20_code 118 = .ok (.ifCond .ge 17, 3) := by decide +kernel
theorem d_6_20_121 : decode prog_6_method_20_code 121 = .ok (.aload_n 0, 1) := by decide +kernel
theorem d_6_20_122 : decode prog_6_method_20_code 122 = .ok (.getfield 23, 3) := by decide +kernel
theorem d_6_20_125 : decode prog_6_method_20_code 125 = .ok (.aload_n 0, 1) := by decide +kernel
theorem d_6_20_126 : decode prog_6_method_20_code 126 = .ok (.getfield 42, 3) := by decide +kernel
theorem d_6_20_129 : decode prog_6_method_20_code 129 = .ok (.iload 6, 2) := by decide +kernel
theorem d_6_20_131 : decode prog_6_method_20_code 131 = .ok (.iastore, 1) := by decide +kernel
theorem d_6_20_132 : decode prog_6_method_20_code 132 = .ok (.goto 21, 3) := by decide +kernel
theorem d_6_20_135 : decode prog_6_method_20_code 135 = .ok (.aload_n 0, 1) := by decide +kernel
theorem d_6_20_136 : decode prog_6_method_20_code 136 = .ok (.getfield 15, 3) := by decide +kernel
theorem d_6_20_139 : decode prog_6_method_20_code 139 = .ok (.aload_n 0, 1) := by decide +kernel
theorem d_6_20_140 : decode prog_6_method_20_code 140 = .ok (.getfield 26, 3) := by decide +kernel
theorem d_6_20_143 : decode prog_6_method_20_code 143 = .ok (.aload_n 0, 1) := by decide +kernel
theorem d_6_20_144 : decode prog_6_method_20_code 144 = .ok (.getfield 42, 3) := by decide +kernel
theorem d_6_20_147 : decode prog_6_method_20_code 147 = .ok (.iaload, 1) := by decide +kernel
theorem d_6_20_148 : decode prog_6_method_20_code 148 = .ok (.iload 6, 2) := by decide +kernel
theorem d_6_20_150 : decode prog_6_method_20_code 150 = .ok (.invokevirtual 123, 3) := by decide +kernel
theorem d_6_20_153 : decode prog_6_method_20_code 153 = .ok (.aload_n 0, 1) := by decide +kernel
theorem d_6_20_154 : decode prog_6_method_20_code 154 = .ok (.getfield 26, 3) := by decide +kernel
theorem d_6_20_157 : decode prog_6_method_20_code 157 = .ok (.aload_n 0, 1) := by decide +kernel
theorem d_6_20_158 : decode prog_6_method_20_code 158 = .ok (.getfield 42, 3) := by decide +kernel
theorem d_6_20_161 : decode prog_6_method_20_code 161 = .ok (.iload 6, 2) := by decide +kernel
theorem d_6_20_163 : decode prog_6_method_20_code 163 = .ok (.iastore, 1) := by decide +kernel
theorem d_6_20_164 : decode prog_6_method_20_code 164 = .ok (.iload 6, 2) := by decide +kernel
theorem d_6_20_166 : decode prog_6_method_20_code 166 = .ok (.ireturn, 1) := by decide +kernel
theorem d_6_21_0 : decode prog_6_method_21_code 0 = .ok (.aload_n 0, 1) := by decide +kernel
theorem d_6_21_1 : decode prog_6_method_21_code 1 = .ok (.getfield 9, 3) := by decide +kernel
theorem d_6_21_4 : decode prog_6_method_21_code 4 = .ok (.invokevirtual 98, 3) := by decide +kernel
theorem d_6_21_7 : decode prog_6_method_21_code 7 = .ok (.lstore_n 1, 1) := by decide +kernel
theorem d_6_21_8 : decode prog_6_method_21_code 8 = .ok (.aload_n 0, 1) := by decide +kernel
theorem d_6_21_9 : decode prog_6_method_21_code 9 = .ok (.getfield 9, 3) := by decide +kernel
theorem d_6_21_12 : decode prog_6_method_21_code 12 = .ok (.invokevirtual 102, 3) := by decide +kernel
theorem d_6_21_15 : decode prog_6_method_21_code 15 = .ok (.istore_n 3, 1) := by decide +kernel
theorem d_6_21_16 : decode prog_6_method_21_code 16 = .ok (.aload_n 0, 1) := by decide +kernel
theorem d_6_21_17 : decode prog_6_method_21_code 17 = .ok (.getfield 9, 3) := by decide +kernel
theorem d_6_21_20 : decode prog_6_method_21_code 20 = .ok (.bipush 27, 2) := by decide +kernel
theorem d_6_21_22 : decode prog_6_method_21_code 22 = .ok (.invokevirtual 106, 3) := by decide +kernel
theorem d_6_21_25 : decode prog_6_method_21_code 25 = .ok (.aload_n 0, 1) := by decide +kernel
theorem d_6_21_26 : decode prog_6_method_21_code 26 = .ok (.getfield 51, 3) := by decide +kernel
theorem d_6_21_29 : decode prog_6_method_21_code 29 = .ok (.ifCond .ne 5, 3) := by decide +kernel
theorem d_6_21_32 : decode prog_6_method_21_code 32 = .ok (.iconst (-1), 1) := by decide +kernel
theorem d_6_21_33 : decode prog_6_method_21_code 33 = .ok (.ireturn, 1) := by decide +kernel
theorem d_6_21_34 : decode prog_6_method_21_code 34 = .ok (.aload_n 0, 1) := by decide +kernel
theorem d_6_21_35 : decode prog_6_method_21_code 35 = .ok (.lload_n 1, 1) := by decide +kernel
theorem d_6_21_36 : decode prog_6_method_21_code 36 = .ok (.invokevirtual 126, 3) := by decide +kernel
theorem d_6_21_39 : decode prog_6_method_21_code 39 = .ok (.istore 4, 2) := by decide +kernel
theorem d_6_21_41 : decode prog_6_method_21_code 41 = .ok (.iload 4, 2) := by decide +kernel
theorem d_6_21_43 : decode prog_6_method_21_code 43 = .ok (.ifCond .ge 11, 3) := by decide +kernel
theorem d_6_21_46 : decode prog_6_method_21_code 46 = .ok (.aload_n 0, 1) := by decide +kernel
theorem d_6_21_47 : decode prog_6_method_21_code 47 = .ok (.iload_n 3, 1) := by decide +kernel
theorem d_6_21_48 : decode prog_6_method_21_code 48 = .ok (.invokevirtual 116, 3) := by decide +kernel
theorem d_6_21_51 : decode prog_6_method_21_code 51 = .ok (.goto 22, 3) := by decide +kernel
theorem d_6_21_54 : decode prog_6_method_21_code 54 = .ok (.iload_n 3, 1) := by decide +kernel
theorem d_6_21_55 : decode prog_6_method_21_code 55 = .ok (.ifCond .lt 18, 3) := by decide +kernel
theorem d_6_21_58 : decode prog_6_method_21_code 58 = .ok (.iload_n 3, 1) := by decide +kernel
theorem d_6_21_59 : decode prog_6_method_21_code 59 = .ok (.sipush 3000, 3) := by decide +kernel
theorem d_6_21_62 : decode prog_6_method_21_code 62 = .ok (.if_icmp .ge 11, 3) := by decide +kernel
theorem d_6_21_65 : decode prog_6_method_21_code 65 = .ok (.aload_n 0, 1) := by decide +kernel
theorem d_6_21_66 : decode prog_6_method_21_code 66 = .ok (.getfield 32, 3) := by decide +kernel
theorem d_6_21_69 : decode prog_6_method_21_code 69 = .ok (.iload_n 3, 1) := by decide +kernel
theorem d_6_21_70 : decode prog_6_method_21_code 70 = .ok (.iload 4, 2) := by decide +kernel
theorem d_6_21_72 : decode prog_6_method_21_code 72 = .ok (.iastore, 1) := by decide +kernel
theorem d_6_21_73 : decode prog_6_method_21_code 73 = .ok (.iload 4, 2) := by decide +kernel
theorem d_6_21_75 : decode prog_6_method_21_code 75 = .ok (.ireturn, 1) := by decide +kernel
theorem d_6_22_0 : decode prog_6_method_22_code 0 = .ok (.aload_n 0, 1) := by decide +kernel
theorem d_6_22_1 : decode prog_6_method_22_code 1 = .ok (.getfield 45, 3) := by decide +kernel
theorem d_6_22_4 : decode prog_6_method_22_code 4 = .ok (.istore_n 3, 1) := by decide +kernel
theorem d_6_22_5 : decode prog_6_method_22_code 5 = .ok (.iconst 0, 1) := by decide +kernel
theorem d_6_22_6 : decode prog_6_method_22_code 6 = .ok (.istore 4, 2) := by decide +kernel
theorem d_6_22_8 : decode prog_6_method_22_code 8 = .ok (.iload 4, 2) := by decide +kernel
theorem d_6_22_10 : decode prog_6_method_22_code 10 = .ok (.sipush 333, 3) := by decide +kernel
theorem d_6_22_13 : decode prog_6_method_22_code 13 = .ok (.if_icmp .ge 52, 3) := by decide +kernel
theorem d_6_22_16 : decode prog_6_method_22_code 16 = .ok (.iload_n 3, 1) := by decide +kernel
theorem d_6_22_17 : decode prog_6_method_22_code 17 = .ok (.ifCond .lt 48, 3) := by decide +kernel
theorem d_6_22_20 : decode prog_6_method_22_code 20 = .ok (.iload_n 3, 1) := by decide +kernel
theorem d_6_22_21 : decode prog_6_method_22_code 21 = .ok (.aload_n 0, 1) := by decide +kernel
theorem d_6_22_22 : decode prog_6_method_22_code 22 = .ok (.getfield 35, 3) := by decide +kernel
theorem d_6_22_25 : decode prog_6_method_22_code 25 = .ok (.if_icmp .ge 40, 3) := by decide +kernel
theorem d_6_22_28 : decode prog_6_method_22_code 28 = .ok (.aload_n 0, 1) := by decide +kernel
theorem d_6_22_29 : decode prog_6_method_22_code 29 = .ok (.getfield 15, 3) := by decide +kernel
theorem d_6_22_32 : decode prog_6_method_22_code 32 = .ok (.aload_n 0, 1) := by decide +kernel
theorem d_6_22_33 : decode prog_6_method_22_code 33 = .ok (.getfield 23, 3) := by decide +kernel
theorem d_6_22_36 : decode prog_6_method_22_code 36 = .ok (.iload_n 3, 1) := by decide +kernel
theorem d_6_22_37 : decode prog_6_method_22_code 37 = .ok (.iaload, 1) := by decide +kernel
theorem d_6_22_38 : decode prog_6_method_22_code 38 = .ok (.lload_n 1, 1) := by decide +kernel
theorem d_6_22_39 : decode prog_6_method_22_code 39 = .ok (.invokevirtual 112, 3) := by decide +kernel
theorem d_6_22_42 : decode prog_6_method_22_code 42 = .ok (.istore 5, 2) := by decide +kernel
theorem d_6_22_44 : decode prog_6_method_22_code 44 = .ok (.iload 5, 2) := by decide +kernel
theorem d_6_22_46 : decode prog_6_method_22_code 46 = .ok (.ifCond .lt 6, 3) := by decide +kernel
theorem d_6_22_49 : decode prog_6_method_22_code 49 = .ok (.iload 5, 2) := by decide +kernel
theorem d_6_22_51 : decode prog_6_method_22_code 51 = .ok (.ireturn, 1) := by decide +kernel
theorem d_6_22_52 : decode prog_6_method_22_code 52 = .ok (.aload_n 0, 1) := by decide +kernel
theorem d_6_22_53 : decode prog_6_method_22_code 53 = .ok (.getfield 19, 3) := by decide +kernel
theorem d_6_22_56 : decode prog_6_method_22_code 56 = .ok (.iload_n 3, 1) := by decide +kernel
theorem d_6_22_57 : decode prog_6_method_22_code 57 = .ok (.iaload, 1) := by decide +kernel
theorem d_6_22_58 : decode prog_6_method_22_code 58 = .ok (.istore_n 3, 1) := by decide +kernel
theorem d_6_22_59 : decode prog_6_method_22_code 59 = .ok (.iinc 4 1, 3) := by decide +kernel
theorem d_6_22_62 : decode prog_6_method_22_code 62 = .ok (.goto (-54), 3) := by decide +kernel
theorem d_6_22_65 : decode prog_6_method_22_code 65 = .ok (.iconst (-1), 1) := by decide +kernel
theorem d_6_22_66 : decode prog_6_method_22_code 66 = .ok (.ireturn, 1) := by decide +kernel
theorem d_6_23_0 : decode prog_6_method_23_code 0 = .ok (.aload_n 0, 1) := by decide +kernel
theorem d_6_23_1 : decode prog_6_method_23_code 1 = .ok (.getfield 15, 3) := by decide +kernel
theorem d_6_23_4 : decode prog_6_method_23_code 4 = .ok (.iload_n 1, 1) := by decide +kernel
theorem d_6_23_5 : decode prog_6_method_23_code 5 = .ok (.invokevirtual 129, 3) := by decide +kernel
theorem d_6_23_8 : decode prog_6_method_23_code 8 = .ok (.return_, 1) := by decide +kernel
theorem d_6_24_0 : decode prog_6_method_24_code 0 = .ok (.iload_n 1, 1) := by decide +kernel
theorem d_6_24_1 : decode prog_6_method_24_code 1 = .ok (.ifCond .ge 4, 3) := by decide +kernel
theorem d_6_24_4 : decode prog_6_method_24_code 4 = .ok (.return_, 1) := by decide +kernel
theorem d_6_24_5 : decode prog_6_method_24_code 5 = .ok (.iload_n 1, 1) := by decide +kernel
theorem d_6_24_6 : decode prog_6_method_24_code 6 = .ok (.istore_n 3, 1) := by decide +kernel
theorem d_6_24_7 : decode prog_6_method_24_code 7 = .ok (.iload_n 3, 1) := by decide +kernel
theorem d_6_24_8 : decode prog_6_method_24_code 8 = .ok (.aload_n 0, 1) := by decide +kernel
theorem d_6_24_9 : decode prog_6_method_24_code 9 = .ok (.getfield 15, 3) := by decide +kernel
theorem d_6_24_12 : decode prog_6_method_24_code 12 = .ok (.invokevirtual 132, 3) := by decide +kernel
theorem d_6_24_15 : decode prog_6_method_24_code 15 = .ok (.if_icmp .ge 18, 3) := by decide +kernel
theorem d_6_24_18 : decode prog_6_method_24_code 18 = .ok (.aload_n 0, 1) := by decide +kernel
theorem d_6_24_19 : decode prog_6_method_24_code 19 = .ok (.getfield 15, 3) := by decide +kernel
theorem d_6_24_22 : decode prog_6_method_24_code 22 = .ok (.iload_n 3, 1) := by decide +kernel
theorem d_6_24_23 : decode prog_6_method_24_code 23 = .ok (.iload_n 2, 1) := by decide +kernel
theorem d_6_24_24 : decode prog_6_method_24_code 24 = .ok (.invokevirtual 134, 3) := by decide +kernel
theorem d_6_24_27 : decode prog_6_method_24_code 27 = .ok (.iinc 3 1, 3) := by decide +kernel
theorem d_6_24_30 : decode prog_6_method_24_code 30 = .ok (.goto (-23), 3) := by decide +kernel
theorem d_6_24_33 : decode prog_6_method_24_code 33 = .ok (.return_, 1) := by decide +kernel
theorem d_6_25_0 : decode prog_6_method_25_code 0 = .ok (.aload_n 0, 1) := by decide +kernel
theorem d_6_25_1 : decode prog_6_method_25_code 1 = .ok (.getfield 15, 3) := by decide +kernel
theorem d_6_25_4 : decode prog_6_method_25_code 4 = .ok (.iload_n 1, 1) := by decide +kernel
theorem d_6_25_5 : decode prog_6_method_25_code 5 = .ok (.iload_n 2, 1) := by decide +kernel
theorem d_6_25_6 : decode prog_6_method_25_code 6 = .ok (.invokevirtual 134, 3) := by decide +kernel
theorem d_6_25_9 : decode prog_6_method_25_code 9 = .ok (.return_, 1) := by decide +kernel
theorem d_6_26_0 : decode prog_6_method_26_code 0 = .ok (.aload_n 0, 1) := by decide +kernel
theorem d_6_26_1 : decode prog_6_method_26_code 1 = .ok (.getfield 9, 3) := by decide +kernel
theorem d_6_26_4 : decode prog_6_method_26_code 4 = .ok (.invokevirtual 102, 3) := by decide +kernel
theorem d_6_26_7 : decode prog_6_method_26_code 7 = .ok (.istore_n 1, 1) := by decide +kernel
theorem d_6_26_8 : decode prog_6_method_26_code 8 = .ok (.aload_n 0, 1) := by decide +kernel
theorem d_6_26_9 : decode prog_6_method_26_code 9 = .ok (.getfield 15, 3) := by decide +kernel
theorem d_6_26_12 : decode prog_6_method_26_code 12 = .ok (.aload_n 0, 1) := by decide +kernel
theorem d_6_26_13 : decode prog_6_method_26_code 13 = .ok (.aload_n 0, 1) := by decide +kernel
theorem d_6_26_14 : decode prog_6_method_26_code 14 = .ok (.getfield 42, 3) := by decide +kernel
theorem d_6_26_17 : decode prog_6_method_26_code 17 = .ok (.invokevirtual 137, 3) := by decide +kernel
theorem d_6_26_20 : decode prog_6_method_26_code 20 = .ok (.aload_n 0, 1) := by decide +kernel
theorem d_6_26_21 : decode prog_6_method_26_code 21 = .ok (.getfield 9, 3) := by decide +kernel
theorem d_6_26_24 : decode prog_6_method_26_code 24 = .ok (.invokevirtual 98, 3) := by decide +kernel
theorem d_6_26_27 : decode prog_6_method_26_code 27 = .ok (.invokevirtual 112, 3) := by decide +kernel
theorem d_6_26_30 : decode prog_6_method_26_code 30 = .ok (.istore_n 2, 1) := by decide +kernel
theorem d_6_26_31 : decode prog_6_method_26_code 31 = .ok (.aload_n 0, 1) := by decide +kernel
theorem d_6_26_32 : decode prog_6_method_26_code 32 = .ok (.getfield 9, 3) := by decide +kernel
theorem d_6_26_35 : decode prog_6_method_26_code 35 = .ok (.bipush 27, 2) := by decide +kernel
theorem d_6_26_37 : decode prog_6_method_26_code 37 = .ok (.invokevirtual 106, 3) := by decide +kernel
theorem d_6_26_40 : decode prog_6_method_26_code 40 = .ok (.aload_n 0, 1) := by decide +kernel
theorem d_6_26_41 : decode prog_6_method_26_code 41 = .ok (.getfield 51, 3) := by decide +kernel
theorem d_6_26_44 : decode prog_6_method_26_code 44 = .ok (.ifCond .eq 4, 3) := by decide +kernel
theorem d_6_26_47 : decode prog_6_method_26_code 47 = .ok (.return_, 1) := by decide +kernel
theorem d_6_26_48 : decode prog_6_method_26_code 48 = .ok (.iload_n 2, 1) := by decide +kernel
theorem d_6_26_49 : decode prog_6_method_26_code 49 = .ok (.ifCond .lt 14, 3) := by decide +kernel
theorem d_6_26_52 : decode prog_6_method_26_code 52 = .ok (.aload_n 0, 1) := by decide +kernel
theorem d_6_26_53 : decode prog_6_method_26_code 53 = .ok (.getfield 15, 3) := by decide +kernel
theorem d_6_26_56 : decode prog_6_method_26_code 56 = .ok (.iload_n 2, 1) := by decide +kernel
theorem d_6_26_57 : decode prog_6_method_26_code 57 = .ok (.invokevirtual 140, 3) := by decide +kernel
theorem d_6_26_60 : decode prog_6_method_26_code 60 = .ok (.ifCond .lt 11, 3) := by decide +kernel
theorem d_6_26_63 : decode prog_6_method_26_code 63 = .ok (.aload_n 0, 1) := by decide +kernel
theorem d_6_26_64 : decode prog_6_method_26_code 64 = .ok (.iload_n 1, 1) := by decide +kernel
theorem d_6_26_65 : decode prog_6_method_26_code 65 = .ok (.invokevirtual 116, 3) := by decide +kernel
theorem d_6_26_68 : decode prog_6_method_26_code 68 = .ok (.goto 12, 3) := by decide +kernel
theorem d_6_26_71 : decode prog_6_method_26_code 71 = .ok (.aload_n 0, 1) := by decide +kernel
theorem d_6_26_72 : decode prog_6_method_26_code 72 = .ok (.getfield 15, 3) := by decide +kernel
theorem d_6_26_75 : decode prog_6_method_26_code 75 = .ok (.iload_n 2, 1) := by decide +kernel
theorem d_6_26_76 : decode prog_6_method_26_code 76 = .ok (.iload_n 1, 1) := by decide +kernel
theorem d_6_26_77 : decode prog_6_method_26_code 77 = .ok (.invokevirtual 143, 3) := by decide +kernel
theorem d_6_26_80 : decode prog_6_method_26_code 80 = .ok (.return_, 1) := by decide +kernel
theorem d_6_27_0 : decode prog_6_method_27_code 0 = .ok (.aload_n 0, 1) := by decide +kernel
theorem d_6_27_1 : decode prog_6_method_27_code 1 = .ok (.getfield 9, 3) := by decide +kernel
theorem d_6_27_4 : decode prog_6_method_27_code 4 = .ok (.invokevirtual 102, 3) := by decide +kernel
theorem d_6_27_7 : decode prog_6_method_27_code 7 = .ok (.istore_n 3, 1) := by decide +kernel
theorem d_6_27_8 : decode prog_6_method_27_code 8 = .ok (.aload_n 0, 1) := by decide +kernel
theorem d_6_27_9 : decode prog_6_method_27_code 9 = .ok (.getfield 15, 3) := by decide +kernel
theorem d_6_27_12 : decode prog_6_method_27_code 12 = .ok (.aload_n 0, 1) := by decide +kernel
theorem d_6_27_13 : decode prog_6_method_27_code 13 = .ok (.aload_n 0, 1) := by decide +kernel
theorem d_6_27_14 : decode prog_6_method_27_code 14 = .ok (.getfield 42, 3) := by decide +kernel
theorem d_6_27_17 : decode prog_6_method_27_code 17 = .ok (.invokevirtual 137, 3) := by decide +kernel
theorem d_6_27_20 : decode prog_6_method_27_code 20 = .ok (.aload_n 0, 1) := by decide +kernel
theorem d_6_27_21 : decode prog_6_method_27_code 21 = .ok (.getfield 9, 3) := by decide +kernel
theorem d_6_27_24 : decode prog_6_method_27_code 24 = .ok (.invokevirtual 98, 3) := by decide +kernel
theorem d_6_27_27 : decode prog_6_method_27_code 27 = .ok (.invokevirtual 112, 3) := by decide +kernel
theorem d_6_27_30 : decode prog_6_method_27_code 30 = .ok (.istore 4, 2) := by decide +kernel
theorem d_6_27_32 : decode prog_6_method_27_code 32 = .ok (.aload_n 0, 1) := by decide +kernel
theorem d_6_27_33 : decode prog_6_method_27_code 33 = .ok (.getfield 9, 3) := by decide +kernel
theorem d_6_27_36 : decode prog_6_method_27_code 36 = .ok (.bipush 27, 2) := by decide +kernel
theorem d_6_27_38 : decode prog_6_method_27_code 38 = .ok (.invokevirtual 106, 3) := by decide +kernel
theorem d_6_27_41 : decode prog_6_method_27_code 41 = .ok (.aload_n 0, 1) := by decide +kernel
theorem d_6_27_42 : decode prog_6_method_27_code 42 = .ok (.getfield 51, 3) := by decide +kernel
theorem d_6_27_45 : decode prog_6_method_27_code 45 = .ok (.ifCond .eq 4, 3) := by decide +kernel
theorem d_6_27_48 : decode prog_6_method_27_code 48 = .ok (.return_, 1) := by decide +kernel
theorem d_6_27_49 : decode prog_6_method_27_code 49 = .ok (.iload 4, 2) := by decide +kernel
theorem d_6_27_51 : decode prog_6_method_27_code 51 = .ok (.ifCond .lt 15, 3) := by decide +kernel
theorem d_6_27_54 : decode prog_6_method_27_code 54 = .ok (.aload_n 0, 1) := by decide +kernel
theorem d_6_27_55 : decode prog_6_method_27_code 55 = .ok (.getfield 15, 3) := by decide +kernel
theorem d_6_27_58 : decode prog_6_method_27_code 58 = .ok (.iload 4, 2) := by decide +kernel
theorem d_6_27_60 : decode prog_6_method_27_code 60 = .ok (.invokevirtual 146, 3) := by decide +kernel
theorem d_6_27_63 : decode prog_6_method_27_code 63 = .ok (.ifCond .eq 9, 3) := by decide +kernel
theorem d_6_27_66 : decode prog_6_method_27_code 66 = .ok (.aload_n 0, 1) := by decide +kernel
theorem d_6_27_67 : decode prog_6_method_27_code 67 = .ok (.iload_n 3, 1) := by decide +kernel
theorem d_6_27_68 : decode prog_6_method_27_code 68 = .ok (.invokevirtual 116, 3) := by decide +kernel
theorem d_6_27_71 : decode prog_6_method_27_code 71 = .ok (.return_, 1) := by decide +kernel
theorem d_6_27_72 : decode prog_6_method_27_code 72 = .ok (.aload_n 0, 1) := by decide +kernel
theorem d_6_27_73 : decode prog_6_method_27_code 73 = .ok (.getfield 15, 3) := by decide +kernel
theorem d_6_27_76 : decode prog_6_method_27_code 76 = .ok (.iload 4, 2) := by decide +kernel
theorem d_6_27_78 : decode prog_6_method_27_code 78 = .ok (.iload_n 1, 1) := by decide +kernel
theorem d_6_27_79 : decode prog_6_method_27_code 79 = .ok (.iload_n 2, 1) := by decide +kernel
theorem d_6_27_80 : decode prog_6_method_27_code 80 = .ok (.invokevirtual 149, 3) := by decide +kernel
theorem d_6_27_83 : decode prog_6_method_27_code 83 = .ok (.iload_n 1, 1) := by decide +kernel
theorem d_6_27_84 : decode prog_6_method_27_code 84 = .ok (.bipush 6, 2) := by decide +kernel
theorem d_6_27_86 : decode prog_6_method_27_code 86 = .ok (.if_icmp .eq 28, 3) := by decide +kernel
theorem d_6_27_89 : decode prog_6_method_27_code 89 = .ok (.aload_n 0, 1) := by decide +kernel
theorem d_6_27_90 : decode prog_6_method_27_code 90 = .ok (.getfield 15, 3) := by decide +kernel
theorem d_6_27_93 : decode prog_6_method_27_code 93 = .ok (.iload 4, 2) := by decide +kernel
theorem d_6_27_95 : decode prog_6_method_27_code 95 = .ok (.invokevirtual 140, 3) := by decide +kernel
theorem d_6_27_98 : decode prog_6_method_27_code 98 = .ok (.ifCond .lt 16, 3) := by decide +kernel
theorem d_6_27_101 : decode prog_6_method_27_code 101 = .ok (.aload_n 0, 1) := by decide +kernel
theorem d_6_27_102 : decode prog_6_method_27_code 102 = .ok (.aload_n 0, 1) := by decide +kernel
theorem d_6_27_103 : decode prog_6_method_27_code 103 = .ok (.getfield 15, 3) := by decide +kernel
theorem d_6_27_106 : decode prog_6_method_27_code 106 = .ok (.iload 4, 2) := by decide +kernel
