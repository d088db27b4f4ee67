theorem d_10_61_7 : decode prog_10_method_61_code 7 = .ok (.iconst 1, 1) := by decide +kernel
theorem d_10_61_8 : decode prog_10_method_61_code 8 = .ok (.invokevirtual 421, 3) := by decide +kernel
theorem d_10_61_11 : decode prog_10_method_61_code 11 = .ok (.aload_n 0, 1) := by decide +kernel
theorem d_10_61_12 : decode prog_10_method_61_code 12 = .ok (.getfield 78, 3) := by decide +kernel
theorem d_10_61_15 : decode prog_10_method_61_code 15 = .ok (.iload_n 1, 1) := by decide +kernel
theorem d_10_61_16 : decode prog_10_method_61_code 16 = .ok (.iaload, 1) := by decide +kernel
theorem d_10_61_17 : decode prog_10_method_61_code 17 = .ok (.ifCond .lt 14, 3) := by decide +kernel
theorem d_10_61_20 : decode prog_10_method_61_code 20 = .ok (.aload_n 0, 1) := by decide +kernel
theorem d_10_61_21 : decode prog_10_method_61_code 21 = .ok (.aload_n 0, 1) := by decide +kernel
theorem d_10_61_22 : decode prog_10_method_61_code 22 = .ok (.getfield 78, 3) := by decide +kernel
theorem d_10_61_25 : decode prog_10_method_61_code 25 = .ok (.iload_n 1, 1) := by decide +kernel
theorem d_10_61_26 : decode prog_10_method_61_code 26 = .ok (.iaload, 1) := by decide +kernel
theorem d_10_61_27 : decode prog_10_method_61_code 27 = .ok (.iconst 1, 1) := by decide +kernel
theorem d_10_61_28 : decode prog_10_method_61_code 28 = .ok (.invokevirtual 421, 3) := by decide +kernel
theorem d_10_61_31 : decode prog_10_method_61_code 31 = .ok (.aload_n 0, 1) := by decide +kernel
theorem d_10_61_32 : decode prog_10_method_61_code 32 = .ok (.aload_n 0, 1) := by decide +kernel
theorem d_10_61_33 : decode prog_10_method_61_code 33 = .ok (.getfield 90, 3) := by decide +kernel
theorem d_10_61_36 : decode prog_10_method_61_code 36 = .ok (.iload_n 1, 1) := by decide +kernel
theorem d_10_61_37 : decode prog_10_method_61_code 37 = .ok (.iaload, 1) := by decide +kernel
theorem d_10_61_38 : decode prog_10_method_61_code 38 = .ok (.aload_n 0, 1) := by decide +kernel
theorem d_10_61_39 : decode prog_10_method_61_code 39 = .ok (.getfield 72, 3) := by decide +kernel
theorem d_10_61_42 : decode prog_10_method_61_code 42 = .ok (.iload_n 1, 1) := by decide +kernel
theorem d_10_61_43 : decode prog_10_method_61_code 43 = .ok (.iaload, 1) := by decide +kernel
theorem d_10_61_44 : decode prog_10_method_61_code 44 = .ok (.invokevirtual 434, 3) := by decide +kernel
theorem d_10_61_47 : decode prog_10_method_61_code 47 = .ok (.istore_n 2, 1) := by decide +kernel
theorem d_10_61_48 : decode prog_10_method_61_code 48 = .ok (.iload_n 2, 1) := by decide +kernel
theorem d_10_61_49 : decode prog_10_method_61_code 49 = .ok (.ifCond .lt 42, 3) := by decide +kernel
theorem d_10_61_52 : decode prog_10_method_61_code 52 = .ok (.aload_n 0, 1) := by decide +kernel
theorem d_10_61_53 : decode prog_10_method_61_code 53 = .ok (.getfield 144, 3) := by decide +kernel
theorem d_10_61_56 : decode prog_10_method_61_code 56 = .ok (.iload_n 2, 1) := by decide +kernel
theorem d_10_61_57 : decode prog_10_method_61_code 57 = .ok (.iaload, 1) := by decide +kernel
theorem d_10_61_58 : decode prog_10_method_61_code 58 = .ok (.iconst 5, 1) := by decide +kernel
theorem d_10_61_59 : decode prog_10_method_61_code 59 = .ok (.if_icmp .ne 32, 3) := by decide +kernel
theorem d_10_61_62 : decode prog_10_method_61_code 62 = .ok (.aload_n 0, 1) := by decide +kernel
theorem d_10_61_63 : decode prog_10_method_61_code 63 = .ok (.getfield 147, 3) := by decide +kernel
theorem d_10_61_66 : decode prog_10_method_61_code 66 = .ok (.iload_n 2, 1) := by decide +kernel
theorem d_10_61_67 : decode prog_10_method_61_code 67 = .ok (.iaload, 1) := by decide +kernel
theorem d_10_61_68 : decode prog_10_method_61_code 68 = .ok (.ifCond .eq 14, 3) := by decide +kernel
theorem d_10_61_71 : decode prog_10_method_61_code 71 = .ok (.aload_n 0, 1) := by decide +kernel
theorem d_10_61_72 : decode prog_10_method_61_code 72 = .ok (.getfield 147, 3) := by decide +kernel
theorem d_10_61_75 : decode prog_10_method_61_code 75 = .ok (.iload_n 2, 1) := by decide +kernel
theorem d_10_61_76 : decode prog_10_method_61_code 76 = .ok (.iaload, 1) := by decide +kernel
theorem d_10_61_77 : decode prog_10_method_61_code 77 = .ok (.iconst 4, 1) := by decide +kernel
theorem d_10_61_78 : decode prog_10_method_61_code 78 = .ok (.iand, 1) := by decide +kernel
theorem d_10_61_79 : decode prog_10_method_61_code 79 = .ok (.ifCond .eq 12, 3) := by decide +kernel
theorem d_10_61_82 : decode prog_10_method_61_code 82 = .ok (.aload_n 0, 1) := by decide +kernel
theorem d_10_61_83 : decode prog_10_method_61_code 83 = .ok (.getfield 147, 3) := by decide +kernel
theorem d_10_61_86 : decode prog_10_method_61_code 86 = .ok (.iload_n 2, 1) := by decide +kernel
theorem d_10_61_87 : decode prog_10_method_61_code 87 = .ok (.iaload, 1) := by decide +kernel
theorem d_10_61_88 : decode prog_10_method_61_code 88 = .ok (.iconst 3, 1) := by decide +kernel
theorem d_10_61_89 : decode prog_10_method_61_code 89 = .ok (.iand, 1) := by decide +kernel
theorem d_10_61_90 : decode prog_10_method_61_code 90 = .ok (.ireturn, 1) := by decide +kernel
theorem d_10_61_91 : decode prog_10_method_61_code 91 = .ok (.iload_n 2, 1) := by decide +kernel
theorem d_10_61_92 : decode prog_10_method_61_code 92 = .ok (.ifCond .lt 13, 3) := by decide +kernel
theorem d_10_61_95 : decode prog_10_method_61_code 95 = .ok (.aload_n 0, 1) := by decide +kernel
theorem d_10_61_96 : decode prog_10_method_61_code 96 = .ok (.getfield 144, 3) := by decide +kernel
theorem d_10_61_99 : decode prog_10_method_61_code 99 = .ok (.iload_n 2, 1) := by decide +kernel
theorem d_10_61_100 : decode prog_10_method_61_code 100 = .ok (.iaload, 1) := by decide +kernel
theorem d_10_61_101 : decode prog_10_method_61_code 101 = .ok (.iconst 1, 1) := by decide +kernel
theorem d_10_61_102 : decode prog_10_method_61_code 102 = .ok (.if_icmp .eq 9, 3) := by decide +kernel
theorem d_10_61_105 : decode prog_10_method_61_code 105 = .ok (.aload_n 0, 1) := by decide +kernel
theorem d_10_61_106 : decode prog_10_method_61_code 106 = .ok (.iload_n 1, 1) := by decide +kernel
theorem d_10_61_107 : decode prog_10_method_61_code 107 = .ok (.invokevirtual 437, 3) := by decide +kernel
theorem d_10_61_110 : decode prog_10_method_61_code 110 = .ok (.ireturn, 1) := by decide +kernel
theorem d_10_61_111 : decode prog_10_method_61_code 111 = .ok (.aload_n 0, 1) := by decide +kernel
theorem d_10_61_112 : decode prog_10_method_61_code 112 = .ok (.getfield 159, 3) := by decide +kernel
theorem d_10_61_115 : decode prog_10_method_61_code 115 = .ok (.iload_n 2, 1) := by decide +kernel
theorem d_10_61_116 : decode prog_10_method_61_code 116 = .ok (.iaload, 1) := by decide +kernel
theorem d_10_61_117 : decode prog_10_method_61_code 117 = .ok (.aload_n 0, 1) := by decide +kernel
theorem d_10_61_118 : decode prog_10_method_61_code 118 = .ok (.getfield 78, 3) := by decide +kernel
theorem d_10_61_121 : decode prog_10_method_61_code 121 = .ok (.iload_n 1, 1) := by decide +kernel
theorem d_10_61_122 : decode prog_10_method_61_code 122 = .ok (.iaload, 1) := by decide +kernel
theorem d_10_61_123 : decode prog_10_method_61_code 123 = .ok (.ifCond .ge 7, 3) := by decide +kernel
theorem d_10_61_126 : decode prog_10_method_61_code 126 = .ok (.iconst 1, 1) := by decide +kernel
theorem d_10_61_127 : decode prog_10_method_61_code 127 = .ok (.goto 4, 3) := by decide +kernel
theorem d_10_61_130 : decode prog_10_method_61_code 130 = .ok (.iconst 2, 1) := by decide +kernel
theorem d_10_61_131 : decode prog_10_method_61_code 131 = .ok (.if_icmp .eq 13, 3) := by decide +kernel
theorem d_10_61_134 : decode prog_10_method_61_code 134 = .ok (.aload_n 0, 1) := by decide +kernel
theorem d_10_61_135 : decode prog_10_method_61_code 135 = .ok (.aload_n 0, 1) := by decide +kernel
theorem d_10_61_136 : decode prog_10_method_61_code 136 = .ok (.getfield 72, 3) := by decide +kernel
theorem d_10_61_139 : decode prog_10_method_61_code 139 = .ok (.iload_n 1, 1) := by decide +kernel
theorem d_10_61_140 : decode prog_10_method_61_code 140 = .ok (.iaload, 1) := by decide +kernel
theorem d_10_61_141 : decode prog_10_method_61_code 141 = .ok (.invokevirtual 132, 3) := by decide +kernel
theorem d_10_61_144 : decode prog_10_method_61_code 144 = .ok (.aload_n 0, 1) := by decide +kernel
theorem d_10_61_145 : decode prog_10_method_61_code 145 = .ok (.getfield 147, 3) := by decide +kernel
theorem d_10_61_148 : decode prog_10_method_61_code 148 = .ok (.iload_n 2, 1) := by decide +kernel
theorem d_10_61_149 : decode prog_10_method_61_code 149 = .ok (.iaload, 1) := by decide +kernel
theorem d_10_61_150 : decode prog_10_method_61_code 150 = .ok (.ireturn, 1) := by decide +kernel
theorem d_10_62_0 : decode prog_10_method_62_code 0 = .ok (.iconst 0, 1) := by decide +kernel
theorem d_10_62_1 : decode prog_10_method_62_code 1 = .ok (.istore_n 3, 1) := by decide +kernel
theorem d_10_62_2 : decode prog_10_method_62_code 2 = .ok (.aload_n 0, 1) := by decide +kernel
theorem d_10_62_3 : decode prog_10_method_62_code 3 = .ok (.getfield 75, 3) := by decide +kernel
theorem d_10_62_6 : decode prog_10_method_62_code 6 = .ok (.iload_n 1, 1) := by decide +kernel
theorem d_10_62_7 : decode prog_10_method_62_code 7 = .ok (.iaload, 1) := by decide +kernel
theorem d_10_62_8 : decode prog_10_method_62_code 8 = .ok (.istore 4, 2) := by decide +kernel
theorem d_10_62_10 : decode prog_10_method_62_code 10 = .ok (.iload 4, 2) := by decide +kernel
theorem d_10_62_12 : decode prog_10_method_62_code 12 = .ok (.ifCond .lt 18, 3) := by decide +kernel
theorem d_10_62_15 : decode prog_10_method_62_code 15 = .ok (.iinc 3 1, 3) := by decide +kernel
theorem d_10_62_18 : decode prog_10_method_62_code 18 = .ok (.aload_n 0, 1) := by decide +kernel
theorem d_10_62_19 : decode prog_10_method_62_code 19 = .ok (.getfield 87, 3) := by decide +kernel
theorem d_10_62_22 : decode prog_10_method_62_code 22 = .ok (.iload 4, 2) := by decide +kernel
theorem d_10_62_24 : decode prog_10_method_62_code 24 = .ok (.iaload, 1) := by decide +kernel
theorem d_10_62_25 : decode prog_10_method_62_code 25 = .ok (.istore 4, 2) := by decide +kernel
theorem d_10_62_27 : decode prog_10_method_62_code 27 = .ok (.goto (-17), 3) := by decide +kernel
theorem d_10_62_30 : decode prog_10_method_62_code 30 = .ok (.iload_n 3, 1) := by decide +kernel
theorem d_10_62_31 : decode prog_10_method_62_code 31 = .ok (.aload_n 0, 1) := by decide +kernel
theorem d_10_62_32 : decode prog_10_method_62_code 32 = .ok (.getfield 276, 3) := by decide +kernel
theorem d_10_62_35 : decode prog_10_method_62_code 35 = .ok (.iload_n 2, 1) := by decide +kernel
theorem d_10_62_36 : decode prog_10_method_62_code 36 = .ok (.iaload, 1) := by decide +kernel
theorem d_10_62_37 : decode prog_10_method_62_code 37 = .ok (.if_icmp .eq 14, 3) := by decide +kernel
theorem d_10_62_40 : decode prog_10_method_62_code 40 = .ok (.aload_n 0, 1) := by decide +kernel
theorem d_10_62_41 : decode prog_10_method_62_code 41 = .ok (.aload_n 0, 1) := by decide +kernel
theorem d_10_62_42 : decode prog_10_method_62_code 42 = .ok (.getfield 72, 3) := by decide +kernel
theorem d_10_62_45 : decode prog_10_method_62_code 45 = .ok (.iload_n 1, 1) := by decide +kernel
theorem d_10_62_46 : decode prog_10_method_62_code 46 = .ok (.iaload, 1) := by decide +kernel
theorem d_10_62_47 : decode prog_10_method_62_code 47 = .ok (.invokevirtual 132, 3) := by decide +kernel
theorem d_10_62_50 : decode prog_10_method_62_code 50 = .ok (.return_, 1) := by decide +kernel
theorem d_10_62_51 : decode prog_10_method_62_code 51 = .ok (.aload_n 0, 1) := by decide +kernel
theorem d_10_62_52 : decode prog_10_method_62_code 52 = .ok (.getfield 279, 3) := by decide +kernel
theorem d_10_62_55 : decode prog_10_method_62_code 55 = .ok (.iload_n 2, 1) := by decide +kernel
theorem d_10_62_56 : decode prog_10_method_62_code 56 = .ok (.iaload, 1) := by decide +kernel
theorem d_10_62_57 : decode prog_10_method_62_code 57 = .ok (.istore 4, 2) := by decide +kernel
theorem d_10_62_59 : decode prog_10_method_62_code 59 = .ok (.aload_n 0, 1) := by decide +kernel
theorem d_10_62_60 : decode prog_10_method_62_code 60 = .ok (.getfield 75, 3) := by decide +kernel
theorem d_10_62_63 : decode prog_10_method_62_code 63 = .ok (.iload_n 1, 1) := by decide +kernel
theorem d_10_62_64 : decode prog_10_method_62_code 64 = .ok (.iaload, 1) := by decide +kernel
theorem d_10_62_65 : decode prog_10_method_62_code 65 = .ok (.istore 5, 2) := by decide +kernel
theorem d_10_62_67 : decode prog_10_method_62_code 67 = .ok (.iload 5, 2) := by decide +kernel
theorem d_10_62_69 : decode prog_10_method_62_code 69 = .ok (.ifCond .lt 36, 3) := by decide +kernel
theorem d_10_62_72 : decode prog_10_method_62_code 72 = .ok (.aload_n 0, 1) := by decide +kernel
theorem d_10_62_73 : decode prog_10_method_62_code 73 = .ok (.aload_n 0, 1) := by decide +kernel
theorem d_10_62_74 : decode prog_10_method_62_code 74 = .ok (.getfield 75, 3) := by decide +kernel
theorem d_10_62_77 : decode prog_10_method_62_code 77 = .ok (.iload 5, 2) := by decide +kernel
theorem d_10_62_79 : decode prog_10_method_62_code 79 = .ok (.iaload, 1) := by decide +kernel
theorem d_10_62_80 : decode prog_10_method_62_code 80 = .ok (.aload_n 0, 1) := by decide +kernel
theorem d_10_62_81 : decode prog_10_method_62_code 81 = .ok (.getfield 147, 3) := by decide +kernel
theorem d_10_62_84 : decode prog_10_method_62_code 84 = .ok (.iload 4, 2) := by decide +kernel
theorem d_10_62_86 : decode prog_10_method_62_code 86 = .ok (.iaload, 1) := by decide +kernel
theorem d_10_62_87 : decode prog_10_method_62_code 87 = .ok (.invokevirtual 448, 3) := by decide +kernel
theorem d_10_62_90 : decode prog_10_method_62_code 90 = .ok (.iinc 4 1, 3) := by decide +kernel
theorem d_10_62_93 : decode prog_10_method_62_code 93 = .ok (.aload_n 0, 1) := by decide +kernel
theorem d_10_62_94 : decode prog_10_method_62_code 94 = .ok (.getfield 87, 3) := by decide +kernel
theorem d_10_62_97 : decode prog_10_method_62_code 97 = .ok (.iload 5, 2) := by decide +kernel
theorem d_10_62_99 : decode prog_10_method_62_code 99 = .ok (.iaload, 1) := by decide +kernel
theorem d_10_62_100 : decode prog_10_method_62_code 100 = .ok (.istore 5, 2) := by decide +kernel
theorem d_10_62_102 : decode prog_10_method_62_code 102 = .ok (.goto (-35), 3) := by decide +kernel
theorem d_10_62_105 : decode prog_10_method_62_code 105 = .ok (.return_, 1) := by decide +kernel
theorem d_10_63_0 : decode prog_10_method_63_code 0 = .ok (.iload_n 2, 1) := by decide +kernel
theorem d_10_63_1 : decode prog_10_method_63_code 1 = .ok (.iconst 1, 1) := by decide +kernel
theorem d_10_63_2 : decode prog_10_method_63_code 2 = .ok (.if_icmp .eq 8, 3) := by decide +kernel
theorem d_10_63_5 : decode prog_10_method_63_code 5 = .ok (.iload_n 2, 1) := by decide +kernel
theorem d_10_63_6 : decode prog_10_method_63_code 6 = .ok (.iconst 2, 1) := by decide +kernel
theorem d_10_63_7 : decode prog_10_method_63_code 7 = .ok (.if_icmp .ne 10, 3) := by decide +kernel
theorem d_10_63_10 : decode prog_10_method_63_code 10 = .ok (.aload_n 0, 1) := by decide +kernel
theorem d_10_63_11 : decode prog_10_method_63_code 11 = .ok (.iload_n 1, 1) := by decide +kernel
theorem d_10_63_12 : decode prog_10_method_63_code 12 = .ok (.iload_n 2, 1) := by decide +kernel
theorem d_10_63_13 : decode prog_10_method_63_code 13 = .ok (.invokevirtual 421, 3) := by decide +kernel
theorem d_10_63_16 : decode prog_10_method_63_code 16 = .ok (.return_, 1) := by decide +kernel
theorem d_10_63_17 : decode prog_10_method_63_code 17 = .ok (.aload_n 0, 1) := by decide +kernel
theorem d_10_63_18 : decode prog_10_method_63_code 18 = .ok (.getfield 66, 3) := by decide +kernel
theorem d_10_63_21 : decode prog_10_method_63_code 21 = .ok (.iload_n 1, 1) := by decide +kernel
theorem d_10_63_22 : decode prog_10_method_63_code 22 = .ok (.iaload, 1) := by decide +kernel
theorem d_10_63_23 : decode prog_10_method_63_code 23 = .ok (.iconst 3, 1) := by decide +kernel
theorem d_10_63_24 : decode prog_10_method_63_code 24 = .ok (.if_icmp .ne 22, 3) := by decide +kernel
theorem d_10_63_27 : decode prog_10_method_63_code 27 = .ok (.aload_n 0, 1) := by decide +kernel
theorem d_10_63_28 : decode prog_10_method_63_code 28 = .ok (.aload_n 0, 1) := by decide +kernel
theorem d_10_63_29 : decode prog_10_method_63_code 29 = .ok (.getfield 90, 3) := by decide +kernel
theorem d_10_63_32 : decode prog_10_method_63_code 32 = .ok (.iload_n 1, 1) := by decide +kernel
theorem d_10_63_33 : decode prog_10_method_63_code 33 = .ok (.iaload, 1) := by decide +kernel
theorem d_10_63_34 : decode prog_10_method_63_code 34 = .ok (.aload_n 0, 1) := by decide +kernel
theorem d_10_63_35 : decode prog_10_method_63_code 35 = .ok (.getfield 72, 3) := by decide +kernel
theorem d_10_63_38 : decode prog_10_method_63_code 38 = .ok (.iload_n 1, 1) := by decide +kernel
theorem d_10_63_39 : decode prog_10_method_63_code 39 = .ok (.iaload, 1) := by decide +kernel
theorem d_10_63_40 : decode prog_10_method_63_code 40 = .ok (.invokevirtual 434, 3) := by decide +kernel
theorem d_10_63_43 : decode prog_10_method_63_code 43 = .ok (.goto 4, 3) := by decide +kernel
theorem d_10_63_46 : decode prog_10_method_63_code 46 = .ok (.iconst (-1), 1) := by decide +kernel
theorem d_10_63_47 : decode prog_10_method_63_code 47 = .ok (.istore_n 3, 1) := by decide +kernel
theorem d_10_63_48 : decode prog_10_method_63_code 48 = .ok (.iload_n 2, 1) := by decide +kernel
theorem d_10_63_49 : decode prog_10_method_63_code 49 = .ok (.ifCond .ne 24, 3) := by decide +kernel
theorem d_10_63_52 : decode prog_10_method_63_code 52 = .ok (.aload_n 0, 1) := by decide +kernel
theorem d_10_63_53 : decode prog_10_method_63_code 53 = .ok (.getfield 66, 3) := by decide +kernel
theorem d_10_63_56 : decode prog_10_method_63_code 56 = .ok (.iload_n 1, 1) := by decide +kernel
theorem d_10_63_57 : decode prog_10_method_63_code 57 = .ok (.iaload, 1) := by decide +kernel
theorem d_10_63_58 : decode prog_10_method_63_code 58 = .ok (.iconst 3, 1) := by decide +kernel
theorem d_10_63_59 : decode prog_10_method_63_code 59 = .ok (.if_icmp .ne 7, 3) := by decide +kernel
theorem d_10_63_62 : decode prog_10_method_63_code 62 = .ok (.iload_n 3, 1) := by decide +kernel
theorem d_10_63_63 : decode prog_10_method_63_code 63 = .ok (.ifCond .ge 9, 3) := by decide +kernel
theorem d_10_63_66 : decode prog_10_method_63_code 66 = .ok (.aload_n 0, 1) := by decide +kernel
theorem d_10_63_67 : decode prog_10_method_63_code 67 = .ok (.iload_n 1, 1) := by decide +kernel
theorem d_10_63_68 : decode prog_10_method_63_code 68 = .ok (.invokevirtual 417, 3) := by decide +kernel
theorem d_10_63_71 : decode prog_10_method_63_code 71 = .ok (.pop, 1) := by decide +kernel
theorem d_10_63_72 : decode prog_10_method_63_code 72 = .ok (.return_, 1) := by decide +kernel
theorem d_10_63_73 : decode prog_10_method_63_code 73 = .ok (.iload_n 2, 1) := by decide +kernel
theorem d_10_63_74 : decode prog_10_method_63_code 74 = .ok (.bipush 8, 2) := by decide +kernel
theorem d_10_63_76 : decode prog_10_method_63_code 76 = .ok (.if_icmp .ne 57, 3) := by decide +kernel
theorem d_10_63_79 : decode prog_10_method_63_code 79 = .ok (.iload_n 3, 1) := by decide +kernel
theorem d_10_63_80 : decode prog_10_method_63_code 80 = .ok (.ifCond .lt 47, 3) := by decide +kernel
theorem d_10_63_83 : decode prog_10_method_63_code 83 = .ok (.aload_n 0, 1) := by decide +kernel
theorem d_10_63_84 : decode prog_10_method_63_code 84 = .ok (.getfield 144, 3) := by decide +kernel
theorem d_10_63_87 : decode prog_10_method_63_code 87 = .ok (.iload_n 3, 1) := by decide +kernel
theorem d_10_63_88 : decode prog_10_method_63_code 88 = .ok (.iaload, 1) := by decide +kernel
theorem d_10_63_89 : decode prog_10_method_63_code 89 = .ok (.iconst 4, 1) := by decide +kernel
theorem d_10_63_90 : decode prog_10_method_63_code 90 = .ok (.if_icmp .eq 33, 3) := by decide +kernel
theorem d_10_63_93 : decode prog_10_method_63_code 93 = .ok (.aload_n 0, 1) := by decide +kernel
theorem d_10_63_94 : decode prog_10_method_63_code 94 = .ok (.getfield 144, 3) := by decide +kernel
theorem d_10_63_97 : decode prog_10_method_63_code 97 = .ok (.iload_n 3, 1) := by decide +kernel
theorem d_10_63_98 : decode prog_10_method_63_code 98 = .ok (.iaload, 1) := by decide +kernel
theorem d_10_63_99 : decode prog_10_method_63_code 99 = .ok (.iconst 5, 1) := by decide +kernel
theorem d_10_63_100 : decode prog_10_method_63_code 100 = .ok (.if_icmp .ne 27, 3) := by decide +kernel
theorem d_10_63_103 : decode prog_10_method_63_code 103 = .ok (.aload_n 0, 1) := by decide +kernel
theorem d_10_63_104 : decode prog_10_method_63_code 104 = .ok (.getfield 147, 3) := by decide +kernel
theorem d_10_63_107 : decode prog_10_method_63_code 107 = .ok (.iload_n 3, 1) := by decide +kernel
theorem d_10_63_108 : decode prog_10_method_63_code 108 = .ok (.iaload, 1) := by decide +kernel
theorem d_10_63_109 : decode prog_10_method_63_code 109 = .ok (.bipush 8, 2) := by decide +kernel
theorem d_10_63_111 : decode prog_10_method_63_code 111 = .ok (.if_icmp .eq 12, 3) := by decide +kernel
theorem d_10_63_114 : decode prog_10_method_63_code 114 = .ok (.aload_n 0, 1) := by decide +kernel
theorem d_10_63_115 : decode prog_10_method_63_code 115 = .ok (.getfield 147, 3) := by decide +kernel
theorem d_10_63_118 : decode prog_10_method_63_code 118 = .ok (.iload_n 3, 1) := by decide +kernel
theorem d_10_63_119 : decode prog_10_method_63_code 119 = .ok (.iaload, 1) := by decide +kernel
theorem d_10_63_120 : decode prog_10_method_63_code 120 = .ok (.ifCond .ne 7, 3) := by decide +kernel
theorem d_10_63_123 : decode prog_10_method_63_code 123 = .ok (.iconst 1, 1) := by decide +kernel
theorem d_10_63_124 : decode prog_10_method_63_code 124 = .ok (.goto 4, 3) := by decide +kernel
theorem d_10_63_127 : decode prog_10_method_63_code 127 = .ok (.iconst 0, 1) := by decide +kernel
theorem d_10_63_128 : decode prog_10_method_63_code 128 = .ok (.istore 4, 2) := by decide +kernel
theorem d_10_63_130 : decode prog_10_method_63_code 130 = .ok (.goto 65, 3) := by decide +kernel
theorem d_10_63_133 : decode prog_10_method_63_code 133 = .ok (.iload_n 3, 1) := by decide +kernel
theorem d_10_63_134 : decode prog_10_method_63_code 134 = .ok (.ifCond .lt 58, 3) := by decide +kernel
theorem d_10_63_137 : decode prog_10_method_63_code 137 = .ok (.aload_n 0, 1) := by decide +kernel
theorem d_10_63_138 : decode prog_10_method_63_code 138 = .ok (.getfield 144, 3) := by decide +kernel
theorem d_10_63_141 : decode prog_10_method_63_code 141 = .ok (.iload_n 3, 1) := by decide +kernel
theorem d_10_63_142 : decode prog_10_method_63_code 142 = .ok (.iaload, 1) := by decide +kernel
theorem d_10_63_143 : decode prog_10_method_63_code 143 = .ok (.iconst 1, 1) := by decide +kernel
theorem d_10_63_144 : decode prog_10_method_63_code 144 = .ok (.if_icmp .ne 15, 3) := by decide +kernel
theorem d_10_63_147 : decode prog_10_method_63_code 147 = .ok (.aload_n 0, 1) := by decide +kernel
theorem d_10_63_148 : decode prog_10_method_63_code 148 = .ok (.getfield 147, 3) := by decide +kernel
theorem d_10_63_151 : decode prog_10_method_63_code 151 = .ok (.iload_n 3, 1) := by decide +kernel
theorem d_10_63_152 : decode prog_10_method_63_code 152 = .ok (.iaload, 1) := by decide +kernel
theorem d_10_63_153 : decode prog_10_method_63_code 153 = .ok (.iload_n 2, 1) := by decide +kernel
theorem d_10_63_154 : decode prog_10_method_63_code 154 = .ok (.iconst 3, 1) := by decide +kernel
theorem d_10_63_155 : decode prog_10_method_63_code 155 = .ok (.iand, 1) := by decide +kernel
theorem d_10_63_156 : decode prog_10_method_63_code 156 = .ok (.if_icmp .eq 32, 3) := by decide +kernel
theorem d_10_63_159 : decode prog_10_method_63_code 159 = .ok (.aload_n 0, 1) := by decide +kernel
theorem d_10_63_160 : decode prog_10_method_63_code 160 = .ok (.getfield 144, 3) := by decide +kernel
theorem d_10_63_163 : decode prog_10_method_63_code 163 = .ok (.iload_n 3, 1) := by decide +kernel
theorem d_10_63_164 : decode prog_10_method_63_code 164 = .ok (.iaload, 1) := by decide +kernel
theorem d_10_63_165 : decode prog_10_method_63_code 165 = .ok (.iconst 5, 1) := by decide +kernel
theorem d_10_63_166 : decode prog_10_method_63_code 166 = .ok (.if_icmp .ne 26, 3) := by decide +kernel
theorem d_10_63_169 : decode prog_10_method_63_code 169 = .ok (.aload_n 0, 1) := by decide +kernel
theorem d_10_63_170 : decode prog_10_method_63_code 170 = .ok (.getfield 147, 3) := by decide +kernel
theorem d_10_63_173 : decode prog_10_method_63_code 173 = .ok (.iload_n 3, 1) := by decide +kernel
theorem d_10_63_174 : decode prog_10_method_63_code 174 = .ok (.iaload, 1) := by decide +kernel
theorem d_10_63_175 : decode prog_10_method_63_code 175 = .ok (.iload_n 2, 1) := by decide +kernel
theorem d_10_63_176 : decode prog_10_method_63_code 176 = .ok (.if_icmp .eq 12, 3) := by decide +kernel
theorem d_10_63_179 : decode prog_10_method_63_code 179 = .ok (.aload_n 0, 1) := by decide +kernel
theorem d_10_63_180 : decode prog_10_method_63_code 180 = .ok (.getfield 147, 3) := by decide +kernel
theorem d_10_63_183 : decode prog_10_method_63_code 183 = .ok (.iload_n 3, 1) := by decide +kernel
theorem d_10_63_184 : decode prog_10_method_63_code 184 = .ok (.iaload, 1) := by decide +kernel
theorem d_10_63_185 : decode prog_10_method_63_code 185 = .ok (.ifCond .ne 7, 3) := by decide +kernel
theorem d_10_63_188 : decode prog_10_method_63_code 188 = .ok (.iconst 1, 1) := by decide +kernel
theorem d_10_63_189 : decode prog_10_method_63_code 189 = .ok (.goto 4, 3) := by decide +kernel
theorem d_10_63_192 : decode prog_10_method_63_code 192 = .ok (.iconst 0, 1) := by decide +kernel
theorem d_10_63_193 : decode prog_10_method_63_code 193 = .ok (.istore 4, 2) := by decide +kernel
theorem d_10_63_195 : decode prog_10_method_63_code 195 = .ok (.iload 4, 2) := by decide +kernel
theorem d_10_63_197 : decode prog_10_method_63_code 197 = .ok (.ifCond .ne 13, 3) := by decide +kernel
theorem d_10_63_200 : decode prog_10_method_63_code 200 = .ok (.aload_n 0, 1) := by decide +kernel
theorem d_10_63_201 : decode prog_10_method_63_code 201 = .ok (.aload_n 0, 1) := by decide +kernel
theorem d_10_63_202 : decode prog_10_method_63_code 202 = .ok (.getfield 72, 3) := by decide +kernel
theorem d_10_63_205 : decode prog_10_method_63_code 205 = .ok (.iload_n 1, 1) := by decide +kernel
theorem d_10_63_206 : decode prog_10_method_63_code 206 = .ok (.iaload, 1) := by decide +kernel
theorem d_10_63_207 : decode prog_10_method_63_code 207 = .ok (.invokevirtual 132, 3) := by decide +kernel
theorem d_10_63_210 : decode prog_10_method_63_code 210 = .ok (.return_, 1) := by decide +kernel
theorem d_10_64_0 : decode prog_10_method_64_code 0 = .ok (.aload_n 0, 1) := by decide +kernel
theorem d_10_64_1 : decode prog_10_method_64_code 1 = .ok (.getfield 174, 3) := by decide +kernel
theorem d_10_64_4 : decode prog_10_method_64_code 4 = .ok (.iload_n 2, 1) := by decide +kernel
theorem d_10_64_5 : decode prog_10_method_64_code 5 = .ok (.iaload, 1) := by decide +kernel
theorem d_10_64_6 : decode prog_10_method_64_code 6 = .ok (.istore_n 3, 1) := by decide +kernel
theorem d_10_64_7 : decode prog_10_method_64_code 7 = .ok (.iload_n 3, 1) := by decide +kernel
theorem d_10_64_8 : decode prog_10_method_64_code 8 = .ok (.ifCond .lt 28, 3) := by decide +kernel
theorem d_10_64_11 : decode prog_10_method_64_code 11 = .ok (.iload_n 3, 1) := by decide +kernel
theorem d_10_64_12 : decode prog_10_method_64_code 12 = .ok (.iload_n 1, 1) := by decide +kernel
theorem d_10_64_13 : decode prog_10_method_64_code 13 = .ok (.if_icmp .eq 23, 3) := by decide +kernel
theorem d_10_64_16 : decode prog_10_method_64_code 16 = .ok (.aload_n 0, 1) := by decide +kernel
theorem d_10_64_17 : decode prog_10_method_64_code 17 = .ok (.getfield 174, 3) := by decide +kernel
theorem d_10_64_20 : decode prog_10_method_64_code 20 = .ok (.aload_n 0, 1) := by decide +kernel
theorem d_10_64_21 : decode prog_10_method_64_code 21 = .ok (.getfield 129, 3) := by decide +kernel
theorem d_10_64_24 : decode prog_10_method_64_code 24 = .ok (.aload_n 0, 1) := by decide +kernel
theorem d_10_64_25 : decode prog_10_method_64_code 25 = .ok (.getfield 273, 3) := by decide +kernel
theorem d_10_64_28 : decode prog_10_method_64_code 28 = .ok (.iload_n 3, 1) := by decide +kernel
theorem d_10_64_29 : decode prog_10_method_64_code 29 = .ok (.iaload, 1) := by decide +kernel
theorem d_10_64_30 : decode prog_10_method_64_code 30 = .ok (.iaload, 1) := by decide +kernel
theorem d_10_64_31 : decode prog_10_method_64_code 31 = .ok (.iaload, 1) := by decide +kernel
theorem d_10_64_32 : decode prog_10_method_64_code 32 = .ok (.istore_n 3, 1) := by decide +kernel
theorem d_10_64_33 : decode prog_10_method_64_code 33 = .ok (.goto (-26), 3) := by decide +kernel
theorem d_10_64_36 : decode prog_10_method_64_code 36 = .ok (.iload_n 3, 1) := by decide +kernel
theorem d_10_64_37 : decode prog_10_method_64_code 37 = .ok (.iload_n 1, 1) := by decide +kernel
theorem d_10_64_38 : decode prog_10_method_64_code 38 = .ok (.if_icmp .ne 7, 3) := by decide +kernel
theorem d_10_64_41 : decode prog_10_method_64_code 41 = .ok (.iconst 1, 1) := by decide +kernel
theorem d_10_64_42 : decode prog_10_method_64_code 42 = .ok (.goto 4, 3) := by decide +kernel
theorem d_10_64_45 : decode prog_10_method_64_code 45 = .ok (.iconst 0, 1) := by decide +kernel
theorem d_10_64_46 : decode prog_10_method_64_code 46 = .ok (.ireturn, 1) := by decide +kernel
theorem d_10_65_0 : decode prog_10_method_65_code 0 = .ok (.aload_n 0, 1) := by decide +kernel
theorem d_10_65_1 : decode prog_10_method_65_code 1 = .ok (.getfield 66, 3) := by decide +kernel
theorem d_10_65_4 : decode prog_10_method_65_code 4 = .ok (.iload_n 1, 1) := by decide +kernel
theorem d_10_65_5 : decode prog_10_method_65_code 5 = .ok (.iaload, 1) := by decide +kernel
theorem d_10_65_6 : decode prog_10_method_65_code 6 = .ok (.iconst 4, 1) := by decide +kernel
theorem d_10_65_7 : decode prog_10_method_65_code 7 = .ok (.if_icmp .ne 9, 3) := by decide +kernel
theorem d_10_65_10 : decode prog_10_method_65_code 10 = .ok (.aload_n 0, 1) := by decide +kernel
theorem d_10_65_11 : decode prog_10_method_65_code 11 = .ok (.iload_n 1, 1) := by decide +kernel
theorem d_10_65_12 : decode prog_10_method_65_code 12 = .ok (.invokevirtual 431, 3) := by decide +kernel
theorem d_10_65_15 : decode prog_10_method_65_code 15 = .ok (.ireturn, 1) := by decide +kernel
theorem d_10_65_16 : decode prog_10_method_65_code 16 = .ok (.aload_n 0, 1) := by decide +kernel
theorem d_10_65_17 : decode prog_10_method_65_code 17 = .ok (.aload_n 0, 1) := by decide +kernel
theorem d_10_65_18 : decode prog_10_method_65_code 18 = .ok (.getfield 90, 3) := by decide +kernel
theorem d_10_65_21 : decode prog_10_method_65_code 21 = .ok (.iload_n 1, 1) := by decide +kernel
theorem d_10_65_22 : decode prog_10_method_65_code 22 = .ok (.iaload, 1) := by decide +kernel
theorem d_10_65_23 : decode prog_10_method_65_code 23 = .ok (.aload_n 0, 1) := by decide +kernel
theorem d_10_65_24 : decode prog_10_method_65_code 24 = .ok (.getfield 72, 3) := by decide +kernel
theorem d_10_65_27 : decode prog_10_method_65_code 27 = .ok (.iload_n 1, 1) := by decide +kernel
theorem d_10_65_28 : decode prog_10_method_65_code 28 = .ok (.iaload, 1) := by decide +kernel
theorem d_10_65_29 : decode prog_10_method_65_code 29 = .ok (.invokevirtual 434, 3) := by decide +kernel
theorem d_10_65_32 : decode prog_10_method_65_code 32 = .ok (.istore_n 2, 1) := by decide +kernel
theorem d_10_65_33 : decode prog_10_method_65_code 33 = .ok (.iload_n 2, 1) := by decide +kernel
theorem d_10_65_34 : decode prog_10_method_65_code 34 = .ok (.ifCond .lt 39, 3) := by decide +kernel
theorem d_10_65_37 : decode prog_10_method_65_code 37 = .ok (.aload_n 0, 1) := by decide +kernel
theorem d_10_65_38 : decode prog_10_method_65_code 38 = .ok (.getfield 144, 3) := by decide +kernel
theorem d_10_65_41 : decode prog_10_method_65_code 41 = .ok (.iload_n 2, 1) := by decide +kernel
theorem d_10_65_42 : decode prog_10_method_65_code 42 = .ok (.iaload, 1) := by decide +kernel
theorem d_10_65_43 : decode prog_10_method_65_code 43 = .ok (.ifCond .eq 23, 3) := by decide +kernel
theorem d_10_65_46 : decode prog_10_method_65_code 46 = .ok (.aload_n 0, 1) := by decide +kernel
theorem d_10_65_47 : decode prog_10_method_65_code 47 = .ok (.getfield 144, 3) := by decide +kernel
theorem d_10_65_50 : decode prog_10_method_65_code 50 = .ok (.iload_n 2, 1) := by decide +kernel
theorem d_10_65_51 : decode prog_10_method_65_code 51 = .ok (.iaload, 1) := by decide +kernel
theorem d_10_65_52 : decode prog_10_method_65_code 52 = .ok (.iconst 5, 1) := by decide +kernel
theorem d_10_65_53 : decode prog_10_method_65_code 53 = .ok (.if_icmp .ne 20, 3) := by decide +kernel
theorem d_10_65_56 : decode prog_10_method_65_code 56 = .ok (.aload_n 0, 1) := by decide +kernel
theorem d_10_65_57 : decode prog_10_method_65_code 57 = .ok (.getfield 147, 3) := by decide +kernel
theorem d_10_65_60 : decode prog_10_method_65_code 60 = .ok (.iload_n 2, 1) := by decide +kernel
theorem d_10_65_61 : decode prog_10_method_65_code 61 = .ok (.iaload, 1) := by decide +kernel
theorem d_10_65_62 : decode prog_10_method_65_code 62 = .ok (.iconst 2, 1) := by decide +kernel
theorem d_10_65_63 : decode prog_10_method_65_code 63 = .ok (.if_icmp .gt 10, 3) := by decide +kernel
theorem d_10_65_66 : decode prog_10_method_65_code 66 = .ok (.aload_n 0, 1) := by decide +kernel
theorem d_10_65_67 : decode prog_10_method_65_code 67 = .ok (.getfield 147, 3) := by decide +kernel
theorem d_10_65_70 : decode prog_10_method_65_code 70 = .ok (.iload_n 2, 1) := by decide +kernel
theorem d_10_65_71 : decode prog_10_method_65_code 71 = .ok (.iaload, 1) := by decide +kernel
theorem d_10_65_72 : decode prog_10_method_65_code 72 = .ok (.ireturn, 1) := by decide +kernel
theorem d_10_65_73 : decode prog_10_method_65_code 73 = .ok (.iload_n 2, 1) := by decide +kernel
theorem d_10_65_74 : decode prog_10_method_65_code 74 = .ok (.ifCond .lt 45, 3) := by decide +kernel
theorem d_10_65_77 : decode prog_10_method_65_code 77 = .ok (.aload_n 0, 1) := by decide +kernel
theorem d_10_65_78 : decode prog_10_method_65_code 78 = .ok (.getfield 144, 3) := by decide +kernel
theorem d_10_65_81 : decode prog_10_method_65_code 81 = .ok (.iload_n 2, 1) := by decide +kernel
theorem d_10_65_82 : decode prog_10_method_65_code 82 = .ok (.iaload, 1) := by decide +kernel
theorem d_10_65_83 : decode prog_10_method_65_code 83 = .ok (.iconst 2, 1) := by decide +kernel
theorem d_10_65_84 : decode prog_10_method_65_code 84 = .ok (.if_icmp .ne 35, 3) := by decide +kernel
theorem d_10_65_87 : decode prog_10_method_65_code 87 = .ok (.aload_n 0, 1) := by decide +kernel
theorem d_10_65_88 : decode prog_10_method_65_code 88 = .ok (.getfield 147, 3) := by decide +kernel
theorem d_10_65_91 : decode prog_10_method_65_code 91 = .ok (.iload_n 2, 1) := by decide +kernel
theorem d_10_65_92 : decode prog_10_method_65_code 92 = .ok (.iaload, 1) := by decide +kernel
theorem d_10_65_93 : decode prog_10_method_65_code 93 = .ok (.ifCond .le 26, 3) := by decide +kernel
theorem d_10_65_96 : decode prog_10_method_65_code 96 = .ok (.aload_n 0, 1) := by decide +kernel
theorem d_10_65_97 : decode prog_10_method_65_code 97 = .ok (.iload_n 2, 1) := by decide +kernel
theorem d_10_65_98 : decode prog_10_method_65_code 98 = .ok (.aload_n 0, 1) := by decide +kernel
theorem d_10_65_99 : decode prog_10_method_65_code 99 = .ok (.getfield 90, 3) := by decide +kernel
theorem d_10_65_102 : decode prog_10_method_65_code 102 = .ok (.iload_n 1, 1) := by decide +kernel
theorem d_10_65_103 : decode prog_10_method_65_code 103 = .ok (.iaload, 1) := by decide +kernel
theorem d_10_65_104 : decode prog_10_method_65_code 104 = .ok (.invokevirtual 451, 3) := by decide +kernel
theorem d_10_65_107 : decode prog_10_method_65_code 107 = .ok (.ifCond .eq 12, 3) := by decide +kernel
theorem d_10_65_110 : decode prog_10_method_65_code 110 = .ok (.aload_n 0, 1) := by decide +kernel
theorem d_10_65_111 : decode prog_10_method_65_code 111 = .ok (.getfield 147, 3) := by decide +kernel
theorem d_10_65_114 : decode prog_10_method_65_code 114 = .ok (.iload_n 2, 1) := by decide +kernel
theorem d_10_65_115 : decode prog_10_method_65_code 115 = .ok (.iaload, 1) := by decide +kernel
theorem d_10_65_116 : decode prog_10_method_65_code 116 = .ok (.goto 8, 3) := by decide +kernel
theorem d_10_65_119 : decode prog_10_method_65_code 119 = .ok (.aload_n 0, 1) := by decide +kernel
theorem d_10_65_120 : decode prog_10_method_65_code 120 = .ok (.iload_n 1, 1) := by decide +kernel
theorem d_10_65_121 : decode prog_10_method_65_code 121 = .ok (.invokevirtual 437, 3) := by decide +kernel
theorem d_10_65_124 : decode prog_10_method_65_code 124 = .ok (.ireturn, 1) := by decide +kernel
theorem d_10_66_0 : decode prog_10_method_66_code 0 = .ok (.aload_n 0, 1) := by decide +kernel
theorem d_10_66_1 : decode prog_10_method_66_code 1 = .ok (.getfield 66, 3) := by decide +kernel
theorem d_10_66_4 : decode prog_10_method_66_code 4 = .ok (.iload_n 1, 1) := by decide +kernel
theorem d_10_66_5 : decode prog_10_method_66_code 5 = .ok (.iaload, 1) := by decide +kernel
theorem d_10_66_6 : decode prog_10_method_66_code 6 = .ok (.tableswitch 671 21 27 #[42, 157, 265, 316, 442, 483, 659], 42) := by decide +kernel
theorem d_10_66_48 : decode prog_10_method_66_code 48 = .ok (.aload_n 0, 1) := by decide +kernel
theorem d_10_66_49 : decode prog_10_method_66_code 49 = .ok (.getfield 81, 3) := by decide +kernel
theorem d_10_66_52 : decode prog_10_method_66_code 52 = .ok (.iload_n 1, 1) := by decide +kernel
theorem d_10_66_53 : decode prog_10_method_66_code 53 = .ok (.iaload, 1) := by decide +kernel
theorem d_10_66_54 : decode prog_10_method_66_code 54 = .ok (.istore_n 3, 1) := by decide +kernel
theorem d_10_66_55 : decode prog_10_method_66_code 55 = .ok (.iload_n 3, 1) := by decide +kernel
theorem d_10_66_56 : decode prog_10_method_66_code 56 = .ok (.ifCond .lt 69, 3) := by decide +kernel
theorem d_10_66_59 : decode prog_10_method_66_code 59 = .ok (.aload_n 0, 1) := by decide +kernel
theorem d_10_66_60 : decode prog_10_method_66_code 60 = .ok (.aload_n 0, 1) := by decide +kernel
theorem d_10_66_61 : decode prog_10_method_66_code 61 = .ok (.getfield 75, 3) := by decide +kernel
theorem d_10_66_64 : decode prog_10_method_66_code 64 = .ok (.iload_n 3, 1) := by decide +kernel
theorem d_10_66_65 : decode prog_10_method_66_code 65 = .ok (.iaload, 1) := by decide +kernel
theorem d_10_66_66 : decode prog_10_method_66_code 66 = .ok (.iconst 1, 1) := by decide +kernel
theorem d_10_66_67 : decode prog_10_method_66_code 67 = .ok (.invokevirtual 421, 3) := by decide +kernel
theorem d_10_66_70 : decode prog_10_method_66_code 70 = .ok (.aload_n 0, 1) := by decide +kernel
theorem d_10_66_71 : decode prog_10_method_66_code 71 = .ok (.aload_n 0, 1) := by decide +kernel
theorem d_10_66_72 : decode prog_10_method_66_code 72 = .ok (.getfield 78, 3) := by decide +kernel
theorem d_10_66_75 : decode prog_10_method_66_code 75 = .ok (.iload_n 3, 1) := by decide +kernel
theorem d_10_66_76 : decode prog_10_method_66_code 76 = .ok (.iaload, 1) := by decide +kernel
theorem d_10_66_77 : decode prog_10_method_66_code 77 = .ok (.iconst 1, 1) := by decide +kernel
