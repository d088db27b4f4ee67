theorem d_4_8_9 : decode prog_4_method_8_code 9 = .ok (.invokevirtual 23, 3) := by decide +kernel
theorem d_4_8_12 : decode prog_4_method_8_code 12 = .ok (.istore_n 2, 1) := by decide +kernel
theorem d_4_8_13 : decode prog_4_method_8_code 13 = .ok (.aload_n 0, 1) := by decide +kernel
theorem d_4_8_14 : decode prog_4_method_8_code 14 = .ok (.invokevirtual 84, 3) := by decide +kernel
theorem d_4_8_17 : decode prog_4_method_8_code 17 = .ok (.istore_n 3, 1) := by decide +kernel
theorem d_4_8_18 : decode prog_4_method_8_code 18 = .ok (.iload_n 1, 1) := by decide +kernel
theorem d_4_8_19 : decode prog_4_method_8_code 19 = .ok (.ifCond .eq 15, 3) := by decide +kernel
theorem d_4_8_22 : decode prog_4_method_8_code 22 = .ok (.aload_n 0, 1) := by decide +kernel
theorem d_4_8_23 : decode prog_4_method_8_code 23 = .ok (.getfield 19, 3) := by decide +kernel
theorem d_4_8_26 : decode prog_4_method_8_code 26 = .ok (.iload_n 3, 1) := by decide +kernel
theorem d_4_8_27 : decode prog_4_method_8_code 27 = .ok (.iconst 1, 1) := by decide +kernel
theorem d_4_8_28 : decode prog_4_method_8_code 28 = .ok (.iload_n 2, 1) := by decide +kernel
theorem d_4_8_29 : decode prog_4_method_8_code 29 = .ok (.invokevirtual 39, 3) := by decide +kernel
theorem d_4_8_32 : decode prog_4_method_8_code 32 = .ok (.iconst 1, 1) := by decide +kernel
theorem d_4_8_33 : decode prog_4_method_8_code 33 = .ok (.istore_n 3, 1) := by decide +kernel
theorem d_4_8_34 : decode prog_4_method_8_code 34 = .ok (.iconst 0, 1) := by decide +kernel
theorem d_4_8_35 : decode prog_4_method_8_code 35 = .ok (.istore 4, 2) := by decide +kernel
theorem d_4_8_37 : decode prog_4_method_8_code 37 = .ok (.iload 4, 2) := by decide +kernel
theorem d_4_8_39 : decode prog_4_method_8_code 39 = .ok (.sipush 3001, 3) := by decide +kernel
theorem d_4_8_42 : decode prog_4_method_8_code 42 = .ok (.if_icmp .ge 49, 3) := by decide +kernel
theorem d_4_8_45 : decode prog_4_method_8_code 45 = .ok (.aload_n 0, 1) := by decide +kernel
theorem d_4_8_46 : decode prog_4_method_8_code 46 = .ok (.invokevirtual 80, 3) := by decide +kernel
theorem d_4_8_49 : decode prog_4_method_8_code 49 = .ok (.ifCond .eq 42, 3) := by decide +kernel
theorem d_4_8_52 : decode prog_4_method_8_code 52 = .ok (.aload_n 0, 1) := by decide +kernel
theorem d_4_8_53 : decode prog_4_method_8_code 53 = .ok (.getfield 19, 3) := by decide +kernel
theorem d_4_8_56 : decode prog_4_method_8_code 56 = .ok (.iload_n 3, 1) := by decide +kernel
theorem d_4_8_57 : decode prog_4_method_8_code 57 = .ok (.iconst 1, 1) := by decide +kernel
theorem d_4_8_58 : decode prog_4_method_8_code 58 = .ok (.iload_n 2, 1) := by decide +kernel
theorem d_4_8_59 : decode prog_4_method_8_code 59 = .ok (.invokevirtual 39, 3) := by decide +kernel
theorem d_4_8_62 : decode prog_4_method_8_code 62 = .ok (.aload_n 0, 1) := by decide +kernel
theorem d_4_8_63 : decode prog_4_method_8_code 63 = .ok (.getfield 9, 3) := by decide +kernel
theorem d_4_8_66 : decode prog_4_method_8_code 66 = .ok (.invokevirtual 23, 3) := by decide +kernel
theorem d_4_8_69 : decode prog_4_method_8_code 69 = .ok (.istore_n 2, 1) := by decide +kernel
theorem d_4_8_70 : decode prog_4_method_8_code 70 = .ok (.aload_n 0, 1) := by decide +kernel
theorem d_4_8_71 : decode prog_4_method_8_code 71 = .ok (.getfield 19, 3) := by decide +kernel
theorem d_4_8_74 : decode prog_4_method_8_code 74 = .ok (.aload_n 0, 1) := by decide +kernel
theorem d_4_8_75 : decode prog_4_method_8_code 75 = .ok (.invokevirtual 84, 3) := by decide +kernel
theorem d_4_8_78 : decode prog_4_method_8_code 78 = .ok (.iconst 1, 1) := by decide +kernel
theorem d_4_8_79 : decode prog_4_method_8_code 79 = .ok (.iload_n 2, 1) := by decide +kernel
theorem d_4_8_80 : decode prog_4_method_8_code 80 = .ok (.invokevirtual 39, 3) := by decide +kernel
theorem d_4_8_83 : decode prog_4_method_8_code 83 = .ok (.iconst 1, 1) := by decide +kernel
theorem d_4_8_84 : decode prog_4_method_8_code 84 = .ok (.istore_n 3, 1) := by decide +kernel
theorem d_4_8_85 : decode prog_4_method_8_code 85 = .ok (.iinc 4 1, 3) := by decide +kernel
theorem d_4_8_88 : decode prog_4_method_8_code 88 = .ok (.goto (-51), 3) := by decide +kernel
theorem d_4_8_91 : decode prog_4_method_8_code 91 = .ok (.iload_n 3, 1) := by decide +kernel
theorem d_4_8_92 : decode prog_4_method_8_code 92 = .ok (.ireturn, 1) := by decide +kernel
theorem d_4_9_0 : decode prog_4_method_9_code 0 = .ok (.aload_n 0, 1) := by decide +kernel
theorem d_4_9_1 : decode prog_4_method_9_code 1 = .ok (.getfield 9, 3) := by decide +kernel
theorem d_4_9_4 : decode prog_4_method_9_code 4 = .ok (.bipush 30, 2) := by decide +kernel
theorem d_4_9_6 : decode prog_4_method_9_code 6 = .ok (.invokevirtual 62, 3) := by decide +kernel
theorem d_4_9_9 : decode prog_4_method_9_code 9 = .ok (.ifCond .ne 15, 3) := by decide +kernel
theorem d_4_9_12 : decode prog_4_method_9_code 12 = .ok (.aload_n 0, 1) := by decide +kernel
theorem d_4_9_13 : decode prog_4_method_9_code 13 = .ok (.getfield 9, 3) := by decide +kernel
theorem d_4_9_16 : decode prog_4_method_9_code 16 = .ok (.bipush 31, 2) := by decide +kernel
theorem d_4_9_18 : decode prog_4_method_9_code 18 = .ok (.invokevirtual 62, 3) := by decide +kernel
theorem d_4_9_21 : decode prog_4_method_9_code 21 = .ok (.ifCond .eq 7, 3) := by decide +kernel
theorem d_4_9_24 : decode prog_4_method_9_code 24 = .ok (.iconst 1, 1) := by decide +kernel
theorem d_4_9_25 : decode prog_4_method_9_code 25 = .ok (.goto 4, 3) := by decide +kernel
theorem d_4_9_28 : decode prog_4_method_9_code 28 = .ok (.iconst 0, 1) := by decide +kernel
theorem d_4_9_29 : decode prog_4_method_9_code 29 = .ok (.ireturn, 1) := by decide +kernel
theorem d_5_10_0 : decode prog_5_method_10_code 0 = .ok (.aload_n 0, 1) := by decide +kernel
theorem d_5_10_1 : decode prog_5_method_10_code 1 = .ok (.getfield 9, 3) := by decide +kernel
theorem d_5_10_4 : decode prog_5_method_10_code 4 = .ok (.iload_n 1, 1) := by decide +kernel
theorem d_5_10_5 : decode prog_5_method_10_code 5 = .ok (.invokevirtual 31, 3) := by decide +kernel
theorem d_5_10_8 : decode prog_5_method_10_code 8 = .ok (.iconst 3, 1) := by decide +kernel
theorem d_5_10_9 : decode prog_5_method_10_code 9 = .ok (.if_icmp .ne 15, 3) := by decide +kernel
theorem d_5_10_12 : decode prog_5_method_10_code 12 = .ok (.aload_n 0, 1) := by decide +kernel
theorem d_5_10_13 : decode prog_5_method_10_code 13 = .ok (.getfield 9, 3) := by decide +kernel
theorem d_5_10_16 : decode prog_5_method_10_code 16 = .ok (.iload_n 1, 1) := by decide +kernel
theorem d_5_10_17 : decode prog_5_method_10_code 17 = .ok (.invokevirtual 35, 3) := by decide +kernel
theorem d_5_10_20 : decode prog_5_method_10_code 20 = .ok (.iload_n 2, 1) := by decide +kernel
theorem d_5_10_21 : decode prog_5_method_10_code 21 = .ok (.if_icmp .eq 11, 3) := by decide +kernel
theorem d_5_10_24 : decode prog_5_method_10_code 24 = .ok (.aload_n 0, 1) := by decide +kernel
theorem d_5_10_25 : decode prog_5_method_10_code 25 = .ok (.getfield 15, 3) := by decide +kernel
theorem d_5_10_28 : decode prog_5_method_10_code 28 = .ok (.iload_n 3, 1) := by decide +kernel
theorem d_5_10_29 : decode prog_5_method_10_code 29 = .ok (.invokevirtual 19, 3) := by decide +kernel
theorem d_5_10_32 : decode prog_5_method_10_code 32 = .ok (.return_, 1) := by decide +kernel
theorem d_5_11_0 : decode prog_5_method_11_code 0 = .ok (.aload_n 0, 1) := by decide +kernel
theorem d_5_11_1 : decode prog_5_method_11_code 1 = .ok (.getfield 15, 3) := by decide +kernel
theorem d_5_11_4 : decode prog_5_method_11_code 4 = .ok (.aload_n 0, 1) := by decide +kernel
theorem d_5_11_5 : decode prog_5_method_11_code 5 = .ok (.getfield 9, 3) := by decide +kernel
theorem d_5_11_8 : decode prog_5_method_11_code 8 = .ok (.iload_n 1, 1) := by decide +kernel
theorem d_5_11_9 : decode prog_5_method_11_code 9 = .ok (.invokevirtual 61, 3) := by decide +kernel
theorem d_5_11_12 : decode prog_5_method_11_code 12 = .ok (.invokevirtual 64, 3) := by decide +kernel
theorem d_5_11_15 : decode prog_5_method_11_code 15 = .ok (.ireturn, 1) := by decide +kernel
theorem d_5_12_0 : decode prog_5_method_12_code 0 = .ok (.aload_n 0, 1) := by decide +kernel
theorem d_5_12_1 : decode prog_5_method_12_code 1 = .ok (.getfield 9, 3) := by decide +kernel
theorem d_5_12_4 : decode prog_5_method_12_code 4 = .ok (.iload_n 1, 1) := by decide +kernel
theorem d_5_12_5 : decode prog_5_method_12_code 5 = .ok (.invokevirtual 67, 3) := by decide +kernel
theorem d_5_12_8 : decode prog_5_method_12_code 8 = .ok (.ireturn, 1) := by decide +kernel
theorem d_5_13_0 : decode prog_5_method_13_code 0 = .ok (.aload_n 0, 1) := by decide +kernel
theorem d_5_13_1 : decode prog_5_method_13_code 1 = .ok (.getfield 9, 3) := by decide +kernel
theorem d_5_13_4 : decode prog_5_method_13_code 4 = .ok (.iload_n 1, 1) := by decide +kernel
theorem d_5_13_5 : decode prog_5_method_13_code 5 = .ok (.invokevirtual 31, 3) := by decide +kernel
theorem d_5_13_8 : decode prog_5_method_13_code 8 = .ok (.bipush 6, 2) := by decide +kernel
theorem d_5_13_10 : decode prog_5_method_13_code 10 = .ok (.if_icmp .ne 7, 3) := by decide +kernel
theorem d_5_13_13 : decode prog_5_method_13_code 13 = .ok (.iconst 1, 1) := by decide +kernel
theorem d_5_13_14 : decode prog_5_method_13_code 14 = .ok (.goto 4, 3) := by decide +kernel
theorem d_5_13_17 : decode prog_5_method_13_code 17 = .ok (.iconst 0, 1) := by decide +kernel
theorem d_5_13_18 : decode prog_5_method_13_code 18 = .ok (.ireturn, 1) := by decide +kernel
theorem d_5_14_0 : decode prog_5_method_14_code 0 = .ok (.aload_n 0, 1) := by decide +kernel
theorem d_5_14_1 : decode prog_5_method_14_code 1 = .ok (.getfield 9, 3) := by decide +kernel
theorem d_5_14_4 : decode prog_5_method_14_code 4 = .ok (.iload_n 1, 1) := by decide +kernel
theorem d_5_14_5 : decode prog_5_method_14_code 5 = .ok (.invokevirtual 31, 3) := by decide +kernel
theorem d_5_14_8 : decode prog_5_method_14_code 8 = .ok (.ifCond .ne 7, 3) := by decide +kernel
theorem d_5_14_11 : decode prog_5_method_14_code 11 = .ok (.iconst 1, 1) := by decide +kernel
theorem d_5_14_12 : decode prog_5_method_14_code 12 = .ok (.goto 4, 3) := by decide +kernel
theorem d_5_14_15 : decode prog_5_method_14_code 15 = .ok (.iconst 0, 1) := by decide +kernel
theorem d_5_14_16 : decode prog_5_method_14_code 16 = .ok (.ireturn, 1) := by decide +kernel
theorem d_5_15_0 : decode prog_5_method_15_code 0 = .ok (.aload_n 0, 1) := by decide +kernel
theorem d_5_15_1 : decode prog_5_method_15_code 1 = .ok (.getfield 9, 3) := by decide +kernel
theorem d_5_15_4 : decode prog_5_method_15_code 4 = .ok (.iload_n 1, 1) := by decide +kernel
theorem d_5_15_5 : decode prog_5_method_15_code 5 = .ok (.invokevirtual 38, 3) := by decide +kernel
theorem d_5_15_8 : decode prog_5_method_15_code 8 = .ok (.ireturn, 1) := by decide +kernel
theorem d_5_16_0 : decode prog_5_method_16_code 0 = .ok (.aload_n 0, 1) := by decide +kernel
theorem d_5_16_1 : decode prog_5_method_16_code 1 = .ok (.getfield 9, 3) := by decide +kernel
theorem d_5_16_4 : decode prog_5_method_16_code 4 = .ok (.iload_n 2, 1) := by decide +kernel
theorem d_5_16_5 : decode prog_5_method_16_code 5 = .ok (.invokevirtual 31, 3) := by decide +kernel
theorem d_5_16_8 : decode prog_5_method_16_code 8 = .ok (.lookupswitch 91 #[(7, 28), (8, 69)], 28) := by decide +kernel
theorem d_5_16_36 : decode prog_5_method_16_code 36 = .ok (.aload_n 0, 1) := by decide +kernel
theorem d_5_16_37 : decode prog_5_method_16_code 37 = .ok (.getfield 9, 3) := by decide +kernel
theorem d_5_16_40 : decode prog_5_method_16_code 40 = .ok (.iload_n 1, 1) := by decide +kernel
theorem d_5_16_41 : decode prog_5_method_16_code 41 = .ok (.invokevirtual 25, 3) := by decide +kernel
theorem d_5_16_44 : decode prog_5_method_16_code 44 = .ok (.ifCond .eq 22, 3) := by decide +kernel
theorem d_5_16_47 : decode prog_5_method_16_code 47 = .ok (.aload_n 0, 1) := by decide +kernel
theorem d_5_16_48 : decode prog_5_method_16_code 48 = .ok (.getfield 9, 3) := by decide +kernel
theorem d_5_16_51 : decode prog_5_method_16_code 51 = .ok (.iload_n 1, 1) := by decide +kernel
theorem d_5_16_52 : decode prog_5_method_16_code 52 = .ok (.invokevirtual 38, 3) := by decide +kernel
theorem d_5_16_55 : decode prog_5_method_16_code 55 = .ok (.aload_n 0, 1) := by decide +kernel
theorem d_5_16_56 : decode prog_5_method_16_code 56 = .ok (.getfield 9, 3) := by decide +kernel
theorem d_5_16_59 : decode prog_5_method_16_code 59 = .ok (.iload_n 2, 1) := by decide +kernel
theorem d_5_16_60 : decode prog_5_method_16_code 60 = .ok (.invokevirtual 38, 3) := by decide +kernel
theorem d_5_16_63 : decode prog_5_method_16_code 63 = .ok (.if_icmp .eq 77, 3) := by decide +kernel
theorem d_5_16_66 : decode prog_5_method_16_code 66 = .ok (.aload_n 0, 1) := by decide +kernel
theorem d_5_16_67 : decode prog_5_method_16_code 67 = .ok (.getfield 15, 3) := by decide +kernel
theorem d_5_16_70 : decode prog_5_method_16_code 70 = .ok (.iload_n 3, 1) := by decide +kernel
theorem d_5_16_71 : decode prog_5_method_16_code 71 = .ok (.invokevirtual 19, 3) := by decide +kernel
theorem d_5_16_74 : decode prog_5_method_16_code 74 = .ok (.goto 66, 3) := by decide +kernel
theorem d_5_16_77 : decode prog_5_method_16_code 77 = .ok (.aload_n 0, 1) := by decide +kernel
theorem d_5_16_78 : decode prog_5_method_16_code 78 = .ok (.getfield 9, 3) := by decide +kernel
theorem d_5_16_81 : decode prog_5_method_16_code 81 = .ok (.iload_n 1, 1) := by decide +kernel
theorem d_5_16_82 : decode prog_5_method_16_code 82 = .ok (.invokevirtual 58, 3) := by decide +kernel
theorem d_5_16_85 : decode prog_5_method_16_code 85 = .ok (.ifCond .ne 55, 3) := by decide +kernel
theorem d_5_16_88 : decode prog_5_method_16_code 88 = .ok (.aload_n 0, 1) := by decide +kernel
theorem d_5_16_89 : decode prog_5_method_16_code 89 = .ok (.getfield 15, 3) := by decide +kernel
theorem d_5_16_92 : decode prog_5_method_16_code 92 = .ok (.iload_n 3, 1) := by decide +kernel
theorem d_5_16_93 : decode prog_5_method_16_code 93 = .ok (.invokevirtual 19, 3) := by decide +kernel
theorem d_5_16_96 : decode prog_5_method_16_code 96 = .ok (.goto 44, 3) := by decide +kernel
theorem d_5_16_99 : decode prog_5_method_16_code 99 = .ok (.aload_n 0, 1) := by decide +kernel
theorem d_5_16_100 : decode prog_5_method_16_code 100 = .ok (.getfield 9, 3) := by decide +kernel
theorem d_5_16_103 : decode prog_5_method_16_code 103 = .ok (.iload_n 1, 1) := by decide +kernel
theorem d_5_16_104 : decode prog_5_method_16_code 104 = .ok (.invokevirtual 25, 3) := by decide +kernel
theorem d_5_16_107 : decode prog_5_method_16_code 107 = .ok (.ifCond .ne 33, 3) := by decide +kernel
theorem d_5_16_110 : decode prog_5_method_16_code 110 = .ok (.aload_n 0, 1) := by decide +kernel
theorem d_5_16_111 : decode prog_5_method_16_code 111 = .ok (.getfield 9, 3) := by decide +kernel
theorem d_5_16_114 : decode prog_5_method_16_code 114 = .ok (.iload_n 1, 1) := by decide +kernel
theorem d_5_16_115 : decode prog_5_method_16_code 115 = .ok (.invokevirtual 58, 3) := by decide +kernel
theorem d_5_16_118 : decode prog_5_method_16_code 118 = .ok (.ifCond .ne 22, 3) := by decide +kernel
theorem d_5_16_121 : decode prog_5_method_16_code 121 = .ok (.aload_n 0, 1) := by decide +kernel
theorem d_5_16_122 : decode prog_5_method_16_code 122 = .ok (.getfield 9, 3) := by decide +kernel
theorem d_5_16_125 : decode prog_5_method_16_code 125 = .ok (.iload_n 1, 1) := by decide +kernel
theorem d_5_16_126 : decode prog_5_method_16_code 126 = .ok (.invokevirtual 44, 3) := by decide +kernel
theorem d_5_16_129 : decode prog_5_method_16_code 129 = .ok (.ifCond .ne 11, 3) := by decide +kernel
theorem d_5_16_132 : decode prog_5_method_16_code 132 = .ok (.aload_n 0, 1) := by decide +kernel
theorem d_5_16_133 : decode prog_5_method_16_code 133 = .ok (.iload_n 1, 1) := by decide +kernel
theorem d_5_16_134 : decode prog_5_method_16_code 134 = .ok (.iconst 0, 1) := by decide +kernel
theorem d_5_16_135 : decode prog_5_method_16_code 135 = .ok (.iload_n 3, 1) := by decide +kernel
theorem d_5_16_136 : decode prog_5_method_16_code 136 = .ok (.invokevirtual 47, 3) := by decide +kernel
theorem d_5_16_139 : decode prog_5_method_16_code 139 = .ok (.pop, 1) := by decide +kernel
theorem d_5_16_140 : decode prog_5_method_16_code 140 = .ok (.return_, 1) := by decide +kernel
theorem d_5_1_0 : decode prog_5_method_1_code 0 = .ok (.aload_n 0, 1) := by decide +kernel
theorem d_5_1_1 : decode prog_5_method_1_code 1 = .ok (.invokespecial 3, 3) := by decide +kernel
theorem d_5_1_4 : decode prog_5_method_1_code 4 = .ok (.aload_n 0, 1) := by decide +kernel
theorem d_5_1_5 : decode prog_5_method_1_code 5 = .ok (.aload_n 1, 1) := by decide +kernel
theorem d_5_1_6 : decode prog_5_method_1_code 6 = .ok (.putfield 9, 3) := by decide +kernel
theorem d_5_1_9 : decode prog_5_method_1_code 9 = .ok (.aload_n 0, 1) := by decide +kernel
theorem d_5_1_10 : decode prog_5_method_1_code 10 = .ok (.aload_n 2, 1) := by decide +kernel
theorem d_5_1_11 : decode prog_5_method_1_code 11 = .ok (.putfield 15, 3) := by decide +kernel
theorem d_5_1_14 : decode prog_5_method_1_code 14 = .ok (.return_, 1) := by decide +kernel
theorem d_5_2_0 : decode prog_5_method_2_code 0 = .ok (.iload_n 1, 1) := by decide +kernel
theorem d_5_2_1 : decode prog_5_method_2_code 1 = .ok (.ifCond .eq 20, 3) := by decide +kernel
theorem d_5_2_4 : decode prog_5_method_2_code 4 = .ok (.iload_n 2, 1) := by decide +kernel
theorem d_5_2_5 : decode prog_5_method_2_code 5 = .ok (.ifCond .eq 16, 3) := by decide +kernel
theorem d_5_2_8 : decode prog_5_method_2_code 8 = .ok (.iload_n 1, 1) := by decide +kernel
theorem d_5_2_9 : decode prog_5_method_2_code 9 = .ok (.iload_n 2, 1) := by decide +kernel
theorem d_5_2_10 : decode prog_5_method_2_code 10 = .ok (.if_icmp .eq 11, 3) := by decide +kernel
theorem d_5_2_13 : decode prog_5_method_2_code 13 = .ok (.aload_n 0, 1) := by decide +kernel
theorem d_5_2_14 : decode prog_5_method_2_code 14 = .ok (.getfield 15, 3) := by decide +kernel
theorem d_5_2_17 : decode prog_5_method_2_code 17 = .ok (.iload_n 3, 1) := by decide +kernel
theorem d_5_2_18 : decode prog_5_method_2_code 18 = .ok (.invokevirtual 19, 3) := by decide +kernel
theorem d_5_2_21 : decode prog_5_method_2_code 21 = .ok (.return_, 1) := by decide +kernel
theorem d_5_3_0 : decode prog_5_method_3_code 0 = .ok (.aload_n 0, 1) := by decide +kernel
theorem d_5_3_1 : decode prog_5_method_3_code 1 = .ok (.getfield 9, 3) := by decide +kernel
theorem d_5_3_4 : decode prog_5_method_3_code 4 = .ok (.iload_n 1, 1) := by decide +kernel
theorem d_5_3_5 : decode prog_5_method_3_code 5 = .ok (.invokevirtual 25, 3) := by decide +kernel
theorem d_5_3_8 : decode prog_5_method_3_code 8 = .ok (.ifCond .ne 13, 3) := by decide +kernel
theorem d_5_3_11 : decode prog_5_method_3_code 11 = .ok (.aload_n 0, 1) := by decide +kernel
theorem d_5_3_12 : decode prog_5_method_3_code 12 = .ok (.getfield 15, 3) := by decide +kernel
theorem d_5_3_15 : decode prog_5_method_3_code 15 = .ok (.iload_n 3, 1) := by decide +kernel
theorem d_5_3_16 : decode prog_5_method_3_code 16 = .ok (.invokevirtual 19, 3) := by decide +kernel
theorem d_5_3_19 : decode prog_5_method_3_code 19 = .ok (.iconst 0, 1) := by decide +kernel
theorem d_5_3_20 : decode prog_5_method_3_code 20 = .ok (.ireturn, 1) := by decide +kernel
theorem d_5_3_21 : decode prog_5_method_3_code 21 = .ok (.aload_n 0, 1) := by decide +kernel
theorem d_5_3_22 : decode prog_5_method_3_code 22 = .ok (.getfield 9, 3) := by decide +kernel
theorem d_5_3_25 : decode prog_5_method_3_code 25 = .ok (.iload_n 1, 1) := by decide +kernel
theorem d_5_3_26 : decode prog_5_method_3_code 26 = .ok (.invokevirtual 31, 3) := by decide +kernel
theorem d_5_3_29 : decode prog_5_method_3_code 29 = .ok (.iconst 2, 1) := by decide +kernel
theorem d_5_3_30 : decode prog_5_method_3_code 30 = .ok (.if_icmp .ne 23, 3) := by decide +kernel
theorem d_5_3_33 : decode prog_5_method_3_code 33 = .ok (.aload_n 0, 1) := by decide +kernel
theorem d_5_3_34 : decode prog_5_method_3_code 34 = .ok (.getfield 9, 3) := by decide +kernel
theorem d_5_3_37 : decode prog_5_method_3_code 37 = .ok (.iload_n 1, 1) := by decide +kernel
theorem d_5_3_38 : decode prog_5_method_3_code 38 = .ok (.invokevirtual 35, 3) := by decide +kernel
theorem d_5_3_41 : decode prog_5_method_3_code 41 = .ok (.iload_n 2, 1) := by decide +kernel
theorem d_5_3_42 : decode prog_5_method_3_code 42 = .ok (.if_icmp .eq 11, 3) := by decide +kernel
theorem d_5_3_45 : decode prog_5_method_3_code 45 = .ok (.aload_n 0, 1) := by decide +kernel
theorem d_5_3_46 : decode prog_5_method_3_code 46 = .ok (.getfield 15, 3) := by decide +kernel
theorem d_5_3_49 : decode prog_5_method_3_code 49 = .ok (.iload_n 3, 1) := by decide +kernel
theorem d_5_3_50 : decode prog_5_method_3_code 50 = .ok (.invokevirtual 19, 3) := by decide +kernel
theorem d_5_3_53 : decode prog_5_method_3_code 53 = .ok (.aload_n 0, 1) := by decide +kernel
theorem d_5_3_54 : decode prog_5_method_3_code 54 = .ok (.getfield 9, 3) := by decide +kernel
theorem d_5_3_57 : decode prog_5_method_3_code 57 = .ok (.iload_n 1, 1) := by decide +kernel
theorem d_5_3_58 : decode prog_5_method_3_code 58 = .ok (.invokevirtual 38, 3) := by decide +kernel
theorem d_5_3_61 : decode prog_5_method_3_code 61 = .ok (.ireturn, 1) := by decide +kernel
theorem d_5_4_0 : decode prog_5_method_4_code 0 = .ok (.aload_n 0, 1) := by decide +kernel
theorem d_5_4_1 : decode prog_5_method_4_code 1 = .ok (.getfield 9, 3) := by decide +kernel
theorem d_5_4_4 : decode prog_5_method_4_code 4 = .ok (.iload_n 1, 1) := by decide +kernel
theorem d_5_4_5 : decode prog_5_method_4_code 5 = .ok (.invokevirtual 41, 3) := by decide +kernel
theorem d_5_4_8 : decode prog_5_method_4_code 8 = .ok (.ifCond .ne 13, 3) := by decide +kernel
theorem d_5_4_11 : decode prog_5_method_4_code 11 = .ok (.aload_n 0, 1) := by decide +kernel
theorem d_5_4_12 : decode prog_5_method_4_code 12 = .ok (.getfield 15, 3) := by decide +kernel
theorem d_5_4_15 : decode prog_5_method_4_code 15 = .ok (.iload_n 3, 1) := by decide +kernel
theorem d_5_4_16 : decode prog_5_method_4_code 16 = .ok (.invokevirtual 19, 3) := by decide +kernel
theorem d_5_4_19 : decode prog_5_method_4_code 19 = .ok (.iconst 0, 1) := by decide +kernel
theorem d_5_4_20 : decode prog_5_method_4_code 20 = .ok (.ireturn, 1) := by decide +kernel
theorem d_5_4_21 : decode prog_5_method_4_code 21 = .ok (.aload_n 0, 1) := by decide +kernel
theorem d_5_4_22 : decode prog_5_method_4_code 22 = .ok (.getfield 9, 3) := by decide +kernel
theorem d_5_4_25 : decode prog_5_method_4_code 25 = .ok (.iload_n 1, 1) := by decide +kernel
theorem d_5_4_26 : decode prog_5_method_4_code 26 = .ok (.invokevirtual 35, 3) := by decide +kernel
theorem d_5_4_29 : decode prog_5_method_4_code 29 = .ok (.iload_n 2, 1) := by decide +kernel
theorem d_5_4_30 : decode prog_5_method_4_code 30 = .ok (.if_icmp .eq 11, 3) := by decide +kernel
theorem d_5_4_33 : decode prog_5_method_4_code 33 = .ok (.aload_n 0, 1) := by decide +kernel
theorem d_5_4_34 : decode prog_5_method_4_code 34 = .ok (.getfield 15, 3) := by decide +kernel
theorem d_5_4_37 : decode prog_5_method_4_code 37 = .ok (.iload_n 3, 1) := by decide +kernel
theorem d_5_4_38 : decode prog_5_method_4_code 38 = .ok (.invokevirtual 19, 3) := by decide +kernel
theorem d_5_4_41 : decode prog_5_method_4_code 41 = .ok (.aload_n 0, 1) := by decide +kernel
theorem d_5_4_42 : decode prog_5_method_4_code 42 = .ok (.getfield 9, 3) := by decide +kernel
theorem d_5_4_45 : decode prog_5_method_4_code 45 = .ok (.iload_n 1, 1) := by decide +kernel
theorem d_5_4_46 : decode prog_5_method_4_code 46 = .ok (.invokevirtual 38, 3) := by decide +kernel
theorem d_5_4_49 : decode prog_5_method_4_code 49 = .ok (.ireturn, 1) := by decide +kernel
theorem d_5_5_0 : decode prog_5_method_5_code 0 = .ok (.aload_n 0, 1) := by decide +kernel
theorem d_5_5_1 : decode prog_5_method_5_code 1 = .ok (.getfield 9, 3) := by decide +kernel
theorem d_5_5_4 : decode prog_5_method_5_code 4 = .ok (.iload_n 1, 1) := by decide +kernel
theorem d_5_5_5 : decode prog_5_method_5_code 5 = .ok (.invokevirtual 44, 3) := by decide +kernel
theorem d_5_5_8 : decode prog_5_method_5_code 8 = .ok (.ifCond .eq 14, 3) := by decide +kernel
theorem d_5_5_11 : decode prog_5_method_5_code 11 = .ok (.aload_n 0, 1) := by decide +kernel
theorem d_5_5_12 : decode prog_5_method_5_code 12 = .ok (.getfield 9, 3) := by decide +kernel
theorem d_5_5_15 : decode prog_5_method_5_code 15 = .ok (.iload_n 1, 1) := by decide +kernel
theorem d_5_5_16 : decode prog_5_method_5_code 16 = .ok (.invokevirtual 38, 3) := by decide +kernel
theorem d_5_5_19 : decode prog_5_method_5_code 19 = .ok (.goto 10, 3) := by decide +kernel
theorem d_5_5_22 : decode prog_5_method_5_code 22 = .ok (.aload_n 0, 1) := by decide +kernel
theorem d_5_5_23 : decode prog_5_method_5_code 23 = .ok (.iload_n 1, 1) := by decide +kernel
theorem d_5_5_24 : decode prog_5_method_5_code 24 = .ok (.iconst 0, 1) := by decide +kernel
theorem d_5_5_25 : decode prog_5_method_5_code 25 = .ok (.iload_n 2, 1) := by decide +kernel
theorem d_5_5_26 : decode prog_5_method_5_code 26 = .ok (.invokevirtual 47, 3) := by decide +kernel
theorem d_5_5_29 : decode prog_5_method_5_code 29 = .ok (.ireturn, 1) := by decide +kernel
theorem d_5_6_0 : decode prog_5_method_6_code 0 = .ok (.aload_n 0, 1) := by decide +kernel
theorem d_5_6_1 : decode prog_5_method_6_code 1 = .ok (.getfield 9, 3) := by decide +kernel
theorem d_5_6_4 : decode prog_5_method_6_code 4 = .ok (.iload_n 1, 1) := by decide +kernel
theorem d_5_6_5 : decode prog_5_method_6_code 5 = .ok (.invokevirtual 44, 3) := by decide +kernel
theorem d_5_6_8 : decode prog_5_method_6_code 8 = .ok (.ifCond .ne 25, 3) := by decide +kernel
theorem d_5_6_11 : decode prog_5_method_6_code 11 = .ok (.aload_n 0, 1) := by decide +kernel
theorem d_5_6_12 : decode prog_5_method_6_code 12 = .ok (.getfield 9, 3) := by decide +kernel
theorem d_5_6_15 : decode prog_5_method_6_code 15 = .ok (.iload_n 1, 1) := by decide +kernel
theorem d_5_6_16 : decode prog_5_method_6_code 16 = .ok (.invokevirtual 41, 3) := by decide +kernel
theorem d_5_6_19 : decode prog_5_method_6_code 19 = .ok (.ifCond .eq 23, 3) := by decide +kernel
theorem d_5_6_22 : decode prog_5_method_6_code 22 = .ok (.aload_n 0, 1) := by decide +kernel
theorem d_5_6_23 : decode prog_5_method_6_code 23 = .ok (.getfield 15, 3) := by decide +kernel
theorem d_5_6_26 : decode prog_5_method_6_code 26 = .ok (.iload_n 1, 1) := by decide +kernel
theorem d_5_6_27 : decode prog_5_method_6_code 27 = .ok (.invokevirtual 51, 3) := by decide +kernel
theorem d_5_6_30 : decode prog_5_method_6_code 30 = .ok (.ifCond .eq 12, 3) := by decide +kernel
theorem d_5_6_33 : decode prog_5_method_6_code 33 = .ok (.aload_n 0, 1) := by decide +kernel
theorem d_5_6_34 : decode prog_5_method_6_code 34 = .ok (.getfield 9, 3) := by decide +kernel
theorem d_5_6_37 : decode prog_5_method_6_code 37 = .ok (.iload_n 1, 1) := by decide +kernel
theorem d_5_6_38 : decode prog_5_method_6_code 38 = .ok (.invokevirtual 38, 3) := by decide +kernel
theorem d_5_6_41 : decode prog_5_method_6_code 41 = .ok (.ireturn, 1) := by decide +kernel
theorem d_5_6_42 : decode prog_5_method_6_code 42 = .ok (.aload_n 0, 1) := by decide +kernel
theorem d_5_6_43 : decode prog_5_method_6_code 43 = .ok (.getfield 15, 3) := by decide +kernel
theorem d_5_6_46 : decode prog_5_method_6_code 46 = .ok (.iload_n 2, 1) := by decide +kernel
theorem d_5_6_47 : decode prog_5_method_6_code 47 = .ok (.invokevirtual 19, 3) := by decide +kernel
theorem d_5_6_50 : decode prog_5_method_6_code 50 = .ok (.iconst 0, 1) := by decide +kernel
theorem d_5_6_51 : decode prog_5_method_6_code 51 = .ok (.ireturn, 1) := by decide +kernel
theorem d_5_7_0 : decode prog_5_method_7_code 0 = .ok (.aload_n 0, 1) := by decide +kernel
theorem d_5_7_1 : decode prog_5_method_7_code 1 = .ok (.getfield 9, 3) := by decide +kernel
theorem d_5_7_4 : decode prog_5_method_7_code 4 = .ok (.iload_n 1, 1) := by decide +kernel
theorem d_5_7_5 : decode prog_5_method_7_code 5 = .ok (.invokevirtual 44, 3) := by decide +kernel
theorem d_5_7_8 : decode prog_5_method_7_code 8 = .ok (.ifCond .eq 20, 3) := by decide +kernel
theorem d_5_7_11 : decode prog_5_method_7_code 11 = .ok (.aload_n 0, 1) := by decide +kernel
theorem d_5_7_12 : decode prog_5_method_7_code 12 = .ok (.aload_n 0, 1) := by decide +kernel
theorem d_5_7_13 : decode prog_5_method_7_code 13 = .ok (.getfield 9, 3) := by decide +kernel
theorem d_5_7_16 : decode prog_5_method_7_code 16 = .ok (.iload_n 1, 1) := by decide +kernel
theorem d_5_7_17 : decode prog_5_method_7_code 17 = .ok (.invokevirtual 38, 3) := by decide +kernel
theorem d_5_7_20 : decode prog_5_method_7_code 20 = .ok (.iconst 1, 1) := by decide +kernel
theorem d_5_7_21 : decode prog_5_method_7_code 21 = .ok (.iload_n 2, 1) := by decide +kernel
theorem d_5_7_22 : decode prog_5_method_7_code 22 = .ok (.invokevirtual 54, 3) := by decide +kernel
theorem d_5_7_25 : decode prog_5_method_7_code 25 = .ok (.goto 11, 3) := by decide +kernel
theorem d_5_7_28 : decode prog_5_method_7_code 28 = .ok (.aload_n 0, 1) := by decide +kernel
theorem d_5_7_29 : decode prog_5_method_7_code 29 = .ok (.getfield 15, 3) := by decide +kernel
theorem d_5_7_32 : decode prog_5_method_7_code 32 = .ok (.iload_n 2, 1) := by decide +kernel
theorem d_5_7_33 : decode prog_5_method_7_code 33 = .ok (.invokevirtual 19, 3) := by decide +kernel
theorem d_5_7_36 : decode prog_5_method_7_code 36 = .ok (.return_, 1) := by decide +kernel
theorem d_5_8_0 : decode prog_5_method_8_code 0 = .ok (.aload_n 0, 1) := by decide +kernel
theorem d_5_8_1 : decode prog_5_method_8_code 1 = .ok (.getfield 9, 3) := by decide +kernel
theorem d_5_8_4 : decode prog_5_method_8_code 4 = .ok (.iload_n 1, 1) := by decide +kernel
theorem d_5_8_5 : decode prog_5_method_8_code 5 = .ok (.invokevirtual 58, 3) := by decide +kernel
theorem d_5_8_8 : decode prog_5_method_8_code 8 = .ok (.ifCond .ne 11, 3) := by decide +kernel
theorem d_5_8_11 : decode prog_5_method_8_code 11 = .ok (.aload_n 0, 1) := by decide +kernel
theorem d_5_8_12 : decode prog_5_method_8_code 12 = .ok (.getfield 15, 3) := by decide +kernel
theorem d_5_8_15 : decode prog_5_method_8_code 15 = .ok (.iload_n 2, 1) := by decide +kernel
theorem d_5_8_16 : decode prog_5_method_8_code 16 = .ok (.invokevirtual 19, 3) := by decide +kernel
theorem d_5_8_19 : decode prog_5_method_8_code 19 = .ok (.return_, 1) := by decide +kernel
theorem d_5_9_0 : decode prog_5_method_9_code 0 = .ok (.aload_n 0, 1) := by decide +kernel
theorem d_5_9_1 : decode prog_5_method_9_code 1 = .ok (.getfield 9, 3) := by decide +kernel
theorem d_5_9_4 : decode prog_5_method_9_code 4 = .ok (.iload_n 1, 1) := by decide +kernel
theorem d_5_9_5 : decode prog_5_method_9_code 5 = .ok (.invokevirtual 31, 3) := by decide +kernel
theorem d_5_9_8 : decode prog_5_method_9_code 8 = .ok (.iconst 4, 1) := by decide +kernel
theorem d_5_9_9 : decode prog_5_method_9_code 9 = .ok (.if_icmp .eq 11, 3) := by decide +kernel
theorem d_5_9_12 : decode prog_5_method_9_code 12 = .ok (.aload_n 0, 1) := by decide +kernel
theorem d_5_9_13 : decode prog_5_method_9_code 13 = .ok (.getfield 15, 3) := by decide +kernel
theorem d_5_9_16 : decode prog_5_method_9_code 16 = .ok (.iload_n 2, 1) := by decide +kernel
theorem d_5_9_17 : decode prog_5_method_9_code 17 = .ok (.invokevirtual 19, 3) := by decide +kernel
theorem d_5_9_20 : decode prog_5_method_9_code 20 = .ok (.return_, 1) := by decide +kernel
theorem d_6_10_0 : decode prog_6_method_10_code 0 = .ok (.iload_n 1, 1) := by decide +kernel
theorem d_6_10_1 : decode prog_6_method_10_code 1 = .ok (.ifCond .lt 23, 3) := by decide +kernel
theorem d_6_10_4 : decode prog_6_method_10_code 4 = .ok (.aload_n 0, 1) := by decide +kernel
theorem d_6_10_5 : decode prog_6_method_10_code 5 = .ok (.getfield 15, 3) := by decide +kernel
theorem d_6_10_8 : decode prog_6_method_10_code 8 = .ok (.aload_n 0, 1) := by decide +kernel
theorem d_6_10_9 : decode prog_6_method_10_code 9 = .ok (.iload_n 1, 1) := by decide +kernel
theorem d_6_10_10 : decode prog_6_method_10_code 10 = .ok (.invokevirtual 69, 3) := by decide +kernel
theorem d_6_10_13 : decode prog_6_method_10_code 13 = .ok (.invokevirtual 73, 3) := by decide +kernel
theorem d_6_10_16 : decode prog_6_method_10_code 16 = .ok (.iload_n 1, 1) := by decide +kernel
theorem d_6_10_17 : decode prog_6_method_10_code 17 = .ok (.if_icmp .ne 7, 3) := by decide +kernel
theorem d_6_10_20 : decode prog_6_method_10_code 20 = .ok (.iconst 1, 1) := by decide +kernel
theorem d_6_10_21 : decode prog_6_method_10_code 21 = .ok (.goto 4, 3) := by decide +kernel
theorem d_6_10_24 : decode prog_6_method_10_code 24 = .ok (.iconst 0, 1) := by decide +kernel
theorem d_6_10_25 : decode prog_6_method_10_code 25 = .ok (.ireturn, 1) := by decide +kernel
theorem d_6_11_0 : decode prog_6_method_11_code 0 = .ok (.iload_n 1, 1) := by decide +kernel
theorem d_6_11_1 : decode prog_6_method_11_code 1 = .ok (.ifCond .lt 19, 3) := by decide +kernel
theorem d_6_11_4 : decode prog_6_method_11_code 4 = .ok (.iload_n 1, 1) := by decide +kernel
theorem d_6_11_5 : decode prog_6_method_11_code 5 = .ok (.sipush 3000, 3) := by decide +kernel
theorem d_6_11_8 : decode prog_6_method_11_code 8 = .ok (.if_icmp .ge 12, 3) := by decide +kernel
theorem d_6_11_11 : decode prog_6_method_11_code 11 = .ok (.aload_n 0, 1) := by decide +kernel
theorem d_6_11_12 : decode prog_6_method_11_code 12 = .ok (.getfield 32, 3) := by decide +kernel
theorem d_6_11_15 : decode prog_6_method_11_code 15 = .ok (.iload_n 1, 1) := by decide +kernel
theorem d_6_11_16 : decode prog_6_method_11_code 16 = .ok (.iaload, 1) := by decide +kernel
theorem d_6_11_17 : decode prog_6_method_11_code 17 = .ok (.goto 4, 3) := by decide +kernel
theorem d_6_11_20 : decode prog_6_method_11_code 20 = .ok (.iconst (-1), 1) := by decide +kernel
theorem d_6_11_21 : decode prog_6_method_11_code 21 = .ok (.ireturn, 1) := by decide +kernel
theorem d_6_12_0 : decode prog_6_method_12_code 0 = .ok (.aload_n 0, 1) := by decide +kernel
theorem d_6_12_1 : decode prog_6_method_12_code 1 = .ok (.aload_n 0, 1) := by decide +kernel
theorem d_6_12_2 : decode prog_6_method_12_code 2 = .ok (.aload_n 0, 1) := by decide +kernel
theorem d_6_12_3 : decode prog_6_method_12_code 3 = .ok (.getfield 42, 3) := by decide +kernel
theorem d_6_12_6 : decode prog_6_method_12_code 6 = .ok (.invokevirtual 69, 3) := by decide +kernel
theorem d_6_12_9 : decode prog_6_method_12_code 9 = .ok (.invokevirtual 76, 3) := by decide +kernel
theorem d_6_12_12 : decode prog_6_method_12_code 12 = .ok (.return_, 1) := by decide +kernel
theorem d_6_13_0 : decode prog_6_method_13_code 0 = .ok (.aload_n 0, 1) := by decide +kernel
theorem d_6_13_1 : decode prog_6_method_13_code 1 = .ok (.getfield 51, 3) := by decide +kernel
theorem d_6_13_4 : decode prog_6_method_13_code 4 = .ok (.ifCond .ne 15, 3) := by decide +kernel
theorem d_6_13_7 : decode prog_6_method_13_code 7 = .ok (.aload_n 0, 1) := by decide +kernel
theorem d_6_13_8 : decode prog_6_method_13_code 8 = .ok (.getfield 15, 3) := by decide +kernel
theorem d_6_13_11 : decode prog_6_method_13_code 11 = .ok (.iload_n 1, 1) := by decide +kernel
theorem d_6_13_12 : decode prog_6_method_13_code 12 = .ok (.aload_n 0, 1) := by decide +kernel
theorem d_6_13_13 : decode prog_6_method_13_code 13 = .ok (.getfield 39, 3) := by decide +kernel
theorem d_6_13_16 : decode prog_6_method_13_code 16 = .ok (.invokevirtual 80, 3) := by decide +kernel
theorem d_6_13_19 : decode prog_6_method_13_code 19 = .ok (.aload_n 0, 1) := by decide +kernel
theorem d_6_13_20 : decode prog_6_method_13_code 20 = .ok (.iload_n 1, 1) := by decide +kernel
theorem d_6_13_21 : decode prog_6_method_13_code 21 = .ok (.invokevirtual 76, 3) := by decide +kernel
theorem d_6_13_24 : decode prog_6_method_13_code 24 = .ok (.return_, 1) := by decide +kernel
theorem d_6_14_0 : decode prog_6_method_14_code 0 = .ok (.aload_n 0, 1) := by decide +kernel
theorem d_6_14_1 : decode prog_6_method_14_code 1 = .ok (.getfield 39, 3) := by decide +kernel
theorem d_6_14_4 : decode prog_6_method_14_code 4 = .ok (.sipush 333, 3) := by decide +kernel
theorem d_6_14_7 : decode prog_6_method_14_code 7 = .ok (.if_icmp .lt 11, 3) := by decide +kernel
theorem d_6_14_10 : decode prog_6_method_14_code 10 = .ok (.aload_n 0, 1) := by decide +kernel
theorem d_6_14_11 : decode prog_6_method_14_code 11 = .ok (.getfield 9, 3) := by decide +kernel
theorem d_6_14_14 : decode prog_6_method_14_code 14 = .ok (.invokevirtual 84, 3) := by decide +kernel
theorem d_6_14_17 : decode prog_6_method_14_code 17 = .ok (.return_, 1) := by decide +kernel
theorem d_6_14_18 : decode prog_6_method_14_code 18 = .ok (.aload_n 0, 1) := by decide +kernel
theorem d_6_14_19 : decode prog_6_method_14_code 19 = .ok (.getfield 51, 3) := by decide +kernel
theorem d_6_14_22 : decode prog_6_method_14_code 22 = .ok (.ifCond .ne 56, 3) := by decide +kernel
theorem d_6_14_25 : decode prog_6_method_14_code 25 = .ok (.aload_n 0, 1) := by decide +kernel
theorem d_6_14_26 : decode prog_6_method_14_code 26 = .ok (.getfield 19, 3) := by decide +kernel
theorem d_6_14_29 : decode prog_6_method_14_code 29 = .ok (.aload_n 0, 1) := by decide +kernel
theorem d_6_14_30 : decode prog_6_method_14_code 30 = .ok (.getfield 39, 3) := by decide +kernel
theorem d_6_14_33 : decode prog_6_method_14_code 33 = .ok (.aload_n 0, 1) := by decide +kernel
theorem d_6_14_34 : decode prog_6_method_14_code 34 = .ok (.getfield 42, 3) := by decide +kernel
theorem d_6_14_37 : decode prog_6_method_14_code 37 = .ok (.iastore, 1) := by decide +kernel
theorem d_6_14_38 : decode prog_6_method_14_code 38 = .ok (.aload_n 0, 1) := by decide +kernel
theorem d_6_14_39 : decode prog_6_method_14_code 39 = .ok (.getfield 23, 3) := by decide +kernel
theorem d_6_14_42 : decode prog_6_method_14_code 42 = .ok (.aload_n 0, 1) := by decide +kernel
theorem d_6_14_43 : decode prog_6_method_14_code 43 = .ok (.getfield 39, 3) := by decide +kernel
theorem d_6_14_46 : decode prog_6_method_14_code 46 = .ok (.iconst (-1), 1) := by decide +kernel
